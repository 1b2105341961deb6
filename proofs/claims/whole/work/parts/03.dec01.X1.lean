theorem dX1_init_0 : decode cX1_init 0 = .ok (.aload_n 0, 1) := by decide +kernel
theorem dX1_init_1 : decode cX1_init 1 = .ok (.invokespecial 3, 3) := by decide +kernel
theorem dX1_init_4 : decode cX1_init 4 = .ok (.aload_n 0, 1) := by decide +kernel
theorem dX1_init_5 : decode cX1_init 5 = .ok (.iconst 5, 1) := by decide +kernel
theorem dX1_init_6 : decode cX1_init 6 = .ok (.newarray .int, 2) := by decide +kernel
theorem dX1_init_8 : decode cX1_init 8 = .ok (.putfield 9, 3) := by decide +kernel
theorem dX1_init_11 : decode cX1_init 11 = .ok (.aload_n 0, 1) := by decide +kernel
theorem dX1_init_12 : decode cX1_init 12 = .ok (.bipush 10, 2) := by decide +kernel
theorem dX1_init_14 : decode cX1_init 14 = .ok (.newarray .long, 2) := by decide +kernel
theorem dX1_init_16 : decode cX1_init 16 = .ok (.putfield 15, 3) := by decide +kernel
theorem dX1_init_19 : decode cX1_init 19 = .ok (.aload_n 0, 1) := by decide +kernel
theorem dX1_init_20 : decode cX1_init 20 = .ok (.bipush 80, 2) := by decide +kernel
theorem dX1_init_22 : decode cX1_init 22 = .ok (.newarray .int, 2) := by decide +kernel
theorem dX1_init_24 : decode cX1_init 24 = .ok (.putfield 19, 3) := by decide +kernel
theorem dX1_init_27 : decode cX1_init 27 = .ok (.aload_n 0, 1) := by decide +kernel
theorem dX1_init_28 : decode cX1_init 28 = .ok (.bipush 80, 2) := by decide +kernel
theorem dX1_init_30 : decode cX1_init 30 = .ok (.newarray .int, 2) := by decide +kernel
theorem dX1_init_32 : decode cX1_init 32 = .ok (.putfield 22, 3) := by decide +kernel
theorem dX1_init_35 : decode cX1_init 35 = .ok (.aload_n 0, 1) := by decide +kernel
theorem dX1_init_36 : decode cX1_init 36 = .ok (.bipush 80, 2) := by decide +kernel
theorem dX1_init_38 : decode cX1_init 38 = .ok (.newarray .int, 2) := by decide +kernel
theorem dX1_init_40 : decode cX1_init 40 = .ok (.putfield 25, 3) := by decide +kernel
theorem dX1_init_43 : decode cX1_init 43 = .ok (.return_, 1) := by decide +kernel
theorem dX1_size_0 : decode cX1_size 0 = .ok (.aload_n 0, 1) := by decide +kernel
theorem dX1_size_1 : decode cX1_size 1 = .ok (.getfield 28, 3) := by decide +kernel
theorem dX1_size_4 : decode cX1_size 4 = .ok (.ireturn, 1) := by decide +kernel
theorem dX1_has_0 : decode cX1_has 0 = .ok (.iload_n 1, 1) := by decide +kernel
theorem dX1_has_1 : decode cX1_has 1 = .ok (.ifCond .lt 15, 3) := by decide +kernel
theorem dX1_has_4 : decode cX1_has 4 = .ok (.iload_n 1, 1) := by decide +kernel
theorem dX1_has_5 : decode cX1_has 5 = .ok (.aload_n 0, 1) := by decide +kernel
theorem dX1_has_6 : decode cX1_has 6 = .ok (.getfield 28, 3) := by decide +kernel
theorem dX1_has_9 : decode cX1_has 9 = .ok (.if_icmp .ge 7, 3) := by decide +kernel
theorem dX1_has_12 : decode cX1_has 12 = .ok (.iconst 1, 1) := by decide +kernel
theorem dX1_has_13 : decode cX1_has 13 = .ok (.goto 4, 3) := by decide +kernel
theorem dX1_has_16 : decode cX1_has 16 = .ok (.iconst 0, 1) := by decide +kernel
theorem dX1_has_17 : decode cX1_has 17 = .ok (.ireturn, 1) := by decide +kernel
theorem dX1_kindAt_0 : decode cX1_kindAt 0 = .ok (.aload_n 0, 1) := by decide +kernel
theorem dX1_kindAt_1 : decode cX1_kindAt 1 = .ok (.iload_n 1, 1) := by decide +kernel
theorem dX1_kindAt_2 : decode cX1_kindAt 2 = .ok (.invokevirtual 32, 3) := by decide +kernel
theorem dX1_kindAt_5 : decode cX1_kindAt 5 = .ok (.ifCond .eq 12, 3) := by decide +kernel
theorem dX1_kindAt_8 : decode cX1_kindAt 8 = .ok (.aload_n 0, 1) := by decide +kernel
theorem dX1_kindAt_9 : decode cX1_kindAt 9 = .ok (.getfield 19, 3) := by decide +kernel
theorem dX1_kindAt_12 : decode cX1_kindAt 12 = .ok (.iload_n 1, 1) := by decide +kernel
theorem dX1_kindAt_13 : decode cX1_kindAt 13 = .ok (.iaload, 1) := by decide +kernel
theorem dX1_kindAt_14 : decode cX1_kindAt 14 = .ok (.goto 4, 3) := by decide +kernel
theorem dX1_kindAt_17 : decode cX1_kindAt 17 = .ok (.iconst (-1), 1) := by decide +kernel
theorem dX1_kindAt_18 : decode cX1_kindAt 18 = .ok (.ireturn, 1) := by decide +kernel
theorem dX1_isPlace_0 : decode cX1_isPlace 0 = .ok (.aload_n 0, 1) := by decide +kernel
theorem dX1_isPlace_1 : decode cX1_isPlace 1 = .ok (.getfield 19, 3) := by decide +kernel
theorem dX1_isPlace_4 : decode cX1_isPlace 4 = .ok (.iload_n 1, 1) := by decide +kernel
theorem dX1_isPlace_5 : decode cX1_isPlace 5 = .ok (.iaload, 1) := by decide +kernel
theorem dX1_isPlace_6 : decode cX1_isPlace 6 = .ok (.iconst 1, 1) := by decide +kernel
theorem dX1_isPlace_7 : decode cX1_isPlace 7 = .ok (.if_icmp .le 7, 3) := by decide +kernel
theorem dX1_isPlace_10 : decode cX1_isPlace 10 = .ok (.iconst 1, 1) := by decide +kernel
theorem dX1_isPlace_11 : decode cX1_isPlace 11 = .ok (.goto 4, 3) := by decide +kernel
theorem dX1_isPlace_14 : decode cX1_isPlace 14 = .ok (.iconst 0, 1) := by decide +kernel
theorem dX1_isPlace_15 : decode cX1_isPlace 15 = .ok (.ireturn, 1) := by decide +kernel
theorem dX1_measured_0 : decode cX1_measured 0 = .ok (.aload_n 0, 1) := by decide +kernel
theorem dX1_measured_1 : decode cX1_measured 1 = .ok (.getfield 22, 3) := by decide +kernel
theorem dX1_measured_4 : decode cX1_measured 4 = .ok (.iload_n 1, 1) := by decide +kernel
theorem dX1_measured_5 : decode cX1_measured 5 = .ok (.iaload, 1) := by decide +kernel
theorem dX1_measured_6 : decode cX1_measured 6 = .ok (.ireturn, 1) := by decide +kernel
theorem dX1_placeInText_0 : decode cX1_placeInText 0 = .ok (.iload_n 1, 1) := by decide +kernel
theorem dX1_placeInText_1 : decode cX1_placeInText 1 = .ok (.iload_n 1, 1) := by decide +kernel
theorem dX1_placeInText_2 : decode cX1_placeInText 2 = .ok (.aload_n 0, 1) := by decide +kernel
theorem dX1_placeInText_3 : decode cX1_placeInText 3 = .ok (.getfield 36, 3) := by decide +kernel
theorem dX1_placeInText_6 : decode cX1_placeInText 6 = .ok (.iconst 1, 1) := by decide +kernel
theorem dX1_placeInText_7 : decode cX1_placeInText 7 = .ok (.invokestatic 39, 3) := by decide +kernel
theorem dX1_placeInText_10 : decode cX1_placeInText 10 = .ok (.idiv, 1) := by decide +kernel
theorem dX1_placeInText_11 : decode cX1_placeInText 11 = .ok (.iadd, 1) := by decide +kernel
theorem dX1_placeInText_12 : decode cX1_placeInText 12 = .ok (.ireturn, 1) := by decide +kernel
theorem dX1_load_0 : decode cX1_load 0 = .ok (.aload_n 0, 1) := by decide +kernel
theorem dX1_load_1 : decode cX1_load 1 = .ok (.iconst 0, 1) := by decide +kernel
theorem dX1_load_2 : decode cX1_load 2 = .ok (.putfield 28, 3) := by decide +kernel
theorem dX1_load_5 : decode cX1_load 5 = .ok (.aload_n 0, 1) := by decide +kernel
theorem dX1_load_6 : decode cX1_load 6 = .ok (.aload_n 1, 1) := by decide +kernel
theorem dX1_load_7 : decode cX1_load 7 = .ok (.invokevirtual 45, 3) := by decide +kernel
theorem dX1_load_10 : decode cX1_load 10 = .ok (.putfield 36, 3) := by decide +kernel
theorem dX1_load_13 : decode cX1_load 13 = .ok (.iconst 0, 1) := by decide +kernel
theorem dX1_load_14 : decode cX1_load 14 = .ok (.istore_n 2, 1) := by decide +kernel
theorem dX1_load_15 : decode cX1_load 15 = .ok (.iload_n 2, 1) := by decide +kernel
theorem dX1_load_16 : decode cX1_load 16 = .ok (.aload_n 1, 1) := by decide +kernel
theorem dX1_load_17 : decode cX1_load 17 = .ok (.invokevirtual 50, 3) := by decide +kernel
theorem dX1_load_20 : decode cX1_load 20 = .ok (.if_icmp .ge 49, 3) := by decide +kernel
theorem dX1_load_23 : decode cX1_load 23 = .ok (.aload_n 0, 1) := by decide +kernel
theorem dX1_load_24 : decode cX1_load 24 = .ok (.getfield 28, 3) := by decide +kernel
theorem dX1_load_27 : decode cX1_load 27 = .ok (.bipush 80, 2) := by decide +kernel
theorem dX1_load_29 : decode cX1_load 29 = .ok (.if_icmp .ge 40, 3) := by decide +kernel
theorem dX1_load_32 : decode cX1_load 32 = .ok (.aload_n 1, 1) := by decide +kernel
theorem dX1_load_33 : decode cX1_load 33 = .ok (.iload_n 2, 1) := by decide +kernel
theorem dX1_load_34 : decode cX1_load 34 = .ok (.invokevirtual 53, 3) := by decide +kernel
theorem dX1_load_37 : decode cX1_load 37 = .ok (.istore_n 3, 1) := by decide +kernel
theorem dX1_load_38 : decode cX1_load 38 = .ok (.iload_n 3, 1) := by decide +kernel
theorem dX1_load_39 : decode cX1_load 39 = .ok (.iconst 5, 1) := by decide +kernel
theorem dX1_load_40 : decode cX1_load 40 = .ok (.if_icmp .eq 23, 3) := by decide +kernel
theorem dX1_load_43 : decode cX1_load 43 = .ok (.aload_n 0, 1) := by decide +kernel
theorem dX1_load_44 : decode cX1_load 44 = .ok (.getfield 19, 3) := by decide +kernel
theorem dX1_load_47 : decode cX1_load 47 = .ok (.aload_n 0, 1) := by decide +kernel
theorem dX1_load_48 : decode cX1_load 48 = .ok (.getfield 28, 3) := by decide +kernel
theorem dX1_load_51 : decode cX1_load 51 = .ok (.iload_n 3, 1) := by decide +kernel
theorem dX1_load_52 : decode cX1_load 52 = .ok (.iastore, 1) := by decide +kernel
theorem dX1_load_53 : decode cX1_load 53 = .ok (.aload_n 0, 1) := by decide +kernel
theorem dX1_load_54 : decode cX1_load 54 = .ok (.dup, 1) := by decide +kernel
theorem dX1_load_55 : decode cX1_load 55 = .ok (.getfield 28, 3) := by decide +kernel
theorem dX1_load_58 : decode cX1_load 58 = .ok (.iconst 1, 1) := by decide +kernel
theorem dX1_load_59 : decode cX1_load 59 = .ok (.iadd, 1) := by decide +kernel
theorem dX1_load_60 : decode cX1_load 60 = .ok (.putfield 28, 3) := by decide +kernel
theorem dX1_load_63 : decode cX1_load 63 = .ok (.iinc 2 1, 3) := by decide +kernel
theorem dX1_load_66 : decode cX1_load 66 = .ok (.goto (-51), 3) := by decide +kernel
theorem dX1_load_69 : decode cX1_load 69 = .ok (.aload_n 0, 1) := by decide +kernel
theorem dX1_load_70 : decode cX1_load 70 = .ok (.getfield 9, 3) := by decide +kernel
theorem dX1_load_73 : decode cX1_load 73 = .ok (.iconst 0, 1) := by decide +kernel
theorem dX1_load_74 : decode cX1_load 74 = .ok (.iconst 0, 1) := by decide +kernel
theorem dX1_load_75 : decode cX1_load 75 = .ok (.iastore, 1) := by decide +kernel
theorem dX1_load_76 : decode cX1_load 76 = .ok (.aload_n 0, 1) := by decide +kernel
theorem dX1_load_77 : decode cX1_load 77 = .ok (.getfield 9, 3) := by decide +kernel
theorem dX1_load_80 : decode cX1_load 80 = .ok (.iconst 1, 1) := by decide +kernel
theorem dX1_load_81 : decode cX1_load 81 = .ok (.aload_n 0, 1) := by decide +kernel
theorem dX1_load_82 : decode cX1_load 82 = .ok (.getfield 36, 3) := by decide +kernel
theorem dX1_load_85 : decode cX1_load 85 = .ok (.ineg, 1) := by decide +kernel
theorem dX1_load_86 : decode cX1_load 86 = .ok (.iastore, 1) := by decide +kernel
theorem dX1_load_87 : decode cX1_load 87 = .ok (.aload_n 0, 1) := by decide +kernel
theorem dX1_load_88 : decode cX1_load 88 = .ok (.getfield 9, 3) := by decide +kernel
theorem dX1_load_91 : decode cX1_load 91 = .ok (.iconst 2, 1) := by decide +kernel
theorem dX1_load_92 : decode cX1_load 92 = .ok (.iconst 1, 1) := by decide +kernel
theorem dX1_load_93 : decode cX1_load 93 = .ok (.iastore, 1) := by decide +kernel
theorem dX1_load_94 : decode cX1_load 94 = .ok (.aload_n 0, 1) := by decide +kernel
theorem dX1_load_95 : decode cX1_load 95 = .ok (.getfield 9, 3) := by decide +kernel
theorem dX1_load_98 : decode cX1_load 98 = .ok (.iconst 3, 1) := by decide +kernel
theorem dX1_load_99 : decode cX1_load 99 = .ok (.aload_n 0, 1) := by decide +kernel
theorem dX1_load_100 : decode cX1_load 100 = .ok (.getfield 36, 3) := by decide +kernel
theorem dX1_load_103 : decode cX1_load 103 = .ok (.iastore, 1) := by decide +kernel
theorem dX1_load_104 : decode cX1_load 104 = .ok (.aload_n 0, 1) := by decide +kernel
theorem dX1_load_105 : decode cX1_load 105 = .ok (.getfield 9, 3) := by decide +kernel
theorem dX1_load_108 : decode cX1_load 108 = .ok (.iconst 4, 1) := by decide +kernel
theorem dX1_load_109 : decode cX1_load 109 = .ok (.iconst (-1), 1) := by decide +kernel
theorem dX1_load_110 : decode cX1_load 110 = .ok (.iastore, 1) := by decide +kernel
theorem dX1_load_111 : decode cX1_load 111 = .ok (.aload_n 0, 1) := by decide +kernel
theorem dX1_load_112 : decode cX1_load 112 = .ok (.invokevirtual 57, 3) := by decide +kernel
theorem dX1_load_115 : decode cX1_load 115 = .ok (.return_, 1) := by decide +kernel
theorem dX1_findOpenMoves_0 : decode cX1_findOpenMoves 0 = .ok (.aload_n 0, 1) := by decide +kernel
theorem dX1_findOpenMoves_1 : decode cX1_findOpenMoves 1 = .ok (.getfield 15, 3) := by decide +kernel
theorem dX1_findOpenMoves_4 : decode cX1_findOpenMoves 4 = .ok (.lconst 0, 1) := by decide +kernel
theorem dX1_findOpenMoves_5 : decode cX1_findOpenMoves 5 = .ok (.invokestatic 60, 3) := by decide +kernel
theorem dX1_findOpenMoves_8 : decode cX1_findOpenMoves 8 = .ok (.iconst 0, 1) := by decide +kernel
theorem dX1_findOpenMoves_9 : decode cX1_findOpenMoves 9 = .ok (.istore_n 1, 1) := by decide +kernel
theorem dX1_findOpenMoves_10 : decode cX1_findOpenMoves 10 = .ok (.iload_n 1, 1) := by decide +kernel
theorem dX1_findOpenMoves_11 : decode cX1_findOpenMoves 11 = .ok (.aload_n 0, 1) := by decide +kernel
theorem dX1_findOpenMoves_12 : decode cX1_findOpenMoves 12 = .ok (.getfield 28, 3) := by decide +kernel
theorem dX1_findOpenMoves_15 : decode cX1_findOpenMoves 15 = .ok (.if_icmp .ge 50, 3) := by decide +kernel
theorem dX1_findOpenMoves_18 : decode cX1_findOpenMoves 18 = .ok (.iconst 0, 1) := by decide +kernel
theorem dX1_findOpenMoves_19 : decode cX1_findOpenMoves 19 = .ok (.istore_n 2, 1) := by decide +kernel
theorem dX1_findOpenMoves_20 : decode cX1_findOpenMoves 20 = .ok (.iload_n 2, 1) := by decide +kernel
theorem dX1_findOpenMoves_21 : decode cX1_findOpenMoves 21 = .ok (.iconst 5, 1) := by decide +kernel
theorem dX1_findOpenMoves_22 : decode cX1_findOpenMoves 22 = .ok (.if_icmp .ge 37, 3) := by decide +kernel
theorem dX1_findOpenMoves_25 : decode cX1_findOpenMoves 25 = .ok (.aload_n 0, 1) := by decide +kernel
theorem dX1_findOpenMoves_26 : decode cX1_findOpenMoves 26 = .ok (.iload_n 1, 1) := by decide +kernel
theorem dX1_findOpenMoves_27 : decode cX1_findOpenMoves 27 = .ok (.iload_n 2, 1) := by decide +kernel
theorem dX1_findOpenMoves_28 : decode cX1_findOpenMoves 28 = .ok (.invokevirtual 66, 3) := by decide +kernel
theorem dX1_findOpenMoves_31 : decode cX1_findOpenMoves 31 = .ok (.ifCond .eq 22, 3) := by decide +kernel
theorem dX1_findOpenMoves_34 : decode cX1_findOpenMoves 34 = .ok (.aload_n 0, 1) := by decide +kernel
theorem dX1_findOpenMoves_35 : decode cX1_findOpenMoves 35 = .ok (.getfield 15, 3) := by decide +kernel
theorem dX1_findOpenMoves_38 : decode cX1_findOpenMoves 38 = .ok (.iconst 2, 1) := by decide +kernel
theorem dX1_findOpenMoves_39 : decode cX1_findOpenMoves 39 = .ok (.iload_n 2, 1) := by decide +kernel
theorem dX1_findOpenMoves_40 : decode cX1_findOpenMoves 40 = .ok (.imul, 1) := by decide +kernel
theorem dX1_findOpenMoves_41 : decode cX1_findOpenMoves 41 = .ok (.iload_n 1, 1) := by decide +kernel
theorem dX1_findOpenMoves_42 : decode cX1_findOpenMoves 42 = .ok (.bipush 6, 2) := by decide +kernel
theorem dX1_findOpenMoves_44 : decode cX1_findOpenMoves 44 = .ok (.ishr, 1) := by decide +kernel
theorem dX1_findOpenMoves_45 : decode cX1_findOpenMoves 45 = .ok (.iadd, 1) := by decide +kernel
theorem dX1_findOpenMoves_46 : decode cX1_findOpenMoves 46 = .ok (.dup2, 1) := by decide +kernel
theorem dX1_findOpenMoves_47 : decode cX1_findOpenMoves 47 = .ok (.laload, 1) := by decide +kernel
theorem dX1_findOpenMoves_48 : decode cX1_findOpenMoves 48 = .ok (.lconst 1, 1) := by decide +kernel
theorem dX1_findOpenMoves_49 : decode cX1_findOpenMoves 49 = .ok (.iload_n 1, 1) := by decide +kernel
theorem dX1_findOpenMoves_50 : decode cX1_findOpenMoves 50 = .ok (.lshl, 1) := by decide +kernel
theorem dX1_findOpenMoves_51 : decode cX1_findOpenMoves 51 = .ok (.lor, 1) := by decide +kernel
theorem dX1_findOpenMoves_52 : decode cX1_findOpenMoves 52 = .ok (.lastore, 1) := by decide +kernel
theorem dX1_findOpenMoves_53 : decode cX1_findOpenMoves 53 = .ok (.iinc 2 1, 3) := by decide +kernel
theorem dX1_findOpenMoves_56 : decode cX1_findOpenMoves 56 = .ok (.goto (-36), 3) := by decide +kernel
theorem dX1_findOpenMoves_59 : decode cX1_findOpenMoves 59 = .ok (.iinc 1 1, 3) := by decide +kernel
theorem dX1_findOpenMoves_62 : decode cX1_findOpenMoves 62 = .ok (.goto (-52), 3) := by decide +kernel
theorem dX1_findOpenMoves_65 : decode cX1_findOpenMoves 65 = .ok (.return_, 1) := by decide +kernel
theorem dX1_leadsOn_0 : decode cX1_leadsOn 0 = .ok (.iload_n 1, 1) := by decide +kernel
theorem dX1_leadsOn_1 : decode cX1_leadsOn 1 = .ok (.aload_n 0, 1) := by decide +kernel
theorem dX1_leadsOn_2 : decode cX1_leadsOn 2 = .ok (.getfield 36, 3) := by decide +kernel
theorem dX1_leadsOn_5 : decode cX1_leadsOn 5 = .ok (.iconst 1, 1) := by decide +kernel
theorem dX1_leadsOn_6 : decode cX1_leadsOn 6 = .ok (.invokestatic 39, 3) := by decide +kernel
theorem dX1_leadsOn_9 : decode cX1_leadsOn 9 = .ok (.irem, 1) := by decide +kernel
theorem dX1_leadsOn_10 : decode cX1_leadsOn 10 = .ok (.istore_n 3, 1) := by decide +kernel
theorem dX1_leadsOn_11 : decode cX1_leadsOn 11 = .ok (.aload_n 0, 1) := by decide +kernel
theorem dX1_leadsOn_12 : decode cX1_leadsOn 12 = .ok (.getfield 19, 3) := by decide +kernel
theorem dX1_leadsOn_15 : decode cX1_leadsOn 15 = .ok (.iload_n 1, 1) := by decide +kernel
theorem dX1_leadsOn_16 : decode cX1_leadsOn 16 = .ok (.iaload, 1) := by decide +kernel
theorem dX1_leadsOn_17 : decode cX1_leadsOn 17 = .ok (.ifCond .eq 27, 3) := by decide +kernel
theorem dX1_leadsOn_20 : decode cX1_leadsOn 20 = .ok (.iload_n 2, 1) := by decide +kernel
theorem dX1_leadsOn_21 : decode cX1_leadsOn 21 = .ok (.iconst 2, 1) := by decide +kernel
theorem dX1_leadsOn_22 : decode cX1_leadsOn 22 = .ok (.if_icmp .ne 13, 3) := by decide +kernel
theorem dX1_leadsOn_25 : decode cX1_leadsOn 25 = .ok (.iload_n 3, 1) := by decide +kernel
theorem dX1_leadsOn_26 : decode cX1_leadsOn 26 = .ok (.aload_n 0, 1) := by decide +kernel
theorem dX1_leadsOn_27 : decode cX1_leadsOn 27 = .ok (.getfield 36, 3) := by decide +kernel
theorem dX1_leadsOn_30 : decode cX1_leadsOn 30 = .ok (.iconst 1, 1) := by decide +kernel
theorem dX1_leadsOn_31 : decode cX1_leadsOn 31 = .ok (.isub, 1) := by decide +kernel
theorem dX1_leadsOn_32 : decode cX1_leadsOn 32 = .ok (.if_icmp .eq 12, 3) := by decide +kernel
theorem dX1_leadsOn_35 : decode cX1_leadsOn 35 = .ok (.iload_n 2, 1) := by decide +kernel
theorem dX1_leadsOn_36 : decode cX1_leadsOn 36 = .ok (.iconst 4, 1) := by decide +kernel
theorem dX1_leadsOn_37 : decode cX1_leadsOn 37 = .ok (.if_icmp .ne 9, 3) := by decide +kernel
theorem dX1_leadsOn_40 : decode cX1_leadsOn 40 = .ok (.iload_n 3, 1) := by decide +kernel
theorem dX1_leadsOn_41 : decode cX1_leadsOn 41 = .ok (.ifCond .ne 5, 3) := by decide +kernel
theorem dX1_leadsOn_44 : decode cX1_leadsOn 44 = .ok (.iconst 0, 1) := by decide +kernel
theorem dX1_leadsOn_45 : decode cX1_leadsOn 45 = .ok (.ireturn, 1) := by decide +kernel
theorem dX1_leadsOn_46 : decode cX1_leadsOn 46 = .ok (.aload_n 0, 1) := by decide +kernel
theorem dX1_leadsOn_47 : decode cX1_leadsOn 47 = .ok (.iload_n 1, 1) := by decide +kernel
theorem dX1_leadsOn_48 : decode cX1_leadsOn 48 = .ok (.aload_n 0, 1) := by decide +kernel
theorem dX1_leadsOn_49 : decode cX1_leadsOn 49 = .ok (.getfield 9, 3) := by decide +kernel
theorem dX1_leadsOn_52 : decode cX1_leadsOn 52 = .ok (.iload_n 2, 1) := by decide +kernel
theorem dX1_leadsOn_53 : decode cX1_leadsOn 53 = .ok (.iaload, 1) := by decide +kernel
theorem dX1_leadsOn_54 : decode cX1_leadsOn 54 = .ok (.iadd, 1) := by decide +kernel
theorem dX1_leadsOn_55 : decode cX1_leadsOn 55 = .ok (.invokevirtual 70, 3) := by decide +kernel
theorem dX1_leadsOn_58 : decode cX1_leadsOn 58 = .ok (.ifCond .le 7, 3) := by decide +kernel
theorem dX1_leadsOn_61 : decode cX1_leadsOn 61 = .ok (.iconst 1, 1) := by decide +kernel
theorem dX1_leadsOn_62 : decode cX1_leadsOn 62 = .ok (.goto 4, 3) := by decide +kernel
theorem dX1_leadsOn_65 : decode cX1_leadsOn 65 = .ok (.iconst 0, 1) := by decide +kernel
theorem dX1_leadsOn_66 : decode cX1_leadsOn 66 = .ok (.ireturn, 1) := by decide +kernel
theorem dX1_isOpen_0 : decode cX1_isOpen 0 = .ok (.aload_n 0, 1) := by decide +kernel
theorem dX1_isOpen_1 : decode cX1_isOpen 1 = .ok (.getfield 15, 3) := by decide +kernel
theorem dX1_isOpen_4 : decode cX1_isOpen 4 = .ok (.iconst 2, 1) := by decide +kernel
theorem dX1_isOpen_5 : decode cX1_isOpen 5 = .ok (.iload_n 2, 1) := by decide +kernel
theorem dX1_isOpen_6 : decode cX1_isOpen 6 = .ok (.imul, 1) := by decide +kernel
theorem dX1_isOpen_7 : decode cX1_isOpen 7 = .ok (.iload_n 1, 1) := by decide +kernel
theorem dX1_isOpen_8 : decode cX1_isOpen 8 = .ok (.bipush 6, 2) := by decide +kernel
theorem dX1_isOpen_10 : decode cX1_isOpen 10 = .ok (.ishr, 1) := by decide +kernel
theorem dX1_isOpen_11 : decode cX1_isOpen 11 = .ok (.iadd, 1) := by decide +kernel
theorem dX1_isOpen_12 : decode cX1_isOpen 12 = .ok (.laload, 1) := by decide +kernel
theorem dX1_isOpen_13 : decode cX1_isOpen 13 = .ok (.iload_n 1, 1) := by decide +kernel
theorem dX1_isOpen_14 : decode cX1_isOpen 14 = .ok (.lushr, 1) := by decide +kernel
theorem dX1_isOpen_15 : decode cX1_isOpen 15 = .ok (.lconst 1, 1) := by decide +kernel
theorem dX1_isOpen_16 : decode cX1_isOpen 16 = .ok (.land, 1) := by decide +kernel
theorem dX1_isOpen_17 : decode cX1_isOpen 17 = .ok (.lconst 0, 1) := by decide +kernel
theorem dX1_isOpen_18 : decode cX1_isOpen 18 = .ok (.lcmp, 1) := by decide +kernel
theorem dX1_isOpen_19 : decode cX1_isOpen 19 = .ok (.ifCond .eq 7, 3) := by decide +kernel
theorem dX1_isOpen_22 : decode cX1_isOpen 22 = .ok (.iconst 1, 1) := by decide +kernel
theorem dX1_isOpen_23 : decode cX1_isOpen 23 = .ok (.goto 4, 3) := by decide +kernel
theorem dX1_isOpen_26 : decode cX1_isOpen 26 = .ok (.iconst 0, 1) := by decide +kernel
theorem dX1_isOpen_27 : decode cX1_isOpen 27 = .ok (.ireturn, 1) := by decide +kernel
theorem dX1_isWithinAMove_0 : decode cX1_isWithinAMove 0 = .ok (.aload_n 0, 1) := by decide +kernel
theorem dX1_isWithinAMove_1 : decode cX1_isWithinAMove 1 = .ok (.getfield 36, 3) := by decide +kernel
theorem dX1_isWithinAMove_4 : decode cX1_isWithinAMove 4 = .ok (.iconst 1, 1) := by decide +kernel
theorem dX1_isWithinAMove_5 : decode cX1_isWithinAMove 5 = .ok (.invokestatic 39, 3) := by decide +kernel
theorem dX1_isWithinAMove_8 : decode cX1_isWithinAMove 8 = .ok (.istore_n 3, 1) := by decide +kernel
theorem dX1_isWithinAMove_9 : decode cX1_isWithinAMove 9 = .ok (.iload_n 1, 1) := by decide +kernel
theorem dX1_isWithinAMove_10 : decode cX1_isWithinAMove 10 = .ok (.iload_n 3, 1) := by decide +kernel
theorem dX1_isWithinAMove_11 : decode cX1_isWithinAMove 11 = .ok (.idiv, 1) := by decide +kernel
theorem dX1_isWithinAMove_12 : decode cX1_isWithinAMove 12 = .ok (.iload_n 2, 1) := by decide +kernel
theorem dX1_isWithinAMove_13 : decode cX1_isWithinAMove 13 = .ok (.iload_n 3, 1) := by decide +kernel
theorem dX1_isWithinAMove_14 : decode cX1_isWithinAMove 14 = .ok (.idiv, 1) := by decide +kernel
theorem dX1_isWithinAMove_15 : decode cX1_isWithinAMove 15 = .ok (.isub, 1) := by decide +kernel
theorem dX1_isWithinAMove_16 : decode cX1_isWithinAMove 16 = .ok (.invokestatic 73, 3) := by decide +kernel
theorem dX1_isWithinAMove_19 : decode cX1_isWithinAMove 19 = .ok (.iload_n 1, 1) := by decide +kernel
theorem dX1_isWithinAMove_20 : decode cX1_isWithinAMove 20 = .ok (.iload_n 3, 1) := by decide +kernel
theorem dX1_isWithinAMove_21 : decode cX1_isWithinAMove 21 = .ok (.irem, 1) := by decide +kernel
theorem dX1_isWithinAMove_22 : decode cX1_isWithinAMove 22 = .ok (.iload_n 2, 1) := by decide +kernel
theorem dX1_isWithinAMove_23 : decode cX1_isWithinAMove 23 = .ok (.iload_n 3, 1) := by decide +kernel
theorem dX1_isWithinAMove_24 : decode cX1_isWithinAMove 24 = .ok (.irem, 1) := by decide +kernel
theorem dX1_isWithinAMove_25 : decode cX1_isWithinAMove 25 = .ok (.isub, 1) := by decide +kernel
theorem dX1_isWithinAMove_26 : decode cX1_isWithinAMove 26 = .ok (.invokestatic 73, 3) := by decide +kernel
theorem dX1_isWithinAMove_29 : decode cX1_isWithinAMove 29 = .ok (.iadd, 1) := by decide +kernel
theorem dX1_isWithinAMove_30 : decode cX1_isWithinAMove 30 = .ok (.iconst 1, 1) := by decide +kernel
theorem dX1_isWithinAMove_31 : decode cX1_isWithinAMove 31 = .ok (.if_icmp .gt 7, 3) := by decide +kernel
theorem dX1_isWithinAMove_34 : decode cX1_isWithinAMove 34 = .ok (.iconst 1, 1) := by decide +kernel
theorem dX1_isWithinAMove_35 : decode cX1_isWithinAMove 35 = .ok (.goto 4, 3) := by decide +kernel
theorem dX1_isWithinAMove_38 : decode cX1_isWithinAMove 38 = .ok (.iconst 0, 1) := by decide +kernel
theorem dX1_isWithinAMove_39 : decode cX1_isWithinAMove 39 = .ok (.ireturn, 1) := by decide +kernel
theorem dX1_hasAllKinds_0 : decode cX1_hasAllKinds 0 = .ok (.iconst 0, 1) := by decide +kernel
theorem dX1_hasAllKinds_1 : decode cX1_hasAllKinds 1 = .ok (.istore_n 1, 1) := by decide +kernel
theorem dX1_hasAllKinds_2 : decode cX1_hasAllKinds 2 = .ok (.iconst 0, 1) := by decide +kernel
theorem dX1_hasAllKinds_3 : decode cX1_hasAllKinds 3 = .ok (.istore_n 2, 1) := by decide +kernel
theorem dX1_hasAllKinds_4 : decode cX1_hasAllKinds 4 = .ok (.iload_n 2, 1) := by decide +kernel
theorem dX1_hasAllKinds_5 : decode cX1_hasAllKinds 5 = .ok (.aload_n 0, 1) := by decide +kernel
theorem dX1_hasAllKinds_6 : decode cX1_hasAllKinds 6 = .ok (.getfield 28, 3) := by decide +kernel
theorem dX1_hasAllKinds_9 : decode cX1_hasAllKinds 9 = .ok (.if_icmp .ge 20, 3) := by decide +kernel
theorem dX1_hasAllKinds_12 : decode cX1_hasAllKinds 12 = .ok (.iload_n 1, 1) := by decide +kernel
theorem dX1_hasAllKinds_13 : decode cX1_hasAllKinds 13 = .ok (.iconst 1, 1) := by decide +kernel
theorem dX1_hasAllKinds_14 : decode cX1_hasAllKinds 14 = .ok (.aload_n 0, 1) := by decide +kernel
theorem dX1_hasAllKinds_15 : decode cX1_hasAllKinds 15 = .ok (.getfield 19, 3) := by decide +kernel
theorem dX1_hasAllKinds_18 : decode cX1_hasAllKinds 18 = .ok (.iload_n 2, 1) := by decide +kernel
theorem dX1_hasAllKinds_19 : decode cX1_hasAllKinds 19 = .ok (.iaload, 1) := by decide +kernel
theorem dX1_hasAllKinds_20 : decode cX1_hasAllKinds 20 = .ok (.ishl, 1) := by decide +kernel
theorem dX1_hasAllKinds_21 : decode cX1_hasAllKinds 21 = .ok (.ior, 1) := by decide +kernel
theorem dX1_hasAllKinds_22 : decode cX1_hasAllKinds 22 = .ok (.istore_n 1, 1) := by decide +kernel
theorem dX1_hasAllKinds_23 : decode cX1_hasAllKinds 23 = .ok (.iinc 2 1, 3) := by decide +kernel
theorem dX1_hasAllKinds_26 : decode cX1_hasAllKinds 26 = .ok (.goto (-22), 3) := by decide +kernel
theorem dX1_hasAllKinds_29 : decode cX1_hasAllKinds 29 = .ok (.bipush 28, 2) := by decide +kernel
theorem dX1_hasAllKinds_31 : decode cX1_hasAllKinds 31 = .ok (.istore_n 2, 1) := by decide +kernel
theorem dX1_hasAllKinds_32 : decode cX1_hasAllKinds 32 = .ok (.iload_n 1, 1) := by decide +kernel
theorem dX1_hasAllKinds_33 : decode cX1_hasAllKinds 33 = .ok (.iload_n 2, 1) := by decide +kernel
theorem dX1_hasAllKinds_34 : decode cX1_hasAllKinds 34 = .ok (.iand, 1) := by decide +kernel
theorem dX1_hasAllKinds_35 : decode cX1_hasAllKinds 35 = .ok (.iload_n 2, 1) := by decide +kernel
theorem dX1_hasAllKinds_36 : decode cX1_hasAllKinds 36 = .ok (.if_icmp .ne 7, 3) := by decide +kernel
theorem dX1_hasAllKinds_39 : decode cX1_hasAllKinds 39 = .ok (.iconst 1, 1) := by decide +kernel
theorem dX1_hasAllKinds_40 : decode cX1_hasAllKinds 40 = .ok (.goto 4, 3) := by decide +kernel
theorem dX1_hasAllKinds_43 : decode cX1_hasAllKinds 43 = .ok (.iconst 0, 1) := by decide +kernel
theorem dX1_hasAllKinds_44 : decode cX1_hasAllKinds 44 = .ok (.ireturn, 1) := by decide +kernel
theorem dX1_firstPlaceApart_0 : decode cX1_firstPlaceApart 0 = .ok (.iconst 0, 1) := by decide +kernel
theorem dX1_firstPlaceApart_1 : decode cX1_firstPlaceApart 1 = .ok (.istore_n 1, 1) := by decide +kernel
theorem dX1_firstPlaceApart_2 : decode cX1_firstPlaceApart 2 = .ok (.iload_n 1, 1) := by decide +kernel
theorem dX1_firstPlaceApart_3 : decode cX1_firstPlaceApart 3 = .ok (.aload_n 0, 1) := by decide +kernel
theorem dX1_firstPlaceApart_4 : decode cX1_firstPlaceApart 4 = .ok (.getfield 28, 3) := by decide +kernel
theorem dX1_firstPlaceApart_7 : decode cX1_firstPlaceApart 7 = .ok (.if_icmp .ge 27, 3) := by decide +kernel
theorem dX1_firstPlaceApart_10 : decode cX1_firstPlaceApart 10 = .ok (.aload_n 0, 1) := by decide +kernel
theorem dX1_firstPlaceApart_11 : decode cX1_firstPlaceApart 11 = .ok (.iload_n 1, 1) := by decide +kernel
theorem dX1_firstPlaceApart_12 : decode cX1_firstPlaceApart 12 = .ok (.invokevirtual 76, 3) := by decide +kernel
theorem dX1_firstPlaceApart_15 : decode cX1_firstPlaceApart 15 = .ok (.ifCond .eq 13, 3) := by decide +kernel
theorem dX1_firstPlaceApart_18 : decode cX1_firstPlaceApart 18 = .ok (.aload_n 0, 1) := by decide +kernel
theorem dX1_firstPlaceApart_19 : decode cX1_firstPlaceApart 19 = .ok (.iload_n 1, 1) := by decide +kernel
theorem dX1_firstPlaceApart_20 : decode cX1_firstPlaceApart 20 = .ok (.invokevirtual 79, 3) := by decide +kernel
theorem dX1_firstPlaceApart_23 : decode cX1_firstPlaceApart 23 = .ok (.ifCond .ne 5, 3) := by decide +kernel
theorem dX1_firstPlaceApart_26 : decode cX1_firstPlaceApart 26 = .ok (.iload_n 1, 1) := by decide +kernel
theorem dX1_firstPlaceApart_27 : decode cX1_firstPlaceApart 27 = .ok (.ireturn, 1) := by decide +kernel
theorem dX1_firstPlaceApart_28 : decode cX1_firstPlaceApart 28 = .ok (.iinc 1 1, 3) := by decide +kernel
theorem dX1_firstPlaceApart_31 : decode cX1_firstPlaceApart 31 = .ok (.goto (-29), 3) := by decide +kernel
theorem dX1_firstPlaceApart_34 : decode cX1_firstPlaceApart 34 = .ok (.iconst (-1), 1) := by decide +kernel
theorem dX1_firstPlaceApart_35 : decode cX1_firstPlaceApart 35 = .ok (.ireturn, 1) := by decide +kernel
theorem dX1_isJoinedToAll_0 : decode cX1_isJoinedToAll 0 = .ok (.aload_n 0, 1) := by decide +kernel
theorem dX1_isJoinedToAll_1 : decode cX1_isJoinedToAll 1 = .ok (.iload_n 1, 1) := by decide +kernel
theorem dX1_isJoinedToAll_2 : decode cX1_isJoinedToAll 2 = .ok (.iconst 0, 1) := by decide +kernel
theorem dX1_isJoinedToAll_3 : decode cX1_isJoinedToAll 3 = .ok (.invokevirtual 82, 3) := by decide +kernel
theorem dX1_isJoinedToAll_6 : decode cX1_isJoinedToAll 6 = .ok (.iconst 0, 1) := by decide +kernel
theorem dX1_isJoinedToAll_7 : decode cX1_isJoinedToAll 7 = .ok (.istore_n 2, 1) := by decide +kernel
theorem dX1_isJoinedToAll_8 : decode cX1_isJoinedToAll 8 = .ok (.iload_n 2, 1) := by decide +kernel
theorem dX1_isJoinedToAll_9 : decode cX1_isJoinedToAll 9 = .ok (.aload_n 0, 1) := by decide +kernel
theorem dX1_isJoinedToAll_10 : decode cX1_isJoinedToAll 10 = .ok (.getfield 28, 3) := by decide +kernel
theorem dX1_isJoinedToAll_13 : decode cX1_isJoinedToAll 13 = .ok (.if_icmp .ge 29, 3) := by decide +kernel
theorem dX1_isJoinedToAll_16 : decode cX1_isJoinedToAll 16 = .ok (.aload_n 0, 1) := by decide +kernel
theorem dX1_isJoinedToAll_17 : decode cX1_isJoinedToAll 17 = .ok (.iload_n 2, 1) := by decide +kernel
theorem dX1_isJoinedToAll_18 : decode cX1_isJoinedToAll 18 = .ok (.invokevirtual 76, 3) := by decide +kernel
theorem dX1_isJoinedToAll_21 : decode cX1_isJoinedToAll 21 = .ok (.ifCond .eq 15, 3) := by decide +kernel
theorem dX1_isJoinedToAll_24 : decode cX1_isJoinedToAll 24 = .ok (.aload_n 0, 1) := by decide +kernel
theorem dX1_isJoinedToAll_25 : decode cX1_isJoinedToAll 25 = .ok (.getfield 22, 3) := by decide +kernel
theorem dX1_isJoinedToAll_28 : decode cX1_isJoinedToAll 28 = .ok (.iload_n 2, 1) := by decide +kernel
theorem dX1_isJoinedToAll_29 : decode cX1_isJoinedToAll 29 = .ok (.iaload, 1) := by decide +kernel
theorem dX1_isJoinedToAll_30 : decode cX1_isJoinedToAll 30 = .ok (.iconst (-1), 1) := by decide +kernel
theorem dX1_isJoinedToAll_31 : decode cX1_isJoinedToAll 31 = .ok (.if_icmp .ne 5, 3) := by decide +kernel
theorem dX1_isJoinedToAll_34 : decode cX1_isJoinedToAll 34 = .ok (.iconst 0, 1) := by decide +kernel
theorem dX1_isJoinedToAll_35 : decode cX1_isJoinedToAll 35 = .ok (.ireturn, 1) := by decide +kernel
theorem dX1_isJoinedToAll_36 : decode cX1_isJoinedToAll 36 = .ok (.iinc 2 1, 3) := by decide +kernel
theorem dX1_isJoinedToAll_39 : decode cX1_isJoinedToAll 39 = .ok (.goto (-31), 3) := by decide +kernel
theorem dX1_isJoinedToAll_42 : decode cX1_isJoinedToAll 42 = .ok (.iconst 1, 1) := by decide +kernel
theorem dX1_isJoinedToAll_43 : decode cX1_isJoinedToAll 43 = .ok (.ireturn, 1) := by decide +kernel
theorem dX1_measureFrom_0 : decode cX1_measureFrom 0 = .ok (.aload_n 0, 1) := by decide +kernel
theorem dX1_measureFrom_1 : decode cX1_measureFrom 1 = .ok (.getfield 22, 3) := by decide +kernel
theorem dX1_measureFrom_4 : decode cX1_measureFrom 4 = .ok (.iconst (-1), 1) := by decide +kernel
theorem dX1_measureFrom_5 : decode cX1_measureFrom 5 = .ok (.invokestatic 86, 3) := by decide +kernel
theorem dX1_measureFrom_8 : decode cX1_measureFrom 8 = .ok (.aload_n 0, 1) := by decide +kernel
theorem dX1_measureFrom_9 : decode cX1_measureFrom 9 = .ok (.getfield 19, 3) := by decide +kernel
theorem dX1_measureFrom_12 : decode cX1_measureFrom 12 = .ok (.iload_n 1, 1) := by decide +kernel
theorem dX1_measureFrom_13 : decode cX1_measureFrom 13 = .ok (.iaload, 1) := by decide +kernel
theorem dX1_measureFrom_14 : decode cX1_measureFrom 14 = .ok (.ifCond .ne 4, 3) := by decide +kernel
theorem dX1_measureFrom_17 : decode cX1_measureFrom 17 = .ok (.return_, 1) := by decide +kernel
theorem dX1_measureFrom_18 : decode cX1_measureFrom 18 = .ok (.aload_n 0, 1) := by decide +kernel
theorem dX1_measureFrom_19 : decode cX1_measureFrom 19 = .ok (.getfield 22, 3) := by decide +kernel
theorem dX1_measureFrom_22 : decode cX1_measureFrom 22 = .ok (.iload_n 1, 1) := by decide +kernel
theorem dX1_measureFrom_23 : decode cX1_measureFrom 23 = .ok (.iconst 0, 1) := by decide +kernel
theorem dX1_measureFrom_24 : decode cX1_measureFrom 24 = .ok (.iastore, 1) := by decide +kernel
theorem dX1_measureFrom_25 : decode cX1_measureFrom 25 = .ok (.aload_n 0, 1) := by decide +kernel
theorem dX1_measureFrom_26 : decode cX1_measureFrom 26 = .ok (.getfield 25, 3) := by decide +kernel
theorem dX1_measureFrom_29 : decode cX1_measureFrom 29 = .ok (.iconst 0, 1) := by decide +kernel
theorem dX1_measureFrom_30 : decode cX1_measureFrom 30 = .ok (.iload_n 1, 1) := by decide +kernel
theorem dX1_measureFrom_31 : decode cX1_measureFrom 31 = .ok (.iastore, 1) := by decide +kernel
theorem dX1_measureFrom_32 : decode cX1_measureFrom 32 = .ok (.iconst 1, 1) := by decide +kernel
theorem dX1_measureFrom_33 : decode cX1_measureFrom 33 = .ok (.istore_n 3, 1) := by decide +kernel
theorem dX1_measureFrom_34 : decode cX1_measureFrom 34 = .ok (.iconst 0, 1) := by decide +kernel
theorem dX1_measureFrom_35 : decode cX1_measureFrom 35 = .ok (.istore 4, 2) := by decide +kernel
theorem dX1_measureFrom_37 : decode cX1_measureFrom 37 = .ok (.iload 4, 2) := by decide +kernel
theorem dX1_measureFrom_39 : decode cX1_measureFrom 39 = .ok (.iload_n 3, 1) := by decide +kernel
theorem dX1_measureFrom_40 : decode cX1_measureFrom 40 = .ok (.if_icmp .ge 54, 3) := by decide +kernel
theorem dX1_measureFrom_43 : decode cX1_measureFrom 43 = .ok (.iload 4, 2) := by decide +kernel
theorem dX1_measureFrom_45 : decode cX1_measureFrom 45 = .ok (.aload_n 0, 1) := by decide +kernel
theorem dX1_measureFrom_46 : decode cX1_measureFrom 46 = .ok (.getfield 28, 3) := by decide +kernel
theorem dX1_measureFrom_49 : decode cX1_measureFrom 49 = .ok (.if_icmp .ge 45, 3) := by decide +kernel
theorem dX1_measureFrom_52 : decode cX1_measureFrom 52 = .ok (.aload_n 0, 1) := by decide +kernel
theorem dX1_measureFrom_53 : decode cX1_measureFrom 53 = .ok (.getfield 25, 3) := by decide +kernel
theorem dX1_measureFrom_56 : decode cX1_measureFrom 56 = .ok (.iload 4, 2) := by decide +kernel
theorem dX1_measureFrom_58 : decode cX1_measureFrom 58 = .ok (.iaload, 1) := by decide +kernel
theorem dX1_measureFrom_59 : decode cX1_measureFrom 59 = .ok (.istore 5, 2) := by decide +kernel
theorem dX1_measureFrom_61 : decode cX1_measureFrom 61 = .ok (.iload_n 2, 1) := by decide +kernel
theorem dX1_measureFrom_62 : decode cX1_measureFrom 62 = .ok (.ifCond .ne 18, 3) := by decide +kernel
theorem dX1_measureFrom_65 : decode cX1_measureFrom 65 = .ok (.iload 5, 2) := by decide +kernel
theorem dX1_measureFrom_67 : decode cX1_measureFrom 67 = .ok (.iload_n 1, 1) := by decide +kernel
theorem dX1_measureFrom_68 : decode cX1_measureFrom 68 = .ok (.if_icmp .eq 12, 3) := by decide +kernel
theorem dX1_measureFrom_71 : decode cX1_measureFrom 71 = .ok (.aload_n 0, 1) := by decide +kernel
theorem dX1_measureFrom_72 : decode cX1_measureFrom 72 = .ok (.iload 5, 2) := by decide +kernel
theorem dX1_measureFrom_74 : decode cX1_measureFrom 74 = .ok (.invokevirtual 76, 3) := by decide +kernel
theorem dX1_measureFrom_77 : decode cX1_measureFrom 77 = .ok (.ifCond .ne 11, 3) := by decide +kernel
theorem dX1_measureFrom_80 : decode cX1_measureFrom 80 = .ok (.aload_n 0, 1) := by decide +kernel
theorem dX1_measureFrom_81 : decode cX1_measureFrom 81 = .ok (.iload 5, 2) := by decide +kernel
theorem dX1_measureFrom_83 : decode cX1_measureFrom 83 = .ok (.iload_n 3, 1) := by decide +kernel
theorem dX1_measureFrom_84 : decode cX1_measureFrom 84 = .ok (.invokevirtual 89, 3) := by decide +kernel
theorem dX1_measureFrom_87 : decode cX1_measureFrom 87 = .ok (.istore_n 3, 1) := by decide +kernel
theorem dX1_measureFrom_88 : decode cX1_measureFrom 88 = .ok (.iinc 4 1, 3) := by decide +kernel
theorem dX1_measureFrom_91 : decode cX1_measureFrom 91 = .ok (.goto (-54), 3) := by decide +kernel
theorem dX1_measureFrom_94 : decode cX1_measureFrom 94 = .ok (.return_, 1) := by decide +kernel
theorem dX1_measureAround_0 : decode cX1_measureAround 0 = .ok (.iload_n 2, 1) := by decide +kernel
theorem dX1_measureAround_1 : decode cX1_measureAround 1 = .ok (.istore_n 3, 1) := by decide +kernel
theorem dX1_measureAround_2 : decode cX1_measureAround 2 = .ok (.iconst 1, 1) := by decide +kernel
theorem dX1_measureAround_3 : decode cX1_measureAround 3 = .ok (.istore 4, 2) := by decide +kernel
theorem dX1_measureAround_5 : decode cX1_measureAround 5 = .ok (.iload 4, 2) := by decide +kernel
theorem dX1_measureAround_7 : decode cX1_measureAround 7 = .ok (.iconst 5, 1) := by decide +kernel
theorem dX1_measureAround_8 : decode cX1_measureAround 8 = .ok (.if_icmp .ge 77, 3) := by decide +kernel
theorem dX1_measureAround_11 : decode cX1_measureAround 11 = .ok (.aload_n 0, 1) := by decide +kernel
theorem dX1_measureAround_12 : decode cX1_measureAround 12 = .ok (.iload_n 1, 1) := by decide +kernel
theorem dX1_measureAround_13 : decode cX1_measureAround 13 = .ok (.iload 4, 2) := by decide +kernel
theorem dX1_measureAround_15 : decode cX1_measureAround 15 = .ok (.invokevirtual 92, 3) := by decide +kernel
theorem dX1_measureAround_18 : decode cX1_measureAround 18 = .ok (.ifCond .eq 61, 3) := by decide +kernel
theorem dX1_measureAround_21 : decode cX1_measureAround 21 = .ok (.aload_n 0, 1) := by decide +kernel
theorem dX1_measureAround_22 : decode cX1_measureAround 22 = .ok (.getfield 22, 3) := by decide +kernel
theorem dX1_measureAround_25 : decode cX1_measureAround 25 = .ok (.iload_n 1, 1) := by decide +kernel
theorem dX1_measureAround_26 : decode cX1_measureAround 26 = .ok (.aload_n 0, 1) := by decide +kernel
theorem dX1_measureAround_27 : decode cX1_measureAround 27 = .ok (.getfield 9, 3) := by decide +kernel
theorem dX1_measureAround_30 : decode cX1_measureAround 30 = .ok (.iload 4, 2) := by decide +kernel
theorem dX1_measureAround_32 : decode cX1_measureAround 32 = .ok (.iaload, 1) := by decide +kernel
theorem dX1_measureAround_33 : decode cX1_measureAround 33 = .ok (.iadd, 1) := by decide +kernel
theorem dX1_measureAround_34 : decode cX1_measureAround 34 = .ok (.iaload, 1) := by decide +kernel
theorem dX1_measureAround_35 : decode cX1_measureAround 35 = .ok (.iconst (-1), 1) := by decide +kernel
theorem dX1_measureAround_36 : decode cX1_measureAround 36 = .ok (.if_icmp .ne 43, 3) := by decide +kernel
theorem dX1_measureAround_39 : decode cX1_measureAround 39 = .ok (.aload_n 0, 1) := by decide +kernel
theorem dX1_measureAround_40 : decode cX1_measureAround 40 = .ok (.getfield 22, 3) := by decide +kernel
theorem dX1_measureAround_43 : decode cX1_measureAround 43 = .ok (.iload_n 1, 1) := by decide +kernel
theorem dX1_measureAround_44 : decode cX1_measureAround 44 = .ok (.aload_n 0, 1) := by decide +kernel
theorem dX1_measureAround_45 : decode cX1_measureAround 45 = .ok (.getfield 9, 3) := by decide +kernel
theorem dX1_measureAround_48 : decode cX1_measureAround 48 = .ok (.iload 4, 2) := by decide +kernel
theorem dX1_measureAround_50 : decode cX1_measureAround 50 = .ok (.iaload, 1) := by decide +kernel
theorem dX1_measureAround_51 : decode cX1_measureAround 51 = .ok (.iadd, 1) := by decide +kernel
theorem dX1_measureAround_52 : decode cX1_measureAround 52 = .ok (.aload_n 0, 1) := by decide +kernel
theorem dX1_measureAround_53 : decode cX1_measureAround 53 = .ok (.getfield 22, 3) := by decide +kernel
theorem dX1_measureAround_56 : decode cX1_measureAround 56 = .ok (.iload_n 1, 1) := by decide +kernel
theorem dX1_measureAround_57 : decode cX1_measureAround 57 = .ok (.iaload, 1) := by decide +kernel
theorem dX1_measureAround_58 : decode cX1_measureAround 58 = .ok (.iconst 1, 1) := by decide +kernel
theorem dX1_measureAround_59 : decode cX1_measureAround 59 = .ok (.iadd, 1) := by decide +kernel
theorem dX1_measureAround_60 : decode cX1_measureAround 60 = .ok (.iastore, 1) := by decide +kernel
theorem dX1_measureAround_61 : decode cX1_measureAround 61 = .ok (.aload_n 0, 1) := by decide +kernel
theorem dX1_measureAround_62 : decode cX1_measureAround 62 = .ok (.getfield 25, 3) := by decide +kernel
theorem dX1_measureAround_65 : decode cX1_measureAround 65 = .ok (.iload_n 3, 1) := by decide +kernel
theorem dX1_measureAround_66 : decode cX1_measureAround 66 = .ok (.iload_n 1, 1) := by decide +kernel
theorem dX1_measureAround_67 : decode cX1_measureAround 67 = .ok (.aload_n 0, 1) := by decide +kernel
theorem dX1_measureAround_68 : decode cX1_measureAround 68 = .ok (.getfield 9, 3) := by decide +kernel
theorem dX1_measureAround_71 : decode cX1_measureAround 71 = .ok (.iload 4, 2) := by decide +kernel
theorem dX1_measureAround_73 : decode cX1_measureAround 73 = .ok (.iaload, 1) := by decide +kernel
theorem dX1_measureAround_74 : decode cX1_measureAround 74 = .ok (.iadd, 1) := by decide +kernel
theorem dX1_measureAround_75 : decode cX1_measureAround 75 = .ok (.iastore, 1) := by decide +kernel
theorem dX1_measureAround_76 : decode cX1_measureAround 76 = .ok (.iinc 3 1, 3) := by decide +kernel
theorem dX1_measureAround_79 : decode cX1_measureAround 79 = .ok (.iinc 4 1, 3) := by decide +kernel
theorem dX1_measureAround_82 : decode cX1_measureAround 82 = .ok (.goto (-77), 3) := by decide +kernel
theorem dX1_measureAround_85 : decode cX1_measureAround 85 = .ok (.iload_n 3, 1) := by decide +kernel
theorem dX1_measureAround_86 : decode cX1_measureAround 86 = .ok (.ireturn, 1) := by decide +kernel
