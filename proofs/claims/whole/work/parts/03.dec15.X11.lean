theorem dX11_watch_38 : decode cX11_watch 38 = .ok (.iload 5, 2) := by decide +kernel
theorem dX11_watch_40 : decode cX11_watch 40 = .ok (.iconst 5, 1) := by decide +kernel
theorem dX11_watch_41 : decode cX11_watch 41 = .ok (.if_icmp .ge 39, 3) := by decide +kernel
theorem dX11_watch_44 : decode cX11_watch 44 = .ok (.iload 4, 2) := by decide +kernel
theorem dX11_watch_46 : decode cX11_watch 46 = .ok (.ifCond .ne 21, 3) := by decide +kernel
theorem dX11_watch_49 : decode cX11_watch 49 = .ok (.iload_n 3, 1) := by decide +kernel
theorem dX11_watch_50 : decode cX11_watch 50 = .ok (.iload 5, 2) := by decide +kernel
theorem dX11_watch_52 : decode cX11_watch 52 = .ok (.aload_n 0, 1) := by decide +kernel
theorem dX11_watch_53 : decode cX11_watch 53 = .ok (.getfield 135, 3) := by decide +kernel
theorem dX11_watch_56 : decode cX11_watch 56 = .ok (.aload_n 0, 1) := by decide +kernel
theorem dX11_watch_57 : decode cX11_watch 57 = .ok (.getfield 132, 3) := by decide +kernel
theorem dX11_watch_60 : decode cX11_watch 60 = .ok (.invokestatic 113, 3) := by decide +kernel
theorem dX11_watch_63 : decode cX11_watch 63 = .ok (.iload_n 2, 1) := by decide +kernel
theorem dX11_watch_64 : decode cX11_watch 64 = .ok (.if_icmp .ne 7, 3) := by decide +kernel
theorem dX11_watch_67 : decode cX11_watch 67 = .ok (.iconst 1, 1) := by decide +kernel
theorem dX11_watch_68 : decode cX11_watch 68 = .ok (.goto 4, 3) := by decide +kernel
theorem dX11_watch_71 : decode cX11_watch 71 = .ok (.iconst 0, 1) := by decide +kernel
theorem dX11_watch_72 : decode cX11_watch 72 = .ok (.istore 4, 2) := by decide +kernel
theorem dX11_watch_74 : decode cX11_watch 74 = .ok (.iinc 5 1, 3) := by decide +kernel
theorem dX11_watch_77 : decode cX11_watch 77 = .ok (.goto (-39), 3) := by decide +kernel
theorem dX11_watch_80 : decode cX11_watch 80 = .ok (.aload_n 0, 1) := by decide +kernel
theorem dX11_watch_81 : decode cX11_watch 81 = .ok (.dup, 1) := by decide +kernel
theorem dX11_watch_82 : decode cX11_watch 82 = .ok (.getfield 153, 3) := by decide +kernel
theorem dX11_watch_85 : decode cX11_watch 85 = .ok (.aload_n 0, 1) := by decide +kernel
theorem dX11_watch_86 : decode cX11_watch 86 = .ok (.getfield 17, 3) := by decide +kernel
theorem dX11_watch_89 : decode cX11_watch 89 = .ok (.iload_n 2, 1) := by decide +kernel
theorem dX11_watch_90 : decode cX11_watch 90 = .ok (.iaload, 1) := by decide +kernel
theorem dX11_watch_91 : decode cX11_watch 91 = .ok (.ifCond .ne 7, 3) := by decide +kernel
theorem dX11_watch_94 : decode cX11_watch 94 = .ok (.iconst 1, 1) := by decide +kernel
theorem dX11_watch_95 : decode cX11_watch 95 = .ok (.goto 4, 3) := by decide +kernel
theorem dX11_watch_98 : decode cX11_watch 98 = .ok (.iconst 0, 1) := by decide +kernel
theorem dX11_watch_99 : decode cX11_watch 99 = .ok (.iadd, 1) := by decide +kernel
theorem dX11_watch_100 : decode cX11_watch 100 = .ok (.putfield 153, 3) := by decide +kernel
theorem dX11_watch_103 : decode cX11_watch 103 = .ok (.aload_n 0, 1) := by decide +kernel
theorem dX11_watch_104 : decode cX11_watch 104 = .ok (.dup, 1) := by decide +kernel
theorem dX11_watch_105 : decode cX11_watch 105 = .ok (.getfield 153, 3) := by decide +kernel
theorem dX11_watch_108 : decode cX11_watch 108 = .ok (.iload 4, 2) := by decide +kernel
theorem dX11_watch_110 : decode cX11_watch 110 = .ok (.ifCond .eq 7, 3) := by decide +kernel
theorem dX11_watch_113 : decode cX11_watch 113 = .ok (.iconst 0, 1) := by decide +kernel
theorem dX11_watch_114 : decode cX11_watch 114 = .ok (.goto 4, 3) := by decide +kernel
theorem dX11_watch_117 : decode cX11_watch 117 = .ok (.iconst 1, 1) := by decide +kernel
theorem dX11_watch_118 : decode cX11_watch 118 = .ok (.iadd, 1) := by decide +kernel
theorem dX11_watch_119 : decode cX11_watch 119 = .ok (.putfield 153, 3) := by decide +kernel
theorem dX11_watch_122 : decode cX11_watch 122 = .ok (.iconst 0, 1) := by decide +kernel
theorem dX11_watch_123 : decode cX11_watch 123 = .ok (.istore 5, 2) := by decide +kernel
theorem dX11_watch_125 : decode cX11_watch 125 = .ok (.iload 5, 2) := by decide +kernel
theorem dX11_watch_127 : decode cX11_watch 127 = .ok (.iload_n 1, 1) := by decide +kernel
theorem dX11_watch_128 : decode cX11_watch 128 = .ok (.if_icmp .ge 86, 3) := by decide +kernel
theorem dX11_watch_131 : decode cX11_watch 131 = .ok (.aload_n 0, 1) := by decide +kernel
theorem dX11_watch_132 : decode cX11_watch 132 = .ok (.dup, 1) := by decide +kernel
theorem dX11_watch_133 : decode cX11_watch 133 = .ok (.getfield 153, 3) := by decide +kernel
theorem dX11_watch_136 : decode cX11_watch 136 = .ok (.aload_n 0, 1) := by decide +kernel
theorem dX11_watch_137 : decode cX11_watch 137 = .ok (.iload 5, 2) := by decide +kernel
theorem dX11_watch_139 : decode cX11_watch 139 = .ok (.aload_n 0, 1) := by decide +kernel
theorem dX11_watch_140 : decode cX11_watch 140 = .ok (.getfield 141, 3) := by decide +kernel
theorem dX11_watch_143 : decode cX11_watch 143 = .ok (.invokevirtual 166, 3) := by decide +kernel
theorem dX11_watch_146 : decode cX11_watch 146 = .ok (.iload_n 2, 1) := by decide +kernel
theorem dX11_watch_147 : decode cX11_watch 147 = .ok (.if_icmp .ne 7, 3) := by decide +kernel
theorem dX11_watch_150 : decode cX11_watch 150 = .ok (.iconst 1, 1) := by decide +kernel
theorem dX11_watch_151 : decode cX11_watch 151 = .ok (.goto 4, 3) := by decide +kernel
theorem dX11_watch_154 : decode cX11_watch 154 = .ok (.iconst 0, 1) := by decide +kernel
theorem dX11_watch_155 : decode cX11_watch 155 = .ok (.iadd, 1) := by decide +kernel
theorem dX11_watch_156 : decode cX11_watch 156 = .ok (.putfield 153, 3) := by decide +kernel
theorem dX11_watch_159 : decode cX11_watch 159 = .ok (.aload_n 0, 1) := by decide +kernel
theorem dX11_watch_160 : decode cX11_watch 160 = .ok (.dup, 1) := by decide +kernel
theorem dX11_watch_161 : decode cX11_watch 161 = .ok (.getfield 153, 3) := by decide +kernel
theorem dX11_watch_164 : decode cX11_watch 164 = .ok (.iload_n 2, 1) := by decide +kernel
theorem dX11_watch_165 : decode cX11_watch 165 = .ok (.iload_n 3, 1) := by decide +kernel
theorem dX11_watch_166 : decode cX11_watch 166 = .ok (.if_icmp .eq 37, 3) := by decide +kernel
theorem dX11_watch_169 : decode cX11_watch 169 = .ok (.aload_n 0, 1) := by decide +kernel
theorem dX11_watch_170 : decode cX11_watch 170 = .ok (.iload 5, 2) := by decide +kernel
theorem dX11_watch_172 : decode cX11_watch 172 = .ok (.aload_n 0, 1) := by decide +kernel
theorem dX11_watch_173 : decode cX11_watch 173 = .ok (.getfield 141, 3) := by decide +kernel
theorem dX11_watch_176 : decode cX11_watch 176 = .ok (.invokevirtual 166, 3) := by decide +kernel
theorem dX11_watch_179 : decode cX11_watch 179 = .ok (.iload_n 3, 1) := by decide +kernel
theorem dX11_watch_180 : decode cX11_watch 180 = .ok (.if_icmp .ne 23, 3) := by decide +kernel
theorem dX11_watch_183 : decode cX11_watch 183 = .ok (.aload_n 0, 1) := by decide +kernel
theorem dX11_watch_184 : decode cX11_watch 184 = .ok (.iload 5, 2) := by decide +kernel
theorem dX11_watch_186 : decode cX11_watch 186 = .ok (.aload_n 0, 1) := by decide +kernel
theorem dX11_watch_187 : decode cX11_watch 187 = .ok (.getfield 141, 3) := by decide +kernel
theorem dX11_watch_190 : decode cX11_watch 190 = .ok (.iconst 1, 1) := by decide +kernel
theorem dX11_watch_191 : decode cX11_watch 191 = .ok (.isub, 1) := by decide +kernel
theorem dX11_watch_192 : decode cX11_watch 192 = .ok (.invokevirtual 166, 3) := by decide +kernel
theorem dX11_watch_195 : decode cX11_watch 195 = .ok (.iload_n 2, 1) := by decide +kernel
theorem dX11_watch_196 : decode cX11_watch 196 = .ok (.if_icmp .ne 7, 3) := by decide +kernel
theorem dX11_watch_199 : decode cX11_watch 199 = .ok (.iconst 1, 1) := by decide +kernel
theorem dX11_watch_200 : decode cX11_watch 200 = .ok (.goto 4, 3) := by decide +kernel
theorem dX11_watch_203 : decode cX11_watch 203 = .ok (.iconst 0, 1) := by decide +kernel
theorem dX11_watch_204 : decode cX11_watch 204 = .ok (.iadd, 1) := by decide +kernel
theorem dX11_watch_205 : decode cX11_watch 205 = .ok (.putfield 153, 3) := by decide +kernel
theorem dX11_watch_208 : decode cX11_watch 208 = .ok (.iinc 5 1, 3) := by decide +kernel
theorem dX11_watch_211 : decode cX11_watch 211 = .ok (.goto (-86), 3) := by decide +kernel
theorem dX11_watch_214 : decode cX11_watch 214 = .ok (.iinc 1 1, 3) := by decide +kernel
theorem dX11_watch_217 : decode cX11_watch 217 = .ok (.goto (-215), 3) := by decide +kernel
theorem dX11_watch_220 : decode cX11_watch 220 = .ok (.return_, 1) := by decide +kernel
theorem dX11_tickOnce_0 : decode cX11_tickOnce 0 = .ok (.iconst 0, 1) := by decide +kernel
theorem dX11_tickOnce_1 : decode cX11_tickOnce 1 = .ok (.istore_n 1, 1) := by decide +kernel
theorem dX11_tickOnce_2 : decode cX11_tickOnce 2 = .ok (.iload_n 1, 1) := by decide +kernel
theorem dX11_tickOnce_3 : decode cX11_tickOnce 3 = .ok (.aload_n 0, 1) := by decide +kernel
theorem dX11_tickOnce_4 : decode cX11_tickOnce 4 = .ok (.getfield 144, 3) := by decide +kernel
theorem dX11_tickOnce_7 : decode cX11_tickOnce 7 = .ok (.if_icmp .ge 32, 3) := by decide +kernel
theorem dX11_tickOnce_10 : decode cX11_tickOnce 10 = .ok (.aload_n 0, 1) := by decide +kernel
theorem dX11_tickOnce_11 : decode cX11_tickOnce 11 = .ok (.getfield 33, 3) := by decide +kernel
theorem dX11_tickOnce_14 : decode cX11_tickOnce 14 = .ok (.iload_n 1, 1) := by decide +kernel
theorem dX11_tickOnce_15 : decode cX11_tickOnce 15 = .ok (.iaload, 1) := by decide +kernel
theorem dX11_tickOnce_16 : decode cX11_tickOnce 16 = .ok (.aload_n 0, 1) := by decide +kernel
theorem dX11_tickOnce_17 : decode cX11_tickOnce 17 = .ok (.getfield 141, 3) := by decide +kernel
theorem dX11_tickOnce_20 : decode cX11_tickOnce 20 = .ok (.if_icmp .gt 13, 3) := by decide +kernel
theorem dX11_tickOnce_23 : decode cX11_tickOnce 23 = .ok (.aload_n 0, 1) := by decide +kernel
theorem dX11_tickOnce_24 : decode cX11_tickOnce 24 = .ok (.iload_n 1, 1) := by decide +kernel
theorem dX11_tickOnce_25 : decode cX11_tickOnce 25 = .ok (.invokevirtual 222, 3) := by decide +kernel
theorem dX11_tickOnce_28 : decode cX11_tickOnce 28 = .ok (.aload_n 0, 1) := by decide +kernel
theorem dX11_tickOnce_29 : decode cX11_tickOnce 29 = .ok (.iload_n 1, 1) := by decide +kernel
theorem dX11_tickOnce_30 : decode cX11_tickOnce 30 = .ok (.invokevirtual 225, 3) := by decide +kernel
theorem dX11_tickOnce_33 : decode cX11_tickOnce 33 = .ok (.iinc 1 1, 3) := by decide +kernel
theorem dX11_tickOnce_36 : decode cX11_tickOnce 36 = .ok (.goto (-34), 3) := by decide +kernel
theorem dX11_tickOnce_39 : decode cX11_tickOnce 39 = .ok (.aload_n 0, 1) := by decide +kernel
theorem dX11_tickOnce_40 : decode cX11_tickOnce 40 = .ok (.dup, 1) := by decide +kernel
theorem dX11_tickOnce_41 : decode cX11_tickOnce 41 = .ok (.getfield 141, 3) := by decide +kernel
theorem dX11_tickOnce_44 : decode cX11_tickOnce 44 = .ok (.iconst 1, 1) := by decide +kernel
theorem dX11_tickOnce_45 : decode cX11_tickOnce 45 = .ok (.iadd, 1) := by decide +kernel
theorem dX11_tickOnce_46 : decode cX11_tickOnce 46 = .ok (.putfield 141, 3) := by decide +kernel
theorem dX11_tickOnce_49 : decode cX11_tickOnce 49 = .ok (.iconst 0, 1) := by decide +kernel
theorem dX11_tickOnce_50 : decode cX11_tickOnce 50 = .ok (.istore_n 1, 1) := by decide +kernel
theorem dX11_tickOnce_51 : decode cX11_tickOnce 51 = .ok (.iload_n 1, 1) := by decide +kernel
theorem dX11_tickOnce_52 : decode cX11_tickOnce 52 = .ok (.aload_n 0, 1) := by decide +kernel
theorem dX11_tickOnce_53 : decode cX11_tickOnce 53 = .ok (.getfield 144, 3) := by decide +kernel
theorem dX11_tickOnce_56 : decode cX11_tickOnce 56 = .ok (.if_icmp .ge 32, 3) := by decide +kernel
theorem dX11_tickOnce_59 : decode cX11_tickOnce 59 = .ok (.aload_n 0, 1) := by decide +kernel
theorem dX11_tickOnce_60 : decode cX11_tickOnce 60 = .ok (.getfield 33, 3) := by decide +kernel
theorem dX11_tickOnce_63 : decode cX11_tickOnce 63 = .ok (.iload_n 1, 1) := by decide +kernel
theorem dX11_tickOnce_64 : decode cX11_tickOnce 64 = .ok (.iaload, 1) := by decide +kernel
theorem dX11_tickOnce_65 : decode cX11_tickOnce 65 = .ok (.aload_n 0, 1) := by decide +kernel
theorem dX11_tickOnce_66 : decode cX11_tickOnce 66 = .ok (.getfield 141, 3) := by decide +kernel
theorem dX11_tickOnce_69 : decode cX11_tickOnce 69 = .ok (.if_icmp .ge 8, 3) := by decide +kernel
theorem dX11_tickOnce_72 : decode cX11_tickOnce 72 = .ok (.aload_n 0, 1) := by decide +kernel
theorem dX11_tickOnce_73 : decode cX11_tickOnce 73 = .ok (.iload_n 1, 1) := by decide +kernel
theorem dX11_tickOnce_74 : decode cX11_tickOnce 74 = .ok (.invokevirtual 222, 3) := by decide +kernel
theorem dX11_tickOnce_77 : decode cX11_tickOnce 77 = .ok (.aload_n 0, 1) := by decide +kernel
theorem dX11_tickOnce_78 : decode cX11_tickOnce 78 = .ok (.iload_n 1, 1) := by decide +kernel
theorem dX11_tickOnce_79 : decode cX11_tickOnce 79 = .ok (.invokevirtual 228, 3) := by decide +kernel
theorem dX11_tickOnce_82 : decode cX11_tickOnce 82 = .ok (.iinc 1 1, 3) := by decide +kernel
theorem dX11_tickOnce_85 : decode cX11_tickOnce 85 = .ok (.goto (-34), 3) := by decide +kernel
theorem dX11_tickOnce_88 : decode cX11_tickOnce 88 = .ok (.aload_n 0, 1) := by decide +kernel
theorem dX11_tickOnce_89 : decode cX11_tickOnce 89 = .ok (.invokevirtual 231, 3) := by decide +kernel
theorem dX11_tickOnce_92 : decode cX11_tickOnce 92 = .ok (.return_, 1) := by decide +kernel
theorem dX11_stay_0 : decode cX11_stay 0 = .ok (.aload_n 0, 1) := by decide +kernel
theorem dX11_stay_1 : decode cX11_stay 1 = .ok (.getfield 30, 3) := by decide +kernel
theorem dX11_stay_4 : decode cX11_stay 4 = .ok (.sipush 5200, 3) := by decide +kernel
theorem dX11_stay_7 : decode cX11_stay 7 = .ok (.iload_n 1, 1) := by decide +kernel
theorem dX11_stay_8 : decode cX11_stay 8 = .ok (.imul, 1) := by decide +kernel
theorem dX11_stay_9 : decode cX11_stay 9 = .ok (.aload_n 0, 1) := by decide +kernel
theorem dX11_stay_10 : decode cX11_stay 10 = .ok (.getfield 141, 3) := by decide +kernel
theorem dX11_stay_13 : decode cX11_stay 13 = .ok (.iadd, 1) := by decide +kernel
theorem dX11_stay_14 : decode cX11_stay 14 = .ok (.aload_n 0, 1) := by decide +kernel
theorem dX11_stay_15 : decode cX11_stay 15 = .ok (.iload_n 1, 1) := by decide +kernel
theorem dX11_stay_16 : decode cX11_stay 16 = .ok (.invokevirtual 182, 3) := by decide +kernel
theorem dX11_stay_19 : decode cX11_stay 19 = .ok (.iastore, 1) := by decide +kernel
theorem dX11_stay_20 : decode cX11_stay 20 = .ok (.aload_n 0, 1) := by decide +kernel
theorem dX11_stay_21 : decode cX11_stay 21 = .ok (.getfield 33, 3) := by decide +kernel
theorem dX11_stay_24 : decode cX11_stay 24 = .ok (.iload_n 1, 1) := by decide +kernel
theorem dX11_stay_25 : decode cX11_stay 25 = .ok (.aload_n 0, 1) := by decide +kernel
theorem dX11_stay_26 : decode cX11_stay 26 = .ok (.getfield 141, 3) := by decide +kernel
theorem dX11_stay_29 : decode cX11_stay 29 = .ok (.iastore, 1) := by decide +kernel
theorem dX11_stay_30 : decode cX11_stay 30 = .ok (.return_, 1) := by decide +kernel
theorem dX11_refusal_0 : decode cX11_refusal 0 = .ok (.aload_n 0, 1) := by decide +kernel
theorem dX11_refusal_1 : decode cX11_refusal 1 = .ok (.getfield 144, 3) := by decide +kernel
theorem dX11_refusal_4 : decode cX11_refusal 4 = .ok (.ifCond .ne 8, 3) := by decide +kernel
theorem dX11_refusal_7 : decode cX11_refusal 7 = .ok (.bipush (-4), 2) := by decide +kernel
theorem dX11_refusal_9 : decode cX11_refusal 9 = .ok (.goto 37, 3) := by decide +kernel
theorem dX11_refusal_12 : decode cX11_refusal 12 = .ok (.iload_n 1, 1) := by decide +kernel
theorem dX11_refusal_13 : decode cX11_refusal 13 = .ok (.iconst 1, 1) := by decide +kernel
theorem dX11_refusal_14 : decode cX11_refusal 14 = .ok (.sipush 200, 3) := by decide +kernel
theorem dX11_refusal_17 : decode cX11_refusal 17 = .ok (.invokestatic 162, 3) := by decide +kernel
theorem dX11_refusal_20 : decode cX11_refusal 20 = .ok (.ifCond .ne 8, 3) := by decide +kernel
theorem dX11_refusal_23 : decode cX11_refusal 23 = .ok (.bipush (-2), 2) := by decide +kernel
theorem dX11_refusal_25 : decode cX11_refusal 25 = .ok (.goto 21, 3) := by decide +kernel
theorem dX11_refusal_28 : decode cX11_refusal 28 = .ok (.aload_n 0, 1) := by decide +kernel
theorem dX11_refusal_29 : decode cX11_refusal 29 = .ok (.getfield 141, 3) := by decide +kernel
theorem dX11_refusal_32 : decode cX11_refusal 32 = .ok (.iload_n 1, 1) := by decide +kernel
theorem dX11_refusal_33 : decode cX11_refusal 33 = .ok (.iadd, 1) := by decide +kernel
theorem dX11_refusal_34 : decode cX11_refusal 34 = .ok (.sipush 4000, 3) := by decide +kernel
theorem dX11_refusal_37 : decode cX11_refusal 37 = .ok (.if_icmp .le 8, 3) := by decide +kernel
theorem dX11_refusal_40 : decode cX11_refusal 40 = .ok (.bipush (-3), 2) := by decide +kernel
theorem dX11_refusal_42 : decode cX11_refusal 42 = .ok (.goto 4, 3) := by decide +kernel
theorem dX11_refusal_45 : decode cX11_refusal 45 = .ok (.iconst 0, 1) := by decide +kernel
theorem dX11_refusal_46 : decode cX11_refusal 46 = .ok (.ireturn, 1) := by decide +kernel
theorem dX11_tick_0 : decode cX11_tick 0 = .ok (.aload_n 0, 1) := by decide +kernel
theorem dX11_tick_1 : decode cX11_tick 1 = .ok (.iload_n 1, 1) := by decide +kernel
theorem dX11_tick_2 : decode cX11_tick 2 = .ok (.invokevirtual 234, 3) := by decide +kernel
theorem dX11_tick_5 : decode cX11_tick 5 = .ok (.istore_n 2, 1) := by decide +kernel
theorem dX11_tick_6 : decode cX11_tick 6 = .ok (.iload_n 2, 1) := by decide +kernel
theorem dX11_tick_7 : decode cX11_tick 7 = .ok (.ifCond .ge 5, 3) := by decide +kernel
theorem dX11_tick_10 : decode cX11_tick 10 = .ok (.iload_n 2, 1) := by decide +kernel
theorem dX11_tick_11 : decode cX11_tick 11 = .ok (.ireturn, 1) := by decide +kernel
theorem dX11_tick_12 : decode cX11_tick 12 = .ok (.iconst 0, 1) := by decide +kernel
theorem dX11_tick_13 : decode cX11_tick 13 = .ok (.istore_n 3, 1) := by decide +kernel
theorem dX11_tick_14 : decode cX11_tick 14 = .ok (.iload_n 3, 1) := by decide +kernel
theorem dX11_tick_15 : decode cX11_tick 15 = .ok (.iload_n 1, 1) := by decide +kernel
theorem dX11_tick_16 : decode cX11_tick 16 = .ok (.if_icmp .ge 13, 3) := by decide +kernel
theorem dX11_tick_19 : decode cX11_tick 19 = .ok (.aload_n 0, 1) := by decide +kernel
theorem dX11_tick_20 : decode cX11_tick 20 = .ok (.invokevirtual 237, 3) := by decide +kernel
theorem dX11_tick_23 : decode cX11_tick 23 = .ok (.iinc 3 1, 3) := by decide +kernel
theorem dX11_tick_26 : decode cX11_tick 26 = .ok (.goto (-12), 3) := by decide +kernel
theorem dX11_tick_29 : decode cX11_tick 29 = .ok (.aload_n 0, 1) := by decide +kernel
theorem dX11_tick_30 : decode cX11_tick 30 = .ok (.getfield 141, 3) := by decide +kernel
theorem dX11_tick_33 : decode cX11_tick 33 = .ok (.ireturn, 1) := by decide +kernel
theorem dX11_openOrders_0 : decode cX11_openOrders 0 = .ok (.iconst 0, 1) := by decide +kernel
theorem dX11_openOrders_1 : decode cX11_openOrders 1 = .ok (.istore_n 1, 1) := by decide +kernel
theorem dX11_openOrders_2 : decode cX11_openOrders 2 = .ok (.iconst 0, 1) := by decide +kernel
theorem dX11_openOrders_3 : decode cX11_openOrders 3 = .ok (.istore_n 2, 1) := by decide +kernel
theorem dX11_openOrders_4 : decode cX11_openOrders 4 = .ok (.iload_n 2, 1) := by decide +kernel
theorem dX11_openOrders_5 : decode cX11_openOrders 5 = .ok (.aload_n 0, 1) := by decide +kernel
theorem dX11_openOrders_6 : decode cX11_openOrders 6 = .ok (.getfield 147, 3) := by decide +kernel
theorem dX11_openOrders_9 : decode cX11_openOrders 9 = .ok (.if_icmp .ge 25, 3) := by decide +kernel
theorem dX11_openOrders_12 : decode cX11_openOrders 12 = .ok (.aload_n 0, 1) := by decide +kernel
theorem dX11_openOrders_13 : decode cX11_openOrders 13 = .ok (.iload_n 2, 1) := by decide +kernel
theorem dX11_openOrders_14 : decode cX11_openOrders 14 = .ok (.invokevirtual 176, 3) := by decide +kernel
theorem dX11_openOrders_17 : decode cX11_openOrders 17 = .ok (.ifCond .eq 9, 3) := by decide +kernel
theorem dX11_openOrders_20 : decode cX11_openOrders 20 = .ok (.iload_n 1, 1) := by decide +kernel
theorem dX11_openOrders_21 : decode cX11_openOrders 21 = .ok (.iconst 1, 1) := by decide +kernel
theorem dX11_openOrders_22 : decode cX11_openOrders 22 = .ok (.iadd, 1) := by decide +kernel
theorem dX11_openOrders_23 : decode cX11_openOrders 23 = .ok (.goto 4, 3) := by decide +kernel
theorem dX11_openOrders_26 : decode cX11_openOrders 26 = .ok (.iload_n 1, 1) := by decide +kernel
theorem dX11_openOrders_27 : decode cX11_openOrders 27 = .ok (.istore_n 1, 1) := by decide +kernel
theorem dX11_openOrders_28 : decode cX11_openOrders 28 = .ok (.iinc 2 1, 3) := by decide +kernel
theorem dX11_openOrders_31 : decode cX11_openOrders 31 = .ok (.goto (-27), 3) := by decide +kernel
theorem dX11_openOrders_34 : decode cX11_openOrders 34 = .ok (.iload_n 1, 1) := by decide +kernel
theorem dX11_openOrders_35 : decode cX11_openOrders 35 = .ok (.ireturn, 1) := by decide +kernel
theorem dX11_settle_0 : decode cX11_settle 0 = .ok (.aload_n 0, 1) := by decide +kernel
theorem dX11_settle_1 : decode cX11_settle 1 = .ok (.iload_n 1, 1) := by decide +kernel
theorem dX11_settle_2 : decode cX11_settle 2 = .ok (.invokevirtual 234, 3) := by decide +kernel
theorem dX11_settle_5 : decode cX11_settle 5 = .ok (.istore_n 2, 1) := by decide +kernel
theorem dX11_settle_6 : decode cX11_settle 6 = .ok (.iload_n 2, 1) := by decide +kernel
theorem dX11_settle_7 : decode cX11_settle 7 = .ok (.ifCond .ge 5, 3) := by decide +kernel
theorem dX11_settle_10 : decode cX11_settle 10 = .ok (.iload_n 2, 1) := by decide +kernel
theorem dX11_settle_11 : decode cX11_settle 11 = .ok (.ireturn, 1) := by decide +kernel
theorem dX11_settle_12 : decode cX11_settle 12 = .ok (.iconst 0, 1) := by decide +kernel
theorem dX11_settle_13 : decode cX11_settle 13 = .ok (.istore_n 3, 1) := by decide +kernel
theorem dX11_settle_14 : decode cX11_settle 14 = .ok (.iload_n 3, 1) := by decide +kernel
theorem dX11_settle_15 : decode cX11_settle 15 = .ok (.iload_n 1, 1) := by decide +kernel
theorem dX11_settle_16 : decode cX11_settle 16 = .ok (.if_icmp .ge 20, 3) := by decide +kernel
theorem dX11_settle_19 : decode cX11_settle 19 = .ok (.aload_n 0, 1) := by decide +kernel
theorem dX11_settle_20 : decode cX11_settle 20 = .ok (.invokevirtual 240, 3) := by decide +kernel
theorem dX11_settle_23 : decode cX11_settle 23 = .ok (.ifCond .le 13, 3) := by decide +kernel
theorem dX11_settle_26 : decode cX11_settle 26 = .ok (.aload_n 0, 1) := by decide +kernel
theorem dX11_settle_27 : decode cX11_settle 27 = .ok (.invokevirtual 237, 3) := by decide +kernel
theorem dX11_settle_30 : decode cX11_settle 30 = .ok (.iinc 3 1, 3) := by decide +kernel
theorem dX11_settle_33 : decode cX11_settle 33 = .ok (.goto (-19), 3) := by decide +kernel
theorem dX11_settle_36 : decode cX11_settle 36 = .ok (.iload_n 3, 1) := by decide +kernel
theorem dX11_settle_37 : decode cX11_settle 37 = .ok (.ireturn, 1) := by decide +kernel
theorem dX11_robotOf_0 : decode cX11_robotOf 0 = .ok (.iload_n 1, 1) := by decide +kernel
theorem dX11_robotOf_1 : decode cX11_robotOf 1 = .ok (.iconst 0, 1) := by decide +kernel
theorem dX11_robotOf_2 : decode cX11_robotOf 2 = .ok (.aload_n 0, 1) := by decide +kernel
theorem dX11_robotOf_3 : decode cX11_robotOf 3 = .ok (.getfield 144, 3) := by decide +kernel
theorem dX11_robotOf_6 : decode cX11_robotOf 6 = .ok (.iconst 1, 1) := by decide +kernel
theorem dX11_robotOf_7 : decode cX11_robotOf 7 = .ok (.isub, 1) := by decide +kernel
theorem dX11_robotOf_8 : decode cX11_robotOf 8 = .ok (.invokestatic 162, 3) := by decide +kernel
theorem dX11_robotOf_11 : decode cX11_robotOf 11 = .ok (.ifCond .ne 5, 3) := by decide +kernel
theorem dX11_robotOf_14 : decode cX11_robotOf 14 = .ok (.iconst (-1), 1) := by decide +kernel
theorem dX11_robotOf_15 : decode cX11_robotOf 15 = .ok (.ireturn, 1) := by decide +kernel
theorem dX11_robotOf_16 : decode cX11_robotOf 16 = .ok (.iload_n 2, 1) := by decide +kernel
theorem dX11_robotOf_17 : decode cX11_robotOf 17 = .ok (.tableswitch 150 0 7 #[47, 57, 64, 94, 100, 129, 136, 143], 47) := by decide +kernel
theorem dX11_robotOf_64 : decode cX11_robotOf 64 = .ok (.aload_n 0, 1) := by decide +kernel
theorem dX11_robotOf_65 : decode cX11_robotOf 65 = .ok (.iload_n 1, 1) := by decide +kernel
theorem dX11_robotOf_66 : decode cX11_robotOf 66 = .ok (.aload_n 0, 1) := by decide +kernel
theorem dX11_robotOf_67 : decode cX11_robotOf 67 = .ok (.getfield 141, 3) := by decide +kernel
theorem dX11_robotOf_70 : decode cX11_robotOf 70 = .ok (.invokevirtual 166, 3) := by decide +kernel
theorem dX11_robotOf_73 : decode cX11_robotOf 73 = .ok (.ireturn, 1) := by decide +kernel
theorem dX11_robotOf_74 : decode cX11_robotOf 74 = .ok (.aload_n 0, 1) := by decide +kernel
theorem dX11_robotOf_75 : decode cX11_robotOf 75 = .ok (.getfield 36, 3) := by decide +kernel
theorem dX11_robotOf_78 : decode cX11_robotOf 78 = .ok (.iload_n 1, 1) := by decide +kernel
theorem dX11_robotOf_79 : decode cX11_robotOf 79 = .ok (.iaload, 1) := by decide +kernel
theorem dX11_robotOf_80 : decode cX11_robotOf 80 = .ok (.ireturn, 1) := by decide +kernel
theorem dX11_robotOf_81 : decode cX11_robotOf 81 = .ok (.aload_n 0, 1) := by decide +kernel
theorem dX11_robotOf_82 : decode cX11_robotOf 82 = .ok (.getfield 36, 3) := by decide +kernel
theorem dX11_robotOf_85 : decode cX11_robotOf 85 = .ok (.iload_n 1, 1) := by decide +kernel
theorem dX11_robotOf_86 : decode cX11_robotOf 86 = .ok (.iaload, 1) := by decide +kernel
theorem dX11_robotOf_87 : decode cX11_robotOf 87 = .ok (.ifCond .lt 22, 3) := by decide +kernel
theorem dX11_robotOf_90 : decode cX11_robotOf 90 = .ok (.aload_n 0, 1) := by decide +kernel
theorem dX11_robotOf_91 : decode cX11_robotOf 91 = .ok (.getfield 69, 3) := by decide +kernel
theorem dX11_robotOf_94 : decode cX11_robotOf 94 = .ok (.aload_n 0, 1) := by decide +kernel
theorem dX11_robotOf_95 : decode cX11_robotOf 95 = .ok (.getfield 36, 3) := by decide +kernel
theorem dX11_robotOf_98 : decode cX11_robotOf 98 = .ok (.iload_n 1, 1) := by decide +kernel
theorem dX11_robotOf_99 : decode cX11_robotOf 99 = .ok (.iaload, 1) := by decide +kernel
theorem dX11_robotOf_100 : decode cX11_robotOf 100 = .ok (.iaload, 1) := by decide +kernel
theorem dX11_robotOf_101 : decode cX11_robotOf 101 = .ok (.iconst 2, 1) := by decide +kernel
theorem dX11_robotOf_102 : decode cX11_robotOf 102 = .ok (.if_icmp .ne 7, 3) := by decide +kernel
theorem dX11_robotOf_105 : decode cX11_robotOf 105 = .ok (.iconst 1, 1) := by decide +kernel
theorem dX11_robotOf_106 : decode cX11_robotOf 106 = .ok (.goto 4, 3) := by decide +kernel
theorem dX11_robotOf_109 : decode cX11_robotOf 109 = .ok (.iconst 0, 1) := by decide +kernel
theorem dX11_robotOf_110 : decode cX11_robotOf 110 = .ok (.ireturn, 1) := by decide +kernel
theorem dX11_robotOf_111 : decode cX11_robotOf 111 = .ok (.aload_n 0, 1) := by decide +kernel
theorem dX11_robotOf_112 : decode cX11_robotOf 112 = .ok (.iload_n 1, 1) := by decide +kernel
theorem dX11_robotOf_113 : decode cX11_robotOf 113 = .ok (.invokevirtual 182, 3) := by decide +kernel
theorem dX11_robotOf_116 : decode cX11_robotOf 116 = .ok (.ireturn, 1) := by decide +kernel
theorem dX11_robotOf_117 : decode cX11_robotOf 117 = .ok (.aload_n 0, 1) := by decide +kernel
theorem dX11_robotOf_118 : decode cX11_robotOf 118 = .ok (.getfield 33, 3) := by decide +kernel
theorem dX11_robotOf_121 : decode cX11_robotOf 121 = .ok (.iload_n 1, 1) := by decide +kernel
theorem dX11_robotOf_122 : decode cX11_robotOf 122 = .ok (.iaload, 1) := by decide +kernel
theorem dX11_robotOf_123 : decode cX11_robotOf 123 = .ok (.aload_n 0, 1) := by decide +kernel
theorem dX11_robotOf_124 : decode cX11_robotOf 124 = .ok (.getfield 141, 3) := by decide +kernel
theorem dX11_robotOf_127 : decode cX11_robotOf 127 = .ok (.if_icmp .le 17, 3) := by decide +kernel
theorem dX11_robotOf_130 : decode cX11_robotOf 130 = .ok (.aload_n 0, 1) := by decide +kernel
theorem dX11_robotOf_131 : decode cX11_robotOf 131 = .ok (.getfield 33, 3) := by decide +kernel
theorem dX11_robotOf_134 : decode cX11_robotOf 134 = .ok (.iload_n 1, 1) := by decide +kernel
theorem dX11_robotOf_135 : decode cX11_robotOf 135 = .ok (.iaload, 1) := by decide +kernel
theorem dX11_robotOf_136 : decode cX11_robotOf 136 = .ok (.aload_n 0, 1) := by decide +kernel
theorem dX11_robotOf_137 : decode cX11_robotOf 137 = .ok (.getfield 141, 3) := by decide +kernel
theorem dX11_robotOf_140 : decode cX11_robotOf 140 = .ok (.isub, 1) := by decide +kernel
theorem dX11_robotOf_141 : decode cX11_robotOf 141 = .ok (.goto 4, 3) := by decide +kernel
theorem dX11_robotOf_144 : decode cX11_robotOf 144 = .ok (.iconst 0, 1) := by decide +kernel
theorem dX11_robotOf_145 : decode cX11_robotOf 145 = .ok (.ireturn, 1) := by decide +kernel
theorem dX11_robotOf_146 : decode cX11_robotOf 146 = .ok (.aload_n 0, 1) := by decide +kernel
theorem dX11_robotOf_147 : decode cX11_robotOf 147 = .ok (.getfield 39, 3) := by decide +kernel
theorem dX11_robotOf_150 : decode cX11_robotOf 150 = .ok (.iload_n 1, 1) := by decide +kernel
theorem dX11_robotOf_151 : decode cX11_robotOf 151 = .ok (.iaload, 1) := by decide +kernel
theorem dX11_robotOf_152 : decode cX11_robotOf 152 = .ok (.ireturn, 1) := by decide +kernel
theorem dX11_robotOf_153 : decode cX11_robotOf 153 = .ok (.aload_n 0, 1) := by decide +kernel
theorem dX11_robotOf_154 : decode cX11_robotOf 154 = .ok (.getfield 42, 3) := by decide +kernel
theorem dX11_robotOf_157 : decode cX11_robotOf 157 = .ok (.iload_n 1, 1) := by decide +kernel
theorem dX11_robotOf_158 : decode cX11_robotOf 158 = .ok (.iaload, 1) := by decide +kernel
theorem dX11_robotOf_159 : decode cX11_robotOf 159 = .ok (.ireturn, 1) := by decide +kernel
theorem dX11_robotOf_160 : decode cX11_robotOf 160 = .ok (.aload_n 0, 1) := by decide +kernel
theorem dX11_robotOf_161 : decode cX11_robotOf 161 = .ok (.getfield 45, 3) := by decide +kernel
theorem dX11_robotOf_164 : decode cX11_robotOf 164 = .ok (.iload_n 1, 1) := by decide +kernel
theorem dX11_robotOf_165 : decode cX11_robotOf 165 = .ok (.iaload, 1) := by decide +kernel
theorem dX11_robotOf_166 : decode cX11_robotOf 166 = .ok (.ireturn, 1) := by decide +kernel
theorem dX11_robotOf_167 : decode cX11_robotOf 167 = .ok (.bipush (-2), 2) := by decide +kernel
theorem dX11_robotOf_169 : decode cX11_robotOf 169 = .ok (.ireturn, 1) := by decide +kernel
theorem dX11_ahead_0 : decode cX11_ahead 0 = .ok (.iload_n 1, 1) := by decide +kernel
theorem dX11_ahead_1 : decode cX11_ahead 1 = .ok (.iconst 0, 1) := by decide +kernel
theorem dX11_ahead_2 : decode cX11_ahead 2 = .ok (.aload_n 0, 1) := by decide +kernel
theorem dX11_ahead_3 : decode cX11_ahead 3 = .ok (.getfield 144, 3) := by decide +kernel
theorem dX11_ahead_6 : decode cX11_ahead 6 = .ok (.iconst 1, 1) := by decide +kernel
theorem dX11_ahead_7 : decode cX11_ahead 7 = .ok (.isub, 1) := by decide +kernel
theorem dX11_ahead_8 : decode cX11_ahead 8 = .ok (.invokestatic 162, 3) := by decide +kernel
theorem dX11_ahead_11 : decode cX11_ahead 11 = .ok (.ifCond .eq 7, 3) := by decide +kernel
theorem dX11_ahead_14 : decode cX11_ahead 14 = .ok (.iload_n 2, 1) := by decide +kernel
theorem dX11_ahead_15 : decode cX11_ahead 15 = .ok (.ifCond .ge 5, 3) := by decide +kernel
theorem dX11_ahead_18 : decode cX11_ahead 18 = .ok (.iconst (-1), 1) := by decide +kernel
theorem dX11_ahead_19 : decode cX11_ahead 19 = .ok (.ireturn, 1) := by decide +kernel
theorem dX11_ahead_20 : decode cX11_ahead 20 = .ok (.iload_n 2, 1) := by decide +kernel
theorem dX11_ahead_21 : decode cX11_ahead 21 = .ok (.sipush 5200, 3) := by decide +kernel
theorem dX11_ahead_24 : decode cX11_ahead 24 = .ok (.if_icmp .le 11, 3) := by decide +kernel
theorem dX11_ahead_27 : decode cX11_ahead 27 = .ok (.aload_n 0, 1) := by decide +kernel
theorem dX11_ahead_28 : decode cX11_ahead 28 = .ok (.iload_n 1, 1) := by decide +kernel
theorem dX11_ahead_29 : decode cX11_ahead 29 = .ok (.invokevirtual 182, 3) := by decide +kernel
theorem dX11_ahead_32 : decode cX11_ahead 32 = .ok (.goto 14, 3) := by decide +kernel
theorem dX11_ahead_35 : decode cX11_ahead 35 = .ok (.aload_n 0, 1) := by decide +kernel
theorem dX11_ahead_36 : decode cX11_ahead 36 = .ok (.iload_n 1, 1) := by decide +kernel
theorem dX11_ahead_37 : decode cX11_ahead 37 = .ok (.aload_n 0, 1) := by decide +kernel
theorem dX11_ahead_38 : decode cX11_ahead 38 = .ok (.getfield 141, 3) := by decide +kernel
theorem dX11_ahead_41 : decode cX11_ahead 41 = .ok (.iload_n 2, 1) := by decide +kernel
theorem dX11_ahead_42 : decode cX11_ahead 42 = .ok (.iadd, 1) := by decide +kernel
theorem dX11_ahead_43 : decode cX11_ahead 43 = .ok (.invokevirtual 166, 3) := by decide +kernel
theorem dX11_ahead_46 : decode cX11_ahead 46 = .ok (.ireturn, 1) := by decide +kernel
theorem dX11_was_0 : decode cX11_was 0 = .ok (.iload_n 1, 1) := by decide +kernel
theorem dX11_was_1 : decode cX11_was 1 = .ok (.iconst 0, 1) := by decide +kernel
theorem dX11_was_2 : decode cX11_was 2 = .ok (.aload_n 0, 1) := by decide +kernel
theorem dX11_was_3 : decode cX11_was 3 = .ok (.getfield 144, 3) := by decide +kernel
theorem dX11_was_6 : decode cX11_was 6 = .ok (.iconst 1, 1) := by decide +kernel
theorem dX11_was_7 : decode cX11_was 7 = .ok (.isub, 1) := by decide +kernel
theorem dX11_was_8 : decode cX11_was 8 = .ok (.invokestatic 162, 3) := by decide +kernel
theorem dX11_was_11 : decode cX11_was 11 = .ok (.ifCond .eq 24, 3) := by decide +kernel
theorem dX11_was_14 : decode cX11_was 14 = .ok (.iload_n 2, 1) := by decide +kernel
theorem dX11_was_15 : decode cX11_was 15 = .ok (.iconst 0, 1) := by decide +kernel
theorem dX11_was_16 : decode cX11_was 16 = .ok (.aload_n 0, 1) := by decide +kernel
theorem dX11_was_17 : decode cX11_was 17 = .ok (.getfield 141, 3) := by decide +kernel
theorem dX11_was_20 : decode cX11_was 20 = .ok (.invokestatic 162, 3) := by decide +kernel
theorem dX11_was_23 : decode cX11_was 23 = .ok (.ifCond .eq 12, 3) := by decide +kernel
theorem dX11_was_26 : decode cX11_was 26 = .ok (.aload_n 0, 1) := by decide +kernel
theorem dX11_was_27 : decode cX11_was 27 = .ok (.iload_n 1, 1) := by decide +kernel
theorem dX11_was_28 : decode cX11_was 28 = .ok (.iload_n 2, 1) := by decide +kernel
theorem dX11_was_29 : decode cX11_was 29 = .ok (.invokevirtual 166, 3) := by decide +kernel
theorem dX11_was_32 : decode cX11_was 32 = .ok (.goto 4, 3) := by decide +kernel
theorem dX11_was_35 : decode cX11_was 35 = .ok (.iconst (-1), 1) := by decide +kernel
theorem dX11_was_36 : decode cX11_was 36 = .ok (.ireturn, 1) := by decide +kernel
theorem dX11_task_0 : decode cX11_task 0 = .ok (.iload_n 1, 1) := by decide +kernel
theorem dX11_task_1 : decode cX11_task 1 = .ok (.iconst 0, 1) := by decide +kernel
theorem dX11_task_2 : decode cX11_task 2 = .ok (.aload_n 0, 1) := by decide +kernel
theorem dX11_task_3 : decode cX11_task 3 = .ok (.getfield 150, 3) := by decide +kernel
theorem dX11_task_6 : decode cX11_task 6 = .ok (.iconst 1, 1) := by decide +kernel
theorem dX11_task_7 : decode cX11_task 7 = .ok (.isub, 1) := by decide +kernel
theorem dX11_task_8 : decode cX11_task 8 = .ok (.invokestatic 162, 3) := by decide +kernel
theorem dX11_task_11 : decode cX11_task 11 = .ok (.ifCond .ne 5, 3) := by decide +kernel
theorem dX11_task_14 : decode cX11_task 14 = .ok (.iconst (-1), 1) := by decide +kernel
theorem dX11_task_15 : decode cX11_task 15 = .ok (.ireturn, 1) := by decide +kernel
theorem dX11_task_16 : decode cX11_task 16 = .ok (.iload_n 2, 1) := by decide +kernel
theorem dX11_task_17 : decode cX11_task 17 = .ok (.tableswitch 119 0 8 #[51, 58, 65, 77, 84, 91, 98, 105, 112], 51) := by decide +kernel
theorem dX11_task_68 : decode cX11_task 68 = .ok (.aload_n 0, 1) := by decide +kernel
theorem dX11_task_69 : decode cX11_task 69 = .ok (.getfield 63, 3) := by decide +kernel
theorem dX11_task_72 : decode cX11_task 72 = .ok (.iload_n 1, 1) := by decide +kernel
theorem dX11_task_73 : decode cX11_task 73 = .ok (.iaload, 1) := by decide +kernel
theorem dX11_task_74 : decode cX11_task 74 = .ok (.ireturn, 1) := by decide +kernel
theorem dX11_task_75 : decode cX11_task 75 = .ok (.aload_n 0, 1) := by decide +kernel
theorem dX11_task_76 : decode cX11_task 76 = .ok (.getfield 66, 3) := by decide +kernel
theorem dX11_task_79 : decode cX11_task 79 = .ok (.iload_n 1, 1) := by decide +kernel
theorem dX11_task_80 : decode cX11_task 80 = .ok (.iaload, 1) := by decide +kernel
theorem dX11_task_81 : decode cX11_task 81 = .ok (.ireturn, 1) := by decide +kernel
theorem dX11_task_82 : decode cX11_task 82 = .ok (.aload_n 0, 1) := by decide +kernel
theorem dX11_task_83 : decode cX11_task 83 = .ok (.getfield 48, 3) := by decide +kernel
theorem dX11_task_86 : decode cX11_task 86 = .ok (.aload_n 0, 1) := by decide +kernel
theorem dX11_task_87 : decode cX11_task 87 = .ok (.getfield 63, 3) := by decide +kernel
theorem dX11_task_90 : decode cX11_task 90 = .ok (.iload_n 1, 1) := by decide +kernel
theorem dX11_task_91 : decode cX11_task 91 = .ok (.iaload, 1) := by decide +kernel
theorem dX11_task_92 : decode cX11_task 92 = .ok (.iaload, 1) := by decide +kernel
theorem dX11_task_93 : decode cX11_task 93 = .ok (.ireturn, 1) := by decide +kernel
theorem dX11_task_94 : decode cX11_task 94 = .ok (.aload_n 0, 1) := by decide +kernel
theorem dX11_task_95 : decode cX11_task 95 = .ok (.getfield 69, 3) := by decide +kernel
theorem dX11_task_98 : decode cX11_task 98 = .ok (.iload_n 1, 1) := by decide +kernel
theorem dX11_task_99 : decode cX11_task 99 = .ok (.iaload, 1) := by decide +kernel
theorem dX11_task_100 : decode cX11_task 100 = .ok (.ireturn, 1) := by decide +kernel
theorem dX11_task_101 : decode cX11_task 101 = .ok (.aload_n 0, 1) := by decide +kernel
theorem dX11_task_102 : decode cX11_task 102 = .ok (.getfield 72, 3) := by decide +kernel
theorem dX11_task_105 : decode cX11_task 105 = .ok (.iload_n 1, 1) := by decide +kernel
theorem dX11_task_106 : decode cX11_task 106 = .ok (.iaload, 1) := by decide +kernel
theorem dX11_task_107 : decode cX11_task 107 = .ok (.ireturn, 1) := by decide +kernel
theorem dX11_task_108 : decode cX11_task 108 = .ok (.aload_n 0, 1) := by decide +kernel
theorem dX11_task_109 : decode cX11_task 109 = .ok (.getfield 75, 3) := by decide +kernel
theorem dX11_task_112 : decode cX11_task 112 = .ok (.iload_n 1, 1) := by decide +kernel
theorem dX11_task_113 : decode cX11_task 113 = .ok (.iaload, 1) := by decide +kernel
theorem dX11_task_114 : decode cX11_task 114 = .ok (.ireturn, 1) := by decide +kernel
theorem dX11_task_115 : decode cX11_task 115 = .ok (.aload_n 0, 1) := by decide +kernel
theorem dX11_task_116 : decode cX11_task 116 = .ok (.getfield 78, 3) := by decide +kernel
theorem dX11_task_119 : decode cX11_task 119 = .ok (.iload_n 1, 1) := by decide +kernel
theorem dX11_task_120 : decode cX11_task 120 = .ok (.iaload, 1) := by decide +kernel
theorem dX11_task_121 : decode cX11_task 121 = .ok (.ireturn, 1) := by decide +kernel
theorem dX11_task_122 : decode cX11_task 122 = .ok (.aload_n 0, 1) := by decide +kernel
theorem dX11_task_123 : decode cX11_task 123 = .ok (.getfield 81, 3) := by decide +kernel
theorem dX11_task_126 : decode cX11_task 126 = .ok (.iload_n 1, 1) := by decide +kernel
theorem dX11_task_127 : decode cX11_task 127 = .ok (.iaload, 1) := by decide +kernel
theorem dX11_task_128 : decode cX11_task 128 = .ok (.ireturn, 1) := by decide +kernel
theorem dX11_task_129 : decode cX11_task 129 = .ok (.aload_n 0, 1) := by decide +kernel
theorem dX11_task_130 : decode cX11_task 130 = .ok (.getfield 84, 3) := by decide +kernel
theorem dX11_task_133 : decode cX11_task 133 = .ok (.iload_n 1, 1) := by decide +kernel
theorem dX11_task_134 : decode cX11_task 134 = .ok (.iaload, 1) := by decide +kernel
theorem dX11_task_135 : decode cX11_task 135 = .ok (.ireturn, 1) := by decide +kernel
theorem dX11_task_136 : decode cX11_task 136 = .ok (.bipush (-2), 2) := by decide +kernel
theorem dX11_task_138 : decode cX11_task 138 = .ok (.ireturn, 1) := by decide +kernel
theorem dX11_orderOf_0 : decode cX11_orderOf 0 = .ok (.iload_n 1, 1) := by decide +kernel
theorem dX11_orderOf_1 : decode cX11_orderOf 1 = .ok (.iconst 0, 1) := by decide +kernel
theorem dX11_orderOf_2 : decode cX11_orderOf 2 = .ok (.aload_n 0, 1) := by decide +kernel
theorem dX11_orderOf_3 : decode cX11_orderOf 3 = .ok (.getfield 147, 3) := by decide +kernel
theorem dX11_orderOf_6 : decode cX11_orderOf 6 = .ok (.iconst 1, 1) := by decide +kernel
theorem dX11_orderOf_7 : decode cX11_orderOf 7 = .ok (.isub, 1) := by decide +kernel
theorem dX11_orderOf_8 : decode cX11_orderOf 8 = .ok (.invokestatic 162, 3) := by decide +kernel
theorem dX11_orderOf_11 : decode cX11_orderOf 11 = .ok (.ifCond .ne 5, 3) := by decide +kernel
theorem dX11_orderOf_14 : decode cX11_orderOf 14 = .ok (.iconst (-1), 1) := by decide +kernel
theorem dX11_orderOf_15 : decode cX11_orderOf 15 = .ok (.ireturn, 1) := by decide +kernel
theorem dX11_orderOf_16 : decode cX11_orderOf 16 = .ok (.iload_n 2, 1) := by decide +kernel
theorem dX11_orderOf_17 : decode cX11_orderOf 17 = .ok (.tableswitch 88 0 5 #[39, 46, 53, 60, 74, 81], 39) := by decide +kernel
theorem dX11_orderOf_56 : decode cX11_orderOf 56 = .ok (.aload_n 0, 1) := by decide +kernel
theorem dX11_orderOf_57 : decode cX11_orderOf 57 = .ok (.getfield 48, 3) := by decide +kernel
theorem dX11_orderOf_60 : decode cX11_orderOf 60 = .ok (.iload_n 1, 1) := by decide +kernel
theorem dX11_orderOf_61 : decode cX11_orderOf 61 = .ok (.iaload, 1) := by decide +kernel
theorem dX11_orderOf_62 : decode cX11_orderOf 62 = .ok (.ireturn, 1) := by decide +kernel
theorem dX11_orderOf_63 : decode cX11_orderOf 63 = .ok (.aload_n 0, 1) := by decide +kernel
theorem dX11_orderOf_64 : decode cX11_orderOf 64 = .ok (.getfield 51, 3) := by decide +kernel
theorem dX11_orderOf_67 : decode cX11_orderOf 67 = .ok (.iload_n 1, 1) := by decide +kernel
theorem dX11_orderOf_68 : decode cX11_orderOf 68 = .ok (.iaload, 1) := by decide +kernel
theorem dX11_orderOf_69 : decode cX11_orderOf 69 = .ok (.ireturn, 1) := by decide +kernel
theorem dX11_orderOf_70 : decode cX11_orderOf 70 = .ok (.aload_n 0, 1) := by decide +kernel
theorem dX11_orderOf_71 : decode cX11_orderOf 71 = .ok (.getfield 54, 3) := by decide +kernel
theorem dX11_orderOf_74 : decode cX11_orderOf 74 = .ok (.iload_n 1, 1) := by decide +kernel
theorem dX11_orderOf_75 : decode cX11_orderOf 75 = .ok (.iaload, 1) := by decide +kernel
theorem dX11_orderOf_76 : decode cX11_orderOf 76 = .ok (.ireturn, 1) := by decide +kernel
theorem dX11_orderOf_77 : decode cX11_orderOf 77 = .ok (.aload_n 0, 1) := by decide +kernel
theorem dX11_orderOf_78 : decode cX11_orderOf 78 = .ok (.iload_n 1, 1) := by decide +kernel
theorem dX11_orderOf_79 : decode cX11_orderOf 79 = .ok (.invokevirtual 176, 3) := by decide +kernel
theorem dX11_orderOf_82 : decode cX11_orderOf 82 = .ok (.ifCond .eq 7, 3) := by decide +kernel
theorem dX11_orderOf_85 : decode cX11_orderOf 85 = .ok (.iconst 1, 1) := by decide +kernel
theorem dX11_orderOf_86 : decode cX11_orderOf 86 = .ok (.goto 4, 3) := by decide +kernel
theorem dX11_orderOf_89 : decode cX11_orderOf 89 = .ok (.iconst 0, 1) := by decide +kernel
theorem dX11_orderOf_90 : decode cX11_orderOf 90 = .ok (.ireturn, 1) := by decide +kernel
theorem dX11_orderOf_91 : decode cX11_orderOf 91 = .ok (.aload_n 0, 1) := by decide +kernel
theorem dX11_orderOf_92 : decode cX11_orderOf 92 = .ok (.getfield 57, 3) := by decide +kernel
theorem dX11_orderOf_95 : decode cX11_orderOf 95 = .ok (.iload_n 1, 1) := by decide +kernel
theorem dX11_orderOf_96 : decode cX11_orderOf 96 = .ok (.iaload, 1) := by decide +kernel
theorem dX11_orderOf_97 : decode cX11_orderOf 97 = .ok (.ireturn, 1) := by decide +kernel
theorem dX11_orderOf_98 : decode cX11_orderOf 98 = .ok (.aload_n 0, 1) := by decide +kernel
theorem dX11_orderOf_99 : decode cX11_orderOf 99 = .ok (.getfield 60, 3) := by decide +kernel
theorem dX11_orderOf_102 : decode cX11_orderOf 102 = .ok (.iload_n 1, 1) := by decide +kernel
theorem dX11_orderOf_103 : decode cX11_orderOf 103 = .ok (.iaload, 1) := by decide +kernel
theorem dX11_orderOf_104 : decode cX11_orderOf 104 = .ok (.ireturn, 1) := by decide +kernel
theorem dX11_orderOf_105 : decode cX11_orderOf 105 = .ok (.bipush (-2), 2) := by decide +kernel
theorem dX11_orderOf_107 : decode cX11_orderOf 107 = .ok (.ireturn, 1) := by decide +kernel
theorem dX11_pending_0 : decode cX11_pending 0 = .ok (.iconst 0, 1) := by decide +kernel
theorem dX11_pending_1 : decode cX11_pending 1 = .ok (.istore_n 1, 1) := by decide +kernel
theorem dX11_pending_2 : decode cX11_pending 2 = .ok (.iconst 0, 1) := by decide +kernel
theorem dX11_pending_3 : decode cX11_pending 3 = .ok (.istore_n 2, 1) := by decide +kernel
theorem dX11_pending_4 : decode cX11_pending 4 = .ok (.iload_n 2, 1) := by decide +kernel
theorem dX11_pending_5 : decode cX11_pending 5 = .ok (.aload_n 0, 1) := by decide +kernel
theorem dX11_pending_6 : decode cX11_pending 6 = .ok (.getfield 150, 3) := by decide +kernel
theorem dX11_pending_9 : decode cX11_pending 9 = .ok (.if_icmp .ge 26, 3) := by decide +kernel
theorem dX11_pending_12 : decode cX11_pending 12 = .ok (.aload_n 0, 1) := by decide +kernel
theorem dX11_pending_13 : decode cX11_pending 13 = .ok (.getfield 69, 3) := by decide +kernel
theorem dX11_pending_16 : decode cX11_pending 16 = .ok (.iload_n 2, 1) := by decide +kernel
theorem dX11_pending_17 : decode cX11_pending 17 = .ok (.iaload, 1) := by decide +kernel
theorem dX11_pending_18 : decode cX11_pending 18 = .ok (.ifCond .ne 9, 3) := by decide +kernel
theorem dX11_pending_21 : decode cX11_pending 21 = .ok (.iload_n 1, 1) := by decide +kernel
theorem dX11_pending_22 : decode cX11_pending 22 = .ok (.iconst 1, 1) := by decide +kernel
theorem dX11_pending_23 : decode cX11_pending 23 = .ok (.iadd, 1) := by decide +kernel
theorem dX11_pending_24 : decode cX11_pending 24 = .ok (.goto 4, 3) := by decide +kernel
theorem dX11_pending_27 : decode cX11_pending 27 = .ok (.iload_n 1, 1) := by decide +kernel
theorem dX11_pending_28 : decode cX11_pending 28 = .ok (.istore_n 1, 1) := by decide +kernel
theorem dX11_pending_29 : decode cX11_pending 29 = .ok (.iinc 2 1, 3) := by decide +kernel
theorem dX11_pending_32 : decode cX11_pending 32 = .ok (.goto (-28), 3) := by decide +kernel
theorem dX11_pending_35 : decode cX11_pending 35 = .ok (.iload_n 1, 1) := by decide +kernel
theorem dX11_pending_36 : decode cX11_pending 36 = .ok (.ireturn, 1) := by decide +kernel
theorem dX11_allMoves_0 : decode cX11_allMoves 0 = .ok (.iconst 0, 1) := by decide +kernel
theorem dX11_allMoves_1 : decode cX11_allMoves 1 = .ok (.istore_n 1, 1) := by decide +kernel
theorem dX11_allMoves_2 : decode cX11_allMoves 2 = .ok (.iconst 0, 1) := by decide +kernel
theorem dX11_allMoves_3 : decode cX11_allMoves 3 = .ok (.istore_n 2, 1) := by decide +kernel
theorem dX11_allMoves_4 : decode cX11_allMoves 4 = .ok (.iload_n 2, 1) := by decide +kernel
theorem dX11_allMoves_5 : decode cX11_allMoves 5 = .ok (.aload_n 0, 1) := by decide +kernel
theorem dX11_allMoves_6 : decode cX11_allMoves 6 = .ok (.getfield 144, 3) := by decide +kernel
theorem dX11_allMoves_9 : decode cX11_allMoves 9 = .ok (.if_icmp .ge 18, 3) := by decide +kernel
theorem dX11_allMoves_12 : decode cX11_allMoves 12 = .ok (.iload_n 1, 1) := by decide +kernel
theorem dX11_allMoves_13 : decode cX11_allMoves 13 = .ok (.aload_n 0, 1) := by decide +kernel
theorem dX11_allMoves_14 : decode cX11_allMoves 14 = .ok (.getfield 39, 3) := by decide +kernel
theorem dX11_allMoves_17 : decode cX11_allMoves 17 = .ok (.iload_n 2, 1) := by decide +kernel
theorem dX11_allMoves_18 : decode cX11_allMoves 18 = .ok (.iaload, 1) := by decide +kernel
theorem dX11_allMoves_19 : decode cX11_allMoves 19 = .ok (.iadd, 1) := by decide +kernel
theorem dX11_allMoves_20 : decode cX11_allMoves 20 = .ok (.istore_n 1, 1) := by decide +kernel
theorem dX11_allMoves_21 : decode cX11_allMoves 21 = .ok (.iinc 2 1, 3) := by decide +kernel
theorem dX11_allMoves_24 : decode cX11_allMoves 24 = .ok (.goto (-20), 3) := by decide +kernel
theorem dX11_allMoves_27 : decode cX11_allMoves 27 = .ok (.iload_n 1, 1) := by decide +kernel
theorem dX11_allMoves_28 : decode cX11_allMoves 28 = .ok (.ireturn, 1) := by decide +kernel
theorem dX11_count_0 : decode cX11_count 0 = .ok (.iload_n 1, 1) := by decide +kernel
theorem dX11_count_1 : decode cX11_count 1 = .ok (.tableswitch 114 0 10 #[59, 64, 69, 74, 79, 84, 89, 94, 99, 104, 109], 59) := by decide +kernel
theorem dX11_count_60 : decode cX11_count 60 = .ok (.aload_n 0, 1) := by decide +kernel
theorem dX11_count_61 : decode cX11_count 61 = .ok (.getfield 132, 3) := by decide +kernel
theorem dX11_count_64 : decode cX11_count 64 = .ok (.ireturn, 1) := by decide +kernel
theorem dX11_count_65 : decode cX11_count 65 = .ok (.aload_n 0, 1) := by decide +kernel
theorem dX11_count_66 : decode cX11_count 66 = .ok (.getfield 144, 3) := by decide +kernel
theorem dX11_count_69 : decode cX11_count 69 = .ok (.ireturn, 1) := by decide +kernel
theorem dX11_count_70 : decode cX11_count 70 = .ok (.aload_n 0, 1) := by decide +kernel
theorem dX11_count_71 : decode cX11_count 71 = .ok (.getfield 147, 3) := by decide +kernel
theorem dX11_count_74 : decode cX11_count 74 = .ok (.ireturn, 1) := by decide +kernel
theorem dX11_count_75 : decode cX11_count 75 = .ok (.aload_n 0, 1) := by decide +kernel
theorem dX11_count_76 : decode cX11_count 76 = .ok (.invokevirtual 240, 3) := by decide +kernel
theorem dX11_count_79 : decode cX11_count 79 = .ok (.ireturn, 1) := by decide +kernel
theorem dX11_count_80 : decode cX11_count 80 = .ok (.aload_n 0, 1) := by decide +kernel
theorem dX11_count_81 : decode cX11_count 81 = .ok (.getfield 150, 3) := by decide +kernel
theorem dX11_count_84 : decode cX11_count 84 = .ok (.ireturn, 1) := by decide +kernel
theorem dX11_count_85 : decode cX11_count 85 = .ok (.aload_n 0, 1) := by decide +kernel
theorem dX11_count_86 : decode cX11_count 86 = .ok (.invokevirtual 243, 3) := by decide +kernel
theorem dX11_count_89 : decode cX11_count 89 = .ok (.ireturn, 1) := by decide +kernel
theorem dX11_count_90 : decode cX11_count 90 = .ok (.aload_n 0, 1) := by decide +kernel
theorem dX11_count_91 : decode cX11_count 91 = .ok (.getfield 141, 3) := by decide +kernel
theorem dX11_count_94 : decode cX11_count 94 = .ok (.ireturn, 1) := by decide +kernel
theorem dX11_count_95 : decode cX11_count 95 = .ok (.aload_n 0, 1) := by decide +kernel
theorem dX11_count_96 : decode cX11_count 96 = .ok (.getfield 153, 3) := by decide +kernel
theorem dX11_count_99 : decode cX11_count 99 = .ok (.ireturn, 1) := by decide +kernel
theorem dX11_count_100 : decode cX11_count 100 = .ok (.aload_n 0, 1) := by decide +kernel
theorem dX11_count_101 : decode cX11_count 101 = .ok (.getfield 156, 3) := by decide +kernel
theorem dX11_count_104 : decode cX11_count 104 = .ok (.ireturn, 1) := by decide +kernel
theorem dX11_count_105 : decode cX11_count 105 = .ok (.aload_n 0, 1) := by decide +kernel
theorem dX11_count_106 : decode cX11_count 106 = .ok (.getfield 159, 3) := by decide +kernel
theorem dX11_count_109 : decode cX11_count 109 = .ok (.ireturn, 1) := by decide +kernel
theorem dX11_count_110 : decode cX11_count 110 = .ok (.aload_n 0, 1) := by decide +kernel
theorem dX11_count_111 : decode cX11_count 111 = .ok (.invokevirtual 246, 3) := by decide +kernel
theorem dX11_count_114 : decode cX11_count 114 = .ok (.ireturn, 1) := by decide +kernel
theorem dX11_count_115 : decode cX11_count 115 = .ok (.bipush (-2), 2) := by decide +kernel
theorem dX11_count_117 : decode cX11_count 117 = .ok (.ireturn, 1) := by decide +kernel
