theorem dX11_trace_50 : decode cX11_trace 50 = .ok (.aload_n 0, 1) := by decide +kernel
theorem dX11_trace_51 : decode cX11_trace 51 = .ok (.getfield 135, 3) := by decide +kernel
theorem dX11_trace_54 : decode cX11_trace 54 = .ok (.aload_n 0, 1) := by decide +kernel
theorem dX11_trace_55 : decode cX11_trace 55 = .ok (.getfield 132, 3) := by decide +kernel
theorem dX11_trace_58 : decode cX11_trace 58 = .ok (.invokestatic 113, 3) := by decide +kernel
theorem dX11_trace_61 : decode cX11_trace 61 = .ok (.istore 8, 2) := by decide +kernel
theorem dX11_trace_63 : decode cX11_trace 63 = .ok (.iload 6, 2) := by decide +kernel
theorem dX11_trace_65 : decode cX11_trace 65 = .ok (.ifCond .ne 55, 3) := by decide +kernel
theorem dX11_trace_68 : decode cX11_trace 68 = .ok (.aload_n 0, 1) := by decide +kernel
theorem dX11_trace_69 : decode cX11_trace 69 = .ok (.iload_n 1, 1) := by decide +kernel
theorem dX11_trace_70 : decode cX11_trace 70 = .ok (.iload 5, 2) := by decide +kernel
theorem dX11_trace_72 : decode cX11_trace 72 = .ok (.iload 8, 2) := by decide +kernel
theorem dX11_trace_74 : decode cX11_trace 74 = .ok (.aload_n 0, 1) := by decide +kernel
theorem dX11_trace_75 : decode cX11_trace 75 = .ok (.getfield 141, 3) := by decide +kernel
theorem dX11_trace_78 : decode cX11_trace 78 = .ok (.iload_n 2, 1) := by decide +kernel
theorem dX11_trace_79 : decode cX11_trace 79 = .ok (.iadd, 1) := by decide +kernel
theorem dX11_trace_80 : decode cX11_trace 80 = .ok (.invokevirtual 185, 3) := by decide +kernel
theorem dX11_trace_83 : decode cX11_trace 83 = .ok (.ifCond .eq 41, 3) := by decide +kernel
theorem dX11_trace_86 : decode cX11_trace 86 = .ok (.aload_n 0, 1) := by decide +kernel
theorem dX11_trace_87 : decode cX11_trace 87 = .ok (.getfield 91, 3) := by decide +kernel
theorem dX11_trace_90 : decode cX11_trace 90 = .ok (.iload_n 2, 1) := by decide +kernel
theorem dX11_trace_91 : decode cX11_trace 91 = .ok (.iconst 1, 1) := by decide +kernel
theorem dX11_trace_92 : decode cX11_trace 92 = .ok (.iadd, 1) := by decide +kernel
theorem dX11_trace_93 : decode cX11_trace 93 = .ok (.iload 4, 2) := by decide +kernel
theorem dX11_trace_95 : decode cX11_trace 95 = .ok (.bipush 80, 2) := by decide +kernel
theorem dX11_trace_97 : decode cX11_trace 97 = .ok (.if_icmp .ge 9, 3) := by decide +kernel
theorem dX11_trace_100 : decode cX11_trace 100 = .ok (.iload 8, 2) := by decide +kernel
theorem dX11_trace_102 : decode cX11_trace 102 = .ok (.iload_n 3, 1) := by decide +kernel
theorem dX11_trace_103 : decode cX11_trace 103 = .ok (.if_icmp .ne 7, 3) := by decide +kernel
theorem dX11_trace_106 : decode cX11_trace 106 = .ok (.iconst 1, 1) := by decide +kernel
theorem dX11_trace_107 : decode cX11_trace 107 = .ok (.goto 4, 3) := by decide +kernel
theorem dX11_trace_110 : decode cX11_trace 110 = .ok (.iconst 0, 1) := by decide +kernel
theorem dX11_trace_111 : decode cX11_trace 111 = .ok (.iload 8, 2) := by decide +kernel
theorem dX11_trace_113 : decode cX11_trace 113 = .ok (.invokestatic 189, 3) := by decide +kernel
theorem dX11_trace_116 : decode cX11_trace 116 = .ok (.baload, 1) := by decide +kernel
theorem dX11_trace_117 : decode cX11_trace 117 = .ok (.ifCond .eq 7, 3) := by decide +kernel
theorem dX11_trace_120 : decode cX11_trace 120 = .ok (.iconst 1, 1) := by decide +kernel
theorem dX11_trace_121 : decode cX11_trace 121 = .ok (.goto 4, 3) := by decide +kernel
theorem dX11_trace_124 : decode cX11_trace 124 = .ok (.iconst 0, 1) := by decide +kernel
theorem dX11_trace_125 : decode cX11_trace 125 = .ok (.istore 6, 2) := by decide +kernel
theorem dX11_trace_127 : decode cX11_trace 127 = .ok (.iinc 7 1, 3) := by decide +kernel
theorem dX11_trace_130 : decode cX11_trace 130 = .ok (.goto (-106), 3) := by decide +kernel
theorem dX11_trace_133 : decode cX11_trace 133 = .ok (.aload_n 0, 1) := by decide +kernel
theorem dX11_trace_134 : decode cX11_trace 134 = .ok (.getfield 91, 3) := by decide +kernel
theorem dX11_trace_137 : decode cX11_trace 137 = .ok (.sipush 160, 3) := by decide +kernel
theorem dX11_trace_140 : decode cX11_trace 140 = .ok (.iload_n 2, 1) := by decide +kernel
theorem dX11_trace_141 : decode cX11_trace 141 = .ok (.imul, 1) := by decide +kernel
theorem dX11_trace_142 : decode cX11_trace 142 = .ok (.iload 4, 2) := by decide +kernel
theorem dX11_trace_144 : decode cX11_trace 144 = .ok (.iadd, 1) := by decide +kernel
theorem dX11_trace_145 : decode cX11_trace 145 = .ok (.iload 6, 2) := by decide +kernel
theorem dX11_trace_147 : decode cX11_trace 147 = .ok (.bastore, 1) := by decide +kernel
theorem dX11_trace_148 : decode cX11_trace 148 = .ok (.iinc 4 1, 3) := by decide +kernel
theorem dX11_trace_151 : decode cX11_trace 151 = .ok (.goto (-148), 3) := by decide +kernel
theorem dX11_trace_154 : decode cX11_trace 154 = .ok (.return_, 1) := by decide +kernel
theorem dX11_findWay_0 : decode cX11_findWay 0 = .ok (.aload_n 0, 1) := by decide +kernel
theorem dX11_findWay_1 : decode cX11_findWay 1 = .ok (.iload_n 1, 1) := by decide +kernel
theorem dX11_findWay_2 : decode cX11_findWay 2 = .ok (.aload_n 0, 1) := by decide +kernel
theorem dX11_findWay_3 : decode cX11_findWay 3 = .ok (.getfield 141, 3) := by decide +kernel
theorem dX11_findWay_6 : decode cX11_findWay 6 = .ok (.invokevirtual 166, 3) := by decide +kernel
theorem dX11_findWay_9 : decode cX11_findWay 9 = .ok (.istore 4, 2) := by decide +kernel
theorem dX11_findWay_11 : decode cX11_findWay 11 = .ok (.aload_n 0, 1) := by decide +kernel
theorem dX11_findWay_12 : decode cX11_findWay 12 = .ok (.iload_n 1, 1) := by decide +kernel
theorem dX11_findWay_13 : decode cX11_findWay 13 = .ok (.iload_n 3, 1) := by decide +kernel
theorem dX11_findWay_14 : decode cX11_findWay 14 = .ok (.invokevirtual 193, 3) := by decide +kernel
theorem dX11_findWay_17 : decode cX11_findWay 17 = .ok (.istore 5, 2) := by decide +kernel
theorem dX11_findWay_19 : decode cX11_findWay 19 = .ok (.iload_n 2, 1) := by decide +kernel
theorem dX11_findWay_20 : decode cX11_findWay 20 = .ok (.ifCond .lt 9, 3) := by decide +kernel
theorem dX11_findWay_23 : decode cX11_findWay 23 = .ok (.iload 4, 2) := by decide +kernel
theorem dX11_findWay_25 : decode cX11_findWay 25 = .ok (.iload_n 2, 1) := by decide +kernel
theorem dX11_findWay_26 : decode cX11_findWay 26 = .ok (.if_icmp .ne 7, 3) := by decide +kernel
theorem dX11_findWay_29 : decode cX11_findWay 29 = .ok (.iconst 1, 1) := by decide +kernel
theorem dX11_findWay_30 : decode cX11_findWay 30 = .ok (.goto 4, 3) := by decide +kernel
theorem dX11_findWay_33 : decode cX11_findWay 33 = .ok (.iconst 0, 1) := by decide +kernel
theorem dX11_findWay_34 : decode cX11_findWay 34 = .ok (.istore 6, 2) := by decide +kernel
theorem dX11_findWay_36 : decode cX11_findWay 36 = .ok (.iconst 0, 1) := by decide +kernel
theorem dX11_findWay_37 : decode cX11_findWay 37 = .ok (.istore 7, 2) := by decide +kernel
theorem dX11_findWay_39 : decode cX11_findWay 39 = .ok (.iload 7, 2) := by decide +kernel
theorem dX11_findWay_41 : decode cX11_findWay 41 = .ok (.sipush 160, 3) := by decide +kernel
theorem dX11_findWay_44 : decode cX11_findWay 44 = .ok (.if_icmp .ge 34, 3) := by decide +kernel
theorem dX11_findWay_47 : decode cX11_findWay 47 = .ok (.aload_n 0, 1) := by decide +kernel
theorem dX11_findWay_48 : decode cX11_findWay 48 = .ok (.getfield 88, 3) := by decide +kernel
theorem dX11_findWay_51 : decode cX11_findWay 51 = .ok (.iload 7, 2) := by decide +kernel
theorem dX11_findWay_53 : decode cX11_findWay 53 = .ok (.iload 7, 2) := by decide +kernel
theorem dX11_findWay_55 : decode cX11_findWay 55 = .ok (.iconst 0, 1) := by decide +kernel
theorem dX11_findWay_56 : decode cX11_findWay 56 = .ok (.iload 6, 2) := by decide +kernel
theorem dX11_findWay_58 : decode cX11_findWay 58 = .ok (.iload 4, 2) := by decide +kernel
theorem dX11_findWay_60 : decode cX11_findWay 60 = .ok (.invokestatic 189, 3) := by decide +kernel
theorem dX11_findWay_63 : decode cX11_findWay 63 = .ok (.if_icmp .ne 7, 3) := by decide +kernel
theorem dX11_findWay_66 : decode cX11_findWay 66 = .ok (.iconst 1, 1) := by decide +kernel
theorem dX11_findWay_67 : decode cX11_findWay 67 = .ok (.goto 4, 3) := by decide +kernel
theorem dX11_findWay_70 : decode cX11_findWay 70 = .ok (.iconst 0, 1) := by decide +kernel
theorem dX11_findWay_71 : decode cX11_findWay 71 = .ok (.bastore, 1) := by decide +kernel
theorem dX11_findWay_72 : decode cX11_findWay 72 = .ok (.iinc 7 1, 3) := by decide +kernel
theorem dX11_findWay_75 : decode cX11_findWay 75 = .ok (.goto (-36), 3) := by decide +kernel
theorem dX11_findWay_78 : decode cX11_findWay 78 = .ok (.iconst 0, 1) := by decide +kernel
theorem dX11_findWay_79 : decode cX11_findWay 79 = .ok (.istore 7, 2) := by decide +kernel
theorem dX11_findWay_81 : decode cX11_findWay 81 = .ok (.iload 7, 2) := by decide +kernel
theorem dX11_findWay_83 : decode cX11_findWay 83 = .ok (.sipush 1000, 3) := by decide +kernel
theorem dX11_findWay_86 : decode cX11_findWay 86 = .ok (.if_icmp .ge 44, 3) := by decide +kernel
theorem dX11_findWay_89 : decode cX11_findWay 89 = .ok (.aload_n 0, 1) := by decide +kernel
theorem dX11_findWay_90 : decode cX11_findWay 90 = .ok (.getfield 88, 3) := by decide +kernel
theorem dX11_findWay_93 : decode cX11_findWay 93 = .ok (.iload 7, 2) := by decide +kernel
theorem dX11_findWay_95 : decode cX11_findWay 95 = .ok (.iconst 1, 1) := by decide +kernel
theorem dX11_findWay_96 : decode cX11_findWay 96 = .ok (.iload_n 3, 1) := by decide +kernel
theorem dX11_findWay_97 : decode cX11_findWay 97 = .ok (.invokestatic 189, 3) := by decide +kernel
theorem dX11_findWay_100 : decode cX11_findWay 100 = .ok (.baload, 1) := by decide +kernel
theorem dX11_findWay_101 : decode cX11_findWay 101 = .ok (.ifCond .eq 15, 3) := by decide +kernel
theorem dX11_findWay_104 : decode cX11_findWay 104 = .ok (.aload_n 0, 1) := by decide +kernel
theorem dX11_findWay_105 : decode cX11_findWay 105 = .ok (.getfield 141, 3) := by decide +kernel
theorem dX11_findWay_108 : decode cX11_findWay 108 = .ok (.iload 7, 2) := by decide +kernel
theorem dX11_findWay_110 : decode cX11_findWay 110 = .ok (.iadd, 1) := by decide +kernel
theorem dX11_findWay_111 : decode cX11_findWay 111 = .ok (.iload 5, 2) := by decide +kernel
theorem dX11_findWay_113 : decode cX11_findWay 113 = .ok (.if_icmp .gt 17, 3) := by decide +kernel
theorem dX11_findWay_116 : decode cX11_findWay 116 = .ok (.aload_n 0, 1) := by decide +kernel
theorem dX11_findWay_117 : decode cX11_findWay 117 = .ok (.iload_n 1, 1) := by decide +kernel
theorem dX11_findWay_118 : decode cX11_findWay 118 = .ok (.iload 7, 2) := by decide +kernel
theorem dX11_findWay_120 : decode cX11_findWay 120 = .ok (.iload_n 2, 1) := by decide +kernel
theorem dX11_findWay_121 : decode cX11_findWay 121 = .ok (.invokevirtual 196, 3) := by decide +kernel
theorem dX11_findWay_124 : decode cX11_findWay 124 = .ok (.iinc 7 1, 3) := by decide +kernel
theorem dX11_findWay_127 : decode cX11_findWay 127 = .ok (.goto (-46), 3) := by decide +kernel
theorem dX11_findWay_130 : decode cX11_findWay 130 = .ok (.iload 7, 2) := by decide +kernel
theorem dX11_findWay_132 : decode cX11_findWay 132 = .ok (.sipush 1000, 3) := by decide +kernel
theorem dX11_findWay_135 : decode cX11_findWay 135 = .ok (.if_icmp .ne 4, 3) := by decide +kernel
theorem dX11_findWay_138 : decode cX11_findWay 138 = .ok (.return_, 1) := by decide +kernel
theorem dX11_findWay_139 : decode cX11_findWay 139 = .ok (.iconst 0, 1) := by decide +kernel
theorem dX11_findWay_140 : decode cX11_findWay 140 = .ok (.istore 8, 2) := by decide +kernel
theorem dX11_findWay_142 : decode cX11_findWay 142 = .ok (.iload 8, 2) := by decide +kernel
theorem dX11_findWay_144 : decode cX11_findWay 144 = .ok (.sipush 160, 3) := by decide +kernel
theorem dX11_findWay_147 : decode cX11_findWay 147 = .ok (.if_icmp .ge 37, 3) := by decide +kernel
theorem dX11_findWay_150 : decode cX11_findWay 150 = .ok (.aload_n 0, 1) := by decide +kernel
theorem dX11_findWay_151 : decode cX11_findWay 151 = .ok (.getfield 91, 3) := by decide +kernel
theorem dX11_findWay_154 : decode cX11_findWay 154 = .ok (.sipush 160, 3) := by decide +kernel
theorem dX11_findWay_157 : decode cX11_findWay 157 = .ok (.iload 7, 2) := by decide +kernel
theorem dX11_findWay_159 : decode cX11_findWay 159 = .ok (.imul, 1) := by decide +kernel
theorem dX11_findWay_160 : decode cX11_findWay 160 = .ok (.iload 8, 2) := by decide +kernel
theorem dX11_findWay_162 : decode cX11_findWay 162 = .ok (.iadd, 1) := by decide +kernel
theorem dX11_findWay_163 : decode cX11_findWay 163 = .ok (.iload 8, 2) := by decide +kernel
theorem dX11_findWay_165 : decode cX11_findWay 165 = .ok (.bipush 80, 2) := by decide +kernel
theorem dX11_findWay_167 : decode cX11_findWay 167 = .ok (.iload_n 3, 1) := by decide +kernel
theorem dX11_findWay_168 : decode cX11_findWay 168 = .ok (.iadd, 1) := by decide +kernel
theorem dX11_findWay_169 : decode cX11_findWay 169 = .ok (.if_icmp .ne 7, 3) := by decide +kernel
theorem dX11_findWay_172 : decode cX11_findWay 172 = .ok (.iconst 1, 1) := by decide +kernel
theorem dX11_findWay_173 : decode cX11_findWay 173 = .ok (.goto 4, 3) := by decide +kernel
theorem dX11_findWay_176 : decode cX11_findWay 176 = .ok (.iconst 0, 1) := by decide +kernel
theorem dX11_findWay_177 : decode cX11_findWay 177 = .ok (.bastore, 1) := by decide +kernel
theorem dX11_findWay_178 : decode cX11_findWay 178 = .ok (.iinc 8 1, 3) := by decide +kernel
theorem dX11_findWay_181 : decode cX11_findWay 181 = .ok (.goto (-39), 3) := by decide +kernel
theorem dX11_findWay_184 : decode cX11_findWay 184 = .ok (.iload 7, 2) := by decide +kernel
theorem dX11_findWay_186 : decode cX11_findWay 186 = .ok (.iconst 1, 1) := by decide +kernel
theorem dX11_findWay_187 : decode cX11_findWay 187 = .ok (.isub, 1) := by decide +kernel
theorem dX11_findWay_188 : decode cX11_findWay 188 = .ok (.istore 8, 2) := by decide +kernel
theorem dX11_findWay_190 : decode cX11_findWay 190 = .ok (.iload 8, 2) := by decide +kernel
theorem dX11_findWay_192 : decode cX11_findWay 192 = .ok (.ifCond .lt 17, 3) := by decide +kernel
theorem dX11_findWay_195 : decode cX11_findWay 195 = .ok (.aload_n 0, 1) := by decide +kernel
theorem dX11_findWay_196 : decode cX11_findWay 196 = .ok (.iload_n 1, 1) := by decide +kernel
theorem dX11_findWay_197 : decode cX11_findWay 197 = .ok (.iload 8, 2) := by decide +kernel
theorem dX11_findWay_199 : decode cX11_findWay 199 = .ok (.iload_n 2, 1) := by decide +kernel
theorem dX11_findWay_200 : decode cX11_findWay 200 = .ok (.invokevirtual 200, 3) := by decide +kernel
theorem dX11_findWay_203 : decode cX11_findWay 203 = .ok (.iinc 8 (-1), 3) := by decide +kernel
theorem dX11_findWay_206 : decode cX11_findWay 206 = .ok (.goto (-16), 3) := by decide +kernel
theorem dX11_findWay_209 : decode cX11_findWay 209 = .ok (.aload_n 0, 1) := by decide +kernel
theorem dX11_findWay_210 : decode cX11_findWay 210 = .ok (.iload_n 1, 1) := by decide +kernel
theorem dX11_findWay_211 : decode cX11_findWay 211 = .ok (.iload 7, 2) := by decide +kernel
theorem dX11_findWay_213 : decode cX11_findWay 213 = .ok (.iload_n 2, 1) := by decide +kernel
theorem dX11_findWay_214 : decode cX11_findWay 214 = .ok (.iload 6, 2) := by decide +kernel
theorem dX11_findWay_216 : decode cX11_findWay 216 = .ok (.invokevirtual 203, 3) := by decide +kernel
theorem dX11_findWay_219 : decode cX11_findWay 219 = .ok (.aload_n 0, 1) := by decide +kernel
theorem dX11_findWay_220 : decode cX11_findWay 220 = .ok (.dup, 1) := by decide +kernel
theorem dX11_findWay_221 : decode cX11_findWay 221 = .ok (.getfield 156, 3) := by decide +kernel
theorem dX11_findWay_224 : decode cX11_findWay 224 = .ok (.iconst 1, 1) := by decide +kernel
theorem dX11_findWay_225 : decode cX11_findWay 225 = .ok (.iadd, 1) := by decide +kernel
theorem dX11_findWay_226 : decode cX11_findWay 226 = .ok (.putfield 156, 3) := by decide +kernel
theorem dX11_findWay_229 : decode cX11_findWay 229 = .ok (.aload_n 0, 1) := by decide +kernel
theorem dX11_findWay_230 : decode cX11_findWay 230 = .ok (.iload 7, 2) := by decide +kernel
theorem dX11_findWay_232 : decode cX11_findWay 232 = .ok (.aload_n 0, 1) := by decide +kernel
theorem dX11_findWay_233 : decode cX11_findWay 233 = .ok (.getfield 159, 3) := by decide +kernel
theorem dX11_findWay_236 : decode cX11_findWay 236 = .ok (.if_icmp .le 8, 3) := by decide +kernel
theorem dX11_findWay_239 : decode cX11_findWay 239 = .ok (.iload 7, 2) := by decide +kernel
theorem dX11_findWay_241 : decode cX11_findWay 241 = .ok (.goto 7, 3) := by decide +kernel
theorem dX11_findWay_244 : decode cX11_findWay 244 = .ok (.aload_n 0, 1) := by decide +kernel
theorem dX11_findWay_245 : decode cX11_findWay 245 = .ok (.getfield 159, 3) := by decide +kernel
theorem dX11_findWay_248 : decode cX11_findWay 248 = .ok (.putfield 159, 3) := by decide +kernel
theorem dX11_findWay_251 : decode cX11_findWay 251 = .ok (.return_, 1) := by decide +kernel
theorem dX11_follow_0 : decode cX11_follow 0 = .ok (.aload_n 0, 1) := by decide +kernel
theorem dX11_follow_1 : decode cX11_follow 1 = .ok (.iload_n 1, 1) := by decide +kernel
theorem dX11_follow_2 : decode cX11_follow 2 = .ok (.aload_n 0, 1) := by decide +kernel
theorem dX11_follow_3 : decode cX11_follow 3 = .ok (.getfield 141, 3) := by decide +kernel
theorem dX11_follow_6 : decode cX11_follow 6 = .ok (.invokevirtual 166, 3) := by decide +kernel
theorem dX11_follow_9 : decode cX11_follow 9 = .ok (.istore 5, 2) := by decide +kernel
theorem dX11_follow_11 : decode cX11_follow 11 = .ok (.iload 4, 2) := by decide +kernel
theorem dX11_follow_13 : decode cX11_follow 13 = .ok (.istore 6, 2) := by decide +kernel
theorem dX11_follow_15 : decode cX11_follow 15 = .ok (.iconst 0, 1) := by decide +kernel
theorem dX11_follow_16 : decode cX11_follow 16 = .ok (.istore 7, 2) := by decide +kernel
theorem dX11_follow_18 : decode cX11_follow 18 = .ok (.iload 7, 2) := by decide +kernel
theorem dX11_follow_20 : decode cX11_follow 20 = .ok (.iload_n 2, 1) := by decide +kernel
theorem dX11_follow_21 : decode cX11_follow 21 = .ok (.if_icmp .ge 165, 3) := by decide +kernel
theorem dX11_follow_24 : decode cX11_follow 24 = .ok (.iconst (-1), 1) := by decide +kernel
theorem dX11_follow_25 : decode cX11_follow 25 = .ok (.istore 8, 2) := by decide +kernel
theorem dX11_follow_27 : decode cX11_follow 27 = .ok (.iconst 0, 1) := by decide +kernel
theorem dX11_follow_28 : decode cX11_follow 28 = .ok (.istore 9, 2) := by decide +kernel
theorem dX11_follow_30 : decode cX11_follow 30 = .ok (.iload 9, 2) := by decide +kernel
theorem dX11_follow_32 : decode cX11_follow 32 = .ok (.iconst 5, 1) := by decide +kernel
theorem dX11_follow_33 : decode cX11_follow 33 = .ok (.if_icmp .ge 103, 3) := by decide +kernel
theorem dX11_follow_36 : decode cX11_follow 36 = .ok (.iload 8, 2) := by decide +kernel
theorem dX11_follow_38 : decode cX11_follow 38 = .ok (.ifCond .ge 98, 3) := by decide +kernel
theorem dX11_follow_41 : decode cX11_follow 41 = .ok (.iload 5, 2) := by decide +kernel
theorem dX11_follow_43 : decode cX11_follow 43 = .ok (.iload 9, 2) := by decide +kernel
theorem dX11_follow_45 : decode cX11_follow 45 = .ok (.aload_n 0, 1) := by decide +kernel
theorem dX11_follow_46 : decode cX11_follow 46 = .ok (.getfield 135, 3) := by decide +kernel
theorem dX11_follow_49 : decode cX11_follow 49 = .ok (.aload_n 0, 1) := by decide +kernel
theorem dX11_follow_50 : decode cX11_follow 50 = .ok (.getfield 132, 3) := by decide +kernel
theorem dX11_follow_53 : decode cX11_follow 53 = .ok (.invokestatic 113, 3) := by decide +kernel
theorem dX11_follow_56 : decode cX11_follow 56 = .ok (.istore 10, 2) := by decide +kernel
theorem dX11_follow_58 : decode cX11_follow 58 = .ok (.aload_n 0, 1) := by decide +kernel
theorem dX11_follow_59 : decode cX11_follow 59 = .ok (.iload_n 1, 1) := by decide +kernel
theorem dX11_follow_60 : decode cX11_follow 60 = .ok (.iload 5, 2) := by decide +kernel
theorem dX11_follow_62 : decode cX11_follow 62 = .ok (.iload 10, 2) := by decide +kernel
theorem dX11_follow_64 : decode cX11_follow 64 = .ok (.aload_n 0, 1) := by decide +kernel
theorem dX11_follow_65 : decode cX11_follow 65 = .ok (.getfield 141, 3) := by decide +kernel
theorem dX11_follow_68 : decode cX11_follow 68 = .ok (.iload 7, 2) := by decide +kernel
theorem dX11_follow_70 : decode cX11_follow 70 = .ok (.iadd, 1) := by decide +kernel
theorem dX11_follow_71 : decode cX11_follow 71 = .ok (.invokevirtual 185, 3) := by decide +kernel
theorem dX11_follow_74 : decode cX11_follow 74 = .ok (.ifCond .eq 40, 3) := by decide +kernel
theorem dX11_follow_77 : decode cX11_follow 77 = .ok (.aload_n 0, 1) := by decide +kernel
theorem dX11_follow_78 : decode cX11_follow 78 = .ok (.getfield 91, 3) := by decide +kernel
theorem dX11_follow_81 : decode cX11_follow 81 = .ok (.iload 7, 2) := by decide +kernel
theorem dX11_follow_83 : decode cX11_follow 83 = .ok (.iconst 1, 1) := by decide +kernel
theorem dX11_follow_84 : decode cX11_follow 84 = .ok (.iadd, 1) := by decide +kernel
theorem dX11_follow_85 : decode cX11_follow 85 = .ok (.iload 6, 2) := by decide +kernel
theorem dX11_follow_87 : decode cX11_follow 87 = .ok (.ifCond .ne 9, 3) := by decide +kernel
theorem dX11_follow_90 : decode cX11_follow 90 = .ok (.iload 10, 2) := by decide +kernel
theorem dX11_follow_92 : decode cX11_follow 92 = .ok (.iload_n 3, 1) := by decide +kernel
theorem dX11_follow_93 : decode cX11_follow 93 = .ok (.if_icmp .ne 7, 3) := by decide +kernel
theorem dX11_follow_96 : decode cX11_follow 96 = .ok (.iconst 1, 1) := by decide +kernel
theorem dX11_follow_97 : decode cX11_follow 97 = .ok (.goto 4, 3) := by decide +kernel
theorem dX11_follow_100 : decode cX11_follow 100 = .ok (.iconst 0, 1) := by decide +kernel
theorem dX11_follow_101 : decode cX11_follow 101 = .ok (.iload 10, 2) := by decide +kernel
theorem dX11_follow_103 : decode cX11_follow 103 = .ok (.invokestatic 189, 3) := by decide +kernel
theorem dX11_follow_106 : decode cX11_follow 106 = .ok (.baload, 1) := by decide +kernel
theorem dX11_follow_107 : decode cX11_follow 107 = .ok (.ifCond .eq 7, 3) := by decide +kernel
theorem dX11_follow_110 : decode cX11_follow 110 = .ok (.iconst 1, 1) := by decide +kernel
theorem dX11_follow_111 : decode cX11_follow 111 = .ok (.goto 4, 3) := by decide +kernel
theorem dX11_follow_114 : decode cX11_follow 114 = .ok (.iconst 0, 1) := by decide +kernel
theorem dX11_follow_115 : decode cX11_follow 115 = .ok (.istore 11, 2) := by decide +kernel
theorem dX11_follow_117 : decode cX11_follow 117 = .ok (.iload 11, 2) := by decide +kernel
theorem dX11_follow_119 : decode cX11_follow 119 = .ok (.ifCond .eq 8, 3) := by decide +kernel
theorem dX11_follow_122 : decode cX11_follow 122 = .ok (.iload 10, 2) := by decide +kernel
theorem dX11_follow_124 : decode cX11_follow 124 = .ok (.goto 4, 3) := by decide +kernel
theorem dX11_follow_127 : decode cX11_follow 127 = .ok (.iconst (-1), 1) := by decide +kernel
theorem dX11_follow_128 : decode cX11_follow 128 = .ok (.istore 8, 2) := by decide +kernel
theorem dX11_follow_130 : decode cX11_follow 130 = .ok (.iinc 9 1, 3) := by decide +kernel
theorem dX11_follow_133 : decode cX11_follow 133 = .ok (.goto (-103), 3) := by decide +kernel
theorem dX11_follow_136 : decode cX11_follow 136 = .ok (.iload 8, 2) := by decide +kernel
theorem dX11_follow_138 : decode cX11_follow 138 = .ok (.istore 5, 2) := by decide +kernel
theorem dX11_follow_140 : decode cX11_follow 140 = .ok (.iload 6, 2) := by decide +kernel
theorem dX11_follow_142 : decode cX11_follow 142 = .ok (.ifCond .ne 9, 3) := by decide +kernel
theorem dX11_follow_145 : decode cX11_follow 145 = .ok (.iload 5, 2) := by decide +kernel
theorem dX11_follow_147 : decode cX11_follow 147 = .ok (.iload_n 3, 1) := by decide +kernel
theorem dX11_follow_148 : decode cX11_follow 148 = .ok (.if_icmp .ne 7, 3) := by decide +kernel
theorem dX11_follow_151 : decode cX11_follow 151 = .ok (.iconst 1, 1) := by decide +kernel
theorem dX11_follow_152 : decode cX11_follow 152 = .ok (.goto 4, 3) := by decide +kernel
theorem dX11_follow_155 : decode cX11_follow 155 = .ok (.iconst 0, 1) := by decide +kernel
theorem dX11_follow_156 : decode cX11_follow 156 = .ok (.istore 6, 2) := by decide +kernel
theorem dX11_follow_158 : decode cX11_follow 158 = .ok (.aload_n 0, 1) := by decide +kernel
theorem dX11_follow_159 : decode cX11_follow 159 = .ok (.getfield 30, 3) := by decide +kernel
theorem dX11_follow_162 : decode cX11_follow 162 = .ok (.sipush 5200, 3) := by decide +kernel
theorem dX11_follow_165 : decode cX11_follow 165 = .ok (.iload_n 1, 1) := by decide +kernel
theorem dX11_follow_166 : decode cX11_follow 166 = .ok (.imul, 1) := by decide +kernel
theorem dX11_follow_167 : decode cX11_follow 167 = .ok (.aload_n 0, 1) := by decide +kernel
theorem dX11_follow_168 : decode cX11_follow 168 = .ok (.getfield 141, 3) := by decide +kernel
theorem dX11_follow_171 : decode cX11_follow 171 = .ok (.iadd, 1) := by decide +kernel
theorem dX11_follow_172 : decode cX11_follow 172 = .ok (.iload 7, 2) := by decide +kernel
theorem dX11_follow_174 : decode cX11_follow 174 = .ok (.iadd, 1) := by decide +kernel
theorem dX11_follow_175 : decode cX11_follow 175 = .ok (.iconst 1, 1) := by decide +kernel
theorem dX11_follow_176 : decode cX11_follow 176 = .ok (.iadd, 1) := by decide +kernel
theorem dX11_follow_177 : decode cX11_follow 177 = .ok (.iload 5, 2) := by decide +kernel
theorem dX11_follow_179 : decode cX11_follow 179 = .ok (.iastore, 1) := by decide +kernel
theorem dX11_follow_180 : decode cX11_follow 180 = .ok (.iinc 7 1, 3) := by decide +kernel
theorem dX11_follow_183 : decode cX11_follow 183 = .ok (.goto (-165), 3) := by decide +kernel
theorem dX11_follow_186 : decode cX11_follow 186 = .ok (.aload_n 0, 1) := by decide +kernel
theorem dX11_follow_187 : decode cX11_follow 187 = .ok (.getfield 33, 3) := by decide +kernel
theorem dX11_follow_190 : decode cX11_follow 190 = .ok (.iload_n 1, 1) := by decide +kernel
theorem dX11_follow_191 : decode cX11_follow 191 = .ok (.aload_n 0, 1) := by decide +kernel
theorem dX11_follow_192 : decode cX11_follow 192 = .ok (.getfield 141, 3) := by decide +kernel
theorem dX11_follow_195 : decode cX11_follow 195 = .ok (.iload_n 2, 1) := by decide +kernel
theorem dX11_follow_196 : decode cX11_follow 196 = .ok (.iadd, 1) := by decide +kernel
theorem dX11_follow_197 : decode cX11_follow 197 = .ok (.iastore, 1) := by decide +kernel
theorem dX11_follow_198 : decode cX11_follow 198 = .ok (.return_, 1) := by decide +kernel
theorem dX11_isOthersEnd_0 : decode cX11_isOthersEnd 0 = .ok (.iconst 0, 1) := by decide +kernel
theorem dX11_isOthersEnd_1 : decode cX11_isOthersEnd 1 = .ok (.istore_n 3, 1) := by decide +kernel
theorem dX11_isOthersEnd_2 : decode cX11_isOthersEnd 2 = .ok (.iconst 0, 1) := by decide +kernel
theorem dX11_isOthersEnd_3 : decode cX11_isOthersEnd 3 = .ok (.istore 4, 2) := by decide +kernel
theorem dX11_isOthersEnd_5 : decode cX11_isOthersEnd 5 = .ok (.iload 4, 2) := by decide +kernel
theorem dX11_isOthersEnd_7 : decode cX11_isOthersEnd 7 = .ok (.aload_n 0, 1) := by decide +kernel
theorem dX11_isOthersEnd_8 : decode cX11_isOthersEnd 8 = .ok (.getfield 144, 3) := by decide +kernel
theorem dX11_isOthersEnd_11 : decode cX11_isOthersEnd 11 = .ok (.if_icmp .ge 35, 3) := by decide +kernel
theorem dX11_isOthersEnd_14 : decode cX11_isOthersEnd 14 = .ok (.iload_n 3, 1) := by decide +kernel
theorem dX11_isOthersEnd_15 : decode cX11_isOthersEnd 15 = .ok (.ifCond .ne 19, 3) := by decide +kernel
theorem dX11_isOthersEnd_18 : decode cX11_isOthersEnd 18 = .ok (.iload 4, 2) := by decide +kernel
theorem dX11_isOthersEnd_20 : decode cX11_isOthersEnd 20 = .ok (.iload_n 1, 1) := by decide +kernel
theorem dX11_isOthersEnd_21 : decode cX11_isOthersEnd 21 = .ok (.if_icmp .eq 17, 3) := by decide +kernel
theorem dX11_isOthersEnd_24 : decode cX11_isOthersEnd 24 = .ok (.aload_n 0, 1) := by decide +kernel
theorem dX11_isOthersEnd_25 : decode cX11_isOthersEnd 25 = .ok (.iload 4, 2) := by decide +kernel
theorem dX11_isOthersEnd_27 : decode cX11_isOthersEnd 27 = .ok (.invokevirtual 182, 3) := by decide +kernel
theorem dX11_isOthersEnd_30 : decode cX11_isOthersEnd 30 = .ok (.iload_n 2, 1) := by decide +kernel
theorem dX11_isOthersEnd_31 : decode cX11_isOthersEnd 31 = .ok (.if_icmp .ne 7, 3) := by decide +kernel
theorem dX11_isOthersEnd_34 : decode cX11_isOthersEnd 34 = .ok (.iconst 1, 1) := by decide +kernel
theorem dX11_isOthersEnd_35 : decode cX11_isOthersEnd 35 = .ok (.goto 4, 3) := by decide +kernel
theorem dX11_isOthersEnd_38 : decode cX11_isOthersEnd 38 = .ok (.iconst 0, 1) := by decide +kernel
theorem dX11_isOthersEnd_39 : decode cX11_isOthersEnd 39 = .ok (.istore_n 3, 1) := by decide +kernel
theorem dX11_isOthersEnd_40 : decode cX11_isOthersEnd 40 = .ok (.iinc 4 1, 3) := by decide +kernel
theorem dX11_isOthersEnd_43 : decode cX11_isOthersEnd 43 = .ok (.goto (-38), 3) := by decide +kernel
theorem dX11_isOthersEnd_46 : decode cX11_isOthersEnd 46 = .ok (.iload_n 3, 1) := by decide +kernel
theorem dX11_isOthersEnd_47 : decode cX11_isOthersEnd 47 = .ok (.ireturn, 1) := by decide +kernel
theorem dX11_fitTask_0 : decode cX11_fitTask 0 = .ok (.aload_n 0, 1) := by decide +kernel
theorem dX11_fitTask_1 : decode cX11_fitTask 1 = .ok (.iload_n 1, 1) := by decide +kernel
theorem dX11_fitTask_2 : decode cX11_fitTask 2 = .ok (.aload_n 0, 1) := by decide +kernel
theorem dX11_fitTask_3 : decode cX11_fitTask 3 = .ok (.getfield 141, 3) := by decide +kernel
theorem dX11_fitTask_6 : decode cX11_fitTask 6 = .ok (.invokevirtual 166, 3) := by decide +kernel
theorem dX11_fitTask_9 : decode cX11_fitTask 9 = .ok (.istore_n 2, 1) := by decide +kernel
theorem dX11_fitTask_10 : decode cX11_fitTask 10 = .ok (.iconst (-1), 1) := by decide +kernel
theorem dX11_fitTask_11 : decode cX11_fitTask 11 = .ok (.istore_n 3, 1) := by decide +kernel
theorem dX11_fitTask_12 : decode cX11_fitTask 12 = .ok (.iconst 0, 1) := by decide +kernel
theorem dX11_fitTask_13 : decode cX11_fitTask 13 = .ok (.istore 4, 2) := by decide +kernel
theorem dX11_fitTask_15 : decode cX11_fitTask 15 = .ok (.iload 4, 2) := by decide +kernel
theorem dX11_fitTask_17 : decode cX11_fitTask 17 = .ok (.aload_n 0, 1) := by decide +kernel
theorem dX11_fitTask_18 : decode cX11_fitTask 18 = .ok (.getfield 150, 3) := by decide +kernel
theorem dX11_fitTask_21 : decode cX11_fitTask 21 = .ok (.if_icmp .ge 113, 3) := by decide +kernel
theorem dX11_fitTask_24 : decode cX11_fitTask 24 = .ok (.aload_n 0, 1) := by decide +kernel
theorem dX11_fitTask_25 : decode cX11_fitTask 25 = .ok (.getfield 69, 3) := by decide +kernel
theorem dX11_fitTask_28 : decode cX11_fitTask 28 = .ok (.iload 4, 2) := by decide +kernel
theorem dX11_fitTask_30 : decode cX11_fitTask 30 = .ok (.iaload, 1) := by decide +kernel
theorem dX11_fitTask_31 : decode cX11_fitTask 31 = .ok (.ifCond .ne 42, 3) := by decide +kernel
theorem dX11_fitTask_34 : decode cX11_fitTask 34 = .ok (.aload_n 0, 1) := by decide +kernel
theorem dX11_fitTask_35 : decode cX11_fitTask 35 = .ok (.iload_n 1, 1) := by decide +kernel
theorem dX11_fitTask_36 : decode cX11_fitTask 36 = .ok (.aload_n 0, 1) := by decide +kernel
theorem dX11_fitTask_37 : decode cX11_fitTask 37 = .ok (.getfield 66, 3) := by decide +kernel
theorem dX11_fitTask_40 : decode cX11_fitTask 40 = .ok (.iload 4, 2) := by decide +kernel
theorem dX11_fitTask_42 : decode cX11_fitTask 42 = .ok (.iaload, 1) := by decide +kernel
theorem dX11_fitTask_43 : decode cX11_fitTask 43 = .ok (.invokevirtual 207, 3) := by decide +kernel
theorem dX11_fitTask_46 : decode cX11_fitTask 46 = .ok (.ifCond .ne 27, 3) := by decide +kernel
theorem dX11_fitTask_49 : decode cX11_fitTask 49 = .ok (.aload_n 0, 1) := by decide +kernel
theorem dX11_fitTask_50 : decode cX11_fitTask 50 = .ok (.iload_n 1, 1) := by decide +kernel
theorem dX11_fitTask_51 : decode cX11_fitTask 51 = .ok (.aload_n 0, 1) := by decide +kernel
theorem dX11_fitTask_52 : decode cX11_fitTask 52 = .ok (.getfield 48, 3) := by decide +kernel
theorem dX11_fitTask_55 : decode cX11_fitTask 55 = .ok (.aload_n 0, 1) := by decide +kernel
theorem dX11_fitTask_56 : decode cX11_fitTask 56 = .ok (.getfield 63, 3) := by decide +kernel
theorem dX11_fitTask_59 : decode cX11_fitTask 59 = .ok (.iload 4, 2) := by decide +kernel
theorem dX11_fitTask_61 : decode cX11_fitTask 61 = .ok (.iaload, 1) := by decide +kernel
theorem dX11_fitTask_62 : decode cX11_fitTask 62 = .ok (.iaload, 1) := by decide +kernel
theorem dX11_fitTask_63 : decode cX11_fitTask 63 = .ok (.invokevirtual 207, 3) := by decide +kernel
theorem dX11_fitTask_66 : decode cX11_fitTask 66 = .ok (.ifCond .ne 7, 3) := by decide +kernel
theorem dX11_fitTask_69 : decode cX11_fitTask 69 = .ok (.iconst 1, 1) := by decide +kernel
theorem dX11_fitTask_70 : decode cX11_fitTask 70 = .ok (.goto 4, 3) := by decide +kernel
theorem dX11_fitTask_73 : decode cX11_fitTask 73 = .ok (.iconst 0, 1) := by decide +kernel
theorem dX11_fitTask_74 : decode cX11_fitTask 74 = .ok (.istore 5, 2) := by decide +kernel
theorem dX11_fitTask_76 : decode cX11_fitTask 76 = .ok (.iload 5, 2) := by decide +kernel
theorem dX11_fitTask_78 : decode cX11_fitTask 78 = .ok (.ifCond .eq 48, 3) := by decide +kernel
theorem dX11_fitTask_81 : decode cX11_fitTask 81 = .ok (.iload_n 3, 1) := by decide +kernel
theorem dX11_fitTask_82 : decode cX11_fitTask 82 = .ok (.ifCond .lt 39, 3) := by decide +kernel
theorem dX11_fitTask_85 : decode cX11_fitTask 85 = .ok (.aload_n 0, 1) := by decide +kernel
theorem dX11_fitTask_86 : decode cX11_fitTask 86 = .ok (.getfield 23, 3) := by decide +kernel
theorem dX11_fitTask_89 : decode cX11_fitTask 89 = .ok (.bipush 80, 2) := by decide +kernel
theorem dX11_fitTask_91 : decode cX11_fitTask 91 = .ok (.iload_n 2, 1) := by decide +kernel
theorem dX11_fitTask_92 : decode cX11_fitTask 92 = .ok (.imul, 1) := by decide +kernel
theorem dX11_fitTask_93 : decode cX11_fitTask 93 = .ok (.aload_n 0, 1) := by decide +kernel
theorem dX11_fitTask_94 : decode cX11_fitTask 94 = .ok (.getfield 66, 3) := by decide +kernel
theorem dX11_fitTask_97 : decode cX11_fitTask 97 = .ok (.iload 4, 2) := by decide +kernel
theorem dX11_fitTask_99 : decode cX11_fitTask 99 = .ok (.iaload, 1) := by decide +kernel
theorem dX11_fitTask_100 : decode cX11_fitTask 100 = .ok (.iadd, 1) := by decide +kernel
theorem dX11_fitTask_101 : decode cX11_fitTask 101 = .ok (.iaload, 1) := by decide +kernel
theorem dX11_fitTask_102 : decode cX11_fitTask 102 = .ok (.aload_n 0, 1) := by decide +kernel
theorem dX11_fitTask_103 : decode cX11_fitTask 103 = .ok (.getfield 23, 3) := by decide +kernel
theorem dX11_fitTask_106 : decode cX11_fitTask 106 = .ok (.bipush 80, 2) := by decide +kernel
theorem dX11_fitTask_108 : decode cX11_fitTask 108 = .ok (.iload_n 2, 1) := by decide +kernel
theorem dX11_fitTask_109 : decode cX11_fitTask 109 = .ok (.imul, 1) := by decide +kernel
theorem dX11_fitTask_110 : decode cX11_fitTask 110 = .ok (.aload_n 0, 1) := by decide +kernel
theorem dX11_fitTask_111 : decode cX11_fitTask 111 = .ok (.getfield 66, 3) := by decide +kernel
theorem dX11_fitTask_114 : decode cX11_fitTask 114 = .ok (.iload_n 3, 1) := by decide +kernel
theorem dX11_fitTask_115 : decode cX11_fitTask 115 = .ok (.iaload, 1) := by decide +kernel
theorem dX11_fitTask_116 : decode cX11_fitTask 116 = .ok (.iadd, 1) := by decide +kernel
theorem dX11_fitTask_117 : decode cX11_fitTask 117 = .ok (.iaload, 1) := by decide +kernel
theorem dX11_fitTask_118 : decode cX11_fitTask 118 = .ok (.if_icmp .ge 8, 3) := by decide +kernel
theorem dX11_fitTask_121 : decode cX11_fitTask 121 = .ok (.iload 4, 2) := by decide +kernel
theorem dX11_fitTask_123 : decode cX11_fitTask 123 = .ok (.goto 4, 3) := by decide +kernel
theorem dX11_fitTask_126 : decode cX11_fitTask 126 = .ok (.iload_n 3, 1) := by decide +kernel
theorem dX11_fitTask_127 : decode cX11_fitTask 127 = .ok (.istore_n 3, 1) := by decide +kernel
theorem dX11_fitTask_128 : decode cX11_fitTask 128 = .ok (.iinc 4 1, 3) := by decide +kernel
theorem dX11_fitTask_131 : decode cX11_fitTask 131 = .ok (.goto (-116), 3) := by decide +kernel
theorem dX11_fitTask_134 : decode cX11_fitTask 134 = .ok (.iload_n 3, 1) := by decide +kernel
theorem dX11_fitTask_135 : decode cX11_fitTask 135 = .ok (.ireturn, 1) := by decide +kernel
theorem dX11_isWanted_0 : decode cX11_isWanted 0 = .ok (.iconst 0, 1) := by decide +kernel
theorem dX11_isWanted_1 : decode cX11_isWanted 1 = .ok (.istore_n 2, 1) := by decide +kernel
theorem dX11_isWanted_2 : decode cX11_isWanted 2 = .ok (.iconst 0, 1) := by decide +kernel
theorem dX11_isWanted_3 : decode cX11_isWanted 3 = .ok (.istore_n 3, 1) := by decide +kernel
theorem dX11_isWanted_4 : decode cX11_isWanted 4 = .ok (.iload_n 3, 1) := by decide +kernel
theorem dX11_isWanted_5 : decode cX11_isWanted 5 = .ok (.aload_n 0, 1) := by decide +kernel
theorem dX11_isWanted_6 : decode cX11_isWanted 6 = .ok (.getfield 150, 3) := by decide +kernel
theorem dX11_isWanted_9 : decode cX11_isWanted 9 = .ok (.if_icmp .ge 43, 3) := by decide +kernel
theorem dX11_isWanted_12 : decode cX11_isWanted 12 = .ok (.iload_n 2, 1) := by decide +kernel
theorem dX11_isWanted_13 : decode cX11_isWanted 13 = .ok (.ifCond .ne 27, 3) := by decide +kernel
theorem dX11_isWanted_16 : decode cX11_isWanted 16 = .ok (.aload_n 0, 1) := by decide +kernel
theorem dX11_isWanted_17 : decode cX11_isWanted 17 = .ok (.getfield 69, 3) := by decide +kernel
theorem dX11_isWanted_20 : decode cX11_isWanted 20 = .ok (.iload_n 3, 1) := by decide +kernel
theorem dX11_isWanted_21 : decode cX11_isWanted 21 = .ok (.iaload, 1) := by decide +kernel
theorem dX11_isWanted_22 : decode cX11_isWanted 22 = .ok (.ifCond .ne 22, 3) := by decide +kernel
theorem dX11_isWanted_25 : decode cX11_isWanted 25 = .ok (.aload_n 0, 1) := by decide +kernel
theorem dX11_isWanted_26 : decode cX11_isWanted 26 = .ok (.getfield 48, 3) := by decide +kernel
theorem dX11_isWanted_29 : decode cX11_isWanted 29 = .ok (.aload_n 0, 1) := by decide +kernel
theorem dX11_isWanted_30 : decode cX11_isWanted 30 = .ok (.getfield 63, 3) := by decide +kernel
theorem dX11_isWanted_33 : decode cX11_isWanted 33 = .ok (.iload_n 3, 1) := by decide +kernel
theorem dX11_isWanted_34 : decode cX11_isWanted 34 = .ok (.iaload, 1) := by decide +kernel
theorem dX11_isWanted_35 : decode cX11_isWanted 35 = .ok (.iaload, 1) := by decide +kernel
theorem dX11_isWanted_36 : decode cX11_isWanted 36 = .ok (.iload_n 1, 1) := by decide +kernel
theorem dX11_isWanted_37 : decode cX11_isWanted 37 = .ok (.if_icmp .ne 7, 3) := by decide +kernel
theorem dX11_isWanted_40 : decode cX11_isWanted 40 = .ok (.iconst 1, 1) := by decide +kernel
theorem dX11_isWanted_41 : decode cX11_isWanted 41 = .ok (.goto 4, 3) := by decide +kernel
theorem dX11_isWanted_44 : decode cX11_isWanted 44 = .ok (.iconst 0, 1) := by decide +kernel
theorem dX11_isWanted_45 : decode cX11_isWanted 45 = .ok (.istore_n 2, 1) := by decide +kernel
theorem dX11_isWanted_46 : decode cX11_isWanted 46 = .ok (.iinc 3 1, 3) := by decide +kernel
theorem dX11_isWanted_49 : decode cX11_isWanted 49 = .ok (.goto (-45), 3) := by decide +kernel
theorem dX11_isWanted_52 : decode cX11_isWanted 52 = .ok (.iload_n 2, 1) := by decide +kernel
theorem dX11_isWanted_53 : decode cX11_isWanted 53 = .ok (.ireturn, 1) := by decide +kernel
theorem dX11_aside_0 : decode cX11_aside 0 = .ok (.aload_n 0, 1) := by decide +kernel
theorem dX11_aside_1 : decode cX11_aside 1 = .ok (.iload_n 1, 1) := by decide +kernel
theorem dX11_aside_2 : decode cX11_aside 2 = .ok (.aload_n 0, 1) := by decide +kernel
theorem dX11_aside_3 : decode cX11_aside 3 = .ok (.getfield 141, 3) := by decide +kernel
theorem dX11_aside_6 : decode cX11_aside 6 = .ok (.invokevirtual 166, 3) := by decide +kernel
theorem dX11_aside_9 : decode cX11_aside 9 = .ok (.istore_n 2, 1) := by decide +kernel
theorem dX11_aside_10 : decode cX11_aside 10 = .ok (.iconst (-1), 1) := by decide +kernel
theorem dX11_aside_11 : decode cX11_aside 11 = .ok (.istore_n 3, 1) := by decide +kernel
theorem dX11_aside_12 : decode cX11_aside 12 = .ok (.iconst 0, 1) := by decide +kernel
theorem dX11_aside_13 : decode cX11_aside 13 = .ok (.istore 4, 2) := by decide +kernel
theorem dX11_aside_15 : decode cX11_aside 15 = .ok (.iload 4, 2) := by decide +kernel
theorem dX11_aside_17 : decode cX11_aside 17 = .ok (.aload_n 0, 1) := by decide +kernel
theorem dX11_aside_18 : decode cX11_aside 18 = .ok (.getfield 132, 3) := by decide +kernel
theorem dX11_aside_21 : decode cX11_aside 21 = .ok (.if_icmp .ge 88, 3) := by decide +kernel
theorem dX11_aside_24 : decode cX11_aside 24 = .ok (.aload_n 0, 1) := by decide +kernel
theorem dX11_aside_25 : decode cX11_aside 25 = .ok (.getfield 17, 3) := by decide +kernel
theorem dX11_aside_28 : decode cX11_aside 28 = .ok (.iload 4, 2) := by decide +kernel
theorem dX11_aside_30 : decode cX11_aside 30 = .ok (.iaload, 1) := by decide +kernel
theorem dX11_aside_31 : decode cX11_aside 31 = .ok (.iconst 1, 1) := by decide +kernel
theorem dX11_aside_32 : decode cX11_aside 32 = .ok (.if_icmp .le 26, 3) := by decide +kernel
theorem dX11_aside_35 : decode cX11_aside 35 = .ok (.aload_n 0, 1) := by decide +kernel
theorem dX11_aside_36 : decode cX11_aside 36 = .ok (.iload 4, 2) := by decide +kernel
theorem dX11_aside_38 : decode cX11_aside 38 = .ok (.invokevirtual 210, 3) := by decide +kernel
theorem dX11_aside_41 : decode cX11_aside 41 = .ok (.ifCond .ne 17, 3) := by decide +kernel
theorem dX11_aside_44 : decode cX11_aside 44 = .ok (.aload_n 0, 1) := by decide +kernel
theorem dX11_aside_45 : decode cX11_aside 45 = .ok (.iload_n 1, 1) := by decide +kernel
theorem dX11_aside_46 : decode cX11_aside 46 = .ok (.iload 4, 2) := by decide +kernel
theorem dX11_aside_48 : decode cX11_aside 48 = .ok (.invokevirtual 207, 3) := by decide +kernel
theorem dX11_aside_51 : decode cX11_aside 51 = .ok (.ifCond .ne 7, 3) := by decide +kernel
theorem dX11_aside_54 : decode cX11_aside 54 = .ok (.iconst 1, 1) := by decide +kernel
theorem dX11_aside_55 : decode cX11_aside 55 = .ok (.goto 4, 3) := by decide +kernel
theorem dX11_aside_58 : decode cX11_aside 58 = .ok (.iconst 0, 1) := by decide +kernel
theorem dX11_aside_59 : decode cX11_aside 59 = .ok (.istore 5, 2) := by decide +kernel
theorem dX11_aside_61 : decode cX11_aside 61 = .ok (.iload 5, 2) := by decide +kernel
theorem dX11_aside_63 : decode cX11_aside 63 = .ok (.ifCond .eq 38, 3) := by decide +kernel
theorem dX11_aside_66 : decode cX11_aside 66 = .ok (.iload_n 3, 1) := by decide +kernel
theorem dX11_aside_67 : decode cX11_aside 67 = .ok (.ifCond .lt 29, 3) := by decide +kernel
theorem dX11_aside_70 : decode cX11_aside 70 = .ok (.aload_n 0, 1) := by decide +kernel
theorem dX11_aside_71 : decode cX11_aside 71 = .ok (.getfield 23, 3) := by decide +kernel
theorem dX11_aside_74 : decode cX11_aside 74 = .ok (.bipush 80, 2) := by decide +kernel
theorem dX11_aside_76 : decode cX11_aside 76 = .ok (.iload_n 2, 1) := by decide +kernel
theorem dX11_aside_77 : decode cX11_aside 77 = .ok (.imul, 1) := by decide +kernel
theorem dX11_aside_78 : decode cX11_aside 78 = .ok (.iload 4, 2) := by decide +kernel
theorem dX11_aside_80 : decode cX11_aside 80 = .ok (.iadd, 1) := by decide +kernel
theorem dX11_aside_81 : decode cX11_aside 81 = .ok (.iaload, 1) := by decide +kernel
theorem dX11_aside_82 : decode cX11_aside 82 = .ok (.aload_n 0, 1) := by decide +kernel
theorem dX11_aside_83 : decode cX11_aside 83 = .ok (.getfield 23, 3) := by decide +kernel
theorem dX11_aside_86 : decode cX11_aside 86 = .ok (.bipush 80, 2) := by decide +kernel
theorem dX11_aside_88 : decode cX11_aside 88 = .ok (.iload_n 2, 1) := by decide +kernel
theorem dX11_aside_89 : decode cX11_aside 89 = .ok (.imul, 1) := by decide +kernel
theorem dX11_aside_90 : decode cX11_aside 90 = .ok (.iload_n 3, 1) := by decide +kernel
theorem dX11_aside_91 : decode cX11_aside 91 = .ok (.iadd, 1) := by decide +kernel
theorem dX11_aside_92 : decode cX11_aside 92 = .ok (.iaload, 1) := by decide +kernel
theorem dX11_aside_93 : decode cX11_aside 93 = .ok (.if_icmp .ge 8, 3) := by decide +kernel
theorem dX11_aside_96 : decode cX11_aside 96 = .ok (.iload 4, 2) := by decide +kernel
theorem dX11_aside_98 : decode cX11_aside 98 = .ok (.goto 4, 3) := by decide +kernel
theorem dX11_aside_101 : decode cX11_aside 101 = .ok (.iload_n 3, 1) := by decide +kernel
theorem dX11_aside_102 : decode cX11_aside 102 = .ok (.istore_n 3, 1) := by decide +kernel
theorem dX11_aside_103 : decode cX11_aside 103 = .ok (.iinc 4 1, 3) := by decide +kernel
theorem dX11_aside_106 : decode cX11_aside 106 = .ok (.goto (-91), 3) := by decide +kernel
theorem dX11_aside_109 : decode cX11_aside 109 = .ok (.iload_n 3, 1) := by decide +kernel
theorem dX11_aside_110 : decode cX11_aside 110 = .ok (.ireturn, 1) := by decide +kernel
theorem dX11_seek_0 : decode cX11_seek 0 = .ok (.aload_n 0, 1) := by decide +kernel
theorem dX11_seek_1 : decode cX11_seek 1 = .ok (.iload_n 1, 1) := by decide +kernel
theorem dX11_seek_2 : decode cX11_seek 2 = .ok (.invokevirtual 213, 3) := by decide +kernel
theorem dX11_seek_5 : decode cX11_seek 5 = .ok (.istore_n 2, 1) := by decide +kernel
theorem dX11_seek_6 : decode cX11_seek 6 = .ok (.aload_n 0, 1) := by decide +kernel
theorem dX11_seek_7 : decode cX11_seek 7 = .ok (.iload_n 1, 1) := by decide +kernel
theorem dX11_seek_8 : decode cX11_seek 8 = .ok (.aload_n 0, 1) := by decide +kernel
theorem dX11_seek_9 : decode cX11_seek 9 = .ok (.getfield 141, 3) := by decide +kernel
theorem dX11_seek_12 : decode cX11_seek 12 = .ok (.invokevirtual 166, 3) := by decide +kernel
theorem dX11_seek_15 : decode cX11_seek 15 = .ok (.istore_n 3, 1) := by decide +kernel
theorem dX11_seek_16 : decode cX11_seek 16 = .ok (.iload_n 2, 1) := by decide +kernel
theorem dX11_seek_17 : decode cX11_seek 17 = .ok (.ifCond .lt 86, 3) := by decide +kernel
theorem dX11_seek_20 : decode cX11_seek 20 = .ok (.aload_n 0, 1) := by decide +kernel
theorem dX11_seek_21 : decode cX11_seek 21 = .ok (.getfield 69, 3) := by decide +kernel
theorem dX11_seek_24 : decode cX11_seek 24 = .ok (.iload_n 2, 1) := by decide +kernel
theorem dX11_seek_25 : decode cX11_seek 25 = .ok (.iconst 1, 1) := by decide +kernel
theorem dX11_seek_26 : decode cX11_seek 26 = .ok (.iastore, 1) := by decide +kernel
theorem dX11_seek_27 : decode cX11_seek 27 = .ok (.aload_n 0, 1) := by decide +kernel
theorem dX11_seek_28 : decode cX11_seek 28 = .ok (.getfield 72, 3) := by decide +kernel
theorem dX11_seek_31 : decode cX11_seek 31 = .ok (.iload_n 2, 1) := by decide +kernel
theorem dX11_seek_32 : decode cX11_seek 32 = .ok (.iload_n 1, 1) := by decide +kernel
theorem dX11_seek_33 : decode cX11_seek 33 = .ok (.iastore, 1) := by decide +kernel
theorem dX11_seek_34 : decode cX11_seek 34 = .ok (.aload_n 0, 1) := by decide +kernel
theorem dX11_seek_35 : decode cX11_seek 35 = .ok (.getfield 78, 3) := by decide +kernel
theorem dX11_seek_38 : decode cX11_seek 38 = .ok (.iload_n 2, 1) := by decide +kernel
theorem dX11_seek_39 : decode cX11_seek 39 = .ok (.aload_n 0, 1) := by decide +kernel
theorem dX11_seek_40 : decode cX11_seek 40 = .ok (.getfield 141, 3) := by decide +kernel
theorem dX11_seek_43 : decode cX11_seek 43 = .ok (.iastore, 1) := by decide +kernel
theorem dX11_seek_44 : decode cX11_seek 44 = .ok (.aload_n 0, 1) := by decide +kernel
theorem dX11_seek_45 : decode cX11_seek 45 = .ok (.getfield 36, 3) := by decide +kernel
theorem dX11_seek_48 : decode cX11_seek 48 = .ok (.iload_n 1, 1) := by decide +kernel
theorem dX11_seek_49 : decode cX11_seek 49 = .ok (.iload_n 2, 1) := by decide +kernel
theorem dX11_seek_50 : decode cX11_seek 50 = .ok (.iastore, 1) := by decide +kernel
theorem dX11_seek_51 : decode cX11_seek 51 = .ok (.aload_n 0, 1) := by decide +kernel
theorem dX11_seek_52 : decode cX11_seek 52 = .ok (.iload_n 1, 1) := by decide +kernel
theorem dX11_seek_53 : decode cX11_seek 53 = .ok (.aload_n 0, 1) := by decide +kernel
theorem dX11_seek_54 : decode cX11_seek 54 = .ok (.getfield 66, 3) := by decide +kernel
theorem dX11_seek_57 : decode cX11_seek 57 = .ok (.iload_n 2, 1) := by decide +kernel
theorem dX11_seek_58 : decode cX11_seek 58 = .ok (.iaload, 1) := by decide +kernel
theorem dX11_seek_59 : decode cX11_seek 59 = .ok (.aload_n 0, 1) := by decide +kernel
theorem dX11_seek_60 : decode cX11_seek 60 = .ok (.getfield 48, 3) := by decide +kernel
theorem dX11_seek_63 : decode cX11_seek 63 = .ok (.aload_n 0, 1) := by decide +kernel
theorem dX11_seek_64 : decode cX11_seek 64 = .ok (.getfield 63, 3) := by decide +kernel
theorem dX11_seek_67 : decode cX11_seek 67 = .ok (.iload_n 2, 1) := by decide +kernel
theorem dX11_seek_68 : decode cX11_seek 68 = .ok (.iaload, 1) := by decide +kernel
theorem dX11_seek_69 : decode cX11_seek 69 = .ok (.iaload, 1) := by decide +kernel
theorem dX11_seek_70 : decode cX11_seek 70 = .ok (.invokevirtual 216, 3) := by decide +kernel
theorem dX11_seek_73 : decode cX11_seek 73 = .ok (.iload_n 3, 1) := by decide +kernel
theorem dX11_seek_74 : decode cX11_seek 74 = .ok (.aload_n 0, 1) := by decide +kernel
theorem dX11_seek_75 : decode cX11_seek 75 = .ok (.getfield 66, 3) := by decide +kernel
theorem dX11_seek_78 : decode cX11_seek 78 = .ok (.iload_n 2, 1) := by decide +kernel
theorem dX11_seek_79 : decode cX11_seek 79 = .ok (.iaload, 1) := by decide +kernel
theorem dX11_seek_80 : decode cX11_seek 80 = .ok (.if_icmp .ne 61, 3) := by decide +kernel
theorem dX11_seek_83 : decode cX11_seek 83 = .ok (.aload_n 0, 1) := by decide +kernel
theorem dX11_seek_84 : decode cX11_seek 84 = .ok (.getfield 69, 3) := by decide +kernel
theorem dX11_seek_87 : decode cX11_seek 87 = .ok (.iload_n 2, 1) := by decide +kernel
theorem dX11_seek_88 : decode cX11_seek 88 = .ok (.iconst 2, 1) := by decide +kernel
theorem dX11_seek_89 : decode cX11_seek 89 = .ok (.iastore, 1) := by decide +kernel
theorem dX11_seek_90 : decode cX11_seek 90 = .ok (.aload_n 0, 1) := by decide +kernel
theorem dX11_seek_91 : decode cX11_seek 91 = .ok (.getfield 81, 3) := by decide +kernel
theorem dX11_seek_94 : decode cX11_seek 94 = .ok (.iload_n 2, 1) := by decide +kernel
theorem dX11_seek_95 : decode cX11_seek 95 = .ok (.aload_n 0, 1) := by decide +kernel
theorem dX11_seek_96 : decode cX11_seek 96 = .ok (.getfield 141, 3) := by decide +kernel
theorem dX11_seek_99 : decode cX11_seek 99 = .ok (.iastore, 1) := by decide +kernel
theorem dX11_seek_100 : decode cX11_seek 100 = .ok (.goto 41, 3) := by decide +kernel
theorem dX11_seek_103 : decode cX11_seek 103 = .ok (.aload_n 0, 1) := by decide +kernel
theorem dX11_seek_104 : decode cX11_seek 104 = .ok (.iload_n 3, 1) := by decide +kernel
theorem dX11_seek_105 : decode cX11_seek 105 = .ok (.invokevirtual 210, 3) := by decide +kernel
theorem dX11_seek_108 : decode cX11_seek 108 = .ok (.ifCond .eq 33, 3) := by decide +kernel
theorem dX11_seek_111 : decode cX11_seek 111 = .ok (.aload_n 0, 1) := by decide +kernel
theorem dX11_seek_112 : decode cX11_seek 112 = .ok (.iload_n 1, 1) := by decide +kernel
theorem dX11_seek_113 : decode cX11_seek 113 = .ok (.invokevirtual 219, 3) := by decide +kernel
theorem dX11_seek_116 : decode cX11_seek 116 = .ok (.istore 4, 2) := by decide +kernel
theorem dX11_seek_118 : decode cX11_seek 118 = .ok (.iload 4, 2) := by decide +kernel
theorem dX11_seek_120 : decode cX11_seek 120 = .ok (.ifCond .lt 21, 3) := by decide +kernel
theorem dX11_seek_123 : decode cX11_seek 123 = .ok (.aload_n 0, 1) := by decide +kernel
theorem dX11_seek_124 : decode cX11_seek 124 = .ok (.iload_n 1, 1) := by decide +kernel
theorem dX11_seek_125 : decode cX11_seek 125 = .ok (.iconst (-1), 1) := by decide +kernel
theorem dX11_seek_126 : decode cX11_seek 126 = .ok (.iload 4, 2) := by decide +kernel
theorem dX11_seek_128 : decode cX11_seek 128 = .ok (.invokevirtual 216, 3) := by decide +kernel
theorem dX11_seek_131 : decode cX11_seek 131 = .ok (.aload_n 0, 1) := by decide +kernel
theorem dX11_seek_132 : decode cX11_seek 132 = .ok (.getfield 45, 3) := by decide +kernel
theorem dX11_seek_135 : decode cX11_seek 135 = .ok (.iload_n 1, 1) := by decide +kernel
theorem dX11_seek_136 : decode cX11_seek 136 = .ok (.dup2, 1) := by decide +kernel
theorem dX11_seek_137 : decode cX11_seek 137 = .ok (.iaload, 1) := by decide +kernel
theorem dX11_seek_138 : decode cX11_seek 138 = .ok (.iconst 1, 1) := by decide +kernel
theorem dX11_seek_139 : decode cX11_seek 139 = .ok (.iadd, 1) := by decide +kernel
theorem dX11_seek_140 : decode cX11_seek 140 = .ok (.iastore, 1) := by decide +kernel
theorem dX11_seek_141 : decode cX11_seek 141 = .ok (.return_, 1) := by decide +kernel
theorem dX11_settleRobot_0 : decode cX11_settleRobot 0 = .ok (.aload_n 0, 1) := by decide +kernel
theorem dX11_settleRobot_1 : decode cX11_settleRobot 1 = .ok (.getfield 36, 3) := by decide +kernel
theorem dX11_settleRobot_4 : decode cX11_settleRobot 4 = .ok (.iload_n 1, 1) := by decide +kernel
theorem dX11_settleRobot_5 : decode cX11_settleRobot 5 = .ok (.iaload, 1) := by decide +kernel
theorem dX11_settleRobot_6 : decode cX11_settleRobot 6 = .ok (.istore_n 2, 1) := by decide +kernel
theorem dX11_settleRobot_7 : decode cX11_settleRobot 7 = .ok (.aload_n 0, 1) := by decide +kernel
theorem dX11_settleRobot_8 : decode cX11_settleRobot 8 = .ok (.getfield 39, 3) := by decide +kernel
theorem dX11_settleRobot_11 : decode cX11_settleRobot 11 = .ok (.iload_n 1, 1) := by decide +kernel
theorem dX11_settleRobot_12 : decode cX11_settleRobot 12 = .ok (.dup2, 1) := by decide +kernel
theorem dX11_settleRobot_13 : decode cX11_settleRobot 13 = .ok (.iaload, 1) := by decide +kernel
theorem dX11_settleRobot_14 : decode cX11_settleRobot 14 = .ok (.aload_n 0, 1) := by decide +kernel
theorem dX11_settleRobot_15 : decode cX11_settleRobot 15 = .ok (.iload_n 1, 1) := by decide +kernel
theorem dX11_settleRobot_16 : decode cX11_settleRobot 16 = .ok (.aload_n 0, 1) := by decide +kernel
theorem dX11_settleRobot_17 : decode cX11_settleRobot 17 = .ok (.getfield 141, 3) := by decide +kernel
theorem dX11_settleRobot_20 : decode cX11_settleRobot 20 = .ok (.invokevirtual 166, 3) := by decide +kernel
theorem dX11_settleRobot_23 : decode cX11_settleRobot 23 = .ok (.aload_n 0, 1) := by decide +kernel
theorem dX11_settleRobot_24 : decode cX11_settleRobot 24 = .ok (.iload_n 1, 1) := by decide +kernel
theorem dX11_settleRobot_25 : decode cX11_settleRobot 25 = .ok (.aload_n 0, 1) := by decide +kernel
theorem dX11_settleRobot_26 : decode cX11_settleRobot 26 = .ok (.getfield 141, 3) := by decide +kernel
theorem dX11_settleRobot_29 : decode cX11_settleRobot 29 = .ok (.iconst 1, 1) := by decide +kernel
theorem dX11_settleRobot_30 : decode cX11_settleRobot 30 = .ok (.isub, 1) := by decide +kernel
theorem dX11_settleRobot_31 : decode cX11_settleRobot 31 = .ok (.invokevirtual 166, 3) := by decide +kernel
theorem dX11_settleRobot_34 : decode cX11_settleRobot 34 = .ok (.if_icmp .eq 7, 3) := by decide +kernel
theorem dX11_settleRobot_37 : decode cX11_settleRobot 37 = .ok (.iconst 1, 1) := by decide +kernel
theorem dX11_settleRobot_38 : decode cX11_settleRobot 38 = .ok (.goto 4, 3) := by decide +kernel
theorem dX11_settleRobot_41 : decode cX11_settleRobot 41 = .ok (.iconst 0, 1) := by decide +kernel
theorem dX11_settleRobot_42 : decode cX11_settleRobot 42 = .ok (.iadd, 1) := by decide +kernel
theorem dX11_settleRobot_43 : decode cX11_settleRobot 43 = .ok (.iastore, 1) := by decide +kernel
theorem dX11_settleRobot_44 : decode cX11_settleRobot 44 = .ok (.iload_n 2, 1) := by decide +kernel
theorem dX11_settleRobot_45 : decode cX11_settleRobot 45 = .ok (.ifCond .ge 4, 3) := by decide +kernel
theorem dX11_settleRobot_48 : decode cX11_settleRobot 48 = .ok (.return_, 1) := by decide +kernel
theorem dX11_settleRobot_49 : decode cX11_settleRobot 49 = .ok (.aload_n 0, 1) := by decide +kernel
theorem dX11_settleRobot_50 : decode cX11_settleRobot 50 = .ok (.getfield 69, 3) := by decide +kernel
theorem dX11_settleRobot_53 : decode cX11_settleRobot 53 = .ok (.iload_n 2, 1) := by decide +kernel
theorem dX11_settleRobot_54 : decode cX11_settleRobot 54 = .ok (.iaload, 1) := by decide +kernel
theorem dX11_settleRobot_55 : decode cX11_settleRobot 55 = .ok (.iconst 1, 1) := by decide +kernel
theorem dX11_settleRobot_56 : decode cX11_settleRobot 56 = .ok (.if_icmp .ne 38, 3) := by decide +kernel
theorem dX11_settleRobot_59 : decode cX11_settleRobot 59 = .ok (.aload_n 0, 1) := by decide +kernel
theorem dX11_settleRobot_60 : decode cX11_settleRobot 60 = .ok (.iload_n 1, 1) := by decide +kernel
theorem dX11_settleRobot_61 : decode cX11_settleRobot 61 = .ok (.aload_n 0, 1) := by decide +kernel
theorem dX11_settleRobot_62 : decode cX11_settleRobot 62 = .ok (.getfield 141, 3) := by decide +kernel
theorem dX11_settleRobot_65 : decode cX11_settleRobot 65 = .ok (.invokevirtual 166, 3) := by decide +kernel
theorem dX11_settleRobot_68 : decode cX11_settleRobot 68 = .ok (.aload_n 0, 1) := by decide +kernel
theorem dX11_settleRobot_69 : decode cX11_settleRobot 69 = .ok (.getfield 66, 3) := by decide +kernel
theorem dX11_settleRobot_72 : decode cX11_settleRobot 72 = .ok (.iload_n 2, 1) := by decide +kernel
theorem dX11_settleRobot_73 : decode cX11_settleRobot 73 = .ok (.iaload, 1) := by decide +kernel
theorem dX11_settleRobot_74 : decode cX11_settleRobot 74 = .ok (.if_icmp .ne 20, 3) := by decide +kernel
theorem dX11_settleRobot_77 : decode cX11_settleRobot 77 = .ok (.aload_n 0, 1) := by decide +kernel
theorem dX11_settleRobot_78 : decode cX11_settleRobot 78 = .ok (.getfield 69, 3) := by decide +kernel
theorem dX11_settleRobot_81 : decode cX11_settleRobot 81 = .ok (.iload_n 2, 1) := by decide +kernel
theorem dX11_settleRobot_82 : decode cX11_settleRobot 82 = .ok (.iconst 2, 1) := by decide +kernel
theorem dX11_settleRobot_83 : decode cX11_settleRobot 83 = .ok (.iastore, 1) := by decide +kernel
theorem dX11_settleRobot_84 : decode cX11_settleRobot 84 = .ok (.aload_n 0, 1) := by decide +kernel
theorem dX11_settleRobot_85 : decode cX11_settleRobot 85 = .ok (.getfield 81, 3) := by decide +kernel
theorem dX11_settleRobot_88 : decode cX11_settleRobot 88 = .ok (.iload_n 2, 1) := by decide +kernel
theorem dX11_settleRobot_89 : decode cX11_settleRobot 89 = .ok (.aload_n 0, 1) := by decide +kernel
theorem dX11_settleRobot_90 : decode cX11_settleRobot 90 = .ok (.getfield 141, 3) := by decide +kernel
theorem dX11_settleRobot_93 : decode cX11_settleRobot 93 = .ok (.iastore, 1) := by decide +kernel
theorem dX11_settleRobot_94 : decode cX11_settleRobot 94 = .ok (.aload_n 0, 1) := by decide +kernel
theorem dX11_settleRobot_95 : decode cX11_settleRobot 95 = .ok (.getfield 69, 3) := by decide +kernel
theorem dX11_settleRobot_98 : decode cX11_settleRobot 98 = .ok (.iload_n 2, 1) := by decide +kernel
theorem dX11_settleRobot_99 : decode cX11_settleRobot 99 = .ok (.iaload, 1) := by decide +kernel
theorem dX11_settleRobot_100 : decode cX11_settleRobot 100 = .ok (.iconst 2, 1) := by decide +kernel
theorem dX11_settleRobot_101 : decode cX11_settleRobot 101 = .ok (.if_icmp .ne 60, 3) := by decide +kernel
theorem dX11_settleRobot_104 : decode cX11_settleRobot 104 = .ok (.aload_n 0, 1) := by decide +kernel
theorem dX11_settleRobot_105 : decode cX11_settleRobot 105 = .ok (.getfield 33, 3) := by decide +kernel
theorem dX11_settleRobot_108 : decode cX11_settleRobot 108 = .ok (.iload_n 1, 1) := by decide +kernel
theorem dX11_settleRobot_109 : decode cX11_settleRobot 109 = .ok (.iaload, 1) := by decide +kernel
theorem dX11_settleRobot_110 : decode cX11_settleRobot 110 = .ok (.aload_n 0, 1) := by decide +kernel
theorem dX11_settleRobot_111 : decode cX11_settleRobot 111 = .ok (.getfield 141, 3) := by decide +kernel
theorem dX11_settleRobot_114 : decode cX11_settleRobot 114 = .ok (.if_icmp .ne 47, 3) := by decide +kernel
theorem dX11_settleRobot_117 : decode cX11_settleRobot 117 = .ok (.aload_n 0, 1) := by decide +kernel
theorem dX11_settleRobot_118 : decode cX11_settleRobot 118 = .ok (.getfield 69, 3) := by decide +kernel
theorem dX11_settleRobot_121 : decode cX11_settleRobot 121 = .ok (.iload_n 2, 1) := by decide +kernel
theorem dX11_settleRobot_122 : decode cX11_settleRobot 122 = .ok (.iconst 3, 1) := by decide +kernel
theorem dX11_settleRobot_123 : decode cX11_settleRobot 123 = .ok (.iastore, 1) := by decide +kernel
theorem dX11_settleRobot_124 : decode cX11_settleRobot 124 = .ok (.aload_n 0, 1) := by decide +kernel
theorem dX11_settleRobot_125 : decode cX11_settleRobot 125 = .ok (.getfield 84, 3) := by decide +kernel
theorem dX11_settleRobot_128 : decode cX11_settleRobot 128 = .ok (.iload_n 2, 1) := by decide +kernel
theorem dX11_settleRobot_129 : decode cX11_settleRobot 129 = .ok (.aload_n 0, 1) := by decide +kernel
theorem dX11_settleRobot_130 : decode cX11_settleRobot 130 = .ok (.getfield 141, 3) := by decide +kernel
theorem dX11_settleRobot_133 : decode cX11_settleRobot 133 = .ok (.iastore, 1) := by decide +kernel
theorem dX11_settleRobot_134 : decode cX11_settleRobot 134 = .ok (.aload_n 0, 1) := by decide +kernel
theorem dX11_settleRobot_135 : decode cX11_settleRobot 135 = .ok (.getfield 42, 3) := by decide +kernel
theorem dX11_settleRobot_138 : decode cX11_settleRobot 138 = .ok (.iload_n 1, 1) := by decide +kernel
theorem dX11_settleRobot_139 : decode cX11_settleRobot 139 = .ok (.dup2, 1) := by decide +kernel
theorem dX11_settleRobot_140 : decode cX11_settleRobot 140 = .ok (.iaload, 1) := by decide +kernel
theorem dX11_settleRobot_141 : decode cX11_settleRobot 141 = .ok (.iconst 1, 1) := by decide +kernel
theorem dX11_settleRobot_142 : decode cX11_settleRobot 142 = .ok (.iadd, 1) := by decide +kernel
theorem dX11_settleRobot_143 : decode cX11_settleRobot 143 = .ok (.iastore, 1) := by decide +kernel
theorem dX11_settleRobot_144 : decode cX11_settleRobot 144 = .ok (.aload_n 0, 1) := by decide +kernel
theorem dX11_settleRobot_145 : decode cX11_settleRobot 145 = .ok (.getfield 36, 3) := by decide +kernel
theorem dX11_settleRobot_148 : decode cX11_settleRobot 148 = .ok (.iload_n 1, 1) := by decide +kernel
theorem dX11_settleRobot_149 : decode cX11_settleRobot 149 = .ok (.iconst (-1), 1) := by decide +kernel
theorem dX11_settleRobot_150 : decode cX11_settleRobot 150 = .ok (.iastore, 1) := by decide +kernel
theorem dX11_settleRobot_151 : decode cX11_settleRobot 151 = .ok (.aload_n 0, 1) := by decide +kernel
theorem dX11_settleRobot_152 : decode cX11_settleRobot 152 = .ok (.aload_n 0, 1) := by decide +kernel
theorem dX11_settleRobot_153 : decode cX11_settleRobot 153 = .ok (.getfield 63, 3) := by decide +kernel
theorem dX11_settleRobot_156 : decode cX11_settleRobot 156 = .ok (.iload_n 2, 1) := by decide +kernel
theorem dX11_settleRobot_157 : decode cX11_settleRobot 157 = .ok (.iaload, 1) := by decide +kernel
theorem dX11_settleRobot_158 : decode cX11_settleRobot 158 = .ok (.invokevirtual 179, 3) := by decide +kernel
theorem dX11_settleRobot_161 : decode cX11_settleRobot 161 = .ok (.return_, 1) := by decide +kernel
theorem dX11_watch_0 : decode cX11_watch 0 = .ok (.iconst 0, 1) := by decide +kernel
theorem dX11_watch_1 : decode cX11_watch 1 = .ok (.istore_n 1, 1) := by decide +kernel
theorem dX11_watch_2 : decode cX11_watch 2 = .ok (.iload_n 1, 1) := by decide +kernel
theorem dX11_watch_3 : decode cX11_watch 3 = .ok (.aload_n 0, 1) := by decide +kernel
theorem dX11_watch_4 : decode cX11_watch 4 = .ok (.getfield 144, 3) := by decide +kernel
theorem dX11_watch_7 : decode cX11_watch 7 = .ok (.if_icmp .ge 213, 3) := by decide +kernel
theorem dX11_watch_10 : decode cX11_watch 10 = .ok (.aload_n 0, 1) := by decide +kernel
theorem dX11_watch_11 : decode cX11_watch 11 = .ok (.iload_n 1, 1) := by decide +kernel
theorem dX11_watch_12 : decode cX11_watch 12 = .ok (.aload_n 0, 1) := by decide +kernel
theorem dX11_watch_13 : decode cX11_watch 13 = .ok (.getfield 141, 3) := by decide +kernel
theorem dX11_watch_16 : decode cX11_watch 16 = .ok (.invokevirtual 166, 3) := by decide +kernel
theorem dX11_watch_19 : decode cX11_watch 19 = .ok (.istore_n 2, 1) := by decide +kernel
theorem dX11_watch_20 : decode cX11_watch 20 = .ok (.aload_n 0, 1) := by decide +kernel
theorem dX11_watch_21 : decode cX11_watch 21 = .ok (.iload_n 1, 1) := by decide +kernel
theorem dX11_watch_22 : decode cX11_watch 22 = .ok (.aload_n 0, 1) := by decide +kernel
theorem dX11_watch_23 : decode cX11_watch 23 = .ok (.getfield 141, 3) := by decide +kernel
theorem dX11_watch_26 : decode cX11_watch 26 = .ok (.iconst 1, 1) := by decide +kernel
theorem dX11_watch_27 : decode cX11_watch 27 = .ok (.isub, 1) := by decide +kernel
theorem dX11_watch_28 : decode cX11_watch 28 = .ok (.invokevirtual 166, 3) := by decide +kernel
theorem dX11_watch_31 : decode cX11_watch 31 = .ok (.istore_n 3, 1) := by decide +kernel
theorem dX11_watch_32 : decode cX11_watch 32 = .ok (.iconst 0, 1) := by decide +kernel
theorem dX11_watch_33 : decode cX11_watch 33 = .ok (.istore 4, 2) := by decide +kernel
theorem dX11_watch_35 : decode cX11_watch 35 = .ok (.iconst 0, 1) := by decide +kernel
theorem dX11_watch_36 : decode cX11_watch 36 = .ok (.istore 5, 2) := by decide +kernel
