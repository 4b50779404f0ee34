theorem dX2_daysOf_0 : decode cX2_daysOf 0 = .ok (.iload_n 1, 1) := by decide +kernel
theorem dX2_daysOf_1 : decode cX2_daysOf 1 = .ok (.ifCond .le 13, 3) := by decide +kernel
theorem dX2_daysOf_4 : decode cX2_daysOf 4 = .ok (.iload_n 0, 1) := by decide +kernel
theorem dX2_daysOf_5 : decode cX2_daysOf 5 = .ok (.iload_n 1, 1) := by decide +kernel
theorem dX2_daysOf_6 : decode cX2_daysOf 6 = .ok (.iadd, 1) := by decide +kernel
theorem dX2_daysOf_7 : decode cX2_daysOf 7 = .ok (.iconst 1, 1) := by decide +kernel
theorem dX2_daysOf_8 : decode cX2_daysOf 8 = .ok (.isub, 1) := by decide +kernel
theorem dX2_daysOf_9 : decode cX2_daysOf 9 = .ok (.iload_n 1, 1) := by decide +kernel
theorem dX2_daysOf_10 : decode cX2_daysOf 10 = .ok (.idiv, 1) := by decide +kernel
theorem dX2_daysOf_11 : decode cX2_daysOf 11 = .ok (.goto 4, 3) := by decide +kernel
theorem dX2_daysOf_14 : decode cX2_daysOf 14 = .ok (.iconst 0, 1) := by decide +kernel
theorem dX2_daysOf_15 : decode cX2_daysOf 15 = .ok (.ireturn, 1) := by decide +kernel

theorem dX2_worstAt_0 : decode cX2_worstAt 0 = .ok (.iload_n 1, 1) := by decide +kernel
theorem dX2_worstAt_1 : decode cX2_worstAt 1 = .ok (.invokestatic 40, 3) := by decide +kernel
theorem dX2_worstAt_4 : decode cX2_worstAt 4 = .ok (.ifCond .eq 12, 3) := by decide +kernel
theorem dX2_worstAt_7 : decode cX2_worstAt 7 = .ok (.aload_n 0, 1) := by decide +kernel
theorem dX2_worstAt_8 : decode cX2_worstAt 8 = .ok (.getfield 15, 3) := by decide +kernel
theorem dX2_worstAt_11 : decode cX2_worstAt 11 = .ok (.iload_n 1, 1) := by decide +kernel
theorem dX2_worstAt_12 : decode cX2_worstAt 12 = .ok (.iaload, 1) := by decide +kernel
theorem dX2_worstAt_13 : decode cX2_worstAt 13 = .ok (.goto 4, 3) := by decide +kernel
theorem dX2_worstAt_16 : decode cX2_worstAt 16 = .ok (.iconst 0, 1) := by decide +kernel
theorem dX2_worstAt_17 : decode cX2_worstAt 17 = .ok (.ireturn, 1) := by decide +kernel

theorem dX2_best_0 : decode cX2_best 0 = .ok (.iload_n 1, 1) := by decide +kernel
theorem dX2_best_1 : decode cX2_best 1 = .ok (.istore_n 3, 1) := by decide +kernel
theorem dX2_best_2 : decode cX2_best 2 = .ok (.iload_n 1, 1) := by decide +kernel
theorem dX2_best_3 : decode cX2_best 3 = .ok (.iconst 1, 1) := by decide +kernel
theorem dX2_best_4 : decode cX2_best 4 = .ok (.iadd, 1) := by decide +kernel
theorem dX2_best_5 : decode cX2_best 5 = .ok (.istore 4, 2) := by decide +kernel
theorem dX2_best_7 : decode cX2_best 7 = .ok (.iload 4, 2) := by decide +kernel
theorem dX2_best_9 : decode cX2_best 9 = .ok (.iload_n 2, 1) := by decide +kernel
theorem dX2_best_10 : decode cX2_best 10 = .ok (.if_icmp .ge 26, 3) := by decide +kernel
theorem dX2_best_13 : decode cX2_best 13 = .ok (.aload_n 0, 1) := by decide +kernel
theorem dX2_best_14 : decode cX2_best 14 = .ok (.iload 4, 2) := by decide +kernel
theorem dX2_best_16 : decode cX2_best 16 = .ok (.invokevirtual 68, 3) := by decide +kernel
theorem dX2_best_19 : decode cX2_best 19 = .ok (.aload_n 0, 1) := by decide +kernel
theorem dX2_best_20 : decode cX2_best 20 = .ok (.iload_n 3, 1) := by decide +kernel
theorem dX2_best_21 : decode cX2_best 21 = .ok (.invokevirtual 68, 3) := by decide +kernel
theorem dX2_best_24 : decode cX2_best 24 = .ok (.if_icmp .ge 6, 3) := by decide +kernel
theorem dX2_best_27 : decode cX2_best 27 = .ok (.iload 4, 2) := by decide +kernel
theorem dX2_best_29 : decode cX2_best 29 = .ok (.istore_n 3, 1) := by decide +kernel
theorem dX2_best_30 : decode cX2_best 30 = .ok (.iinc 4 1, 3) := by decide +kernel
theorem dX2_best_33 : decode cX2_best 33 = .ok (.goto (-26), 3) := by decide +kernel
theorem dX2_best_36 : decode cX2_best 36 = .ok (.iload_n 3, 1) := by decide +kernel
theorem dX2_best_37 : decode cX2_best 37 = .ok (.ireturn, 1) := by decide +kernel

theorem dX2_weighRow_0 : decode cX2_weighRow 0 = .ok (.aload_n 1, 1) := by decide +kernel
theorem dX2_weighRow_1 : decode cX2_weighRow 1 = .ok (.getfield 28, 3) := by decide +kernel
theorem dX2_weighRow_4 : decode cX2_weighRow 4 = .ok (.iload 5, 2) := by decide +kernel
theorem dX2_weighRow_6 : decode cX2_weighRow 6 = .ok (.iconst 0, 1) := by decide +kernel
theorem dX2_weighRow_7 : decode cX2_weighRow 7 = .ok (.invokevirtual 34, 3) := by decide +kernel
theorem dX2_weighRow_10 : decode cX2_weighRow 10 = .ok (.istore 7, 2) := by decide +kernel
theorem dX2_weighRow_12 : decode cX2_weighRow 12 = .ok (.aload_n 1, 1) := by decide +kernel
theorem dX2_weighRow_13 : decode cX2_weighRow 13 = .ok (.getfield 28, 3) := by decide +kernel
theorem dX2_weighRow_16 : decode cX2_weighRow 16 = .ok (.iload 6, 2) := by decide +kernel
theorem dX2_weighRow_18 : decode cX2_weighRow 18 = .ok (.iconst 0, 1) := by decide +kernel
theorem dX2_weighRow_19 : decode cX2_weighRow 19 = .ok (.invokevirtual 34, 3) := by decide +kernel
theorem dX2_weighRow_22 : decode cX2_weighRow 22 = .ok (.istore 8, 2) := by decide +kernel
theorem dX2_weighRow_24 : decode cX2_weighRow 24 = .ok (.aload_n 1, 1) := by decide +kernel
theorem dX2_weighRow_25 : decode cX2_weighRow 25 = .ok (.getfield 28, 3) := by decide +kernel
theorem dX2_weighRow_28 : decode cX2_weighRow 28 = .ok (.iload 5, 2) := by decide +kernel
theorem dX2_weighRow_30 : decode cX2_weighRow 30 = .ok (.iconst 2, 1) := by decide +kernel
theorem dX2_weighRow_31 : decode cX2_weighRow 31 = .ok (.invokevirtual 34, 3) := by decide +kernel
theorem dX2_weighRow_34 : decode cX2_weighRow 34 = .ok (.istore 9, 2) := by decide +kernel
theorem dX2_weighRow_36 : decode cX2_weighRow 36 = .ok (.iconst 0, 1) := by decide +kernel
theorem dX2_weighRow_37 : decode cX2_weighRow 37 = .ok (.istore 10, 2) := by decide +kernel
theorem dX2_weighRow_39 : decode cX2_weighRow 39 = .ok (.iload 7, 2) := by decide +kernel
theorem dX2_weighRow_41 : decode cX2_weighRow 41 = .ok (.istore 11, 2) := by decide +kernel
theorem dX2_weighRow_43 : decode cX2_weighRow 43 = .ok (.iload 11, 2) := by decide +kernel
theorem dX2_weighRow_45 : decode cX2_weighRow 45 = .ok (.iload 8, 2) := by decide +kernel
theorem dX2_weighRow_47 : decode cX2_weighRow 47 = .ok (.if_icmp .ge 70, 3) := by decide +kernel
theorem dX2_weighRow_50 : decode cX2_weighRow 50 = .ok (.iload 11, 2) := by decide +kernel
theorem dX2_weighRow_52 : decode cX2_weighRow 52 = .ok (.invokestatic 40, 3) := by decide +kernel
theorem dX2_weighRow_55 : decode cX2_weighRow 55 = .ok (.ifCond .eq 62, 3) := by decide +kernel
theorem dX2_weighRow_58 : decode cX2_weighRow 58 = .ok (.aload_n 2, 1) := by decide +kernel
theorem dX2_weighRow_59 : decode cX2_weighRow 59 = .ok (.iload_n 3, 1) := by decide +kernel
theorem dX2_weighRow_60 : decode cX2_weighRow 60 = .ok (.iload 4, 2) := by decide +kernel
theorem dX2_weighRow_62 : decode cX2_weighRow 62 = .ok (.aload_n 1, 1) := by decide +kernel
theorem dX2_weighRow_63 : decode cX2_weighRow 63 = .ok (.getfield 44, 3) := by decide +kernel
theorem dX2_weighRow_66 : decode cX2_weighRow 66 = .ok (.iload 10, 2) := by decide +kernel
theorem dX2_weighRow_68 : decode cX2_weighRow 68 = .ok (.iadd, 1) := by decide +kernel
theorem dX2_weighRow_69 : decode cX2_weighRow 69 = .ok (.invokestatic 48, 3) := by decide +kernel
theorem dX2_weighRow_72 : decode cX2_weighRow 72 = .ok (.iadd, 1) := by decide +kernel
theorem dX2_weighRow_73 : decode cX2_weighRow 73 = .ok (.invokevirtual 51, 3) := by decide +kernel
theorem dX2_weighRow_76 : decode cX2_weighRow 76 = .ok (.istore 12, 2) := by decide +kernel
theorem dX2_weighRow_78 : decode cX2_weighRow 78 = .ok (.iload 10, 2) := by decide +kernel
theorem dX2_weighRow_80 : decode cX2_weighRow 80 = .ok (.aload_n 1, 1) := by decide +kernel
theorem dX2_weighRow_81 : decode cX2_weighRow 81 = .ok (.iload 11, 2) := by decide +kernel
theorem dX2_weighRow_83 : decode cX2_weighRow 83 = .ok (.invokevirtual 54, 3) := by decide +kernel
theorem dX2_weighRow_86 : decode cX2_weighRow 86 = .ok (.iload 12, 2) := by decide +kernel
theorem dX2_weighRow_88 : decode cX2_weighRow 88 = .ok (.invokestatic 57, 3) := by decide +kernel
theorem dX2_weighRow_91 : decode cX2_weighRow 91 = .ok (.iload 9, 2) := by decide +kernel
theorem dX2_weighRow_93 : decode cX2_weighRow 93 = .ok (.invokestatic 60, 3) := by decide +kernel
theorem dX2_weighRow_96 : decode cX2_weighRow 96 = .ok (.iadd, 1) := by decide +kernel
theorem dX2_weighRow_97 : decode cX2_weighRow 97 = .ok (.istore 10, 2) := by decide +kernel
theorem dX2_weighRow_99 : decode cX2_weighRow 99 = .ok (.aload_n 0, 1) := by decide +kernel
theorem dX2_weighRow_100 : decode cX2_weighRow 100 = .ok (.getfield 9, 3) := by decide +kernel
theorem dX2_weighRow_103 : decode cX2_weighRow 103 = .ok (.iload 11, 2) := by decide +kernel
theorem dX2_weighRow_105 : decode cX2_weighRow 105 = .ok (.iload 10, 2) := by decide +kernel
theorem dX2_weighRow_107 : decode cX2_weighRow 107 = .ok (.iastore, 1) := by decide +kernel
theorem dX2_weighRow_108 : decode cX2_weighRow 108 = .ok (.iinc 10 1, 3) := by decide +kernel
theorem dX2_weighRow_111 : decode cX2_weighRow 111 = .ok (.iinc 11 1, 3) := by decide +kernel
theorem dX2_weighRow_114 : decode cX2_weighRow 114 = .ok (.goto (-71), 3) := by decide +kernel
theorem dX2_weighRow_117 : decode cX2_weighRow 117 = .ok (.aload_n 1, 1) := by decide +kernel
theorem dX2_weighRow_118 : decode cX2_weighRow 118 = .ok (.getfield 28, 3) := by decide +kernel
theorem dX2_weighRow_121 : decode cX2_weighRow 121 = .ok (.iload 6, 2) := by decide +kernel
theorem dX2_weighRow_123 : decode cX2_weighRow 123 = .ok (.iconst 2, 1) := by decide +kernel
theorem dX2_weighRow_124 : decode cX2_weighRow 124 = .ok (.invokevirtual 34, 3) := by decide +kernel
theorem dX2_weighRow_127 : decode cX2_weighRow 127 = .ok (.istore 9, 2) := by decide +kernel
theorem dX2_weighRow_129 : decode cX2_weighRow 129 = .ok (.iconst 0, 1) := by decide +kernel
theorem dX2_weighRow_130 : decode cX2_weighRow 130 = .ok (.istore 10, 2) := by decide +kernel
theorem dX2_weighRow_132 : decode cX2_weighRow 132 = .ok (.iload 8, 2) := by decide +kernel
theorem dX2_weighRow_134 : decode cX2_weighRow 134 = .ok (.iconst 1, 1) := by decide +kernel
theorem dX2_weighRow_135 : decode cX2_weighRow 135 = .ok (.isub, 1) := by decide +kernel
theorem dX2_weighRow_136 : decode cX2_weighRow 136 = .ok (.istore 11, 2) := by decide +kernel
theorem dX2_weighRow_138 : decode cX2_weighRow 138 = .ok (.iload 11, 2) := by decide +kernel
theorem dX2_weighRow_140 : decode cX2_weighRow 140 = .ok (.iload 7, 2) := by decide +kernel
theorem dX2_weighRow_142 : decode cX2_weighRow 142 = .ok (.if_icmp .lt 92, 3) := by decide +kernel
theorem dX2_weighRow_145 : decode cX2_weighRow 145 = .ok (.iload 11, 2) := by decide +kernel
theorem dX2_weighRow_147 : decode cX2_weighRow 147 = .ok (.invokestatic 40, 3) := by decide +kernel
theorem dX2_weighRow_150 : decode cX2_weighRow 150 = .ok (.ifCond .eq 84, 3) := by decide +kernel
theorem dX2_weighRow_153 : decode cX2_weighRow 153 = .ok (.aload_n 2, 1) := by decide +kernel
theorem dX2_weighRow_154 : decode cX2_weighRow 154 = .ok (.iload_n 3, 1) := by decide +kernel
theorem dX2_weighRow_155 : decode cX2_weighRow 155 = .ok (.iload 4, 2) := by decide +kernel
theorem dX2_weighRow_157 : decode cX2_weighRow 157 = .ok (.aload_n 1, 1) := by decide +kernel
theorem dX2_weighRow_158 : decode cX2_weighRow 158 = .ok (.getfield 44, 3) := by decide +kernel
theorem dX2_weighRow_161 : decode cX2_weighRow 161 = .ok (.iload 10, 2) := by decide +kernel
theorem dX2_weighRow_163 : decode cX2_weighRow 163 = .ok (.iadd, 1) := by decide +kernel
theorem dX2_weighRow_164 : decode cX2_weighRow 164 = .ok (.invokestatic 48, 3) := by decide +kernel
theorem dX2_weighRow_167 : decode cX2_weighRow 167 = .ok (.iadd, 1) := by decide +kernel
theorem dX2_weighRow_168 : decode cX2_weighRow 168 = .ok (.invokevirtual 51, 3) := by decide +kernel
theorem dX2_weighRow_171 : decode cX2_weighRow 171 = .ok (.istore 12, 2) := by decide +kernel
theorem dX2_weighRow_173 : decode cX2_weighRow 173 = .ok (.iload 10, 2) := by decide +kernel
theorem dX2_weighRow_175 : decode cX2_weighRow 175 = .ok (.aload_n 1, 1) := by decide +kernel
theorem dX2_weighRow_176 : decode cX2_weighRow 176 = .ok (.iload 11, 2) := by decide +kernel
theorem dX2_weighRow_178 : decode cX2_weighRow 178 = .ok (.iconst 1, 1) := by decide +kernel
theorem dX2_weighRow_179 : decode cX2_weighRow 179 = .ok (.iadd, 1) := by decide +kernel
theorem dX2_weighRow_180 : decode cX2_weighRow 180 = .ok (.invokevirtual 54, 3) := by decide +kernel
theorem dX2_weighRow_183 : decode cX2_weighRow 183 = .ok (.iload 12, 2) := by decide +kernel
theorem dX2_weighRow_185 : decode cX2_weighRow 185 = .ok (.invokestatic 57, 3) := by decide +kernel
theorem dX2_weighRow_188 : decode cX2_weighRow 188 = .ok (.iload 9, 2) := by decide +kernel
theorem dX2_weighRow_190 : decode cX2_weighRow 190 = .ok (.invokestatic 60, 3) := by decide +kernel
theorem dX2_weighRow_193 : decode cX2_weighRow 193 = .ok (.iadd, 1) := by decide +kernel
theorem dX2_weighRow_194 : decode cX2_weighRow 194 = .ok (.istore 10, 2) := by decide +kernel
theorem dX2_weighRow_196 : decode cX2_weighRow 196 = .ok (.aload_n 0, 1) := by decide +kernel
theorem dX2_weighRow_197 : decode cX2_weighRow 197 = .ok (.getfield 15, 3) := by decide +kernel
theorem dX2_weighRow_200 : decode cX2_weighRow 200 = .ok (.iload 11, 2) := by decide +kernel
theorem dX2_weighRow_202 : decode cX2_weighRow 202 = .ok (.aload_n 0, 1) := by decide +kernel
theorem dX2_weighRow_203 : decode cX2_weighRow 203 = .ok (.getfield 15, 3) := by decide +kernel
theorem dX2_weighRow_206 : decode cX2_weighRow 206 = .ok (.iload 11, 2) := by decide +kernel
theorem dX2_weighRow_208 : decode cX2_weighRow 208 = .ok (.iaload, 1) := by decide +kernel
theorem dX2_weighRow_209 : decode cX2_weighRow 209 = .ok (.aload_n 0, 1) := by decide +kernel
theorem dX2_weighRow_210 : decode cX2_weighRow 210 = .ok (.getfield 9, 3) := by decide +kernel
theorem dX2_weighRow_213 : decode cX2_weighRow 213 = .ok (.iload 11, 2) := by decide +kernel
theorem dX2_weighRow_215 : decode cX2_weighRow 215 = .ok (.iaload, 1) := by decide +kernel
theorem dX2_weighRow_216 : decode cX2_weighRow 216 = .ok (.iload 10, 2) := by decide +kernel
theorem dX2_weighRow_218 : decode cX2_weighRow 218 = .ok (.invokestatic 63, 3) := by decide +kernel
theorem dX2_weighRow_221 : decode cX2_weighRow 221 = .ok (.invokestatic 63, 3) := by decide +kernel
theorem dX2_weighRow_224 : decode cX2_weighRow 224 = .ok (.iastore, 1) := by decide +kernel
theorem dX2_weighRow_225 : decode cX2_weighRow 225 = .ok (.iinc 10 1, 3) := by decide +kernel
theorem dX2_weighRow_228 : decode cX2_weighRow 228 = .ok (.iinc 11 (-1), 3) := by decide +kernel
theorem dX2_weighRow_231 : decode cX2_weighRow 231 = .ok (.goto (-93), 3) := by decide +kernel
theorem dX2_weighRow_234 : decode cX2_weighRow 234 = .ok (.return_, 1) := by decide +kernel

theorem dX2_weigh_0 : decode cX2_weigh 0 = .ok (.iconst 0, 1) := by decide +kernel
theorem dX2_weigh_1 : decode cX2_weigh 1 = .ok (.istore 6, 2) := by decide +kernel
theorem dX2_weigh_3 : decode cX2_weigh 3 = .ok (.iload 6, 2) := by decide +kernel
theorem dX2_weigh_5 : decode cX2_weigh 5 = .ok (.bipush 40, 2) := by decide +kernel
theorem dX2_weigh_7 : decode cX2_weigh 7 = .ok (.if_icmp .ge 17, 3) := by decide +kernel
theorem dX2_weigh_10 : decode cX2_weigh 10 = .ok (.aload_n 0, 1) := by decide +kernel
theorem dX2_weigh_11 : decode cX2_weigh 11 = .ok (.getfield 15, 3) := by decide +kernel
theorem dX2_weigh_14 : decode cX2_weigh 14 = .ok (.iload 6, 2) := by decide +kernel
theorem dX2_weigh_16 : decode cX2_weigh 16 = .ok (.iconst 0, 1) := by decide +kernel
theorem dX2_weigh_17 : decode cX2_weigh 17 = .ok (.iastore, 1) := by decide +kernel
theorem dX2_weigh_18 : decode cX2_weigh 18 = .ok (.iinc 6 1, 3) := by decide +kernel
theorem dX2_weigh_21 : decode cX2_weigh 21 = .ok (.goto (-18), 3) := by decide +kernel
theorem dX2_weigh_24 : decode cX2_weigh 24 = .ok (.iconst 0, 1) := by decide +kernel
theorem dX2_weigh_25 : decode cX2_weigh 25 = .ok (.istore 6, 2) := by decide +kernel
theorem dX2_weigh_27 : decode cX2_weigh 27 = .ok (.iload 6, 2) := by decide +kernel
theorem dX2_weigh_29 : decode cX2_weigh 29 = .ok (.aload_n 2, 1) := by decide +kernel
theorem dX2_weigh_30 : decode cX2_weigh 30 = .ok (.iload_n 3, 1) := by decide +kernel
theorem dX2_weigh_31 : decode cX2_weigh 31 = .ok (.invokevirtual 18, 3) := by decide +kernel
theorem dX2_weigh_34 : decode cX2_weigh 34 = .ok (.if_icmp .ge 22, 3) := by decide +kernel
theorem dX2_weigh_37 : decode cX2_weigh 37 = .ok (.aload_n 0, 1) := by decide +kernel
theorem dX2_weigh_38 : decode cX2_weigh 38 = .ok (.aload_n 1, 1) := by decide +kernel
theorem dX2_weigh_39 : decode cX2_weigh 39 = .ok (.aload_n 2, 1) := by decide +kernel
theorem dX2_weigh_40 : decode cX2_weigh 40 = .ok (.iload_n 3, 1) := by decide +kernel
theorem dX2_weigh_41 : decode cX2_weigh 41 = .ok (.iload 6, 2) := by decide +kernel
theorem dX2_weigh_43 : decode cX2_weigh 43 = .ok (.iload 4, 2) := by decide +kernel
theorem dX2_weigh_45 : decode cX2_weigh 45 = .ok (.iload 5, 2) := by decide +kernel
theorem dX2_weigh_47 : decode cX2_weigh 47 = .ok (.invokevirtual 24, 3) := by decide +kernel
theorem dX2_weigh_50 : decode cX2_weigh 50 = .ok (.iinc 6 12, 3) := by decide +kernel
theorem dX2_weigh_53 : decode cX2_weigh 53 = .ok (.goto (-26), 3) := by decide +kernel
theorem dX2_weigh_56 : decode cX2_weigh 56 = .ok (.return_, 1) := by decide +kernel

