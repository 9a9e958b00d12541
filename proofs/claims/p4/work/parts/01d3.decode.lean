theorem dqM_costOf_0 : decode cqM_costOf 0 = .ok (.aload_n 0, 1) := by decide +kernel
theorem dqM_costOf_1 : decode cqM_costOf 1 = .ok (.iload_n 1, 1) := by decide +kernel
theorem dqM_costOf_2 : decode cqM_costOf 2 = .ok (.iload_n 2, 1) := by decide +kernel
theorem dqM_costOf_3 : decode cqM_costOf 3 = .ok (.invokevirtual 170, 3) := by decide +kernel
theorem dqM_costOf_6 : decode cqM_costOf 6 = .ok (.istore 4, 2) := by decide +kernel
theorem dqM_costOf_8 : decode cqM_costOf 8 = .ok (.iload_n 2, 1) := by decide +kernel
theorem dqM_costOf_9 : decode cqM_costOf 9 = .ok (.aload_n 0, 1) := by decide +kernel
theorem dqM_costOf_10 : decode cqM_costOf 10 = .ok (.getfield 88, 3) := by decide +kernel
theorem dqM_costOf_13 : decode cqM_costOf 13 = .ok (.iconst 1, 1) := by decide +kernel
theorem dqM_costOf_14 : decode cqM_costOf 14 = .ok (.isub, 1) := by decide +kernel
theorem dqM_costOf_15 : decode cqM_costOf 15 = .ok (.if_icmp .ne 11, 3) := by decide +kernel
theorem dqM_costOf_18 : decode cqM_costOf 18 = .ok (.iload 4, 2) := by decide +kernel
theorem dqM_costOf_20 : decode cqM_costOf 20 = .ok (.iload_n 3, 1) := by decide +kernel
theorem dqM_costOf_21 : decode cqM_costOf 21 = .ok (.if_icmp .gt 5, 3) := by decide +kernel
theorem dqM_costOf_24 : decode cqM_costOf 24 = .ok (.lconst 0, 1) := by decide +kernel
theorem dqM_costOf_25 : decode cqM_costOf 25 = .ok (.lreturn, 1) := by decide +kernel
theorem dqM_costOf_26 : decode cqM_costOf 26 = .ok (.iload_n 3, 1) := by decide +kernel
theorem dqM_costOf_27 : decode cqM_costOf 27 = .ok (.iload 4, 2) := by decide +kernel
theorem dqM_costOf_29 : decode cqM_costOf 29 = .ok (.isub, 1) := by decide +kernel
theorem dqM_costOf_30 : decode cqM_costOf 30 = .ok (.i2l, 1) := by decide +kernel
theorem dqM_costOf_31 : decode cqM_costOf 31 = .ok (.lstore 5, 2) := by decide +kernel
theorem dqM_costOf_33 : decode cqM_costOf 33 = .ok (.lload 5, 2) := by decide +kernel
theorem dqM_costOf_35 : decode cqM_costOf 35 = .ok (.lload 5, 2) := by decide +kernel
theorem dqM_costOf_37 : decode cqM_costOf 37 = .ok (.lmul, 1) := by decide +kernel
theorem dqM_costOf_38 : decode cqM_costOf 38 = .ok (.aload_n 0, 1) := by decide +kernel
theorem dqM_costOf_39 : decode cqM_costOf 39 = .ok (.iload_n 1, 1) := by decide +kernel
theorem dqM_costOf_40 : decode cqM_costOf 40 = .ok (.iload_n 2, 1) := by decide +kernel
theorem dqM_costOf_41 : decode cqM_costOf 41 = .ok (.invokevirtual 116, 3) := by decide +kernel
theorem dqM_costOf_44 : decode cqM_costOf 44 = .ok (.iload_n 3, 1) := by decide +kernel
theorem dqM_costOf_45 : decode cqM_costOf 45 = .ok (.if_icmp .le 9, 3) := by decide +kernel
theorem dqM_costOf_48 : decode cqM_costOf 48 = .ok (.ldc2_w 173, 3) := by decide +kernel
theorem dqM_costOf_51 : decode cqM_costOf 51 = .ok (.goto 4, 3) := by decide +kernel
theorem dqM_costOf_54 : decode cqM_costOf 54 = .ok (.lconst 0, 1) := by decide +kernel
theorem dqM_costOf_55 : decode cqM_costOf 55 = .ok (.ladd, 1) := by decide +kernel
theorem dqM_costOf_56 : decode cqM_costOf 56 = .ok (.lreturn, 1) := by decide +kernel
theorem dqM_isBreak_0 : decode cqM_isBreak 0 = .ok (.iload_n 1, 1) := by decide +kernel
theorem dqM_isBreak_1 : decode cqM_isBreak 1 = .ok (.ifCond .eq 22, 3) := by decide +kernel
theorem dqM_isBreak_4 : decode cqM_isBreak 4 = .ok (.iload_n 1, 1) := by decide +kernel
theorem dqM_isBreak_5 : decode cqM_isBreak 5 = .ok (.aload_n 0, 1) := by decide +kernel
theorem dqM_isBreak_6 : decode cqM_isBreak 6 = .ok (.getfield 88, 3) := by decide +kernel
theorem dqM_isBreak_9 : decode cqM_isBreak 9 = .ok (.iconst 1, 1) := by decide +kernel
theorem dqM_isBreak_10 : decode cqM_isBreak 10 = .ok (.isub, 1) := by decide +kernel
theorem dqM_isBreak_11 : decode cqM_isBreak 11 = .ok (.if_icmp .eq 12, 3) := by decide +kernel
theorem dqM_isBreak_14 : decode cqM_isBreak 14 = .ok (.aload_n 0, 1) := by decide +kernel
theorem dqM_isBreak_15 : decode cqM_isBreak 15 = .ok (.getfield 23, 3) := by decide +kernel
theorem dqM_isBreak_18 : decode cqM_isBreak 18 = .ok (.iload_n 1, 1) := by decide +kernel
theorem dqM_isBreak_19 : decode cqM_isBreak 19 = .ok (.baload, 1) := by decide +kernel
theorem dqM_isBreak_20 : decode cqM_isBreak 20 = .ok (.ifCond .eq 7, 3) := by decide +kernel
theorem dqM_isBreak_23 : decode cqM_isBreak 23 = .ok (.iconst 1, 1) := by decide +kernel
theorem dqM_isBreak_24 : decode cqM_isBreak 24 = .ok (.goto 4, 3) := by decide +kernel
theorem dqM_isBreak_27 : decode cqM_isBreak 27 = .ok (.iconst 0, 1) := by decide +kernel
theorem dqM_isBreak_28 : decode cqM_isBreak 28 = .ok (.ireturn, 1) := by decide +kernel
theorem dqM_lines_0 : decode cqM_lines 0 = .ok (.iload_n 1, 1) := by decide +kernel
theorem dqM_lines_1 : decode cqM_lines 1 = .ok (.ifCond .lt 10, 3) := by decide +kernel
theorem dqM_lines_4 : decode cqM_lines 4 = .ok (.iload_n 1, 1) := by decide +kernel
theorem dqM_lines_5 : decode cqM_lines 5 = .ok (.sipush 20000, 3) := by decide +kernel
theorem dqM_lines_8 : decode cqM_lines 8 = .ok (.if_icmp .le 6, 3) := by decide +kernel
theorem dqM_lines_11 : decode cqM_lines 11 = .ok (.bipush (-2), 2) := by decide +kernel
theorem dqM_lines_13 : decode cqM_lines 13 = .ok (.ireturn, 1) := by decide +kernel
theorem dqM_lines_14 : decode cqM_lines 14 = .ok (.aload_n 0, 1) := by decide +kernel
theorem dqM_lines_15 : decode cqM_lines 15 = .ok (.getfield 88, 3) := by decide +kernel
theorem dqM_lines_18 : decode cqM_lines 18 = .ok (.iconst 2, 1) := by decide +kernel
theorem dqM_lines_19 : decode cqM_lines 19 = .ok (.if_icmp .ge 6, 3) := by decide +kernel
theorem dqM_lines_22 : decode cqM_lines 22 = .ok (.bipush (-3), 2) := by decide +kernel
theorem dqM_lines_24 : decode cqM_lines 24 = .ok (.ireturn, 1) := by decide +kernel
theorem dqM_lines_25 : decode cqM_lines 25 = .ok (.aload_n 0, 1) := by decide +kernel
theorem dqM_lines_26 : decode cqM_lines 26 = .ok (.getfield 68, 3) := by decide +kernel
theorem dqM_lines_29 : decode cqM_lines 29 = .ok (.aload_n 0, 1) := by decide +kernel
theorem dqM_lines_30 : decode cqM_lines 30 = .ok (.getfield 88, 3) := by decide +kernel
theorem dqM_lines_33 : decode cqM_lines 33 = .ok (.iconst 1, 1) := by decide +kernel
theorem dqM_lines_34 : decode cqM_lines 34 = .ok (.isub, 1) := by decide +kernel
theorem dqM_lines_35 : decode cqM_lines 35 = .ok (.lconst 0, 1) := by decide +kernel
theorem dqM_lines_36 : decode cqM_lines 36 = .ok (.lastore, 1) := by decide +kernel
theorem dqM_lines_37 : decode cqM_lines 37 = .ok (.aload_n 0, 1) := by decide +kernel
theorem dqM_lines_38 : decode cqM_lines 38 = .ok (.getfield 71, 3) := by decide +kernel
theorem dqM_lines_41 : decode cqM_lines 41 = .ok (.aload_n 0, 1) := by decide +kernel
theorem dqM_lines_42 : decode cqM_lines 42 = .ok (.getfield 88, 3) := by decide +kernel
theorem dqM_lines_45 : decode cqM_lines 45 = .ok (.iconst 1, 1) := by decide +kernel
theorem dqM_lines_46 : decode cqM_lines 46 = .ok (.isub, 1) := by decide +kernel
theorem dqM_lines_47 : decode cqM_lines 47 = .ok (.iconst 0, 1) := by decide +kernel
theorem dqM_lines_48 : decode cqM_lines 48 = .ok (.iastore, 1) := by decide +kernel
theorem dqM_lines_49 : decode cqM_lines 49 = .ok (.aload_n 0, 1) := by decide +kernel
theorem dqM_lines_50 : decode cqM_lines 50 = .ok (.getfield 88, 3) := by decide +kernel
theorem dqM_lines_53 : decode cqM_lines 53 = .ok (.iconst 2, 1) := by decide +kernel
theorem dqM_lines_54 : decode cqM_lines 54 = .ok (.isub, 1) := by decide +kernel
theorem dqM_lines_55 : decode cqM_lines 55 = .ok (.istore_n 2, 1) := by decide +kernel
theorem dqM_lines_56 : decode cqM_lines 56 = .ok (.iload_n 2, 1) := by decide +kernel
theorem dqM_lines_57 : decode cqM_lines 57 = .ok (.ifCond .lt 146, 3) := by decide +kernel
theorem dqM_lines_60 : decode cqM_lines 60 = .ok (.aload_n 0, 1) := by decide +kernel
theorem dqM_lines_61 : decode cqM_lines 61 = .ok (.getfield 74, 3) := by decide +kernel
theorem dqM_lines_64 : decode cqM_lines 64 = .ok (.iload_n 2, 1) := by decide +kernel
theorem dqM_lines_65 : decode cqM_lines 65 = .ok (.iconst (-1), 1) := by decide +kernel
theorem dqM_lines_66 : decode cqM_lines 66 = .ok (.iastore, 1) := by decide +kernel
theorem dqM_lines_67 : decode cqM_lines 67 = .ok (.aload_n 0, 1) := by decide +kernel
theorem dqM_lines_68 : decode cqM_lines 68 = .ok (.getfield 88, 3) := by decide +kernel
theorem dqM_lines_71 : decode cqM_lines 71 = .ok (.iconst 1, 1) := by decide +kernel
theorem dqM_lines_72 : decode cqM_lines 72 = .ok (.isub, 1) := by decide +kernel
theorem dqM_lines_73 : decode cqM_lines 73 = .ok (.istore_n 3, 1) := by decide +kernel
theorem dqM_lines_74 : decode cqM_lines 74 = .ok (.iload_n 3, 1) := by decide +kernel
theorem dqM_lines_75 : decode cqM_lines 75 = .ok (.iload_n 2, 1) := by decide +kernel
theorem dqM_lines_76 : decode cqM_lines 76 = .ok (.if_icmp .le 121, 3) := by decide +kernel
theorem dqM_lines_79 : decode cqM_lines 79 = .ok (.aload_n 0, 1) := by decide +kernel
theorem dqM_lines_80 : decode cqM_lines 80 = .ok (.iload_n 2, 1) := by decide +kernel
theorem dqM_lines_81 : decode cqM_lines 81 = .ok (.invokevirtual 175, 3) := by decide +kernel
theorem dqM_lines_84 : decode cqM_lines 84 = .ok (.ifCond .eq 113, 3) := by decide +kernel
theorem dqM_lines_87 : decode cqM_lines 87 = .ok (.aload_n 0, 1) := by decide +kernel
theorem dqM_lines_88 : decode cqM_lines 88 = .ok (.iload_n 3, 1) := by decide +kernel
theorem dqM_lines_89 : decode cqM_lines 89 = .ok (.invokevirtual 175, 3) := by decide +kernel
theorem dqM_lines_92 : decode cqM_lines 92 = .ok (.ifCond .ne 6, 3) := by decide +kernel
theorem dqM_lines_95 : decode cqM_lines 95 = .ok (.goto 96, 3) := by decide +kernel
theorem dqM_lines_98 : decode cqM_lines 98 = .ok (.aload_n 0, 1) := by decide +kernel
theorem dqM_lines_99 : decode cqM_lines 99 = .ok (.iload_n 2, 1) := by decide +kernel
theorem dqM_lines_100 : decode cqM_lines 100 = .ok (.iload_n 3, 1) := by decide +kernel
theorem dqM_lines_101 : decode cqM_lines 101 = .ok (.iload_n 1, 1) := by decide +kernel
theorem dqM_lines_102 : decode cqM_lines 102 = .ok (.invokevirtual 178, 3) := by decide +kernel
theorem dqM_lines_105 : decode cqM_lines 105 = .ok (.aload_n 0, 1) := by decide +kernel
theorem dqM_lines_106 : decode cqM_lines 106 = .ok (.getfield 68, 3) := by decide +kernel
theorem dqM_lines_109 : decode cqM_lines 109 = .ok (.iload_n 3, 1) := by decide +kernel
theorem dqM_lines_110 : decode cqM_lines 110 = .ok (.laload, 1) := by decide +kernel
theorem dqM_lines_111 : decode cqM_lines 111 = .ok (.ladd, 1) := by decide +kernel
theorem dqM_lines_112 : decode cqM_lines 112 = .ok (.lstore 4, 2) := by decide +kernel
theorem dqM_lines_114 : decode cqM_lines 114 = .ok (.iconst 1, 1) := by decide +kernel
theorem dqM_lines_115 : decode cqM_lines 115 = .ok (.aload_n 0, 1) := by decide +kernel
theorem dqM_lines_116 : decode cqM_lines 116 = .ok (.getfield 71, 3) := by decide +kernel
theorem dqM_lines_119 : decode cqM_lines 119 = .ok (.iload_n 3, 1) := by decide +kernel
theorem dqM_lines_120 : decode cqM_lines 120 = .ok (.iaload, 1) := by decide +kernel
theorem dqM_lines_121 : decode cqM_lines 121 = .ok (.iadd, 1) := by decide +kernel
theorem dqM_lines_122 : decode cqM_lines 122 = .ok (.istore 6, 2) := by decide +kernel
theorem dqM_lines_124 : decode cqM_lines 124 = .ok (.aload_n 0, 1) := by decide +kernel
theorem dqM_lines_125 : decode cqM_lines 125 = .ok (.getfield 74, 3) := by decide +kernel
theorem dqM_lines_128 : decode cqM_lines 128 = .ok (.iload_n 2, 1) := by decide +kernel
theorem dqM_lines_129 : decode cqM_lines 129 = .ok (.iaload, 1) := by decide +kernel
theorem dqM_lines_130 : decode cqM_lines 130 = .ok (.ifCond .lt 38, 3) := by decide +kernel
theorem dqM_lines_133 : decode cqM_lines 133 = .ok (.lload 4, 2) := by decide +kernel
theorem dqM_lines_135 : decode cqM_lines 135 = .ok (.aload_n 0, 1) := by decide +kernel
theorem dqM_lines_136 : decode cqM_lines 136 = .ok (.getfield 68, 3) := by decide +kernel
theorem dqM_lines_139 : decode cqM_lines 139 = .ok (.iload_n 2, 1) := by decide +kernel
theorem dqM_lines_140 : decode cqM_lines 140 = .ok (.laload, 1) := by decide +kernel
theorem dqM_lines_141 : decode cqM_lines 141 = .ok (.lcmp, 1) := by decide +kernel
theorem dqM_lines_142 : decode cqM_lines 142 = .ok (.ifCond .lt 26, 3) := by decide +kernel
theorem dqM_lines_145 : decode cqM_lines 145 = .ok (.lload 4, 2) := by decide +kernel
theorem dqM_lines_147 : decode cqM_lines 147 = .ok (.aload_n 0, 1) := by decide +kernel
theorem dqM_lines_148 : decode cqM_lines 148 = .ok (.getfield 68, 3) := by decide +kernel
theorem dqM_lines_151 : decode cqM_lines 151 = .ok (.iload_n 2, 1) := by decide +kernel
theorem dqM_lines_152 : decode cqM_lines 152 = .ok (.laload, 1) := by decide +kernel
theorem dqM_lines_153 : decode cqM_lines 153 = .ok (.lcmp, 1) := by decide +kernel
theorem dqM_lines_154 : decode cqM_lines 154 = .ok (.ifCond .ne 37, 3) := by decide +kernel
theorem dqM_lines_157 : decode cqM_lines 157 = .ok (.iload 6, 2) := by decide +kernel
theorem dqM_lines_159 : decode cqM_lines 159 = .ok (.aload_n 0, 1) := by decide +kernel
theorem dqM_lines_160 : decode cqM_lines 160 = .ok (.getfield 71, 3) := by decide +kernel
theorem dqM_lines_163 : decode cqM_lines 163 = .ok (.iload_n 2, 1) := by decide +kernel
theorem dqM_lines_164 : decode cqM_lines 164 = .ok (.iaload, 1) := by decide +kernel
theorem dqM_lines_165 : decode cqM_lines 165 = .ok (.if_icmp .ge 26, 3) := by decide +kernel
theorem dqM_lines_168 : decode cqM_lines 168 = .ok (.aload_n 0, 1) := by decide +kernel
theorem dqM_lines_169 : decode cqM_lines 169 = .ok (.getfield 68, 3) := by decide +kernel
theorem dqM_lines_172 : decode cqM_lines 172 = .ok (.iload_n 2, 1) := by decide +kernel
theorem dqM_lines_173 : decode cqM_lines 173 = .ok (.lload 4, 2) := by decide +kernel
theorem dqM_lines_175 : decode cqM_lines 175 = .ok (.lastore, 1) := by decide +kernel
theorem dqM_lines_176 : decode cqM_lines 176 = .ok (.aload_n 0, 1) := by decide +kernel
theorem dqM_lines_177 : decode cqM_lines 177 = .ok (.getfield 71, 3) := by decide +kernel
theorem dqM_lines_180 : decode cqM_lines 180 = .ok (.iload_n 2, 1) := by decide +kernel
theorem dqM_lines_181 : decode cqM_lines 181 = .ok (.iload 6, 2) := by decide +kernel
theorem dqM_lines_183 : decode cqM_lines 183 = .ok (.iastore, 1) := by decide +kernel
theorem dqM_lines_184 : decode cqM_lines 184 = .ok (.aload_n 0, 1) := by decide +kernel
theorem dqM_lines_185 : decode cqM_lines 185 = .ok (.getfield 74, 3) := by decide +kernel
theorem dqM_lines_188 : decode cqM_lines 188 = .ok (.iload_n 2, 1) := by decide +kernel
theorem dqM_lines_189 : decode cqM_lines 189 = .ok (.iload_n 3, 1) := by decide +kernel
theorem dqM_lines_190 : decode cqM_lines 190 = .ok (.iastore, 1) := by decide +kernel
theorem dqM_lines_191 : decode cqM_lines 191 = .ok (.iinc 3 (-1), 3) := by decide +kernel
theorem dqM_lines_194 : decode cqM_lines 194 = .ok (.goto (-120), 3) := by decide +kernel
theorem dqM_lines_197 : decode cqM_lines 197 = .ok (.iinc 2 (-1), 3) := by decide +kernel
theorem dqM_lines_200 : decode cqM_lines 200 = .ok (.goto (-144), 3) := by decide +kernel
theorem dqM_lines_203 : decode cqM_lines 203 = .ok (.aload_n 0, 1) := by decide +kernel
theorem dqM_lines_204 : decode cqM_lines 204 = .ok (.iconst 1, 1) := by decide +kernel
theorem dqM_lines_205 : decode cqM_lines 205 = .ok (.putfield 81, 3) := by decide +kernel
theorem dqM_lines_208 : decode cqM_lines 208 = .ok (.aload_n 0, 1) := by decide +kernel
theorem dqM_lines_209 : decode cqM_lines 209 = .ok (.aload_n 0, 1) := by decide +kernel
theorem dqM_lines_210 : decode cqM_lines 210 = .ok (.getfield 71, 3) := by decide +kernel
theorem dqM_lines_213 : decode cqM_lines 213 = .ok (.iconst 0, 1) := by decide +kernel
theorem dqM_lines_214 : decode cqM_lines 214 = .ok (.iaload, 1) := by decide +kernel
theorem dqM_lines_215 : decode cqM_lines 215 = .ok (.putfield 182, 3) := by decide +kernel
theorem dqM_lines_218 : decode cqM_lines 218 = .ok (.aload_n 0, 1) := by decide +kernel
theorem dqM_lines_219 : decode cqM_lines 219 = .ok (.aload_n 0, 1) := by decide +kernel
theorem dqM_lines_220 : decode cqM_lines 220 = .ok (.getfield 68, 3) := by decide +kernel
theorem dqM_lines_223 : decode cqM_lines 223 = .ok (.iconst 0, 1) := by decide +kernel
theorem dqM_lines_224 : decode cqM_lines 224 = .ok (.laload, 1) := by decide +kernel
theorem dqM_lines_225 : decode cqM_lines 225 = .ok (.putfield 185, 3) := by decide +kernel
theorem dqM_lines_228 : decode cqM_lines 228 = .ok (.iconst 0, 1) := by decide +kernel
theorem dqM_lines_229 : decode cqM_lines 229 = .ok (.istore_n 2, 1) := by decide +kernel
theorem dqM_lines_230 : decode cqM_lines 230 = .ok (.iconst 0, 1) := by decide +kernel
theorem dqM_lines_231 : decode cqM_lines 231 = .ok (.istore_n 3, 1) := by decide +kernel
theorem dqM_lines_232 : decode cqM_lines 232 = .ok (.iload_n 3, 1) := by decide +kernel
theorem dqM_lines_233 : decode cqM_lines 233 = .ok (.aload_n 0, 1) := by decide +kernel
theorem dqM_lines_234 : decode cqM_lines 234 = .ok (.getfield 182, 3) := by decide +kernel
theorem dqM_lines_237 : decode cqM_lines 237 = .ok (.if_icmp .gt 35, 3) := by decide +kernel
theorem dqM_lines_240 : decode cqM_lines 240 = .ok (.aload_n 0, 1) := by decide +kernel
theorem dqM_lines_241 : decode cqM_lines 241 = .ok (.getfield 59, 3) := by decide +kernel
theorem dqM_lines_244 : decode cqM_lines 244 = .ok (.iload_n 3, 1) := by decide +kernel
theorem dqM_lines_245 : decode cqM_lines 245 = .ok (.iload_n 2, 1) := by decide +kernel
theorem dqM_lines_246 : decode cqM_lines 246 = .ok (.iastore, 1) := by decide +kernel
theorem dqM_lines_247 : decode cqM_lines 247 = .ok (.iload_n 3, 1) := by decide +kernel
theorem dqM_lines_248 : decode cqM_lines 248 = .ok (.aload_n 0, 1) := by decide +kernel
theorem dqM_lines_249 : decode cqM_lines 249 = .ok (.getfield 182, 3) := by decide +kernel
theorem dqM_lines_252 : decode cqM_lines 252 = .ok (.if_icmp .ge 12, 3) := by decide +kernel
theorem dqM_lines_255 : decode cqM_lines 255 = .ok (.aload_n 0, 1) := by decide +kernel
theorem dqM_lines_256 : decode cqM_lines 256 = .ok (.getfield 74, 3) := by decide +kernel
theorem dqM_lines_259 : decode cqM_lines 259 = .ok (.iload_n 2, 1) := by decide +kernel
theorem dqM_lines_260 : decode cqM_lines 260 = .ok (.iaload, 1) := by decide +kernel
theorem dqM_lines_261 : decode cqM_lines 261 = .ok (.goto 4, 3) := by decide +kernel
theorem dqM_lines_264 : decode cqM_lines 264 = .ok (.iload_n 2, 1) := by decide +kernel
theorem dqM_lines_265 : decode cqM_lines 265 = .ok (.istore_n 2, 1) := by decide +kernel
theorem dqM_lines_266 : decode cqM_lines 266 = .ok (.iinc 3 1, 3) := by decide +kernel
theorem dqM_lines_269 : decode cqM_lines 269 = .ok (.goto (-37), 3) := by decide +kernel
theorem dqM_lines_272 : decode cqM_lines 272 = .ok (.aload_n 0, 1) := by decide +kernel
theorem dqM_lines_273 : decode cqM_lines 273 = .ok (.getfield 182, 3) := by decide +kernel
theorem dqM_lines_276 : decode cqM_lines 276 = .ok (.ireturn, 1) := by decide +kernel
theorem dqM_begin_0 : decode cqM_begin 0 = .ok (.aload_n 0, 1) := by decide +kernel
theorem dqM_begin_1 : decode cqM_begin 1 = .ok (.getfield 81, 3) := by decide +kernel
theorem dqM_begin_4 : decode cqM_begin 4 = .ok (.ifCond .ne 8, 3) := by decide +kernel
theorem dqM_begin_7 : decode cqM_begin 7 = .ok (.bipush (-3), 2) := by decide +kernel
theorem dqM_begin_9 : decode cqM_begin 9 = .ok (.goto 25, 3) := by decide +kernel
theorem dqM_begin_12 : decode cqM_begin 12 = .ok (.iload_n 1, 1) := by decide +kernel
theorem dqM_begin_13 : decode cqM_begin 13 = .ok (.ifCond .lt 11, 3) := by decide +kernel
theorem dqM_begin_16 : decode cqM_begin 16 = .ok (.iload_n 1, 1) := by decide +kernel
theorem dqM_begin_17 : decode cqM_begin 17 = .ok (.aload_n 0, 1) := by decide +kernel
theorem dqM_begin_18 : decode cqM_begin 18 = .ok (.getfield 182, 3) := by decide +kernel
theorem dqM_begin_21 : decode cqM_begin 21 = .ok (.if_icmp .le 7, 3) := by decide +kernel
theorem dqM_begin_24 : decode cqM_begin 24 = .ok (.iconst (-1), 1) := by decide +kernel
theorem dqM_begin_25 : decode cqM_begin 25 = .ok (.goto 9, 3) := by decide +kernel
theorem dqM_begin_28 : decode cqM_begin 28 = .ok (.aload_n 0, 1) := by decide +kernel
theorem dqM_begin_29 : decode cqM_begin 29 = .ok (.getfield 59, 3) := by decide +kernel
theorem dqM_begin_32 : decode cqM_begin 32 = .ok (.iload_n 1, 1) := by decide +kernel
theorem dqM_begin_33 : decode cqM_begin 33 = .ok (.iaload, 1) := by decide +kernel
theorem dqM_begin_34 : decode cqM_begin 34 = .ok (.ireturn, 1) := by decide +kernel
theorem dqM_cost_0 : decode cqM_cost 0 = .ok (.aload_n 0, 1) := by decide +kernel
theorem dqM_cost_1 : decode cqM_cost 1 = .ok (.getfield 81, 3) := by decide +kernel
theorem dqM_cost_4 : decode cqM_cost 4 = .ok (.ifCond .eq 10, 3) := by decide +kernel
theorem dqM_cost_7 : decode cqM_cost 7 = .ok (.aload_n 0, 1) := by decide +kernel
theorem dqM_cost_8 : decode cqM_cost 8 = .ok (.getfield 185, 3) := by decide +kernel
theorem dqM_cost_11 : decode cqM_cost 11 = .ok (.goto 6, 3) := by decide +kernel
theorem dqM_cost_14 : decode cqM_cost 14 = .ok (.ldc2_w 160, 3) := by decide +kernel
theorem dqM_cost_17 : decode cqM_cost 17 = .ok (.lreturn, 1) := by decide +kernel
theorem dqBr_init_0 : decode cqBr_init 0 = .ok (.aload_n 0, 1) := by decide +kernel
theorem dqBr_init_1 : decode cqBr_init 1 = .ok (.invokespecial 3, 3) := by decide +kernel
theorem dqBr_init_4 : decode cqBr_init 4 = .ok (.aload_n 0, 1) := by decide +kernel
theorem dqBr_init_5 : decode cqBr_init 5 = .ok (.bipush 24, 2) := by decide +kernel
theorem dqBr_init_7 : decode cqBr_init 7 = .ok (.newarray .long, 2) := by decide +kernel
theorem dqBr_init_9 : decode cqBr_init 9 = .ok (.putfield 9, 3) := by decide +kernel
theorem dqBr_init_12 : decode cqBr_init 12 = .ok (.aload_n 0, 1) := by decide +kernel
theorem dqBr_init_13 : decode cqBr_init 13 = .ok (.bipush 24, 2) := by decide +kernel
theorem dqBr_init_15 : decode cqBr_init 15 = .ok (.newarray .int, 2) := by decide +kernel
theorem dqBr_init_17 : decode cqBr_init 17 = .ok (.putfield 15, 3) := by decide +kernel
theorem dqBr_init_20 : decode cqBr_init 20 = .ok (.aload_n 0, 1) := by decide +kernel
theorem dqBr_init_21 : decode cqBr_init 21 = .ok (.bipush 24, 2) := by decide +kernel
theorem dqBr_init_23 : decode cqBr_init 23 = .ok (.newarray .int, 2) := by decide +kernel
theorem dqBr_init_25 : decode cqBr_init 25 = .ok (.putfield 19, 3) := by decide +kernel
theorem dqBr_init_28 : decode cqBr_init 28 = .ok (.aload_n 0, 1) := by decide +kernel
theorem dqBr_init_29 : decode cqBr_init 29 = .ok (.bipush 24, 2) := by decide +kernel
theorem dqBr_init_31 : decode cqBr_init 31 = .ok (.newarray .int, 2) := by decide +kernel
theorem dqBr_init_33 : decode cqBr_init 33 = .ok (.putfield 22, 3) := by decide +kernel
theorem dqBr_init_36 : decode cqBr_init 36 = .ok (.aload_n 0, 1) := by decide +kernel
theorem dqBr_init_37 : decode cqBr_init 37 = .ok (.iconst 0, 1) := by decide +kernel
theorem dqBr_init_38 : decode cqBr_init 38 = .ok (.putfield 25, 3) := by decide +kernel
theorem dqBr_init_41 : decode cqBr_init 41 = .ok (.return_, 1) := by decide +kernel
theorem dqBr_choose_0 : decode cqBr_choose 0 = .ok (.aload_n 1, 1) := by decide +kernel
theorem dqBr_choose_1 : decode cqBr_choose 1 = .ok (.invokevirtual 29, 3) := by decide +kernel
theorem dqBr_choose_4 : decode cqBr_choose 4 = .ok (.istore 5, 2) := by decide +kernel
theorem dqBr_choose_6 : decode cqBr_choose 6 = .ok (.aload_n 0, 1) := by decide +kernel
theorem dqBr_choose_7 : decode cqBr_choose 7 = .ok (.getfield 9, 3) := by decide +kernel
theorem dqBr_choose_10 : decode cqBr_choose 10 = .ok (.iload 5, 2) := by decide +kernel
theorem dqBr_choose_12 : decode cqBr_choose 12 = .ok (.lconst 0, 1) := by decide +kernel
theorem dqBr_choose_13 : decode cqBr_choose 13 = .ok (.lastore, 1) := by decide +kernel
theorem dqBr_choose_14 : decode cqBr_choose 14 = .ok (.aload_n 0, 1) := by decide +kernel
theorem dqBr_choose_15 : decode cqBr_choose 15 = .ok (.getfield 15, 3) := by decide +kernel
theorem dqBr_choose_18 : decode cqBr_choose 18 = .ok (.iload 5, 2) := by decide +kernel
theorem dqBr_choose_20 : decode cqBr_choose 20 = .ok (.iconst 0, 1) := by decide +kernel
theorem dqBr_choose_21 : decode cqBr_choose 21 = .ok (.iastore, 1) := by decide +kernel
theorem dqBr_choose_22 : decode cqBr_choose 22 = .ok (.iload 5, 2) := by decide +kernel
theorem dqBr_choose_24 : decode cqBr_choose 24 = .ok (.iconst 1, 1) := by decide +kernel
theorem dqBr_choose_25 : decode cqBr_choose 25 = .ok (.isub, 1) := by decide +kernel
theorem dqBr_choose_26 : decode cqBr_choose 26 = .ok (.istore 6, 2) := by decide +kernel
theorem dqBr_choose_28 : decode cqBr_choose 28 = .ok (.iload 6, 2) := by decide +kernel
theorem dqBr_choose_30 : decode cqBr_choose 30 = .ok (.ifCond .lt 29, 3) := by decide +kernel
theorem dqBr_choose_33 : decode cqBr_choose 33 = .ok (.aload_n 1, 1) := by decide +kernel
theorem dqBr_choose_34 : decode cqBr_choose 34 = .ok (.iload 6, 2) := by decide +kernel
theorem dqBr_choose_36 : decode cqBr_choose 36 = .ok (.invokevirtual 35, 3) := by decide +kernel
theorem dqBr_choose_39 : decode cqBr_choose 39 = .ok (.ifCond .eq 14, 3) := by decide +kernel
theorem dqBr_choose_42 : decode cqBr_choose 42 = .ok (.aload_n 0, 1) := by decide +kernel
theorem dqBr_choose_43 : decode cqBr_choose 43 = .ok (.iload 6, 2) := by decide +kernel
theorem dqBr_choose_45 : decode cqBr_choose 45 = .ok (.aload_n 1, 1) := by decide +kernel
theorem dqBr_choose_46 : decode cqBr_choose 46 = .ok (.aload_n 2, 1) := by decide +kernel
theorem dqBr_choose_47 : decode cqBr_choose 47 = .ok (.aload_n 3, 1) := by decide +kernel
theorem dqBr_choose_48 : decode cqBr_choose 48 = .ok (.iload 4, 2) := by decide +kernel
theorem dqBr_choose_50 : decode cqBr_choose 50 = .ok (.invokevirtual 39, 3) := by decide +kernel
theorem dqBr_choose_53 : decode cqBr_choose 53 = .ok (.iinc 6 (-1), 3) := by decide +kernel
theorem dqBr_choose_56 : decode cqBr_choose 56 = .ok (.goto (-28), 3) := by decide +kernel
theorem dqBr_choose_59 : decode cqBr_choose 59 = .ok (.aload_n 0, 1) := by decide +kernel
theorem dqBr_choose_60 : decode cqBr_choose 60 = .ok (.iload 5, 2) := by decide +kernel
theorem dqBr_choose_62 : decode cqBr_choose 62 = .ok (.invokevirtual 43, 3) := by decide +kernel
theorem dqBr_choose_65 : decode cqBr_choose 65 = .ok (.return_, 1) := by decide +kernel
theorem dqBr_chooseFrom_0 : decode cqBr_chooseFrom 0 = .ok (.aload_n 2, 1) := by decide +kernel
theorem dqBr_chooseFrom_1 : decode cqBr_chooseFrom 1 = .ok (.invokevirtual 29, 3) := by decide +kernel
theorem dqBr_chooseFrom_4 : decode cqBr_chooseFrom 4 = .ok (.istore 6, 2) := by decide +kernel
theorem dqBr_chooseFrom_6 : decode cqBr_chooseFrom 6 = .ok (.iload 6, 2) := by decide +kernel
theorem dqBr_chooseFrom_8 : decode cqBr_chooseFrom 8 = .ok (.istore 7, 2) := by decide +kernel
theorem dqBr_chooseFrom_10 : decode cqBr_chooseFrom 10 = .ok (.iload 7, 2) := by decide +kernel
theorem dqBr_chooseFrom_12 : decode cqBr_chooseFrom 12 = .ok (.iload_n 1, 1) := by decide +kernel
theorem dqBr_chooseFrom_13 : decode cqBr_chooseFrom 13 = .ok (.if_icmp .le 146, 3) := by decide +kernel
theorem dqBr_chooseFrom_16 : decode cqBr_chooseFrom 16 = .ok (.aload_n 2, 1) := by decide +kernel
theorem dqBr_chooseFrom_17 : decode cqBr_chooseFrom 17 = .ok (.iload 7, 2) := by decide +kernel
theorem dqBr_chooseFrom_19 : decode cqBr_chooseFrom 19 = .ok (.invokevirtual 35, 3) := by decide +kernel
theorem dqBr_chooseFrom_22 : decode cqBr_chooseFrom 22 = .ok (.ifCond .eq 131, 3) := by decide +kernel
theorem dqBr_chooseFrom_25 : decode cqBr_chooseFrom 25 = .ok (.aload 4, 2) := by decide +kernel
theorem dqBr_chooseFrom_27 : decode cqBr_chooseFrom 27 = .ok (.aload_n 2, 1) := by decide +kernel
theorem dqBr_chooseFrom_28 : decode cqBr_chooseFrom 28 = .ok (.aload_n 3, 1) := by decide +kernel
theorem dqBr_chooseFrom_29 : decode cqBr_chooseFrom 29 = .ok (.iload_n 1, 1) := by decide +kernel
theorem dqBr_chooseFrom_30 : decode cqBr_chooseFrom 30 = .ok (.iload 7, 2) := by decide +kernel
theorem dqBr_chooseFrom_32 : decode cqBr_chooseFrom 32 = .ok (.invokevirtual 47, 3) := by decide +kernel
theorem dqBr_chooseFrom_35 : decode cqBr_chooseFrom 35 = .ok (.aload 4, 2) := by decide +kernel
theorem dqBr_chooseFrom_37 : decode cqBr_chooseFrom 37 = .ok (.iload 5, 2) := by decide +kernel
theorem dqBr_chooseFrom_39 : decode cqBr_chooseFrom 39 = .ok (.iload 7, 2) := by decide +kernel
theorem dqBr_chooseFrom_41 : decode cqBr_chooseFrom 41 = .ok (.iload 6, 2) := by decide +kernel
theorem dqBr_chooseFrom_43 : decode cqBr_chooseFrom 43 = .ok (.if_icmp .ne 7, 3) := by decide +kernel
theorem dqBr_chooseFrom_46 : decode cqBr_chooseFrom 46 = .ok (.iconst 1, 1) := by decide +kernel
theorem dqBr_chooseFrom_47 : decode cqBr_chooseFrom 47 = .ok (.goto 4, 3) := by decide +kernel
theorem dqBr_chooseFrom_50 : decode cqBr_chooseFrom 50 = .ok (.iconst 0, 1) := by decide +kernel
theorem dqBr_chooseFrom_51 : decode cqBr_chooseFrom 51 = .ok (.invokestatic 53, 3) := by decide +kernel
theorem dqBr_chooseFrom_54 : decode cqBr_chooseFrom 54 = .ok (.aload_n 0, 1) := by decide +kernel
theorem dqBr_chooseFrom_55 : decode cqBr_chooseFrom 55 = .ok (.getfield 9, 3) := by decide +kernel
theorem dqBr_chooseFrom_58 : decode cqBr_chooseFrom 58 = .ok (.iload 7, 2) := by decide +kernel
theorem dqBr_chooseFrom_60 : decode cqBr_chooseFrom 60 = .ok (.laload, 1) := by decide +kernel
theorem dqBr_chooseFrom_61 : decode cqBr_chooseFrom 61 = .ok (.ladd, 1) := by decide +kernel
theorem dqBr_chooseFrom_62 : decode cqBr_chooseFrom 62 = .ok (.lstore 8, 2) := by decide +kernel
theorem dqBr_chooseFrom_64 : decode cqBr_chooseFrom 64 = .ok (.iconst 1, 1) := by decide +kernel
theorem dqBr_chooseFrom_65 : decode cqBr_chooseFrom 65 = .ok (.aload_n 0, 1) := by decide +kernel
theorem dqBr_chooseFrom_66 : decode cqBr_chooseFrom 66 = .ok (.getfield 15, 3) := by decide +kernel
theorem dqBr_chooseFrom_69 : decode cqBr_chooseFrom 69 = .ok (.iload 7, 2) := by decide +kernel
theorem dqBr_chooseFrom_71 : decode cqBr_chooseFrom 71 = .ok (.iaload, 1) := by decide +kernel
theorem dqBr_chooseFrom_72 : decode cqBr_chooseFrom 72 = .ok (.iadd, 1) := by decide +kernel
theorem dqBr_chooseFrom_73 : decode cqBr_chooseFrom 73 = .ok (.istore 10, 2) := by decide +kernel
theorem dqBr_chooseFrom_75 : decode cqBr_chooseFrom 75 = .ok (.lload 8, 2) := by decide +kernel
theorem dqBr_chooseFrom_77 : decode cqBr_chooseFrom 77 = .ok (.aload_n 0, 1) := by decide +kernel
theorem dqBr_chooseFrom_78 : decode cqBr_chooseFrom 78 = .ok (.getfield 9, 3) := by decide +kernel
theorem dqBr_chooseFrom_81 : decode cqBr_chooseFrom 81 = .ok (.iload_n 1, 1) := by decide +kernel
theorem dqBr_chooseFrom_82 : decode cqBr_chooseFrom 82 = .ok (.laload, 1) := by decide +kernel
theorem dqBr_chooseFrom_83 : decode cqBr_chooseFrom 83 = .ok (.lcmp, 1) := by decide +kernel
theorem dqBr_chooseFrom_84 : decode cqBr_chooseFrom 84 = .ok (.ifCond .lt 26, 3) := by decide +kernel
theorem dqBr_chooseFrom_87 : decode cqBr_chooseFrom 87 = .ok (.lload 8, 2) := by decide +kernel
theorem dqBr_chooseFrom_89 : decode cqBr_chooseFrom 89 = .ok (.aload_n 0, 1) := by decide +kernel
theorem dqBr_chooseFrom_90 : decode cqBr_chooseFrom 90 = .ok (.getfield 9, 3) := by decide +kernel
theorem dqBr_chooseFrom_93 : decode cqBr_chooseFrom 93 = .ok (.iload_n 1, 1) := by decide +kernel
theorem dqBr_chooseFrom_94 : decode cqBr_chooseFrom 94 = .ok (.laload, 1) := by decide +kernel
theorem dqBr_chooseFrom_95 : decode cqBr_chooseFrom 95 = .ok (.lcmp, 1) := by decide +kernel
theorem dqBr_chooseFrom_96 : decode cqBr_chooseFrom 96 = .ok (.ifCond .ne 18, 3) := by decide +kernel
theorem dqBr_chooseFrom_99 : decode cqBr_chooseFrom 99 = .ok (.iload 10, 2) := by decide +kernel
theorem dqBr_chooseFrom_101 : decode cqBr_chooseFrom 101 = .ok (.aload_n 0, 1) := by decide +kernel
theorem dqBr_chooseFrom_102 : decode cqBr_chooseFrom 102 = .ok (.getfield 15, 3) := by decide +kernel
theorem dqBr_chooseFrom_105 : decode cqBr_chooseFrom 105 = .ok (.iload_n 1, 1) := by decide +kernel
theorem dqBr_chooseFrom_106 : decode cqBr_chooseFrom 106 = .ok (.iaload, 1) := by decide +kernel
theorem dqBr_chooseFrom_107 : decode cqBr_chooseFrom 107 = .ok (.if_icmp .ge 7, 3) := by decide +kernel
theorem dqBr_chooseFrom_110 : decode cqBr_chooseFrom 110 = .ok (.iconst 1, 1) := by decide +kernel
theorem dqBr_chooseFrom_111 : decode cqBr_chooseFrom 111 = .ok (.goto 4, 3) := by decide +kernel
theorem dqBr_chooseFrom_114 : decode cqBr_chooseFrom 114 = .ok (.iconst 0, 1) := by decide +kernel
theorem dqBr_chooseFrom_115 : decode cqBr_chooseFrom 115 = .ok (.istore 11, 2) := by decide +kernel
theorem dqBr_chooseFrom_117 : decode cqBr_chooseFrom 117 = .ok (.iload 7, 2) := by decide +kernel
theorem dqBr_chooseFrom_119 : decode cqBr_chooseFrom 119 = .ok (.iload 6, 2) := by decide +kernel
theorem dqBr_chooseFrom_121 : decode cqBr_chooseFrom 121 = .ok (.if_icmp .eq 8, 3) := by decide +kernel
theorem dqBr_chooseFrom_124 : decode cqBr_chooseFrom 124 = .ok (.iload 11, 2) := by decide +kernel
theorem dqBr_chooseFrom_126 : decode cqBr_chooseFrom 126 = .ok (.ifCond .eq 27, 3) := by decide +kernel
theorem dqBr_chooseFrom_129 : decode cqBr_chooseFrom 129 = .ok (.aload_n 0, 1) := by decide +kernel
theorem dqBr_chooseFrom_130 : decode cqBr_chooseFrom 130 = .ok (.getfield 9, 3) := by decide +kernel
theorem dqBr_chooseFrom_133 : decode cqBr_chooseFrom 133 = .ok (.iload_n 1, 1) := by decide +kernel
theorem dqBr_chooseFrom_134 : decode cqBr_chooseFrom 134 = .ok (.lload 8, 2) := by decide +kernel
theorem dqBr_chooseFrom_136 : decode cqBr_chooseFrom 136 = .ok (.lastore, 1) := by decide +kernel
theorem dqBr_chooseFrom_137 : decode cqBr_chooseFrom 137 = .ok (.aload_n 0, 1) := by decide +kernel
theorem dqBr_chooseFrom_138 : decode cqBr_chooseFrom 138 = .ok (.getfield 15, 3) := by decide +kernel
theorem dqBr_chooseFrom_141 : decode cqBr_chooseFrom 141 = .ok (.iload_n 1, 1) := by decide +kernel
theorem dqBr_chooseFrom_142 : decode cqBr_chooseFrom 142 = .ok (.iload 10, 2) := by decide +kernel
theorem dqBr_chooseFrom_144 : decode cqBr_chooseFrom 144 = .ok (.iastore, 1) := by decide +kernel
theorem dqBr_chooseFrom_145 : decode cqBr_chooseFrom 145 = .ok (.aload_n 0, 1) := by decide +kernel
theorem dqBr_chooseFrom_146 : decode cqBr_chooseFrom 146 = .ok (.getfield 19, 3) := by decide +kernel
theorem dqBr_chooseFrom_149 : decode cqBr_chooseFrom 149 = .ok (.iload_n 1, 1) := by decide +kernel
theorem dqBr_chooseFrom_150 : decode cqBr_chooseFrom 150 = .ok (.iload 7, 2) := by decide +kernel
theorem dqBr_chooseFrom_152 : decode cqBr_chooseFrom 152 = .ok (.iastore, 1) := by decide +kernel
theorem dqBr_chooseFrom_153 : decode cqBr_chooseFrom 153 = .ok (.iinc 7 (-1), 3) := by decide +kernel
theorem dqBr_chooseFrom_156 : decode cqBr_chooseFrom 156 = .ok (.goto (-146), 3) := by decide +kernel
theorem dqBr_chooseFrom_159 : decode cqBr_chooseFrom 159 = .ok (.return_, 1) := by decide +kernel
theorem dqBr_costOf_0 : decode cqBr_costOf 0 = .ok (.iload_n 1, 1) := by decide +kernel
theorem dqBr_costOf_1 : decode cqBr_costOf 1 = .ok (.i2l, 1) := by decide +kernel
theorem dqBr_costOf_2 : decode cqBr_costOf 2 = .ok (.aload_n 0, 1) := by decide +kernel
theorem dqBr_costOf_3 : decode cqBr_costOf 3 = .ok (.invokevirtual 57, 3) := by decide +kernel
theorem dqBr_costOf_6 : decode cqBr_costOf 6 = .ok (.lsub, 1) := by decide +kernel
theorem dqBr_costOf_7 : decode cqBr_costOf 7 = .ok (.lstore_n 3, 1) := by decide +kernel
theorem dqBr_costOf_8 : decode cqBr_costOf 8 = .ok (.iload_n 2, 1) := by decide +kernel
theorem dqBr_costOf_9 : decode cqBr_costOf 9 = .ok (.ifCond .eq 11, 3) := by decide +kernel
theorem dqBr_costOf_12 : decode cqBr_costOf 12 = .ok (.lload_n 3, 1) := by decide +kernel
theorem dqBr_costOf_13 : decode cqBr_costOf 13 = .ok (.lconst 0, 1) := by decide +kernel
theorem dqBr_costOf_14 : decode cqBr_costOf 14 = .ok (.lcmp, 1) := by decide +kernel
theorem dqBr_costOf_15 : decode cqBr_costOf 15 = .ok (.ifCond .lt 5, 3) := by decide +kernel
theorem dqBr_costOf_18 : decode cqBr_costOf 18 = .ok (.lconst 0, 1) := by decide +kernel
theorem dqBr_costOf_19 : decode cqBr_costOf 19 = .ok (.lreturn, 1) := by decide +kernel
theorem dqBr_costOf_20 : decode cqBr_costOf 20 = .ok (.lload_n 3, 1) := by decide +kernel
theorem dqBr_costOf_21 : decode cqBr_costOf 21 = .ok (.lload_n 3, 1) := by decide +kernel
theorem dqBr_costOf_22 : decode cqBr_costOf 22 = .ok (.lmul, 1) := by decide +kernel
theorem dqBr_costOf_23 : decode cqBr_costOf 23 = .ok (.lstore 5, 2) := by decide +kernel
theorem dqBr_costOf_25 : decode cqBr_costOf 25 = .ok (.aload_n 0, 1) := by decide +kernel
theorem dqBr_costOf_26 : decode cqBr_costOf 26 = .ok (.invokevirtual 61, 3) := by decide +kernel
theorem dqBr_costOf_29 : decode cqBr_costOf 29 = .ok (.iload_n 1, 1) := by decide +kernel
theorem dqBr_costOf_30 : decode cqBr_costOf 30 = .ok (.i2l, 1) := by decide +kernel
theorem dqBr_costOf_31 : decode cqBr_costOf 31 = .ok (.lcmp, 1) := by decide +kernel
theorem dqBr_costOf_32 : decode cqBr_costOf 32 = .ok (.ifCond .le 12, 3) := by decide +kernel
theorem dqBr_costOf_35 : decode cqBr_costOf 35 = .ok (.lload 5, 2) := by decide +kernel
theorem dqBr_costOf_37 : decode cqBr_costOf 37 = .ok (.ldc2_w 64, 3) := by decide +kernel
theorem dqBr_costOf_40 : decode cqBr_costOf 40 = .ok (.ladd, 1) := by decide +kernel
theorem dqBr_costOf_41 : decode cqBr_costOf 41 = .ok (.goto 5, 3) := by decide +kernel
theorem dqBr_costOf_44 : decode cqBr_costOf 44 = .ok (.lload 5, 2) := by decide +kernel
theorem dqBr_costOf_46 : decode cqBr_costOf 46 = .ok (.lreturn, 1) := by decide +kernel
theorem dqBr_tellBegins_0 : decode cqBr_tellBegins 0 = .ok (.aload_n 0, 1) := by decide +kernel
theorem dqBr_tellBegins_1 : decode cqBr_tellBegins 1 = .ok (.aload_n 0, 1) := by decide +kernel
theorem dqBr_tellBegins_2 : decode cqBr_tellBegins 2 = .ok (.getfield 15, 3) := by decide +kernel
theorem dqBr_tellBegins_5 : decode cqBr_tellBegins 5 = .ok (.iconst 0, 1) := by decide +kernel
theorem dqBr_tellBegins_6 : decode cqBr_tellBegins 6 = .ok (.iaload, 1) := by decide +kernel
theorem dqBr_tellBegins_7 : decode cqBr_tellBegins 7 = .ok (.putfield 25, 3) := by decide +kernel
theorem dqBr_tellBegins_10 : decode cqBr_tellBegins 10 = .ok (.iconst 0, 1) := by decide +kernel
theorem dqBr_tellBegins_11 : decode cqBr_tellBegins 11 = .ok (.istore_n 2, 1) := by decide +kernel
theorem dqBr_tellBegins_12 : decode cqBr_tellBegins 12 = .ok (.iconst 0, 1) := by decide +kernel
theorem dqBr_tellBegins_13 : decode cqBr_tellBegins 13 = .ok (.istore_n 3, 1) := by decide +kernel
theorem dqBr_tellBegins_14 : decode cqBr_tellBegins 14 = .ok (.iload_n 3, 1) := by decide +kernel
theorem dqBr_tellBegins_15 : decode cqBr_tellBegins 15 = .ok (.aload_n 0, 1) := by decide +kernel
theorem dqBr_tellBegins_16 : decode cqBr_tellBegins 16 = .ok (.getfield 25, 3) := by decide +kernel
theorem dqBr_tellBegins_19 : decode cqBr_tellBegins 19 = .ok (.if_icmp .ge 28, 3) := by decide +kernel
theorem dqBr_tellBegins_22 : decode cqBr_tellBegins 22 = .ok (.iload_n 2, 1) := by decide +kernel
theorem dqBr_tellBegins_23 : decode cqBr_tellBegins 23 = .ok (.iload_n 1, 1) := by decide +kernel
theorem dqBr_tellBegins_24 : decode cqBr_tellBegins 24 = .ok (.if_icmp .ge 23, 3) := by decide +kernel
theorem dqBr_tellBegins_27 : decode cqBr_tellBegins 27 = .ok (.aload_n 0, 1) := by decide +kernel
theorem dqBr_tellBegins_28 : decode cqBr_tellBegins 28 = .ok (.getfield 22, 3) := by decide +kernel
theorem dqBr_tellBegins_31 : decode cqBr_tellBegins 31 = .ok (.iload_n 3, 1) := by decide +kernel
theorem dqBr_tellBegins_32 : decode cqBr_tellBegins 32 = .ok (.iload_n 2, 1) := by decide +kernel
theorem dqBr_tellBegins_33 : decode cqBr_tellBegins 33 = .ok (.iastore, 1) := by decide +kernel
theorem dqBr_tellBegins_34 : decode cqBr_tellBegins 34 = .ok (.aload_n 0, 1) := by decide +kernel
theorem dqBr_tellBegins_35 : decode cqBr_tellBegins 35 = .ok (.getfield 19, 3) := by decide +kernel
theorem dqBr_tellBegins_38 : decode cqBr_tellBegins 38 = .ok (.iload_n 2, 1) := by decide +kernel
theorem dqBr_tellBegins_39 : decode cqBr_tellBegins 39 = .ok (.iaload, 1) := by decide +kernel
theorem dqBr_tellBegins_40 : decode cqBr_tellBegins 40 = .ok (.istore_n 2, 1) := by decide +kernel
theorem dqBr_tellBegins_41 : decode cqBr_tellBegins 41 = .ok (.iinc 3 1, 3) := by decide +kernel
theorem dqBr_tellBegins_44 : decode cqBr_tellBegins 44 = .ok (.goto (-30), 3) := by decide +kernel
theorem dqBr_tellBegins_47 : decode cqBr_tellBegins 47 = .ok (.aload_n 0, 1) := by decide +kernel
theorem dqBr_tellBegins_48 : decode cqBr_tellBegins 48 = .ok (.getfield 22, 3) := by decide +kernel
theorem dqBr_tellBegins_51 : decode cqBr_tellBegins 51 = .ok (.aload_n 0, 1) := by decide +kernel
theorem dqBr_tellBegins_52 : decode cqBr_tellBegins 52 = .ok (.getfield 25, 3) := by decide +kernel
theorem dqBr_tellBegins_55 : decode cqBr_tellBegins 55 = .ok (.iload_n 1, 1) := by decide +kernel
theorem dqBr_tellBegins_56 : decode cqBr_tellBegins 56 = .ok (.iastore, 1) := by decide +kernel
theorem dqBr_tellBegins_57 : decode cqBr_tellBegins 57 = .ok (.return_, 1) := by decide +kernel
theorem dqBr_size_0 : decode cqBr_size 0 = .ok (.aload_n 0, 1) := by decide +kernel
theorem dqBr_size_1 : decode cqBr_size 1 = .ok (.getfield 25, 3) := by decide +kernel
theorem dqBr_size_4 : decode cqBr_size 4 = .ok (.ireturn, 1) := by decide +kernel
theorem dqBr_beginOf_0 : decode cqBr_beginOf 0 = .ok (.aload_n 0, 1) := by decide +kernel
theorem dqBr_beginOf_1 : decode cqBr_beginOf 1 = .ok (.getfield 22, 3) := by decide +kernel
theorem dqBr_beginOf_4 : decode cqBr_beginOf 4 = .ok (.iload_n 1, 1) := by decide +kernel
theorem dqBr_beginOf_5 : decode cqBr_beginOf 5 = .ok (.iaload, 1) := by decide +kernel
theorem dqBr_beginOf_6 : decode cqBr_beginOf 6 = .ok (.ireturn, 1) := by decide +kernel
theorem dqBr_wholeCost_0 : decode cqBr_wholeCost 0 = .ok (.aload_n 0, 1) := by decide +kernel
theorem dqBr_wholeCost_1 : decode cqBr_wholeCost 1 = .ok (.getfield 9, 3) := by decide +kernel
theorem dqBr_wholeCost_4 : decode cqBr_wholeCost 4 = .ok (.iconst 0, 1) := by decide +kernel
theorem dqBr_wholeCost_5 : decode cqBr_wholeCost 5 = .ok (.laload, 1) := by decide +kernel
theorem dqBr_wholeCost_6 : decode cqBr_wholeCost 6 = .ok (.lreturn, 1) := by decide +kernel
theorem dqCo_init_0 : decode cqCo_init 0 = .ok (.aload_n 0, 1) := by decide +kernel
theorem dqCo_init_1 : decode cqCo_init 1 = .ok (.invokespecial 3, 3) := by decide +kernel
theorem dqCo_init_4 : decode cqCo_init 4 = .ok (.aload_n 0, 1) := by decide +kernel
theorem dqCo_init_5 : decode cqCo_init 5 = .ok (.bipush 24, 2) := by decide +kernel
theorem dqCo_init_7 : decode cqCo_init 7 = .ok (.newarray .int, 2) := by decide +kernel
theorem dqCo_init_9 : decode cqCo_init 9 = .ok (.putfield 9, 3) := by decide +kernel
theorem dqCo_init_12 : decode cqCo_init 12 = .ok (.aload_n 0, 1) := by decide +kernel
theorem dqCo_init_13 : decode cqCo_init 13 = .ok (.bipush 24, 2) := by decide +kernel
theorem dqCo_init_15 : decode cqCo_init 15 = .ok (.newarray .int, 2) := by decide +kernel
theorem dqCo_init_17 : decode cqCo_init 17 = .ok (.putfield 15, 3) := by decide +kernel
theorem dqCo_init_20 : decode cqCo_init 20 = .ok (.aload_n 0, 1) := by decide +kernel
theorem dqCo_init_21 : decode cqCo_init 21 = .ok (.bipush 24, 2) := by decide +kernel
theorem dqCo_init_23 : decode cqCo_init 23 = .ok (.newarray .boolean, 2) := by decide +kernel
theorem dqCo_init_25 : decode cqCo_init 25 = .ok (.putfield 18, 3) := by decide +kernel
theorem dqCo_init_28 : decode cqCo_init 28 = .ok (.aload_n 0, 1) := by decide +kernel
theorem dqCo_init_29 : decode cqCo_init 29 = .ok (.iconst 0, 1) := by decide +kernel
theorem dqCo_init_30 : decode cqCo_init 30 = .ok (.putfield 22, 3) := by decide +kernel
theorem dqCo_init_33 : decode cqCo_init 33 = .ok (.aload_n 0, 1) := by decide +kernel
theorem dqCo_init_34 : decode cqCo_init 34 = .ok (.bipush 10, 2) := by decide +kernel
theorem dqCo_init_36 : decode cqCo_init 36 = .ok (.putfield 26, 3) := by decide +kernel
theorem dqCo_init_39 : decode cqCo_init 39 = .ok (.aload_n 0, 1) := by decide +kernel
theorem dqCo_init_40 : decode cqCo_init 40 = .ok (.bipush 6, 2) := by decide +kernel
theorem dqCo_init_42 : decode cqCo_init 42 = .ok (.putfield 29, 3) := by decide +kernel
theorem dqCo_init_45 : decode cqCo_init 45 = .ok (.return_, 1) := by decide +kernel
theorem dqCo_useTable_0 : decode cqCo_useTable 0 = .ok (.aload_n 0, 1) := by decide +kernel
theorem dqCo_useTable_1 : decode cqCo_useTable 1 = .ok (.iload_n 1, 1) := by decide +kernel
theorem dqCo_useTable_2 : decode cqCo_useTable 2 = .ok (.putfield 26, 3) := by decide +kernel
theorem dqCo_useTable_5 : decode cqCo_useTable 5 = .ok (.aload_n 0, 1) := by decide +kernel
theorem dqCo_useTable_6 : decode cqCo_useTable 6 = .ok (.iload_n 2, 1) := by decide +kernel
theorem dqCo_useTable_7 : decode cqCo_useTable 7 = .ok (.putfield 29, 3) := by decide +kernel
theorem dqCo_useTable_10 : decode cqCo_useTable 10 = .ok (.return_, 1) := by decide +kernel
theorem dqCo_size_0 : decode cqCo_size 0 = .ok (.aload_n 0, 1) := by decide +kernel
theorem dqCo_size_1 : decode cqCo_size 1 = .ok (.getfield 22, 3) := by decide +kernel
theorem dqCo_size_4 : decode cqCo_size 4 = .ok (.ireturn, 1) := by decide +kernel
theorem dqCo_lastOne_0 : decode cqCo_lastOne 0 = .ok (.aload_n 0, 1) := by decide +kernel
theorem dqCo_lastOne_1 : decode cqCo_lastOne 1 = .ok (.getfield 22, 3) := by decide +kernel
theorem dqCo_lastOne_4 : decode cqCo_lastOne 4 = .ok (.iconst 1, 1) := by decide +kernel
theorem dqCo_lastOne_5 : decode cqCo_lastOne 5 = .ok (.isub, 1) := by decide +kernel
theorem dqCo_lastOne_6 : decode cqCo_lastOne 6 = .ok (.ireturn, 1) := by decide +kernel
theorem dqCo_areFull_0 : decode cqCo_areFull 0 = .ok (.aload_n 0, 1) := by decide +kernel
theorem dqCo_areFull_1 : decode cqCo_areFull 1 = .ok (.getfield 22, 3) := by decide +kernel
theorem dqCo_areFull_4 : decode cqCo_areFull 4 = .ok (.bipush 24, 2) := by decide +kernel
theorem dqCo_areFull_6 : decode cqCo_areFull 6 = .ok (.if_icmp .lt 7, 3) := by decide +kernel
theorem dqCo_areFull_9 : decode cqCo_areFull 9 = .ok (.iconst 1, 1) := by decide +kernel
theorem dqCo_areFull_10 : decode cqCo_areFull 10 = .ok (.goto 4, 3) := by decide +kernel
theorem dqCo_areFull_13 : decode cqCo_areFull 13 = .ok (.iconst 0, 1) := by decide +kernel
theorem dqCo_areFull_14 : decode cqCo_areFull 14 = .ok (.ireturn, 1) := by decide +kernel
theorem dqCo_have_0 : decode cqCo_have 0 = .ok (.iload_n 1, 1) := by decide +kernel
theorem dqCo_have_1 : decode cqCo_have 1 = .ok (.iconst 0, 1) := by decide +kernel
theorem dqCo_have_2 : decode cqCo_have 2 = .ok (.aload_n 0, 1) := by decide +kernel
theorem dqCo_have_3 : decode cqCo_have 3 = .ok (.getfield 22, 3) := by decide +kernel
theorem dqCo_have_6 : decode cqCo_have 6 = .ok (.iconst 1, 1) := by decide +kernel
theorem dqCo_have_7 : decode cqCo_have 7 = .ok (.isub, 1) := by decide +kernel
theorem dqCo_have_8 : decode cqCo_have 8 = .ok (.invokestatic 32, 3) := by decide +kernel
theorem dqCo_have_11 : decode cqCo_have 11 = .ok (.ireturn, 1) := by decide +kernel
theorem dqCo_haveGap_0 : decode cqCo_haveGap 0 = .ok (.iload_n 1, 1) := by decide +kernel
theorem dqCo_haveGap_1 : decode cqCo_haveGap 1 = .ok (.iconst 0, 1) := by decide +kernel
theorem dqCo_haveGap_2 : decode cqCo_haveGap 2 = .ok (.aload_n 0, 1) := by decide +kernel
theorem dqCo_haveGap_3 : decode cqCo_haveGap 3 = .ok (.getfield 22, 3) := by decide +kernel
theorem dqCo_haveGap_6 : decode cqCo_haveGap 6 = .ok (.iconst 2, 1) := by decide +kernel
theorem dqCo_haveGap_7 : decode cqCo_haveGap 7 = .ok (.isub, 1) := by decide +kernel
theorem dqCo_haveGap_8 : decode cqCo_haveGap 8 = .ok (.invokestatic 32, 3) := by decide +kernel
theorem dqCo_haveGap_11 : decode cqCo_haveGap 11 = .ok (.ireturn, 1) := by decide +kernel
theorem dqCo_mayFollow_0 : decode cqCo_mayFollow 0 = .ok (.aload_n 0, 1) := by decide +kernel
theorem dqCo_mayFollow_1 : decode cqCo_mayFollow 1 = .ok (.getfield 22, 3) := by decide +kernel
theorem dqCo_mayFollow_4 : decode cqCo_mayFollow 4 = .ok (.ifCond .eq 18, 3) := by decide +kernel
theorem dqCo_mayFollow_7 : decode cqCo_mayFollow 7 = .ok (.iload_n 1, 1) := by decide +kernel
theorem dqCo_mayFollow_8 : decode cqCo_mayFollow 8 = .ok (.aload_n 0, 1) := by decide +kernel
theorem dqCo_mayFollow_9 : decode cqCo_mayFollow 9 = .ok (.getfield 9, 3) := by decide +kernel
theorem dqCo_mayFollow_12 : decode cqCo_mayFollow 12 = .ok (.aload_n 0, 1) := by decide +kernel
theorem dqCo_mayFollow_13 : decode cqCo_mayFollow 13 = .ok (.getfield 22, 3) := by decide +kernel
theorem dqCo_mayFollow_16 : decode cqCo_mayFollow 16 = .ok (.iconst 1, 1) := by decide +kernel
theorem dqCo_mayFollow_17 : decode cqCo_mayFollow 17 = .ok (.isub, 1) := by decide +kernel
theorem dqCo_mayFollow_18 : decode cqCo_mayFollow 18 = .ok (.iaload, 1) := by decide +kernel
theorem dqCo_mayFollow_19 : decode cqCo_mayFollow 19 = .ok (.if_icmp .le 7, 3) := by decide +kernel
theorem dqCo_mayFollow_22 : decode cqCo_mayFollow 22 = .ok (.iconst 1, 1) := by decide +kernel
theorem dqCo_mayFollow_23 : decode cqCo_mayFollow 23 = .ok (.goto 4, 3) := by decide +kernel
theorem dqCo_mayFollow_26 : decode cqCo_mayFollow 26 = .ok (.iconst 0, 1) := by decide +kernel
theorem dqCo_mayFollow_27 : decode cqCo_mayFollow 27 = .ok (.ireturn, 1) := by decide +kernel
theorem dqCo_append_0 : decode cqCo_append 0 = .ok (.aload_n 0, 1) := by decide +kernel
theorem dqCo_append_1 : decode cqCo_append 1 = .ok (.getfield 22, 3) := by decide +kernel
theorem dqCo_append_4 : decode cqCo_append 4 = .ok (.istore_n 2, 1) := by decide +kernel
theorem dqCo_append_5 : decode cqCo_append 5 = .ok (.aload_n 0, 1) := by decide +kernel
theorem dqCo_append_6 : decode cqCo_append 6 = .ok (.getfield 9, 3) := by decide +kernel
theorem dqCo_append_9 : decode cqCo_append 9 = .ok (.iload_n 2, 1) := by decide +kernel
theorem dqCo_append_10 : decode cqCo_append 10 = .ok (.iload_n 1, 1) := by decide +kernel
theorem dqCo_append_11 : decode cqCo_append 11 = .ok (.iastore, 1) := by decide +kernel
theorem dqCo_append_12 : decode cqCo_append 12 = .ok (.aload_n 0, 1) := by decide +kernel
theorem dqCo_append_13 : decode cqCo_append 13 = .ok (.getfield 15, 3) := by decide +kernel
theorem dqCo_append_16 : decode cqCo_append 16 = .ok (.iload_n 2, 1) := by decide +kernel
theorem dqCo_append_17 : decode cqCo_append 17 = .ok (.iconst 0, 1) := by decide +kernel
theorem dqCo_append_18 : decode cqCo_append 18 = .ok (.iastore, 1) := by decide +kernel
theorem dqCo_append_19 : decode cqCo_append 19 = .ok (.aload_n 0, 1) := by decide +kernel
theorem dqCo_append_20 : decode cqCo_append 20 = .ok (.getfield 18, 3) := by decide +kernel
theorem dqCo_append_23 : decode cqCo_append 23 = .ok (.iload_n 2, 1) := by decide +kernel
theorem dqCo_append_24 : decode cqCo_append 24 = .ok (.iconst 0, 1) := by decide +kernel
theorem dqCo_append_25 : decode cqCo_append 25 = .ok (.bastore, 1) := by decide +kernel
theorem dqCo_append_26 : decode cqCo_append 26 = .ok (.aload_n 0, 1) := by decide +kernel
theorem dqCo_append_27 : decode cqCo_append 27 = .ok (.dup, 1) := by decide +kernel
theorem dqCo_append_28 : decode cqCo_append 28 = .ok (.getfield 22, 3) := by decide +kernel
theorem dqCo_append_31 : decode cqCo_append 31 = .ok (.iconst 1, 1) := by decide +kernel
theorem dqCo_append_32 : decode cqCo_append 32 = .ok (.iadd, 1) := by decide +kernel
theorem dqCo_append_33 : decode cqCo_append 33 = .ok (.putfield 22, 3) := by decide +kernel
theorem dqCo_append_36 : decode cqCo_append 36 = .ok (.iload_n 2, 1) := by decide +kernel
theorem dqCo_append_37 : decode cqCo_append 37 = .ok (.ireturn, 1) := by decide +kernel
theorem dqCo_takeAll_0 : decode cqCo_takeAll 0 = .ok (.aload_n 0, 1) := by decide +kernel
theorem dqCo_takeAll_1 : decode cqCo_takeAll 1 = .ok (.getfield 22, 3) := by decide +kernel
theorem dqCo_takeAll_4 : decode cqCo_takeAll 4 = .ok (.istore_n 1, 1) := by decide +kernel
theorem dqCo_takeAll_5 : decode cqCo_takeAll 5 = .ok (.aload_n 0, 1) := by decide +kernel
theorem dqCo_takeAll_6 : decode cqCo_takeAll 6 = .ok (.iconst 0, 1) := by decide +kernel
theorem dqCo_takeAll_7 : decode cqCo_takeAll 7 = .ok (.putfield 22, 3) := by decide +kernel
theorem dqCo_takeAll_10 : decode cqCo_takeAll 10 = .ok (.iload_n 1, 1) := by decide +kernel
theorem dqCo_takeAll_11 : decode cqCo_takeAll 11 = .ok (.ireturn, 1) := by decide +kernel
theorem dqCo_setLeast_0 : decode cqCo_setLeast 0 = .ok (.aload_n 0, 1) := by decide +kernel
theorem dqCo_setLeast_1 : decode cqCo_setLeast 1 = .ok (.getfield 15, 3) := by decide +kernel
theorem dqCo_setLeast_4 : decode cqCo_setLeast 4 = .ok (.iload_n 1, 1) := by decide +kernel
theorem dqCo_setLeast_5 : decode cqCo_setLeast 5 = .ok (.iaload, 1) := by decide +kernel
theorem dqCo_setLeast_6 : decode cqCo_setLeast 6 = .ok (.istore_n 3, 1) := by decide +kernel
theorem dqCo_setLeast_7 : decode cqCo_setLeast 7 = .ok (.aload_n 0, 1) := by decide +kernel
theorem dqCo_setLeast_8 : decode cqCo_setLeast 8 = .ok (.getfield 15, 3) := by decide +kernel
theorem dqCo_setLeast_11 : decode cqCo_setLeast 11 = .ok (.iload_n 1, 1) := by decide +kernel
theorem dqCo_setLeast_12 : decode cqCo_setLeast 12 = .ok (.iload_n 2, 1) := by decide +kernel
theorem dqCo_setLeast_13 : decode cqCo_setLeast 13 = .ok (.iastore, 1) := by decide +kernel
theorem dqCo_setLeast_14 : decode cqCo_setLeast 14 = .ok (.iload_n 3, 1) := by decide +kernel
theorem dqCo_setLeast_15 : decode cqCo_setLeast 15 = .ok (.ireturn, 1) := by decide +kernel
theorem dqCo_setBar_0 : decode cqCo_setBar 0 = .ok (.aload_n 0, 1) := by decide +kernel
theorem dqCo_setBar_1 : decode cqCo_setBar 1 = .ok (.getfield 18, 3) := by decide +kernel
theorem dqCo_setBar_4 : decode cqCo_setBar 4 = .ok (.iload_n 1, 1) := by decide +kernel
theorem dqCo_setBar_5 : decode cqCo_setBar 5 = .ok (.baload, 1) := by decide +kernel
theorem dqCo_setBar_6 : decode cqCo_setBar 6 = .ok (.istore_n 3, 1) := by decide +kernel
theorem dqCo_setBar_7 : decode cqCo_setBar 7 = .ok (.aload_n 0, 1) := by decide +kernel
theorem dqCo_setBar_8 : decode cqCo_setBar 8 = .ok (.getfield 18, 3) := by decide +kernel
theorem dqCo_setBar_11 : decode cqCo_setBar 11 = .ok (.iload_n 1, 1) := by decide +kernel
theorem dqCo_setBar_12 : decode cqCo_setBar 12 = .ok (.iload_n 2, 1) := by decide +kernel
theorem dqCo_setBar_13 : decode cqCo_setBar 13 = .ok (.bastore, 1) := by decide +kernel
theorem dqCo_setBar_14 : decode cqCo_setBar 14 = .ok (.iload_n 3, 1) := by decide +kernel
theorem dqCo_setBar_15 : decode cqCo_setBar 15 = .ok (.ireturn, 1) := by decide +kernel
theorem dqCo_timeOf_0 : decode cqCo_timeOf 0 = .ok (.aload_n 0, 1) := by decide +kernel
theorem dqCo_timeOf_1 : decode cqCo_timeOf 1 = .ok (.getfield 9, 3) := by decide +kernel
theorem dqCo_timeOf_4 : decode cqCo_timeOf 4 = .ok (.iload_n 1, 1) := by decide +kernel
theorem dqCo_timeOf_5 : decode cqCo_timeOf 5 = .ok (.iaload, 1) := by decide +kernel
theorem dqCo_timeOf_6 : decode cqCo_timeOf 6 = .ok (.ireturn, 1) := by decide +kernel
theorem dqCo_toldLeastOf_0 : decode cqCo_toldLeastOf 0 = .ok (.aload_n 0, 1) := by decide +kernel
theorem dqCo_toldLeastOf_1 : decode cqCo_toldLeastOf 1 = .ok (.getfield 15, 3) := by decide +kernel
theorem dqCo_toldLeastOf_4 : decode cqCo_toldLeastOf 4 = .ok (.iload_n 1, 1) := by decide +kernel
theorem dqCo_toldLeastOf_5 : decode cqCo_toldLeastOf 5 = .ok (.iaload, 1) := by decide +kernel
theorem dqCo_toldLeastOf_6 : decode cqCo_toldLeastOf 6 = .ok (.ireturn, 1) := by decide +kernel
theorem dqCo_durationOf_0 : decode cqCo_durationOf 0 = .ok (.aload_n 0, 1) := by decide +kernel
theorem dqCo_durationOf_1 : decode cqCo_durationOf 1 = .ok (.getfield 9, 3) := by decide +kernel
theorem dqCo_durationOf_4 : decode cqCo_durationOf 4 = .ok (.iload_n 1, 1) := by decide +kernel
theorem dqCo_durationOf_5 : decode cqCo_durationOf 5 = .ok (.iconst 1, 1) := by decide +kernel
theorem dqCo_durationOf_6 : decode cqCo_durationOf 6 = .ok (.iadd, 1) := by decide +kernel
theorem dqCo_durationOf_7 : decode cqCo_durationOf 7 = .ok (.iaload, 1) := by decide +kernel
theorem dqCo_durationOf_8 : decode cqCo_durationOf 8 = .ok (.aload_n 0, 1) := by decide +kernel
theorem dqCo_durationOf_9 : decode cqCo_durationOf 9 = .ok (.getfield 9, 3) := by decide +kernel
theorem dqCo_durationOf_12 : decode cqCo_durationOf 12 = .ok (.iload_n 1, 1) := by decide +kernel
theorem dqCo_durationOf_13 : decode cqCo_durationOf 13 = .ok (.iaload, 1) := by decide +kernel
theorem dqCo_durationOf_14 : decode cqCo_durationOf 14 = .ok (.isub, 1) := by decide +kernel
theorem dqCo_durationOf_15 : decode cqCo_durationOf 15 = .ok (.ireturn, 1) := by decide +kernel
theorem dqCo_mayBreakAt_0 : decode cqCo_mayBreakAt 0 = .ok (.iload_n 1, 1) := by decide +kernel
theorem dqCo_mayBreakAt_1 : decode cqCo_mayBreakAt 1 = .ok (.ifCond .eq 22, 3) := by decide +kernel
theorem dqCo_mayBreakAt_4 : decode cqCo_mayBreakAt 4 = .ok (.iload_n 1, 1) := by decide +kernel
theorem dqCo_mayBreakAt_5 : decode cqCo_mayBreakAt 5 = .ok (.aload_n 0, 1) := by decide +kernel
theorem dqCo_mayBreakAt_6 : decode cqCo_mayBreakAt 6 = .ok (.getfield 22, 3) := by decide +kernel
theorem dqCo_mayBreakAt_9 : decode cqCo_mayBreakAt 9 = .ok (.iconst 1, 1) := by decide +kernel
theorem dqCo_mayBreakAt_10 : decode cqCo_mayBreakAt 10 = .ok (.isub, 1) := by decide +kernel
theorem dqCo_mayBreakAt_11 : decode cqCo_mayBreakAt 11 = .ok (.if_icmp .eq 12, 3) := by decide +kernel
theorem dqCo_mayBreakAt_14 : decode cqCo_mayBreakAt 14 = .ok (.aload_n 0, 1) := by decide +kernel
theorem dqCo_mayBreakAt_15 : decode cqCo_mayBreakAt 15 = .ok (.getfield 18, 3) := by decide +kernel
theorem dqCo_mayBreakAt_18 : decode cqCo_mayBreakAt 18 = .ok (.iload_n 1, 1) := by decide +kernel
theorem dqCo_mayBreakAt_19 : decode cqCo_mayBreakAt 19 = .ok (.baload, 1) := by decide +kernel
theorem dqCo_mayBreakAt_20 : decode cqCo_mayBreakAt 20 = .ok (.ifCond .eq 7, 3) := by decide +kernel
theorem dqCo_mayBreakAt_23 : decode cqCo_mayBreakAt 23 = .ok (.iconst 1, 1) := by decide +kernel
theorem dqCo_mayBreakAt_24 : decode cqCo_mayBreakAt 24 = .ok (.goto 4, 3) := by decide +kernel
theorem dqCo_mayBreakAt_27 : decode cqCo_mayBreakAt 27 = .ok (.iconst 0, 1) := by decide +kernel
theorem dqCo_mayBreakAt_28 : decode cqCo_mayBreakAt 28 = .ok (.ireturn, 1) := by decide +kernel
theorem dqCo_springFor_0 : decode cqCo_springFor 0 = .ok (.iconst 0, 1) := by decide +kernel
theorem dqCo_springFor_1 : decode cqCo_springFor 1 = .ok (.istore_n 2, 1) := by decide +kernel
theorem dqCo_springFor_2 : decode cqCo_springFor 2 = .ok (.iload_n 2, 1) := by decide +kernel
theorem dqCo_springFor_3 : decode cqCo_springFor 3 = .ok (.bipush 16, 2) := by decide +kernel
theorem dqCo_springFor_5 : decode cqCo_springFor 5 = .ok (.if_icmp .ge 16, 3) := by decide +kernel
theorem dqCo_springFor_8 : decode cqCo_springFor 8 = .ok (.iconst 2, 1) := by decide +kernel
theorem dqCo_springFor_9 : decode cqCo_springFor 9 = .ok (.iload_n 2, 1) := by decide +kernel
theorem dqCo_springFor_10 : decode cqCo_springFor 10 = .ok (.ishl, 1) := by decide +kernel
theorem dqCo_springFor_11 : decode cqCo_springFor 11 = .ok (.iload_n 1, 1) := by decide +kernel
theorem dqCo_springFor_12 : decode cqCo_springFor 12 = .ok (.if_icmp .gt 9, 3) := by decide +kernel
theorem dqCo_springFor_15 : decode cqCo_springFor 15 = .ok (.iinc 2 1, 3) := by decide +kernel
theorem dqCo_springFor_18 : decode cqCo_springFor 18 = .ok (.goto (-16), 3) := by decide +kernel
theorem dqCo_springFor_21 : decode cqCo_springFor 21 = .ok (.iload_n 1, 1) := by decide +kernel
theorem dqCo_springFor_22 : decode cqCo_springFor 22 = .ok (.iconst 1, 1) := by decide +kernel
theorem dqCo_springFor_23 : decode cqCo_springFor 23 = .ok (.iload_n 2, 1) := by decide +kernel
theorem dqCo_springFor_24 : decode cqCo_springFor 24 = .ok (.ishl, 1) := by decide +kernel
theorem dqCo_springFor_25 : decode cqCo_springFor 25 = .ok (.isub, 1) := by decide +kernel
theorem dqCo_springFor_26 : decode cqCo_springFor 26 = .ok (.i2l, 1) := by decide +kernel
theorem dqCo_springFor_27 : decode cqCo_springFor 27 = .ok (.lstore_n 3, 1) := by decide +kernel
theorem dqCo_springFor_28 : decode cqCo_springFor 28 = .ok (.ldc2_w 36, 3) := by decide +kernel
theorem dqCo_springFor_31 : decode cqCo_springFor 31 = .ok (.aload_n 0, 1) := by decide +kernel
theorem dqCo_springFor_32 : decode cqCo_springFor 32 = .ok (.getfield 26, 3) := by decide +kernel
theorem dqCo_springFor_35 : decode cqCo_springFor 35 = .ok (.aload_n 0, 1) := by decide +kernel
theorem dqCo_springFor_36 : decode cqCo_springFor 36 = .ok (.getfield 29, 3) := by decide +kernel
theorem dqCo_springFor_39 : decode cqCo_springFor 39 = .ok (.iload_n 2, 1) := by decide +kernel
theorem dqCo_springFor_40 : decode cqCo_springFor 40 = .ok (.imul, 1) := by decide +kernel
theorem dqCo_springFor_41 : decode cqCo_springFor 41 = .ok (.iadd, 1) := by decide +kernel
theorem dqCo_springFor_42 : decode cqCo_springFor 42 = .ok (.i2l, 1) := by decide +kernel
theorem dqCo_springFor_43 : decode cqCo_springFor 43 = .ok (.lmul, 1) := by decide +kernel
theorem dqCo_springFor_44 : decode cqCo_springFor 44 = .ok (.lstore 5, 2) := by decide +kernel
theorem dqCo_springFor_46 : decode cqCo_springFor 46 = .ok (.lload 5, 2) := by decide +kernel
theorem dqCo_springFor_48 : decode cqCo_springFor 48 = .ok (.aload_n 0, 1) := by decide +kernel
theorem dqCo_springFor_49 : decode cqCo_springFor 49 = .ok (.getfield 29, 3) := by decide +kernel
theorem dqCo_springFor_52 : decode cqCo_springFor 52 = .ok (.i2l, 1) := by decide +kernel
theorem dqCo_springFor_53 : decode cqCo_springFor 53 = .ok (.lload_n 3, 1) := by decide +kernel
theorem dqCo_springFor_54 : decode cqCo_springFor 54 = .ok (.lmul, 1) := by decide +kernel
theorem dqCo_springFor_55 : decode cqCo_springFor 55 = .ok (.ldc2_w 36, 3) := by decide +kernel
theorem dqCo_springFor_58 : decode cqCo_springFor 58 = .ok (.iload_n 2, 1) := by decide +kernel
theorem dqCo_springFor_59 : decode cqCo_springFor 59 = .ok (.lshr, 1) := by decide +kernel
theorem dqCo_springFor_60 : decode cqCo_springFor 60 = .ok (.lmul, 1) := by decide +kernel
theorem dqCo_springFor_61 : decode cqCo_springFor 61 = .ok (.ladd, 1) := by decide +kernel
theorem dqCo_springFor_62 : decode cqCo_springFor 62 = .ok (.lreturn, 1) := by decide +kernel
theorem dqFo_init_0 : decode cqFo_init 0 = .ok (.aload_n 0, 1) := by decide +kernel
theorem dqFo_init_1 : decode cqFo_init 1 = .ok (.invokespecial 1, 3) := by decide +kernel
theorem dqFo_init_4 : decode cqFo_init 4 = .ok (.aload_n 0, 1) := by decide +kernel
theorem dqFo_init_5 : decode cqFo_init 5 = .ok (.lconst 0, 1) := by decide +kernel
theorem dqFo_init_6 : decode cqFo_init 6 = .ok (.putfield 7, 3) := by decide +kernel
theorem dqFo_init_9 : decode cqFo_init 9 = .ok (.aload_n 0, 1) := by decide +kernel
theorem dqFo_init_10 : decode cqFo_init 10 = .ok (.lconst 1, 1) := by decide +kernel
theorem dqFo_init_11 : decode cqFo_init 11 = .ok (.putfield 13, 3) := by decide +kernel
theorem dqFo_init_14 : decode cqFo_init 14 = .ok (.return_, 1) := by decide +kernel
theorem dqFo_above_0 : decode cqFo_above 0 = .ok (.aload_n 0, 1) := by decide +kernel
theorem dqFo_above_1 : decode cqFo_above 1 = .ok (.getfield 7, 3) := by decide +kernel
theorem dqFo_above_4 : decode cqFo_above 4 = .ok (.lreturn, 1) := by decide +kernel
theorem dqFo_below_0 : decode cqFo_below 0 = .ok (.aload_n 0, 1) := by decide +kernel
theorem dqFo_below_1 : decode cqFo_below 1 = .ok (.getfield 13, 3) := by decide +kernel
theorem dqFo_below_4 : decode cqFo_below 4 = .ok (.lreturn, 1) := by decide +kernel
