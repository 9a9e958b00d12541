theorem dqM_need_0 : decode cqM_need 0 = .ok (.iload_n 1, 1) := by decide +kernel
theorem dqM_need_1 : decode cqM_need 1 = .ok (.iload 4, 2) := by decide +kernel
theorem dqM_need_3 : decode cqM_need 3 = .ok (.if_icmp .lt 19, 3) := by decide +kernel
theorem dqM_need_6 : decode cqM_need 6 = .ok (.iload_n 2, 1) := by decide +kernel
theorem dqM_need_7 : decode cqM_need 7 = .ok (.iload 5, 2) := by decide +kernel
theorem dqM_need_9 : decode cqM_need 9 = .ok (.if_icmp .gt 13, 3) := by decide +kernel
theorem dqM_need_12 : decode cqM_need 12 = .ok (.aload_n 0, 1) := by decide +kernel
theorem dqM_need_13 : decode cqM_need 13 = .ok (.iload_n 1, 1) := by decide +kernel
theorem dqM_need_14 : decode cqM_need 14 = .ok (.iload_n 2, 1) := by decide +kernel
theorem dqM_need_15 : decode cqM_need 15 = .ok (.invokevirtual 116, 3) := by decide +kernel
theorem dqM_need_18 : decode cqM_need 18 = .ok (.iload_n 3, 1) := by decide +kernel
theorem dqM_need_19 : decode cqM_need 19 = .ok (.if_icmp .lt 4, 3) := by decide +kernel
theorem dqM_need_22 : decode cqM_need 22 = .ok (.return_, 1) := by decide +kernel
theorem dqM_need_23 : decode cqM_need 23 = .ok (.aload_n 0, 1) := by decide +kernel
theorem dqM_need_24 : decode cqM_need 24 = .ok (.iload_n 1, 1) := by decide +kernel
theorem dqM_need_25 : decode cqM_need 25 = .ok (.iload_n 2, 1) := by decide +kernel
theorem dqM_need_26 : decode cqM_need 26 = .ok (.invokevirtual 120, 3) := by decide +kernel
theorem dqM_need_29 : decode cqM_need 29 = .ok (.ifCond .ne 23, 3) := by decide +kernel
theorem dqM_need_32 : decode cqM_need 32 = .ok (.aload_n 0, 1) := by decide +kernel
theorem dqM_need_33 : decode cqM_need 33 = .ok (.getfield 62, 3) := by decide +kernel
theorem dqM_need_36 : decode cqM_need 36 = .ok (.iload_n 2, 1) := by decide +kernel
theorem dqM_need_37 : decode cqM_need 37 = .ok (.iconst 1, 1) := by decide +kernel
theorem dqM_need_38 : decode cqM_need 38 = .ok (.isub, 1) := by decide +kernel
theorem dqM_need_39 : decode cqM_need 39 = .ok (.dup2, 1) := by decide +kernel
theorem dqM_need_40 : decode cqM_need 40 = .ok (.iaload, 1) := by decide +kernel
theorem dqM_need_41 : decode cqM_need 41 = .ok (.iload_n 3, 1) := by decide +kernel
theorem dqM_need_42 : decode cqM_need 42 = .ok (.aload_n 0, 1) := by decide +kernel
theorem dqM_need_43 : decode cqM_need 43 = .ok (.iload_n 1, 1) := by decide +kernel
theorem dqM_need_44 : decode cqM_need 44 = .ok (.iload_n 2, 1) := by decide +kernel
theorem dqM_need_45 : decode cqM_need 45 = .ok (.invokevirtual 116, 3) := by decide +kernel
theorem dqM_need_48 : decode cqM_need 48 = .ok (.isub, 1) := by decide +kernel
theorem dqM_need_49 : decode cqM_need 49 = .ok (.iadd, 1) := by decide +kernel
theorem dqM_need_50 : decode cqM_need 50 = .ok (.iastore, 1) := by decide +kernel
theorem dqM_need_51 : decode cqM_need 51 = .ok (.return_, 1) := by decide +kernel
theorem dqM_need_52 : decode cqM_need 52 = .ok (.aload_n 0, 1) := by decide +kernel
theorem dqM_need_53 : decode cqM_need 53 = .ok (.iload_n 1, 1) := by decide +kernel
theorem dqM_need_54 : decode cqM_need 54 = .ok (.iload_n 2, 1) := by decide +kernel
theorem dqM_need_55 : decode cqM_need 55 = .ok (.iload_n 3, 1) := by decide +kernel
theorem dqM_need_56 : decode cqM_need 56 = .ok (.invokevirtual 124, 3) := by decide +kernel
theorem dqM_need_59 : decode cqM_need 59 = .ok (.iload_n 1, 1) := by decide +kernel
theorem dqM_need_60 : decode cqM_need 60 = .ok (.istore 6, 2) := by decide +kernel
theorem dqM_need_62 : decode cqM_need 62 = .ok (.iload 6, 2) := by decide +kernel
theorem dqM_need_64 : decode cqM_need 64 = .ok (.iload_n 2, 1) := by decide +kernel
theorem dqM_need_65 : decode cqM_need 65 = .ok (.if_icmp .ge 69, 3) := by decide +kernel
theorem dqM_need_68 : decode cqM_need 68 = .ok (.aload_n 0, 1) := by decide +kernel
theorem dqM_need_69 : decode cqM_need 69 = .ok (.getfield 110, 3) := by decide +kernel
theorem dqM_need_72 : decode cqM_need 72 = .ok (.aload_n 0, 1) := by decide +kernel
theorem dqM_need_73 : decode cqM_need 73 = .ok (.getfield 55, 3) := by decide +kernel
theorem dqM_need_76 : decode cqM_need 76 = .ok (.iload 6, 2) := by decide +kernel
theorem dqM_need_78 : decode cqM_need 78 = .ok (.laload, 1) := by decide +kernel
theorem dqM_need_79 : decode cqM_need 79 = .ok (.lmul, 1) := by decide +kernel
theorem dqM_need_80 : decode cqM_need 80 = .ok (.aload_n 0, 1) := by decide +kernel
theorem dqM_need_81 : decode cqM_need 81 = .ok (.getfield 113, 3) := by decide +kernel
theorem dqM_need_84 : decode cqM_need 84 = .ok (.ladd, 1) := by decide +kernel
theorem dqM_need_85 : decode cqM_need 85 = .ok (.lconst 1, 1) := by decide +kernel
theorem dqM_need_86 : decode cqM_need 86 = .ok (.lsub, 1) := by decide +kernel
theorem dqM_need_87 : decode cqM_need 87 = .ok (.aload_n 0, 1) := by decide +kernel
theorem dqM_need_88 : decode cqM_need 88 = .ok (.getfield 113, 3) := by decide +kernel
theorem dqM_need_91 : decode cqM_need 91 = .ok (.ldiv, 1) := by decide +kernel
theorem dqM_need_92 : decode cqM_need 92 = .ok (.lstore 7, 2) := by decide +kernel
theorem dqM_need_94 : decode cqM_need 94 = .ok (.aload_n 0, 1) := by decide +kernel
theorem dqM_need_95 : decode cqM_need 95 = .ok (.getfield 62, 3) := by decide +kernel
theorem dqM_need_98 : decode cqM_need 98 = .ok (.iload 6, 2) := by decide +kernel
theorem dqM_need_100 : decode cqM_need 100 = .ok (.lload 7, 2) := by decide +kernel
theorem dqM_need_102 : decode cqM_need 102 = .ok (.aload_n 0, 1) := by decide +kernel
theorem dqM_need_103 : decode cqM_need 103 = .ok (.getfield 62, 3) := by decide +kernel
theorem dqM_need_106 : decode cqM_need 106 = .ok (.iload 6, 2) := by decide +kernel
theorem dqM_need_108 : decode cqM_need 108 = .ok (.iaload, 1) := by decide +kernel
theorem dqM_need_109 : decode cqM_need 109 = .ok (.i2l, 1) := by decide +kernel
theorem dqM_need_110 : decode cqM_need 110 = .ok (.lcmp, 1) := by decide +kernel
theorem dqM_need_111 : decode cqM_need 111 = .ok (.ifCond .le 9, 3) := by decide +kernel
theorem dqM_need_114 : decode cqM_need 114 = .ok (.lload 7, 2) := by decide +kernel
theorem dqM_need_116 : decode cqM_need 116 = .ok (.l2i, 1) := by decide +kernel
theorem dqM_need_117 : decode cqM_need 117 = .ok (.goto 10, 3) := by decide +kernel
theorem dqM_need_120 : decode cqM_need 120 = .ok (.aload_n 0, 1) := by decide +kernel
theorem dqM_need_121 : decode cqM_need 121 = .ok (.getfield 62, 3) := by decide +kernel
theorem dqM_need_124 : decode cqM_need 124 = .ok (.iload 6, 2) := by decide +kernel
theorem dqM_need_126 : decode cqM_need 126 = .ok (.iaload, 1) := by decide +kernel
theorem dqM_need_127 : decode cqM_need 127 = .ok (.iastore, 1) := by decide +kernel
theorem dqM_need_128 : decode cqM_need 128 = .ok (.iinc 6 1, 3) := by decide +kernel
theorem dqM_need_131 : decode cqM_need 131 = .ok (.goto (-69), 3) := by decide +kernel
theorem dqM_need_134 : decode cqM_need 134 = .ok (.return_, 1) := by decide +kernel
theorem dqM_settle_0 : decode cqM_settle 0 = .ok (.iconst 0, 1) := by decide +kernel
theorem dqM_settle_1 : decode cqM_settle 1 = .ok (.istore_n 3, 1) := by decide +kernel
theorem dqM_settle_2 : decode cqM_settle 2 = .ok (.iload_n 3, 1) := by decide +kernel
theorem dqM_settle_3 : decode cqM_settle 3 = .ok (.iconst 1, 1) := by decide +kernel
theorem dqM_settle_4 : decode cqM_settle 4 = .ok (.iadd, 1) := by decide +kernel
theorem dqM_settle_5 : decode cqM_settle 5 = .ok (.aload_n 0, 1) := by decide +kernel
theorem dqM_settle_6 : decode cqM_settle 6 = .ok (.getfield 88, 3) := by decide +kernel
theorem dqM_settle_9 : decode cqM_settle 9 = .ok (.if_icmp .ge 46, 3) := by decide +kernel
theorem dqM_settle_12 : decode cqM_settle 12 = .ok (.aload_n 0, 1) := by decide +kernel
theorem dqM_settle_13 : decode cqM_settle 13 = .ok (.getfield 55, 3) := by decide +kernel
theorem dqM_settle_16 : decode cqM_settle 16 = .ok (.iload_n 3, 1) := by decide +kernel
theorem dqM_settle_17 : decode cqM_settle 17 = .ok (.aload_n 0, 1) := by decide +kernel
theorem dqM_settle_18 : decode cqM_settle 18 = .ok (.aload_n 0, 1) := by decide +kernel
theorem dqM_settle_19 : decode cqM_settle 19 = .ok (.getfield 16, 3) := by decide +kernel
theorem dqM_settle_22 : decode cqM_settle 22 = .ok (.iload_n 3, 1) := by decide +kernel
theorem dqM_settle_23 : decode cqM_settle 23 = .ok (.iconst 1, 1) := by decide +kernel
theorem dqM_settle_24 : decode cqM_settle 24 = .ok (.iadd, 1) := by decide +kernel
theorem dqM_settle_25 : decode cqM_settle 25 = .ok (.iaload, 1) := by decide +kernel
theorem dqM_settle_26 : decode cqM_settle 26 = .ok (.aload_n 0, 1) := by decide +kernel
theorem dqM_settle_27 : decode cqM_settle 27 = .ok (.getfield 16, 3) := by decide +kernel
theorem dqM_settle_30 : decode cqM_settle 30 = .ok (.iload_n 3, 1) := by decide +kernel
theorem dqM_settle_31 : decode cqM_settle 31 = .ok (.iaload, 1) := by decide +kernel
theorem dqM_settle_32 : decode cqM_settle 32 = .ok (.isub, 1) := by decide +kernel
theorem dqM_settle_33 : decode cqM_settle 33 = .ok (.invokevirtual 102, 3) := by decide +kernel
theorem dqM_settle_36 : decode cqM_settle 36 = .ok (.lastore, 1) := by decide +kernel
theorem dqM_settle_37 : decode cqM_settle 37 = .ok (.aload_n 0, 1) := by decide +kernel
theorem dqM_settle_38 : decode cqM_settle 38 = .ok (.getfield 62, 3) := by decide +kernel
theorem dqM_settle_41 : decode cqM_settle 41 = .ok (.iload_n 3, 1) := by decide +kernel
theorem dqM_settle_42 : decode cqM_settle 42 = .ok (.aload_n 0, 1) := by decide +kernel
theorem dqM_settle_43 : decode cqM_settle 43 = .ok (.getfield 20, 3) := by decide +kernel
theorem dqM_settle_46 : decode cqM_settle 46 = .ok (.iload_n 3, 1) := by decide +kernel
theorem dqM_settle_47 : decode cqM_settle 47 = .ok (.iaload, 1) := by decide +kernel
theorem dqM_settle_48 : decode cqM_settle 48 = .ok (.iastore, 1) := by decide +kernel
theorem dqM_settle_49 : decode cqM_settle 49 = .ok (.iinc 3 1, 3) := by decide +kernel
theorem dqM_settle_52 : decode cqM_settle 52 = .ok (.goto (-50), 3) := by decide +kernel
theorem dqM_settle_55 : decode cqM_settle 55 = .ok (.iconst 0, 1) := by decide +kernel
theorem dqM_settle_56 : decode cqM_settle 56 = .ok (.istore_n 3, 1) := by decide +kernel
theorem dqM_settle_57 : decode cqM_settle 57 = .ok (.iload_n 3, 1) := by decide +kernel
theorem dqM_settle_58 : decode cqM_settle 58 = .ok (.iconst 4, 1) := by decide +kernel
theorem dqM_settle_59 : decode cqM_settle 59 = .ok (.if_icmp .ge 89, 3) := by decide +kernel
theorem dqM_settle_62 : decode cqM_settle 62 = .ok (.iconst (-1), 1) := by decide +kernel
theorem dqM_settle_63 : decode cqM_settle 63 = .ok (.istore 4, 2) := by decide +kernel
theorem dqM_settle_65 : decode cqM_settle 65 = .ok (.iconst 0, 1) := by decide +kernel
theorem dqM_settle_66 : decode cqM_settle 66 = .ok (.istore 5, 2) := by decide +kernel
theorem dqM_settle_68 : decode cqM_settle 68 = .ok (.iload 5, 2) := by decide +kernel
theorem dqM_settle_70 : decode cqM_settle 70 = .ok (.aload_n 0, 1) := by decide +kernel
theorem dqM_settle_71 : decode cqM_settle 71 = .ok (.getfield 88, 3) := by decide +kernel
theorem dqM_settle_74 : decode cqM_settle 74 = .ok (.if_icmp .ge 68, 3) := by decide +kernel
theorem dqM_settle_77 : decode cqM_settle 77 = .ok (.aload_n 0, 1) := by decide +kernel
theorem dqM_settle_78 : decode cqM_settle 78 = .ok (.getfield 27, 3) := by decide +kernel
theorem dqM_settle_81 : decode cqM_settle 81 = .ok (.bipush 24, 2) := by decide +kernel
theorem dqM_settle_83 : decode cqM_settle 83 = .ok (.iload_n 3, 1) := by decide +kernel
theorem dqM_settle_84 : decode cqM_settle 84 = .ok (.imul, 1) := by decide +kernel
theorem dqM_settle_85 : decode cqM_settle 85 = .ok (.iload 5, 2) := by decide +kernel
theorem dqM_settle_87 : decode cqM_settle 87 = .ok (.iadd, 1) := by decide +kernel
theorem dqM_settle_88 : decode cqM_settle 88 = .ok (.baload, 1) := by decide +kernel
theorem dqM_settle_89 : decode cqM_settle 89 = .ok (.ifCond .eq 47, 3) := by decide +kernel
theorem dqM_settle_92 : decode cqM_settle 92 = .ok (.iload 4, 2) := by decide +kernel
theorem dqM_settle_94 : decode cqM_settle 94 = .ok (.ifCond .lt 38, 3) := by decide +kernel
theorem dqM_settle_97 : decode cqM_settle 97 = .ok (.aload_n 0, 1) := by decide +kernel
theorem dqM_settle_98 : decode cqM_settle 98 = .ok (.iload 4, 2) := by decide +kernel
theorem dqM_settle_100 : decode cqM_settle 100 = .ok (.iload 5, 2) := by decide +kernel
theorem dqM_settle_102 : decode cqM_settle 102 = .ok (.aload_n 0, 1) := by decide +kernel
theorem dqM_settle_103 : decode cqM_settle 103 = .ok (.getfield 33, 3) := by decide +kernel
theorem dqM_settle_106 : decode cqM_settle 106 = .ok (.bipush 24, 2) := by decide +kernel
theorem dqM_settle_108 : decode cqM_settle 108 = .ok (.iload_n 3, 1) := by decide +kernel
theorem dqM_settle_109 : decode cqM_settle 109 = .ok (.imul, 1) := by decide +kernel
theorem dqM_settle_110 : decode cqM_settle 110 = .ok (.iload 4, 2) := by decide +kernel
theorem dqM_settle_112 : decode cqM_settle 112 = .ok (.iadd, 1) := by decide +kernel
theorem dqM_settle_113 : decode cqM_settle 113 = .ok (.iaload, 1) := by decide +kernel
theorem dqM_settle_114 : decode cqM_settle 114 = .ok (.aload_n 0, 1) := by decide +kernel
theorem dqM_settle_115 : decode cqM_settle 115 = .ok (.getfield 30, 3) := by decide +kernel
theorem dqM_settle_118 : decode cqM_settle 118 = .ok (.bipush 24, 2) := by decide +kernel
theorem dqM_settle_120 : decode cqM_settle 120 = .ok (.iload_n 3, 1) := by decide +kernel
theorem dqM_settle_121 : decode cqM_settle 121 = .ok (.imul, 1) := by decide +kernel
theorem dqM_settle_122 : decode cqM_settle 122 = .ok (.iload 5, 2) := by decide +kernel
theorem dqM_settle_124 : decode cqM_settle 124 = .ok (.iadd, 1) := by decide +kernel
theorem dqM_settle_125 : decode cqM_settle 125 = .ok (.iaload, 1) := by decide +kernel
theorem dqM_settle_126 : decode cqM_settle 126 = .ok (.iadd, 1) := by decide +kernel
theorem dqM_settle_127 : decode cqM_settle 127 = .ok (.iload_n 1, 1) := by decide +kernel
theorem dqM_settle_128 : decode cqM_settle 128 = .ok (.iload_n 2, 1) := by decide +kernel
theorem dqM_settle_129 : decode cqM_settle 129 = .ok (.invokevirtual 128, 3) := by decide +kernel
theorem dqM_settle_132 : decode cqM_settle 132 = .ok (.iload 5, 2) := by decide +kernel
theorem dqM_settle_134 : decode cqM_settle 134 = .ok (.istore 4, 2) := by decide +kernel
theorem dqM_settle_136 : decode cqM_settle 136 = .ok (.iinc 5 1, 3) := by decide +kernel
theorem dqM_settle_139 : decode cqM_settle 139 = .ok (.goto (-71), 3) := by decide +kernel
theorem dqM_settle_142 : decode cqM_settle 142 = .ok (.iinc 3 1, 3) := by decide +kernel
theorem dqM_settle_145 : decode cqM_settle 145 = .ok (.goto (-88), 3) := by decide +kernel
theorem dqM_settle_148 : decode cqM_settle 148 = .ok (.iconst 0, 1) := by decide +kernel
theorem dqM_settle_149 : decode cqM_settle 149 = .ok (.istore_n 3, 1) := by decide +kernel
theorem dqM_settle_150 : decode cqM_settle 150 = .ok (.iload_n 3, 1) := by decide +kernel
theorem dqM_settle_151 : decode cqM_settle 151 = .ok (.aload_n 0, 1) := by decide +kernel
theorem dqM_settle_152 : decode cqM_settle 152 = .ok (.getfield 91, 3) := by decide +kernel
theorem dqM_settle_155 : decode cqM_settle 155 = .ok (.if_icmp .ge 42, 3) := by decide +kernel
theorem dqM_settle_158 : decode cqM_settle 158 = .ok (.aload_n 0, 1) := by decide +kernel
theorem dqM_settle_159 : decode cqM_settle 159 = .ok (.getfield 45, 3) := by decide +kernel
theorem dqM_settle_162 : decode cqM_settle 162 = .ok (.iload_n 3, 1) := by decide +kernel
theorem dqM_settle_163 : decode cqM_settle 163 = .ok (.baload, 1) := by decide +kernel
theorem dqM_settle_164 : decode cqM_settle 164 = .ok (.ifCond .eq 27, 3) := by decide +kernel
theorem dqM_settle_167 : decode cqM_settle 167 = .ok (.aload_n 0, 1) := by decide +kernel
theorem dqM_settle_168 : decode cqM_settle 168 = .ok (.aload_n 0, 1) := by decide +kernel
theorem dqM_settle_169 : decode cqM_settle 169 = .ok (.getfield 36, 3) := by decide +kernel
theorem dqM_settle_172 : decode cqM_settle 172 = .ok (.iload_n 3, 1) := by decide +kernel
theorem dqM_settle_173 : decode cqM_settle 173 = .ok (.iaload, 1) := by decide +kernel
theorem dqM_settle_174 : decode cqM_settle 174 = .ok (.aload_n 0, 1) := by decide +kernel
theorem dqM_settle_175 : decode cqM_settle 175 = .ok (.getfield 39, 3) := by decide +kernel
theorem dqM_settle_178 : decode cqM_settle 178 = .ok (.iload_n 3, 1) := by decide +kernel
theorem dqM_settle_179 : decode cqM_settle 179 = .ok (.iaload, 1) := by decide +kernel
theorem dqM_settle_180 : decode cqM_settle 180 = .ok (.aload_n 0, 1) := by decide +kernel
theorem dqM_settle_181 : decode cqM_settle 181 = .ok (.getfield 42, 3) := by decide +kernel
theorem dqM_settle_184 : decode cqM_settle 184 = .ok (.iload_n 3, 1) := by decide +kernel
theorem dqM_settle_185 : decode cqM_settle 185 = .ok (.iaload, 1) := by decide +kernel
theorem dqM_settle_186 : decode cqM_settle 186 = .ok (.iload_n 1, 1) := by decide +kernel
theorem dqM_settle_187 : decode cqM_settle 187 = .ok (.iload_n 2, 1) := by decide +kernel
theorem dqM_settle_188 : decode cqM_settle 188 = .ok (.invokevirtual 128, 3) := by decide +kernel
theorem dqM_settle_191 : decode cqM_settle 191 = .ok (.iinc 3 1, 3) := by decide +kernel
theorem dqM_settle_194 : decode cqM_settle 194 = .ok (.goto (-44), 3) := by decide +kernel
theorem dqM_settle_197 : decode cqM_settle 197 = .ok (.return_, 1) := by decide +kernel
theorem dqM_run_0 : decode cqM_run 0 = .ok (.iload_n 1, 1) := by decide +kernel
theorem dqM_run_1 : decode cqM_run 1 = .ok (.ifCond .lt 10, 3) := by decide +kernel
theorem dqM_run_4 : decode cqM_run 4 = .ok (.iload_n 1, 1) := by decide +kernel
theorem dqM_run_5 : decode cqM_run 5 = .ok (.sipush 20000, 3) := by decide +kernel
theorem dqM_run_8 : decode cqM_run 8 = .ok (.if_icmp .le 6, 3) := by decide +kernel
theorem dqM_run_11 : decode cqM_run 11 = .ok (.bipush (-2), 2) := by decide +kernel
theorem dqM_run_13 : decode cqM_run 13 = .ok (.ireturn, 1) := by decide +kernel
theorem dqM_run_14 : decode cqM_run 14 = .ok (.aload_n 0, 1) := by decide +kernel
theorem dqM_run_15 : decode cqM_run 15 = .ok (.getfield 88, 3) := by decide +kernel
theorem dqM_run_18 : decode cqM_run 18 = .ok (.iconst 2, 1) := by decide +kernel
theorem dqM_run_19 : decode cqM_run 19 = .ok (.if_icmp .ge 8, 3) := by decide +kernel
theorem dqM_run_22 : decode cqM_run 22 = .ok (.bipush (-3), 2) := by decide +kernel
theorem dqM_run_24 : decode cqM_run 24 = .ok (.goto 15, 3) := by decide +kernel
theorem dqM_run_27 : decode cqM_run 27 = .ok (.aload_n 0, 1) := by decide +kernel
theorem dqM_run_28 : decode cqM_run 28 = .ok (.iconst 0, 1) := by decide +kernel
theorem dqM_run_29 : decode cqM_run 29 = .ok (.aload_n 0, 1) := by decide +kernel
theorem dqM_run_30 : decode cqM_run 30 = .ok (.getfield 88, 3) := by decide +kernel
theorem dqM_run_33 : decode cqM_run 33 = .ok (.iconst 1, 1) := by decide +kernel
theorem dqM_run_34 : decode cqM_run 34 = .ok (.isub, 1) := by decide +kernel
theorem dqM_run_35 : decode cqM_run 35 = .ok (.iload_n 1, 1) := by decide +kernel
theorem dqM_run_36 : decode cqM_run 36 = .ok (.invokevirtual 132, 3) := by decide +kernel
theorem dqM_run_39 : decode cqM_run 39 = .ok (.ireturn, 1) := by decide +kernel
theorem dqM_line_0 : decode cqM_line 0 = .ok (.aload_n 0, 1) := by decide +kernel
theorem dqM_line_1 : decode cqM_line 1 = .ok (.iload_n 1, 1) := by decide +kernel
theorem dqM_line_2 : decode cqM_line 2 = .ok (.invokevirtual 106, 3) := by decide +kernel
theorem dqM_line_5 : decode cqM_line 5 = .ok (.ifCond .eq 11, 3) := by decide +kernel
theorem dqM_line_8 : decode cqM_line 8 = .ok (.aload_n 0, 1) := by decide +kernel
theorem dqM_line_9 : decode cqM_line 9 = .ok (.iload_n 2, 1) := by decide +kernel
theorem dqM_line_10 : decode cqM_line 10 = .ok (.invokevirtual 106, 3) := by decide +kernel
theorem dqM_line_13 : decode cqM_line 13 = .ok (.ifCond .ne 5, 3) := by decide +kernel
theorem dqM_line_16 : decode cqM_line 16 = .ok (.iconst (-1), 1) := by decide +kernel
theorem dqM_line_17 : decode cqM_line 17 = .ok (.ireturn, 1) := by decide +kernel
theorem dqM_line_18 : decode cqM_line 18 = .ok (.iload_n 1, 1) := by decide +kernel
theorem dqM_line_19 : decode cqM_line 19 = .ok (.iload_n 2, 1) := by decide +kernel
theorem dqM_line_20 : decode cqM_line 20 = .ok (.if_icmp .ge 14, 3) := by decide +kernel
theorem dqM_line_23 : decode cqM_line 23 = .ok (.iload_n 3, 1) := by decide +kernel
theorem dqM_line_24 : decode cqM_line 24 = .ok (.ifCond .lt 10, 3) := by decide +kernel
theorem dqM_line_27 : decode cqM_line 27 = .ok (.iload_n 3, 1) := by decide +kernel
theorem dqM_line_28 : decode cqM_line 28 = .ok (.sipush 20000, 3) := by decide +kernel
theorem dqM_line_31 : decode cqM_line 31 = .ok (.if_icmp .le 8, 3) := by decide +kernel
theorem dqM_line_34 : decode cqM_line 34 = .ok (.bipush (-2), 2) := by decide +kernel
theorem dqM_line_36 : decode cqM_line 36 = .ok (.goto 10, 3) := by decide +kernel
theorem dqM_line_39 : decode cqM_line 39 = .ok (.aload_n 0, 1) := by decide +kernel
theorem dqM_line_40 : decode cqM_line 40 = .ok (.iload_n 1, 1) := by decide +kernel
theorem dqM_line_41 : decode cqM_line 41 = .ok (.iload_n 2, 1) := by decide +kernel
theorem dqM_line_42 : decode cqM_line 42 = .ok (.iload_n 3, 1) := by decide +kernel
theorem dqM_line_43 : decode cqM_line 43 = .ok (.invokevirtual 132, 3) := by decide +kernel
theorem dqM_line_46 : decode cqM_line 46 = .ok (.ireturn, 1) := by decide +kernel
theorem dqM_made_0 : decode cqM_made 0 = .ok (.aload_n 0, 1) := by decide +kernel
theorem dqM_made_1 : decode cqM_made 1 = .ok (.iload_n 1, 1) := by decide +kernel
theorem dqM_made_2 : decode cqM_made 2 = .ok (.iload_n 2, 1) := by decide +kernel
theorem dqM_made_3 : decode cqM_made 3 = .ok (.invokevirtual 136, 3) := by decide +kernel
theorem dqM_made_6 : decode cqM_made 6 = .ok (.aload_n 0, 1) := by decide +kernel
theorem dqM_made_7 : decode cqM_made 7 = .ok (.iconst 1, 1) := by decide +kernel
theorem dqM_made_8 : decode cqM_made 8 = .ok (.putfield 77, 3) := by decide +kernel
theorem dqM_made_11 : decode cqM_made 11 = .ok (.aload_n 0, 1) := by decide +kernel
theorem dqM_made_12 : decode cqM_made 12 = .ok (.iload_n 1, 1) := by decide +kernel
theorem dqM_made_13 : decode cqM_made 13 = .ok (.putfield 140, 3) := by decide +kernel
theorem dqM_made_16 : decode cqM_made 16 = .ok (.aload_n 0, 1) := by decide +kernel
theorem dqM_made_17 : decode cqM_made 17 = .ok (.iload_n 2, 1) := by decide +kernel
theorem dqM_made_18 : decode cqM_made 18 = .ok (.putfield 143, 3) := by decide +kernel
theorem dqM_made_21 : decode cqM_made 21 = .ok (.aload_n 0, 1) := by decide +kernel
theorem dqM_made_22 : decode cqM_made 22 = .ok (.iload_n 1, 1) := by decide +kernel
theorem dqM_made_23 : decode cqM_made 23 = .ok (.iload_n 2, 1) := by decide +kernel
theorem dqM_made_24 : decode cqM_made 24 = .ok (.invokevirtual 116, 3) := by decide +kernel
theorem dqM_made_27 : decode cqM_made 27 = .ok (.istore 4, 2) := by decide +kernel
theorem dqM_made_29 : decode cqM_made 29 = .ok (.aload_n 0, 1) := by decide +kernel
theorem dqM_made_30 : decode cqM_made 30 = .ok (.iload 4, 2) := by decide +kernel
theorem dqM_made_32 : decode cqM_made 32 = .ok (.iload_n 3, 1) := by decide +kernel
theorem dqM_made_33 : decode cqM_made 33 = .ok (.if_icmp .le 10, 3) := by decide +kernel
theorem dqM_made_36 : decode cqM_made 36 = .ok (.iload 4, 2) := by decide +kernel
theorem dqM_made_38 : decode cqM_made 38 = .ok (.iload_n 3, 1) := by decide +kernel
theorem dqM_made_39 : decode cqM_made 39 = .ok (.isub, 1) := by decide +kernel
theorem dqM_made_40 : decode cqM_made 40 = .ok (.goto 4, 3) := by decide +kernel
theorem dqM_made_43 : decode cqM_made 43 = .ok (.iconst 0, 1) := by decide +kernel
theorem dqM_made_44 : decode cqM_made 44 = .ok (.putfield 146, 3) := by decide +kernel
theorem dqM_made_47 : decode cqM_made 47 = .ok (.aload_n 0, 1) := by decide +kernel
theorem dqM_made_48 : decode cqM_made 48 = .ok (.iload_n 1, 1) := by decide +kernel
theorem dqM_made_49 : decode cqM_made 49 = .ok (.iload_n 2, 1) := by decide +kernel
theorem dqM_made_50 : decode cqM_made 50 = .ok (.iload_n 3, 1) := by decide +kernel
theorem dqM_made_51 : decode cqM_made 51 = .ok (.invokevirtual 124, 3) := by decide +kernel
theorem dqM_made_54 : decode cqM_made 54 = .ok (.aload_n 0, 1) := by decide +kernel
theorem dqM_made_55 : decode cqM_made 55 = .ok (.aload_n 0, 1) := by decide +kernel
theorem dqM_made_56 : decode cqM_made 56 = .ok (.getfield 110, 3) := by decide +kernel
theorem dqM_made_59 : decode cqM_made 59 = .ok (.putfield 149, 3) := by decide +kernel
theorem dqM_made_62 : decode cqM_made 62 = .ok (.aload_n 0, 1) := by decide +kernel
theorem dqM_made_63 : decode cqM_made 63 = .ok (.aload_n 0, 1) := by decide +kernel
theorem dqM_made_64 : decode cqM_made 64 = .ok (.getfield 113, 3) := by decide +kernel
theorem dqM_made_67 : decode cqM_made 67 = .ok (.putfield 48, 3) := by decide +kernel
theorem dqM_made_70 : decode cqM_made 70 = .ok (.iload_n 1, 1) := by decide +kernel
theorem dqM_made_71 : decode cqM_made 71 = .ok (.istore 5, 2) := by decide +kernel
theorem dqM_made_73 : decode cqM_made 73 = .ok (.iload 5, 2) := by decide +kernel
theorem dqM_made_75 : decode cqM_made 75 = .ok (.iload_n 2, 1) := by decide +kernel
theorem dqM_made_76 : decode cqM_made 76 = .ok (.if_icmp .ge 23, 3) := by decide +kernel
theorem dqM_made_79 : decode cqM_made 79 = .ok (.aload_n 0, 1) := by decide +kernel
theorem dqM_made_80 : decode cqM_made 80 = .ok (.getfield 52, 3) := by decide +kernel
theorem dqM_made_83 : decode cqM_made 83 = .ok (.iload 5, 2) := by decide +kernel
theorem dqM_made_85 : decode cqM_made 85 = .ok (.aload_n 0, 1) := by decide +kernel
theorem dqM_made_86 : decode cqM_made 86 = .ok (.getfield 62, 3) := by decide +kernel
theorem dqM_made_89 : decode cqM_made 89 = .ok (.iload 5, 2) := by decide +kernel
theorem dqM_made_91 : decode cqM_made 91 = .ok (.iaload, 1) := by decide +kernel
theorem dqM_made_92 : decode cqM_made 92 = .ok (.iastore, 1) := by decide +kernel
theorem dqM_made_93 : decode cqM_made 93 = .ok (.iinc 5 1, 3) := by decide +kernel
theorem dqM_made_96 : decode cqM_made 96 = .ok (.goto (-23), 3) := by decide +kernel
theorem dqM_made_99 : decode cqM_made 99 = .ok (.aload_n 0, 1) := by decide +kernel
theorem dqM_made_100 : decode cqM_made 100 = .ok (.getfield 146, 3) := by decide +kernel
theorem dqM_made_103 : decode cqM_made 103 = .ok (.ifCond .le 7, 3) := by decide +kernel
theorem dqM_made_106 : decode cqM_made 106 = .ok (.iconst 1, 1) := by decide +kernel
theorem dqM_made_107 : decode cqM_made 107 = .ok (.goto 23, 3) := by decide +kernel
theorem dqM_made_110 : decode cqM_made 110 = .ok (.iload 4, 2) := by decide +kernel
theorem dqM_made_112 : decode cqM_made 112 = .ok (.iload_n 3, 1) := by decide +kernel
theorem dqM_made_113 : decode cqM_made 113 = .ok (.if_icmp .ge 16, 3) := by decide +kernel
theorem dqM_made_116 : decode cqM_made 116 = .ok (.aload_n 0, 1) := by decide +kernel
theorem dqM_made_117 : decode cqM_made 117 = .ok (.iload_n 1, 1) := by decide +kernel
theorem dqM_made_118 : decode cqM_made 118 = .ok (.iload_n 2, 1) := by decide +kernel
theorem dqM_made_119 : decode cqM_made 119 = .ok (.invokevirtual 120, 3) := by decide +kernel
theorem dqM_made_122 : decode cqM_made 122 = .ok (.ifCond .ne 7, 3) := by decide +kernel
theorem dqM_made_125 : decode cqM_made 125 = .ok (.iconst 2, 1) := by decide +kernel
theorem dqM_made_126 : decode cqM_made 126 = .ok (.goto 4, 3) := by decide +kernel
theorem dqM_made_129 : decode cqM_made 129 = .ok (.iconst 0, 1) := by decide +kernel
theorem dqM_made_130 : decode cqM_made 130 = .ok (.ireturn, 1) := by decide +kernel
theorem dqM_common_0 : decode cqM_common 0 = .ok (.lload_n 0, 1) := by decide +kernel
theorem dqM_common_1 : decode cqM_common 1 = .ok (.lstore 4, 2) := by decide +kernel
theorem dqM_common_3 : decode cqM_common 3 = .ok (.lload_n 2, 1) := by decide +kernel
theorem dqM_common_4 : decode cqM_common 4 = .ok (.lstore 6, 2) := by decide +kernel
theorem dqM_common_6 : decode cqM_common 6 = .ok (.lload 6, 2) := by decide +kernel
theorem dqM_common_8 : decode cqM_common 8 = .ok (.lconst 0, 1) := by decide +kernel
theorem dqM_common_9 : decode cqM_common 9 = .ok (.lcmp, 1) := by decide +kernel
theorem dqM_common_10 : decode cqM_common 10 = .ok (.ifCond .eq 21, 3) := by decide +kernel
theorem dqM_common_13 : decode cqM_common 13 = .ok (.lload 4, 2) := by decide +kernel
theorem dqM_common_15 : decode cqM_common 15 = .ok (.lload 6, 2) := by decide +kernel
theorem dqM_common_17 : decode cqM_common 17 = .ok (.lrem, 1) := by decide +kernel
theorem dqM_common_18 : decode cqM_common 18 = .ok (.lstore 8, 2) := by decide +kernel
theorem dqM_common_20 : decode cqM_common 20 = .ok (.lload 6, 2) := by decide +kernel
theorem dqM_common_22 : decode cqM_common 22 = .ok (.lstore 4, 2) := by decide +kernel
theorem dqM_common_24 : decode cqM_common 24 = .ok (.lload 8, 2) := by decide +kernel
theorem dqM_common_26 : decode cqM_common 26 = .ok (.lstore 6, 2) := by decide +kernel
theorem dqM_common_28 : decode cqM_common 28 = .ok (.goto (-22), 3) := by decide +kernel
theorem dqM_common_31 : decode cqM_common 31 = .ok (.lload 4, 2) := by decide +kernel
theorem dqM_common_33 : decode cqM_common 33 = .ok (.lreturn, 1) := by decide +kernel
theorem dqM_part_0 : decode cqM_part 0 = .ok (.iload 4, 2) := by decide +kernel
theorem dqM_part_2 : decode cqM_part 2 = .ok (.ifCond .ne 7, 3) := by decide +kernel
theorem dqM_part_5 : decode cqM_part 5 = .ok (.lload_n 0, 1) := by decide +kernel
theorem dqM_part_6 : decode cqM_part 6 = .ok (.goto 4, 3) := by decide +kernel
theorem dqM_part_9 : decode cqM_part 9 = .ok (.lload_n 2, 1) := by decide +kernel
theorem dqM_part_10 : decode cqM_part 10 = .ok (.lload_n 0, 1) := by decide +kernel
theorem dqM_part_11 : decode cqM_part 11 = .ok (.lload_n 2, 1) := by decide +kernel
theorem dqM_part_12 : decode cqM_part 12 = .ok (.invokestatic 152, 3) := by decide +kernel
theorem dqM_part_15 : decode cqM_part 15 = .ok (.ldiv, 1) := by decide +kernel
theorem dqM_part_16 : decode cqM_part 16 = .ok (.lreturn, 1) := by decide +kernel
theorem dqM_over_0 : decode cqM_over 0 = .ok (.aload_n 0, 1) := by decide +kernel
theorem dqM_over_1 : decode cqM_over 1 = .ok (.getfield 77, 3) := by decide +kernel
theorem dqM_over_4 : decode cqM_over 4 = .ok (.ifCond .eq 10, 3) := by decide +kernel
theorem dqM_over_7 : decode cqM_over 7 = .ok (.aload_n 0, 1) := by decide +kernel
theorem dqM_over_8 : decode cqM_over 8 = .ok (.getfield 146, 3) := by decide +kernel
theorem dqM_over_11 : decode cqM_over 11 = .ok (.goto 5, 3) := by decide +kernel
theorem dqM_over_14 : decode cqM_over 14 = .ok (.bipush (-3), 2) := by decide +kernel
theorem dqM_over_16 : decode cqM_over 16 = .ok (.ireturn, 1) := by decide +kernel
theorem dqM_force_0 : decode cqM_force 0 = .ok (.iload_n 1, 1) := by decide +kernel
theorem dqM_force_1 : decode cqM_force 1 = .ok (.ifCond .eq 14, 3) := by decide +kernel
theorem dqM_force_4 : decode cqM_force 4 = .ok (.iload_n 1, 1) := by decide +kernel
theorem dqM_force_5 : decode cqM_force 5 = .ok (.iconst 1, 1) := by decide +kernel
theorem dqM_force_6 : decode cqM_force 6 = .ok (.if_icmp .eq 9, 3) := by decide +kernel
theorem dqM_force_9 : decode cqM_force 9 = .ok (.ldc2_w 100, 3) := by decide +kernel
theorem dqM_force_12 : decode cqM_force 12 = .ok (.goto 28, 3) := by decide +kernel
theorem dqM_force_15 : decode cqM_force 15 = .ok (.aload_n 0, 1) := by decide +kernel
theorem dqM_force_16 : decode cqM_force 16 = .ok (.getfield 77, 3) := by decide +kernel
theorem dqM_force_19 : decode cqM_force 19 = .ok (.ifCond .eq 18, 3) := by decide +kernel
theorem dqM_force_22 : decode cqM_force 22 = .ok (.aload_n 0, 1) := by decide +kernel
theorem dqM_force_23 : decode cqM_force 23 = .ok (.getfield 149, 3) := by decide +kernel
theorem dqM_force_26 : decode cqM_force 26 = .ok (.aload_n 0, 1) := by decide +kernel
theorem dqM_force_27 : decode cqM_force 27 = .ok (.getfield 48, 3) := by decide +kernel
theorem dqM_force_30 : decode cqM_force 30 = .ok (.iload_n 1, 1) := by decide +kernel
theorem dqM_force_31 : decode cqM_force 31 = .ok (.invokestatic 156, 3) := by decide +kernel
theorem dqM_force_34 : decode cqM_force 34 = .ok (.goto 6, 3) := by decide +kernel
theorem dqM_force_37 : decode cqM_force 37 = .ok (.ldc2_w 160, 3) := by decide +kernel
theorem dqM_force_40 : decode cqM_force 40 = .ok (.lreturn, 1) := by decide +kernel
theorem dqM_wide_0 : decode cqM_wide 0 = .ok (.aload_n 0, 1) := by decide +kernel
theorem dqM_wide_1 : decode cqM_wide 1 = .ok (.getfield 52, 3) := by decide +kernel
theorem dqM_wide_4 : decode cqM_wide 4 = .ok (.iload_n 1, 1) := by decide +kernel
theorem dqM_wide_5 : decode cqM_wide 5 = .ok (.iaload, 1) := by decide +kernel
theorem dqM_wide_6 : decode cqM_wide 6 = .ok (.i2l, 1) := by decide +kernel
theorem dqM_wide_7 : decode cqM_wide 7 = .ok (.aload_n 0, 1) := by decide +kernel
theorem dqM_wide_8 : decode cqM_wide 8 = .ok (.getfield 48, 3) := by decide +kernel
theorem dqM_wide_11 : decode cqM_wide 11 = .ok (.lmul, 1) := by decide +kernel
theorem dqM_wide_12 : decode cqM_wide 12 = .ok (.lstore_n 2, 1) := by decide +kernel
theorem dqM_wide_13 : decode cqM_wide 13 = .ok (.aload_n 0, 1) := by decide +kernel
theorem dqM_wide_14 : decode cqM_wide 14 = .ok (.getfield 149, 3) := by decide +kernel
theorem dqM_wide_17 : decode cqM_wide 17 = .ok (.aload_n 0, 1) := by decide +kernel
theorem dqM_wide_18 : decode cqM_wide 18 = .ok (.getfield 55, 3) := by decide +kernel
theorem dqM_wide_21 : decode cqM_wide 21 = .ok (.iload_n 1, 1) := by decide +kernel
theorem dqM_wide_22 : decode cqM_wide 22 = .ok (.laload, 1) := by decide +kernel
theorem dqM_wide_23 : decode cqM_wide 23 = .ok (.lmul, 1) := by decide +kernel
theorem dqM_wide_24 : decode cqM_wide 24 = .ok (.lstore 4, 2) := by decide +kernel
theorem dqM_wide_26 : decode cqM_wide 26 = .ok (.lload_n 2, 1) := by decide +kernel
theorem dqM_wide_27 : decode cqM_wide 27 = .ok (.lload 4, 2) := by decide +kernel
theorem dqM_wide_29 : decode cqM_wide 29 = .ok (.lcmp, 1) := by decide +kernel
theorem dqM_wide_30 : decode cqM_wide 30 = .ok (.ifCond .le 7, 3) := by decide +kernel
theorem dqM_wide_33 : decode cqM_wide 33 = .ok (.lload_n 2, 1) := by decide +kernel
theorem dqM_wide_34 : decode cqM_wide 34 = .ok (.goto 5, 3) := by decide +kernel
theorem dqM_wide_37 : decode cqM_wide 37 = .ok (.lload 4, 2) := by decide +kernel
theorem dqM_wide_39 : decode cqM_wide 39 = .ok (.lreturn, 1) := by decide +kernel
theorem dqM_width_0 : decode cqM_width 0 = .ok (.aload_n 0, 1) := by decide +kernel
theorem dqM_width_1 : decode cqM_width 1 = .ok (.getfield 77, 3) := by decide +kernel
theorem dqM_width_4 : decode cqM_width 4 = .ok (.ifCond .ne 7, 3) := by decide +kernel
theorem dqM_width_7 : decode cqM_width 7 = .ok (.ldc2_w 160, 3) := by decide +kernel
theorem dqM_width_10 : decode cqM_width 10 = .ok (.lreturn, 1) := by decide +kernel
theorem dqM_width_11 : decode cqM_width 11 = .ok (.iload_n 1, 1) := by decide +kernel
theorem dqM_width_12 : decode cqM_width 12 = .ok (.aload_n 0, 1) := by decide +kernel
theorem dqM_width_13 : decode cqM_width 13 = .ok (.getfield 140, 3) := by decide +kernel
theorem dqM_width_16 : decode cqM_width 16 = .ok (.if_icmp .lt 11, 3) := by decide +kernel
theorem dqM_width_19 : decode cqM_width 19 = .ok (.iload_n 1, 1) := by decide +kernel
theorem dqM_width_20 : decode cqM_width 20 = .ok (.aload_n 0, 1) := by decide +kernel
theorem dqM_width_21 : decode cqM_width 21 = .ok (.getfield 143, 3) := by decide +kernel
theorem dqM_width_24 : decode cqM_width 24 = .ok (.if_icmp .lt 7, 3) := by decide +kernel
theorem dqM_width_27 : decode cqM_width 27 = .ok (.ldc2_w 162, 3) := by decide +kernel
theorem dqM_width_30 : decode cqM_width 30 = .ok (.lreturn, 1) := by decide +kernel
theorem dqM_width_31 : decode cqM_width 31 = .ok (.iload_n 2, 1) := by decide +kernel
theorem dqM_width_32 : decode cqM_width 32 = .ok (.ifCond .eq 14, 3) := by decide +kernel
theorem dqM_width_35 : decode cqM_width 35 = .ok (.iload_n 2, 1) := by decide +kernel
theorem dqM_width_36 : decode cqM_width 36 = .ok (.iconst 1, 1) := by decide +kernel
theorem dqM_width_37 : decode cqM_width 37 = .ok (.if_icmp .eq 9, 3) := by decide +kernel
theorem dqM_width_40 : decode cqM_width 40 = .ok (.ldc2_w 100, 3) := by decide +kernel
theorem dqM_width_43 : decode cqM_width 43 = .ok (.goto 16, 3) := by decide +kernel
theorem dqM_width_46 : decode cqM_width 46 = .ok (.aload_n 0, 1) := by decide +kernel
theorem dqM_width_47 : decode cqM_width 47 = .ok (.iload_n 1, 1) := by decide +kernel
theorem dqM_width_48 : decode cqM_width 48 = .ok (.invokevirtual 164, 3) := by decide +kernel
theorem dqM_width_51 : decode cqM_width 51 = .ok (.aload_n 0, 1) := by decide +kernel
theorem dqM_width_52 : decode cqM_width 52 = .ok (.getfield 48, 3) := by decide +kernel
theorem dqM_width_55 : decode cqM_width 55 = .ok (.iload_n 2, 1) := by decide +kernel
theorem dqM_width_56 : decode cqM_width 56 = .ok (.invokestatic 156, 3) := by decide +kernel
theorem dqM_width_59 : decode cqM_width 59 = .ok (.lreturn, 1) := by decide +kernel
theorem dqM_settled_0 : decode cqM_settled 0 = .ok (.aload_n 0, 1) := by decide +kernel
theorem dqM_settled_1 : decode cqM_settled 1 = .ok (.getfield 77, 3) := by decide +kernel
theorem dqM_settled_4 : decode cqM_settled 4 = .ok (.ifCond .ne 8, 3) := by decide +kernel
theorem dqM_settled_7 : decode cqM_settled 7 = .ok (.bipush (-3), 2) := by decide +kernel
theorem dqM_settled_9 : decode cqM_settled 9 = .ok (.goto 29, 3) := by decide +kernel
theorem dqM_settled_12 : decode cqM_settled 12 = .ok (.iload_n 1, 1) := by decide +kernel
theorem dqM_settled_13 : decode cqM_settled 13 = .ok (.aload_n 0, 1) := by decide +kernel
theorem dqM_settled_14 : decode cqM_settled 14 = .ok (.getfield 140, 3) := by decide +kernel
theorem dqM_settled_17 : decode cqM_settled 17 = .ok (.if_icmp .lt 11, 3) := by decide +kernel
theorem dqM_settled_20 : decode cqM_settled 20 = .ok (.iload_n 1, 1) := by decide +kernel
theorem dqM_settled_21 : decode cqM_settled 21 = .ok (.aload_n 0, 1) := by decide +kernel
theorem dqM_settled_22 : decode cqM_settled 22 = .ok (.getfield 143, 3) := by decide +kernel
theorem dqM_settled_25 : decode cqM_settled 25 = .ok (.if_icmp .lt 7, 3) := by decide +kernel
theorem dqM_settled_28 : decode cqM_settled 28 = .ok (.iconst (-1), 1) := by decide +kernel
theorem dqM_settled_29 : decode cqM_settled 29 = .ok (.goto 9, 3) := by decide +kernel
theorem dqM_settled_32 : decode cqM_settled 32 = .ok (.aload_n 0, 1) := by decide +kernel
theorem dqM_settled_33 : decode cqM_settled 33 = .ok (.getfield 52, 3) := by decide +kernel
theorem dqM_settled_36 : decode cqM_settled 36 = .ok (.iload_n 1, 1) := by decide +kernel
theorem dqM_settled_37 : decode cqM_settled 37 = .ok (.iaload, 1) := by decide +kernel
theorem dqM_settled_38 : decode cqM_settled 38 = .ok (.ireturn, 1) := by decide +kernel
theorem dqM_before_0 : decode cqM_before 0 = .ok (.lconst 0, 1) := by decide +kernel
theorem dqM_before_1 : decode cqM_before 1 = .ok (.lstore_n 2, 1) := by decide +kernel
theorem dqM_before_2 : decode cqM_before 2 = .ok (.aload_n 0, 1) := by decide +kernel
theorem dqM_before_3 : decode cqM_before 3 = .ok (.getfield 140, 3) := by decide +kernel
theorem dqM_before_6 : decode cqM_before 6 = .ok (.istore 4, 2) := by decide +kernel
theorem dqM_before_8 : decode cqM_before 8 = .ok (.iload 4, 2) := by decide +kernel
theorem dqM_before_10 : decode cqM_before 10 = .ok (.iload_n 1, 1) := by decide +kernel
theorem dqM_before_11 : decode cqM_before 11 = .ok (.if_icmp .ge 18, 3) := by decide +kernel
theorem dqM_before_14 : decode cqM_before 14 = .ok (.lload_n 2, 1) := by decide +kernel
theorem dqM_before_15 : decode cqM_before 15 = .ok (.aload_n 0, 1) := by decide +kernel
theorem dqM_before_16 : decode cqM_before 16 = .ok (.iload 4, 2) := by decide +kernel
theorem dqM_before_18 : decode cqM_before 18 = .ok (.invokevirtual 164, 3) := by decide +kernel
theorem dqM_before_21 : decode cqM_before 21 = .ok (.ladd, 1) := by decide +kernel
theorem dqM_before_22 : decode cqM_before 22 = .ok (.lstore_n 2, 1) := by decide +kernel
theorem dqM_before_23 : decode cqM_before 23 = .ok (.iinc 4 1, 3) := by decide +kernel
theorem dqM_before_26 : decode cqM_before 26 = .ok (.goto (-18), 3) := by decide +kernel
theorem dqM_before_29 : decode cqM_before 29 = .ok (.lload_n 2, 1) := by decide +kernel
theorem dqM_before_30 : decode cqM_before 30 = .ok (.lreturn, 1) := by decide +kernel
theorem dqM_place_0 : decode cqM_place 0 = .ok (.aload_n 0, 1) := by decide +kernel
theorem dqM_place_1 : decode cqM_place 1 = .ok (.getfield 77, 3) := by decide +kernel
theorem dqM_place_4 : decode cqM_place 4 = .ok (.ifCond .ne 8, 3) := by decide +kernel
theorem dqM_place_7 : decode cqM_place 7 = .ok (.bipush (-3), 2) := by decide +kernel
theorem dqM_place_9 : decode cqM_place 9 = .ok (.goto 34, 3) := by decide +kernel
theorem dqM_place_12 : decode cqM_place 12 = .ok (.iload_n 1, 1) := by decide +kernel
theorem dqM_place_13 : decode cqM_place 13 = .ok (.aload_n 0, 1) := by decide +kernel
theorem dqM_place_14 : decode cqM_place 14 = .ok (.getfield 140, 3) := by decide +kernel
theorem dqM_place_17 : decode cqM_place 17 = .ok (.if_icmp .lt 11, 3) := by decide +kernel
theorem dqM_place_20 : decode cqM_place 20 = .ok (.iload_n 1, 1) := by decide +kernel
theorem dqM_place_21 : decode cqM_place 21 = .ok (.aload_n 0, 1) := by decide +kernel
theorem dqM_place_22 : decode cqM_place 22 = .ok (.getfield 143, 3) := by decide +kernel
theorem dqM_place_25 : decode cqM_place 25 = .ok (.if_icmp .le 7, 3) := by decide +kernel
theorem dqM_place_28 : decode cqM_place 28 = .ok (.iconst (-1), 1) := by decide +kernel
theorem dqM_place_29 : decode cqM_place 29 = .ok (.goto 14, 3) := by decide +kernel
theorem dqM_place_32 : decode cqM_place 32 = .ok (.aload_n 0, 1) := by decide +kernel
theorem dqM_place_33 : decode cqM_place 33 = .ok (.iload_n 1, 1) := by decide +kernel
theorem dqM_place_34 : decode cqM_place 34 = .ok (.invokevirtual 167, 3) := by decide +kernel
theorem dqM_place_37 : decode cqM_place 37 = .ok (.aload_n 0, 1) := by decide +kernel
theorem dqM_place_38 : decode cqM_place 38 = .ok (.getfield 48, 3) := by decide +kernel
theorem dqM_place_41 : decode cqM_place 41 = .ok (.ldiv, 1) := by decide +kernel
theorem dqM_place_42 : decode cqM_place 42 = .ok (.l2i, 1) := by decide +kernel
theorem dqM_place_43 : decode cqM_place 43 = .ok (.ireturn, 1) := by decide +kernel
theorem dqM_level_0 : decode cqM_level 0 = .ok (.aload_n 0, 1) := by decide +kernel
theorem dqM_level_1 : decode cqM_level 1 = .ok (.getfield 77, 3) := by decide +kernel
theorem dqM_level_4 : decode cqM_level 4 = .ok (.ifCond .ne 6, 3) := by decide +kernel
theorem dqM_level_7 : decode cqM_level 7 = .ok (.bipush (-3), 2) := by decide +kernel
theorem dqM_level_9 : decode cqM_level 9 = .ok (.ireturn, 1) := by decide +kernel
theorem dqM_level_10 : decode cqM_level 10 = .ok (.iload_n 1, 1) := by decide +kernel
theorem dqM_level_11 : decode cqM_level 11 = .ok (.aload_n 0, 1) := by decide +kernel
theorem dqM_level_12 : decode cqM_level 12 = .ok (.getfield 16, 3) := by decide +kernel
theorem dqM_level_15 : decode cqM_level 15 = .ok (.aload_n 0, 1) := by decide +kernel
theorem dqM_level_16 : decode cqM_level 16 = .ok (.getfield 140, 3) := by decide +kernel
theorem dqM_level_19 : decode cqM_level 19 = .ok (.iaload, 1) := by decide +kernel
theorem dqM_level_20 : decode cqM_level 20 = .ok (.if_icmp .lt 16, 3) := by decide +kernel
theorem dqM_level_23 : decode cqM_level 23 = .ok (.iload_n 1, 1) := by decide +kernel
theorem dqM_level_24 : decode cqM_level 24 = .ok (.aload_n 0, 1) := by decide +kernel
theorem dqM_level_25 : decode cqM_level 25 = .ok (.getfield 16, 3) := by decide +kernel
theorem dqM_level_28 : decode cqM_level 28 = .ok (.aload_n 0, 1) := by decide +kernel
theorem dqM_level_29 : decode cqM_level 29 = .ok (.getfield 143, 3) := by decide +kernel
theorem dqM_level_32 : decode cqM_level 32 = .ok (.iaload, 1) := by decide +kernel
theorem dqM_level_33 : decode cqM_level 33 = .ok (.if_icmp .le 6, 3) := by decide +kernel
theorem dqM_level_36 : decode cqM_level 36 = .ok (.bipush (-2), 2) := by decide +kernel
theorem dqM_level_38 : decode cqM_level 38 = .ok (.ireturn, 1) := by decide +kernel
theorem dqM_level_39 : decode cqM_level 39 = .ok (.aload_n 0, 1) := by decide +kernel
theorem dqM_level_40 : decode cqM_level 40 = .ok (.getfield 143, 3) := by decide +kernel
theorem dqM_level_43 : decode cqM_level 43 = .ok (.istore_n 2, 1) := by decide +kernel
theorem dqM_level_44 : decode cqM_level 44 = .ok (.aload_n 0, 1) := by decide +kernel
theorem dqM_level_45 : decode cqM_level 45 = .ok (.getfield 16, 3) := by decide +kernel
theorem dqM_level_48 : decode cqM_level 48 = .ok (.iload_n 2, 1) := by decide +kernel
theorem dqM_level_49 : decode cqM_level 49 = .ok (.iaload, 1) := by decide +kernel
theorem dqM_level_50 : decode cqM_level 50 = .ok (.iload_n 1, 1) := by decide +kernel
theorem dqM_level_51 : decode cqM_level 51 = .ok (.if_icmp .le 9, 3) := by decide +kernel
theorem dqM_level_54 : decode cqM_level 54 = .ok (.iinc 2 (-1), 3) := by decide +kernel
theorem dqM_level_57 : decode cqM_level 57 = .ok (.goto (-13), 3) := by decide +kernel
theorem dqM_level_60 : decode cqM_level 60 = .ok (.aload_n 0, 1) := by decide +kernel
theorem dqM_level_61 : decode cqM_level 61 = .ok (.iload_n 2, 1) := by decide +kernel
theorem dqM_level_62 : decode cqM_level 62 = .ok (.invokevirtual 167, 3) := by decide +kernel
theorem dqM_level_65 : decode cqM_level 65 = .ok (.lstore_n 3, 1) := by decide +kernel
theorem dqM_level_66 : decode cqM_level 66 = .ok (.iload_n 2, 1) := by decide +kernel
theorem dqM_level_67 : decode cqM_level 67 = .ok (.aload_n 0, 1) := by decide +kernel
theorem dqM_level_68 : decode cqM_level 68 = .ok (.getfield 143, 3) := by decide +kernel
theorem dqM_level_71 : decode cqM_level 71 = .ok (.if_icmp .ne 11, 3) := by decide +kernel
theorem dqM_level_74 : decode cqM_level 74 = .ok (.lload_n 3, 1) := by decide +kernel
theorem dqM_level_75 : decode cqM_level 75 = .ok (.aload_n 0, 1) := by decide +kernel
theorem dqM_level_76 : decode cqM_level 76 = .ok (.getfield 48, 3) := by decide +kernel
theorem dqM_level_79 : decode cqM_level 79 = .ok (.ldiv, 1) := by decide +kernel
theorem dqM_level_80 : decode cqM_level 80 = .ok (.l2i, 1) := by decide +kernel
theorem dqM_level_81 : decode cqM_level 81 = .ok (.ireturn, 1) := by decide +kernel
theorem dqM_level_82 : decode cqM_level 82 = .ok (.aload_n 0, 1) := by decide +kernel
theorem dqM_level_83 : decode cqM_level 83 = .ok (.getfield 16, 3) := by decide +kernel
theorem dqM_level_86 : decode cqM_level 86 = .ok (.iload_n 2, 1) := by decide +kernel
theorem dqM_level_87 : decode cqM_level 87 = .ok (.iconst 1, 1) := by decide +kernel
theorem dqM_level_88 : decode cqM_level 88 = .ok (.iadd, 1) := by decide +kernel
theorem dqM_level_89 : decode cqM_level 89 = .ok (.iaload, 1) := by decide +kernel
theorem dqM_level_90 : decode cqM_level 90 = .ok (.aload_n 0, 1) := by decide +kernel
theorem dqM_level_91 : decode cqM_level 91 = .ok (.getfield 16, 3) := by decide +kernel
theorem dqM_level_94 : decode cqM_level 94 = .ok (.iload_n 2, 1) := by decide +kernel
theorem dqM_level_95 : decode cqM_level 95 = .ok (.iaload, 1) := by decide +kernel
theorem dqM_level_96 : decode cqM_level 96 = .ok (.isub, 1) := by decide +kernel
theorem dqM_level_97 : decode cqM_level 97 = .ok (.i2l, 1) := by decide +kernel
theorem dqM_level_98 : decode cqM_level 98 = .ok (.lstore 5, 2) := by decide +kernel
theorem dqM_level_100 : decode cqM_level 100 = .ok (.iload_n 1, 1) := by decide +kernel
theorem dqM_level_101 : decode cqM_level 101 = .ok (.aload_n 0, 1) := by decide +kernel
theorem dqM_level_102 : decode cqM_level 102 = .ok (.getfield 16, 3) := by decide +kernel
theorem dqM_level_105 : decode cqM_level 105 = .ok (.iload_n 2, 1) := by decide +kernel
theorem dqM_level_106 : decode cqM_level 106 = .ok (.iaload, 1) := by decide +kernel
theorem dqM_level_107 : decode cqM_level 107 = .ok (.isub, 1) := by decide +kernel
theorem dqM_level_108 : decode cqM_level 108 = .ok (.i2l, 1) := by decide +kernel
theorem dqM_level_109 : decode cqM_level 109 = .ok (.lstore 7, 2) := by decide +kernel
theorem dqM_level_111 : decode cqM_level 111 = .ok (.aload_n 0, 1) := by decide +kernel
theorem dqM_level_112 : decode cqM_level 112 = .ok (.iload_n 2, 1) := by decide +kernel
theorem dqM_level_113 : decode cqM_level 113 = .ok (.invokevirtual 164, 3) := by decide +kernel
theorem dqM_level_116 : decode cqM_level 116 = .ok (.lstore 9, 2) := by decide +kernel
theorem dqM_level_118 : decode cqM_level 118 = .ok (.lload 9, 2) := by decide +kernel
theorem dqM_level_120 : decode cqM_level 120 = .ok (.aload_n 0, 1) := by decide +kernel
theorem dqM_level_121 : decode cqM_level 121 = .ok (.getfield 48, 3) := by decide +kernel
theorem dqM_level_124 : decode cqM_level 124 = .ok (.ldiv, 1) := by decide +kernel
theorem dqM_level_125 : decode cqM_level 125 = .ok (.lload 7, 2) := by decide +kernel
theorem dqM_level_127 : decode cqM_level 127 = .ok (.lmul, 1) := by decide +kernel
theorem dqM_level_128 : decode cqM_level 128 = .ok (.lstore 11, 2) := by decide +kernel
theorem dqM_level_130 : decode cqM_level 130 = .ok (.lload_n 3, 1) := by decide +kernel
theorem dqM_level_131 : decode cqM_level 131 = .ok (.aload_n 0, 1) := by decide +kernel
theorem dqM_level_132 : decode cqM_level 132 = .ok (.getfield 48, 3) := by decide +kernel
theorem dqM_level_135 : decode cqM_level 135 = .ok (.lrem, 1) := by decide +kernel
theorem dqM_level_136 : decode cqM_level 136 = .ok (.lload 5, 2) := by decide +kernel
theorem dqM_level_138 : decode cqM_level 138 = .ok (.lmul, 1) := by decide +kernel
theorem dqM_level_139 : decode cqM_level 139 = .ok (.lload 9, 2) := by decide +kernel
theorem dqM_level_141 : decode cqM_level 141 = .ok (.aload_n 0, 1) := by decide +kernel
theorem dqM_level_142 : decode cqM_level 142 = .ok (.getfield 48, 3) := by decide +kernel
theorem dqM_level_145 : decode cqM_level 145 = .ok (.lrem, 1) := by decide +kernel
theorem dqM_level_146 : decode cqM_level 146 = .ok (.lload 7, 2) := by decide +kernel
theorem dqM_level_148 : decode cqM_level 148 = .ok (.lmul, 1) := by decide +kernel
theorem dqM_level_149 : decode cqM_level 149 = .ok (.ladd, 1) := by decide +kernel
theorem dqM_level_150 : decode cqM_level 150 = .ok (.lload 11, 2) := by decide +kernel
theorem dqM_level_152 : decode cqM_level 152 = .ok (.lload 5, 2) := by decide +kernel
theorem dqM_level_154 : decode cqM_level 154 = .ok (.lrem, 1) := by decide +kernel
theorem dqM_level_155 : decode cqM_level 155 = .ok (.aload_n 0, 1) := by decide +kernel
theorem dqM_level_156 : decode cqM_level 156 = .ok (.getfield 48, 3) := by decide +kernel
theorem dqM_level_159 : decode cqM_level 159 = .ok (.lmul, 1) := by decide +kernel
theorem dqM_level_160 : decode cqM_level 160 = .ok (.ladd, 1) := by decide +kernel
theorem dqM_level_161 : decode cqM_level 161 = .ok (.lstore 13, 2) := by decide +kernel
theorem dqM_level_163 : decode cqM_level 163 = .ok (.lload_n 3, 1) := by decide +kernel
theorem dqM_level_164 : decode cqM_level 164 = .ok (.aload_n 0, 1) := by decide +kernel
theorem dqM_level_165 : decode cqM_level 165 = .ok (.getfield 48, 3) := by decide +kernel
theorem dqM_level_168 : decode cqM_level 168 = .ok (.ldiv, 1) := by decide +kernel
theorem dqM_level_169 : decode cqM_level 169 = .ok (.lload 11, 2) := by decide +kernel
theorem dqM_level_171 : decode cqM_level 171 = .ok (.lload 5, 2) := by decide +kernel
theorem dqM_level_173 : decode cqM_level 173 = .ok (.ldiv, 1) := by decide +kernel
theorem dqM_level_174 : decode cqM_level 174 = .ok (.ladd, 1) := by decide +kernel
theorem dqM_level_175 : decode cqM_level 175 = .ok (.lload 13, 2) := by decide +kernel
theorem dqM_level_177 : decode cqM_level 177 = .ok (.aload_n 0, 1) := by decide +kernel
theorem dqM_level_178 : decode cqM_level 178 = .ok (.getfield 48, 3) := by decide +kernel
theorem dqM_level_181 : decode cqM_level 181 = .ok (.lload 5, 2) := by decide +kernel
theorem dqM_level_183 : decode cqM_level 183 = .ok (.lmul, 1) := by decide +kernel
theorem dqM_level_184 : decode cqM_level 184 = .ok (.ldiv, 1) := by decide +kernel
theorem dqM_level_185 : decode cqM_level 185 = .ok (.ladd, 1) := by decide +kernel
theorem dqM_level_186 : decode cqM_level 186 = .ok (.l2i, 1) := by decide +kernel
theorem dqM_level_187 : decode cqM_level 187 = .ok (.ireturn, 1) := by decide +kernel
theorem dqM_naturalOf_0 : decode cqM_naturalOf 0 = .ok (.aload_n 0, 1) := by decide +kernel
theorem dqM_naturalOf_1 : decode cqM_naturalOf 1 = .ok (.iload_n 1, 1) := by decide +kernel
theorem dqM_naturalOf_2 : decode cqM_naturalOf 2 = .ok (.iload_n 2, 1) := by decide +kernel
theorem dqM_naturalOf_3 : decode cqM_naturalOf 3 = .ok (.invokevirtual 136, 3) := by decide +kernel
theorem dqM_naturalOf_6 : decode cqM_naturalOf 6 = .ok (.iconst 0, 1) := by decide +kernel
theorem dqM_naturalOf_7 : decode cqM_naturalOf 7 = .ok (.istore_n 3, 1) := by decide +kernel
theorem dqM_naturalOf_8 : decode cqM_naturalOf 8 = .ok (.iload_n 1, 1) := by decide +kernel
theorem dqM_naturalOf_9 : decode cqM_naturalOf 9 = .ok (.istore 4, 2) := by decide +kernel
theorem dqM_naturalOf_11 : decode cqM_naturalOf 11 = .ok (.iload 4, 2) := by decide +kernel
theorem dqM_naturalOf_13 : decode cqM_naturalOf 13 = .ok (.iload_n 2, 1) := by decide +kernel
theorem dqM_naturalOf_14 : decode cqM_naturalOf 14 = .ok (.if_icmp .ge 50, 3) := by decide +kernel
theorem dqM_naturalOf_17 : decode cqM_naturalOf 17 = .ok (.aload_n 0, 1) := by decide +kernel
theorem dqM_naturalOf_18 : decode cqM_naturalOf 18 = .ok (.getfield 55, 3) := by decide +kernel
theorem dqM_naturalOf_21 : decode cqM_naturalOf 21 = .ok (.iload 4, 2) := by decide +kernel
theorem dqM_naturalOf_23 : decode cqM_naturalOf 23 = .ok (.laload, 1) := by decide +kernel
theorem dqM_naturalOf_24 : decode cqM_naturalOf 24 = .ok (.ldc2_w 97, 3) := by decide +kernel
theorem dqM_naturalOf_27 : decode cqM_naturalOf 27 = .ok (.ldiv, 1) := by decide +kernel
theorem dqM_naturalOf_28 : decode cqM_naturalOf 28 = .ok (.l2i, 1) := by decide +kernel
theorem dqM_naturalOf_29 : decode cqM_naturalOf 29 = .ok (.istore 5, 2) := by decide +kernel
theorem dqM_naturalOf_31 : decode cqM_naturalOf 31 = .ok (.iload_n 3, 1) := by decide +kernel
theorem dqM_naturalOf_32 : decode cqM_naturalOf 32 = .ok (.iload 5, 2) := by decide +kernel
theorem dqM_naturalOf_34 : decode cqM_naturalOf 34 = .ok (.aload_n 0, 1) := by decide +kernel
theorem dqM_naturalOf_35 : decode cqM_naturalOf 35 = .ok (.getfield 62, 3) := by decide +kernel
theorem dqM_naturalOf_38 : decode cqM_naturalOf 38 = .ok (.iload 4, 2) := by decide +kernel
theorem dqM_naturalOf_40 : decode cqM_naturalOf 40 = .ok (.iaload, 1) := by decide +kernel
theorem dqM_naturalOf_41 : decode cqM_naturalOf 41 = .ok (.if_icmp .le 8, 3) := by decide +kernel
theorem dqM_naturalOf_44 : decode cqM_naturalOf 44 = .ok (.iload 5, 2) := by decide +kernel
theorem dqM_naturalOf_46 : decode cqM_naturalOf 46 = .ok (.goto 10, 3) := by decide +kernel
theorem dqM_naturalOf_49 : decode cqM_naturalOf 49 = .ok (.aload_n 0, 1) := by decide +kernel
theorem dqM_naturalOf_50 : decode cqM_naturalOf 50 = .ok (.getfield 62, 3) := by decide +kernel
theorem dqM_naturalOf_53 : decode cqM_naturalOf 53 = .ok (.iload 4, 2) := by decide +kernel
theorem dqM_naturalOf_55 : decode cqM_naturalOf 55 = .ok (.iaload, 1) := by decide +kernel
theorem dqM_naturalOf_56 : decode cqM_naturalOf 56 = .ok (.iadd, 1) := by decide +kernel
theorem dqM_naturalOf_57 : decode cqM_naturalOf 57 = .ok (.istore_n 3, 1) := by decide +kernel
theorem dqM_naturalOf_58 : decode cqM_naturalOf 58 = .ok (.iinc 4 1, 3) := by decide +kernel
theorem dqM_naturalOf_61 : decode cqM_naturalOf 61 = .ok (.goto (-50), 3) := by decide +kernel
theorem dqM_naturalOf_64 : decode cqM_naturalOf 64 = .ok (.iload_n 3, 1) := by decide +kernel
theorem dqM_naturalOf_65 : decode cqM_naturalOf 65 = .ok (.ireturn, 1) := by decide +kernel
theorem dqM_natural_0 : decode cqM_natural 0 = .ok (.aload_n 0, 1) := by decide +kernel
theorem dqM_natural_1 : decode cqM_natural 1 = .ok (.iload_n 1, 1) := by decide +kernel
theorem dqM_natural_2 : decode cqM_natural 2 = .ok (.invokevirtual 106, 3) := by decide +kernel
theorem dqM_natural_5 : decode cqM_natural 5 = .ok (.ifCond .eq 11, 3) := by decide +kernel
theorem dqM_natural_8 : decode cqM_natural 8 = .ok (.aload_n 0, 1) := by decide +kernel
theorem dqM_natural_9 : decode cqM_natural 9 = .ok (.iload_n 2, 1) := by decide +kernel
theorem dqM_natural_10 : decode cqM_natural 10 = .ok (.invokevirtual 106, 3) := by decide +kernel
theorem dqM_natural_13 : decode cqM_natural 13 = .ok (.ifCond .ne 7, 3) := by decide +kernel
theorem dqM_natural_16 : decode cqM_natural 16 = .ok (.iconst (-1), 1) := by decide +kernel
theorem dqM_natural_17 : decode cqM_natural 17 = .ok (.goto 19, 3) := by decide +kernel
theorem dqM_natural_20 : decode cqM_natural 20 = .ok (.iload_n 1, 1) := by decide +kernel
theorem dqM_natural_21 : decode cqM_natural 21 = .ok (.iload_n 2, 1) := by decide +kernel
theorem dqM_natural_22 : decode cqM_natural 22 = .ok (.if_icmp .lt 8, 3) := by decide +kernel
theorem dqM_natural_25 : decode cqM_natural 25 = .ok (.bipush (-2), 2) := by decide +kernel
theorem dqM_natural_27 : decode cqM_natural 27 = .ok (.goto 9, 3) := by decide +kernel
theorem dqM_natural_30 : decode cqM_natural 30 = .ok (.aload_n 0, 1) := by decide +kernel
theorem dqM_natural_31 : decode cqM_natural 31 = .ok (.iload_n 1, 1) := by decide +kernel
theorem dqM_natural_32 : decode cqM_natural 32 = .ok (.iload_n 2, 1) := by decide +kernel
theorem dqM_natural_33 : decode cqM_natural 33 = .ok (.invokevirtual 170, 3) := by decide +kernel
theorem dqM_natural_36 : decode cqM_natural 36 = .ok (.ireturn, 1) := by decide +kernel
