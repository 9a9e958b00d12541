theorem dqM_init_0 : decode cqM_init 0 = .ok (.aload_n 0, 1) := by decide +kernel
theorem dqM_init_1 : decode cqM_init 1 = .ok (.invokespecial 1, 3) := by decide +kernel
theorem dqM_init_4 : decode cqM_init 4 = .ok (.aload_n 0, 1) := by decide +kernel
theorem dqM_init_5 : decode cqM_init 5 = .ok (.bipush 10, 2) := by decide +kernel
theorem dqM_init_7 : decode cqM_init 7 = .ok (.putfield 7, 3) := by decide +kernel
theorem dqM_init_10 : decode cqM_init 10 = .ok (.aload_n 0, 1) := by decide +kernel
theorem dqM_init_11 : decode cqM_init 11 = .ok (.bipush 6, 2) := by decide +kernel
theorem dqM_init_13 : decode cqM_init 13 = .ok (.putfield 13, 3) := by decide +kernel
theorem dqM_init_16 : decode cqM_init 16 = .ok (.aload_n 0, 1) := by decide +kernel
theorem dqM_init_17 : decode cqM_init 17 = .ok (.bipush 24, 2) := by decide +kernel
theorem dqM_init_19 : decode cqM_init 19 = .ok (.newarray .int, 2) := by decide +kernel
theorem dqM_init_21 : decode cqM_init 21 = .ok (.putfield 16, 3) := by decide +kernel
theorem dqM_init_24 : decode cqM_init 24 = .ok (.aload_n 0, 1) := by decide +kernel
theorem dqM_init_25 : decode cqM_init 25 = .ok (.bipush 24, 2) := by decide +kernel
theorem dqM_init_27 : decode cqM_init 27 = .ok (.newarray .int, 2) := by decide +kernel
theorem dqM_init_29 : decode cqM_init 29 = .ok (.putfield 20, 3) := by decide +kernel
theorem dqM_init_32 : decode cqM_init 32 = .ok (.aload_n 0, 1) := by decide +kernel
theorem dqM_init_33 : decode cqM_init 33 = .ok (.bipush 24, 2) := by decide +kernel
theorem dqM_init_35 : decode cqM_init 35 = .ok (.newarray .boolean, 2) := by decide +kernel
theorem dqM_init_37 : decode cqM_init 37 = .ok (.putfield 23, 3) := by decide +kernel
theorem dqM_init_40 : decode cqM_init 40 = .ok (.aload_n 0, 1) := by decide +kernel
theorem dqM_init_41 : decode cqM_init 41 = .ok (.bipush 96, 2) := by decide +kernel
theorem dqM_init_43 : decode cqM_init 43 = .ok (.newarray .boolean, 2) := by decide +kernel
theorem dqM_init_45 : decode cqM_init 45 = .ok (.putfield 27, 3) := by decide +kernel
theorem dqM_init_48 : decode cqM_init 48 = .ok (.aload_n 0, 1) := by decide +kernel
theorem dqM_init_49 : decode cqM_init 49 = .ok (.bipush 96, 2) := by decide +kernel
theorem dqM_init_51 : decode cqM_init 51 = .ok (.newarray .int, 2) := by decide +kernel
theorem dqM_init_53 : decode cqM_init 53 = .ok (.putfield 30, 3) := by decide +kernel
theorem dqM_init_56 : decode cqM_init 56 = .ok (.aload_n 0, 1) := by decide +kernel
theorem dqM_init_57 : decode cqM_init 57 = .ok (.bipush 96, 2) := by decide +kernel
theorem dqM_init_59 : decode cqM_init 59 = .ok (.newarray .int, 2) := by decide +kernel
theorem dqM_init_61 : decode cqM_init 61 = .ok (.putfield 33, 3) := by decide +kernel
theorem dqM_init_64 : decode cqM_init 64 = .ok (.aload_n 0, 1) := by decide +kernel
theorem dqM_init_65 : decode cqM_init 65 = .ok (.bipush 20, 2) := by decide +kernel
theorem dqM_init_67 : decode cqM_init 67 = .ok (.newarray .int, 2) := by decide +kernel
theorem dqM_init_69 : decode cqM_init 69 = .ok (.putfield 36, 3) := by decide +kernel
theorem dqM_init_72 : decode cqM_init 72 = .ok (.aload_n 0, 1) := by decide +kernel
theorem dqM_init_73 : decode cqM_init 73 = .ok (.bipush 20, 2) := by decide +kernel
theorem dqM_init_75 : decode cqM_init 75 = .ok (.newarray .int, 2) := by decide +kernel
theorem dqM_init_77 : decode cqM_init 77 = .ok (.putfield 39, 3) := by decide +kernel
theorem dqM_init_80 : decode cqM_init 80 = .ok (.aload_n 0, 1) := by decide +kernel
theorem dqM_init_81 : decode cqM_init 81 = .ok (.bipush 20, 2) := by decide +kernel
theorem dqM_init_83 : decode cqM_init 83 = .ok (.newarray .int, 2) := by decide +kernel
theorem dqM_init_85 : decode cqM_init 85 = .ok (.putfield 42, 3) := by decide +kernel
theorem dqM_init_88 : decode cqM_init 88 = .ok (.aload_n 0, 1) := by decide +kernel
theorem dqM_init_89 : decode cqM_init 89 = .ok (.bipush 20, 2) := by decide +kernel
theorem dqM_init_91 : decode cqM_init 91 = .ok (.newarray .boolean, 2) := by decide +kernel
theorem dqM_init_93 : decode cqM_init 93 = .ok (.putfield 45, 3) := by decide +kernel
theorem dqM_init_96 : decode cqM_init 96 = .ok (.aload_n 0, 1) := by decide +kernel
theorem dqM_init_97 : decode cqM_init 97 = .ok (.lconst 1, 1) := by decide +kernel
theorem dqM_init_98 : decode cqM_init 98 = .ok (.putfield 48, 3) := by decide +kernel
theorem dqM_init_101 : decode cqM_init 101 = .ok (.aload_n 0, 1) := by decide +kernel
theorem dqM_init_102 : decode cqM_init 102 = .ok (.bipush 24, 2) := by decide +kernel
theorem dqM_init_104 : decode cqM_init 104 = .ok (.newarray .int, 2) := by decide +kernel
theorem dqM_init_106 : decode cqM_init 106 = .ok (.putfield 52, 3) := by decide +kernel
theorem dqM_init_109 : decode cqM_init 109 = .ok (.aload_n 0, 1) := by decide +kernel
theorem dqM_init_110 : decode cqM_init 110 = .ok (.bipush 24, 2) := by decide +kernel
theorem dqM_init_112 : decode cqM_init 112 = .ok (.newarray .long, 2) := by decide +kernel
theorem dqM_init_114 : decode cqM_init 114 = .ok (.putfield 55, 3) := by decide +kernel
theorem dqM_init_117 : decode cqM_init 117 = .ok (.aload_n 0, 1) := by decide +kernel
theorem dqM_init_118 : decode cqM_init 118 = .ok (.bipush 25, 2) := by decide +kernel
theorem dqM_init_120 : decode cqM_init 120 = .ok (.newarray .int, 2) := by decide +kernel
theorem dqM_init_122 : decode cqM_init 122 = .ok (.putfield 59, 3) := by decide +kernel
theorem dqM_init_125 : decode cqM_init 125 = .ok (.aload_n 0, 1) := by decide +kernel
theorem dqM_init_126 : decode cqM_init 126 = .ok (.bipush 24, 2) := by decide +kernel
theorem dqM_init_128 : decode cqM_init 128 = .ok (.newarray .int, 2) := by decide +kernel
theorem dqM_init_130 : decode cqM_init 130 = .ok (.putfield 62, 3) := by decide +kernel
theorem dqM_init_133 : decode cqM_init 133 = .ok (.aload_n 0, 1) := by decide +kernel
theorem dqM_init_134 : decode cqM_init 134 = .ok (.bipush 24, 2) := by decide +kernel
theorem dqM_init_136 : decode cqM_init 136 = .ok (.newarray .boolean, 2) := by decide +kernel
theorem dqM_init_138 : decode cqM_init 138 = .ok (.putfield 65, 3) := by decide +kernel
theorem dqM_init_141 : decode cqM_init 141 = .ok (.aload_n 0, 1) := by decide +kernel
theorem dqM_init_142 : decode cqM_init 142 = .ok (.bipush 24, 2) := by decide +kernel
theorem dqM_init_144 : decode cqM_init 144 = .ok (.newarray .long, 2) := by decide +kernel
theorem dqM_init_146 : decode cqM_init 146 = .ok (.putfield 68, 3) := by decide +kernel
theorem dqM_init_149 : decode cqM_init 149 = .ok (.aload_n 0, 1) := by decide +kernel
theorem dqM_init_150 : decode cqM_init 150 = .ok (.bipush 24, 2) := by decide +kernel
theorem dqM_init_152 : decode cqM_init 152 = .ok (.newarray .int, 2) := by decide +kernel
theorem dqM_init_154 : decode cqM_init 154 = .ok (.putfield 71, 3) := by decide +kernel
theorem dqM_init_157 : decode cqM_init 157 = .ok (.aload_n 0, 1) := by decide +kernel
theorem dqM_init_158 : decode cqM_init 158 = .ok (.bipush 24, 2) := by decide +kernel
theorem dqM_init_160 : decode cqM_init 160 = .ok (.newarray .int, 2) := by decide +kernel
theorem dqM_init_162 : decode cqM_init 162 = .ok (.putfield 74, 3) := by decide +kernel
theorem dqM_init_165 : decode cqM_init 165 = .ok (.return_, 1) := by decide +kernel
theorem dqM_changed_0 : decode cqM_changed 0 = .ok (.aload_n 0, 1) := by decide +kernel
theorem dqM_changed_1 : decode cqM_changed 1 = .ok (.iconst 0, 1) := by decide +kernel
theorem dqM_changed_2 : decode cqM_changed 2 = .ok (.putfield 77, 3) := by decide +kernel
theorem dqM_changed_5 : decode cqM_changed 5 = .ok (.aload_n 0, 1) := by decide +kernel
theorem dqM_changed_6 : decode cqM_changed 6 = .ok (.iconst 0, 1) := by decide +kernel
theorem dqM_changed_7 : decode cqM_changed 7 = .ok (.putfield 81, 3) := by decide +kernel
theorem dqM_changed_10 : decode cqM_changed 10 = .ok (.return_, 1) := by decide +kernel
theorem dqM_table_0 : decode cqM_table 0 = .ok (.iload_n 1, 1) := by decide +kernel
theorem dqM_table_1 : decode cqM_table 1 = .ok (.ifCond .lt 19, 3) := by decide +kernel
theorem dqM_table_4 : decode cqM_table 4 = .ok (.iload_n 1, 1) := by decide +kernel
theorem dqM_table_5 : decode cqM_table 5 = .ok (.bipush 100, 2) := by decide +kernel
theorem dqM_table_7 : decode cqM_table 7 = .ok (.if_icmp .gt 13, 3) := by decide +kernel
theorem dqM_table_10 : decode cqM_table 10 = .ok (.iload_n 2, 1) := by decide +kernel
theorem dqM_table_11 : decode cqM_table 11 = .ok (.ifCond .lt 9, 3) := by decide +kernel
theorem dqM_table_14 : decode cqM_table 14 = .ok (.iload_n 2, 1) := by decide +kernel
theorem dqM_table_15 : decode cqM_table 15 = .ok (.bipush 100, 2) := by decide +kernel
theorem dqM_table_17 : decode cqM_table 17 = .ok (.if_icmp .le 6, 3) := by decide +kernel
theorem dqM_table_20 : decode cqM_table 20 = .ok (.bipush (-2), 2) := by decide +kernel
theorem dqM_table_22 : decode cqM_table 22 = .ok (.ireturn, 1) := by decide +kernel
theorem dqM_table_23 : decode cqM_table 23 = .ok (.aload_n 0, 1) := by decide +kernel
theorem dqM_table_24 : decode cqM_table 24 = .ok (.iload_n 1, 1) := by decide +kernel
theorem dqM_table_25 : decode cqM_table 25 = .ok (.putfield 7, 3) := by decide +kernel
theorem dqM_table_28 : decode cqM_table 28 = .ok (.aload_n 0, 1) := by decide +kernel
theorem dqM_table_29 : decode cqM_table 29 = .ok (.iload_n 2, 1) := by decide +kernel
theorem dqM_table_30 : decode cqM_table 30 = .ok (.putfield 13, 3) := by decide +kernel
theorem dqM_table_33 : decode cqM_table 33 = .ok (.aload_n 0, 1) := by decide +kernel
theorem dqM_table_34 : decode cqM_table 34 = .ok (.invokevirtual 84, 3) := by decide +kernel
theorem dqM_table_37 : decode cqM_table 37 = .ok (.iconst 1, 1) := by decide +kernel
theorem dqM_table_38 : decode cqM_table 38 = .ok (.ireturn, 1) := by decide +kernel
theorem dqM_column_0 : decode cqM_column 0 = .ok (.iload_n 1, 1) := by decide +kernel
theorem dqM_column_1 : decode cqM_column 1 = .ok (.ifCond .lt 9, 3) := by decide +kernel
theorem dqM_column_4 : decode cqM_column 4 = .ok (.iload_n 1, 1) := by decide +kernel
theorem dqM_column_5 : decode cqM_column 5 = .ok (.ldc 87, 2) := by decide +kernel
theorem dqM_column_7 : decode cqM_column 7 = .ok (.if_icmp .le 6, 3) := by decide +kernel
theorem dqM_column_10 : decode cqM_column 10 = .ok (.bipush (-2), 2) := by decide +kernel
theorem dqM_column_12 : decode cqM_column 12 = .ok (.ireturn, 1) := by decide +kernel
theorem dqM_column_13 : decode cqM_column 13 = .ok (.aload_n 0, 1) := by decide +kernel
theorem dqM_column_14 : decode cqM_column 14 = .ok (.getfield 88, 3) := by decide +kernel
theorem dqM_column_17 : decode cqM_column 17 = .ok (.ifCond .le 21, 3) := by decide +kernel
theorem dqM_column_20 : decode cqM_column 20 = .ok (.iload_n 1, 1) := by decide +kernel
theorem dqM_column_21 : decode cqM_column 21 = .ok (.aload_n 0, 1) := by decide +kernel
theorem dqM_column_22 : decode cqM_column 22 = .ok (.getfield 16, 3) := by decide +kernel
theorem dqM_column_25 : decode cqM_column 25 = .ok (.aload_n 0, 1) := by decide +kernel
theorem dqM_column_26 : decode cqM_column 26 = .ok (.getfield 88, 3) := by decide +kernel
theorem dqM_column_29 : decode cqM_column 29 = .ok (.iconst 1, 1) := by decide +kernel
theorem dqM_column_30 : decode cqM_column 30 = .ok (.isub, 1) := by decide +kernel
theorem dqM_column_31 : decode cqM_column 31 = .ok (.iaload, 1) := by decide +kernel
theorem dqM_column_32 : decode cqM_column 32 = .ok (.if_icmp .gt 6, 3) := by decide +kernel
theorem dqM_column_35 : decode cqM_column 35 = .ok (.bipush (-3), 2) := by decide +kernel
theorem dqM_column_37 : decode cqM_column 37 = .ok (.ireturn, 1) := by decide +kernel
theorem dqM_column_38 : decode cqM_column 38 = .ok (.aload_n 0, 1) := by decide +kernel
theorem dqM_column_39 : decode cqM_column 39 = .ok (.getfield 88, 3) := by decide +kernel
theorem dqM_column_42 : decode cqM_column 42 = .ok (.bipush 24, 2) := by decide +kernel
theorem dqM_column_44 : decode cqM_column 44 = .ok (.if_icmp .ne 6, 3) := by decide +kernel
theorem dqM_column_47 : decode cqM_column 47 = .ok (.bipush (-4), 2) := by decide +kernel
theorem dqM_column_49 : decode cqM_column 49 = .ok (.ireturn, 1) := by decide +kernel
theorem dqM_column_50 : decode cqM_column 50 = .ok (.aload_n 0, 1) := by decide +kernel
theorem dqM_column_51 : decode cqM_column 51 = .ok (.getfield 16, 3) := by decide +kernel
theorem dqM_column_54 : decode cqM_column 54 = .ok (.aload_n 0, 1) := by decide +kernel
theorem dqM_column_55 : decode cqM_column 55 = .ok (.getfield 88, 3) := by decide +kernel
theorem dqM_column_58 : decode cqM_column 58 = .ok (.iload_n 1, 1) := by decide +kernel
theorem dqM_column_59 : decode cqM_column 59 = .ok (.iastore, 1) := by decide +kernel
theorem dqM_column_60 : decode cqM_column 60 = .ok (.aload_n 0, 1) := by decide +kernel
theorem dqM_column_61 : decode cqM_column 61 = .ok (.getfield 20, 3) := by decide +kernel
theorem dqM_column_64 : decode cqM_column 64 = .ok (.aload_n 0, 1) := by decide +kernel
theorem dqM_column_65 : decode cqM_column 65 = .ok (.getfield 88, 3) := by decide +kernel
theorem dqM_column_68 : decode cqM_column 68 = .ok (.iconst 0, 1) := by decide +kernel
theorem dqM_column_69 : decode cqM_column 69 = .ok (.iastore, 1) := by decide +kernel
theorem dqM_column_70 : decode cqM_column 70 = .ok (.aload_n 0, 1) := by decide +kernel
theorem dqM_column_71 : decode cqM_column 71 = .ok (.getfield 23, 3) := by decide +kernel
theorem dqM_column_74 : decode cqM_column 74 = .ok (.aload_n 0, 1) := by decide +kernel
theorem dqM_column_75 : decode cqM_column 75 = .ok (.getfield 88, 3) := by decide +kernel
theorem dqM_column_78 : decode cqM_column 78 = .ok (.iconst 0, 1) := by decide +kernel
theorem dqM_column_79 : decode cqM_column 79 = .ok (.bastore, 1) := by decide +kernel
theorem dqM_column_80 : decode cqM_column 80 = .ok (.iconst 0, 1) := by decide +kernel
theorem dqM_column_81 : decode cqM_column 81 = .ok (.istore_n 2, 1) := by decide +kernel
theorem dqM_column_82 : decode cqM_column 82 = .ok (.iload_n 2, 1) := by decide +kernel
theorem dqM_column_83 : decode cqM_column 83 = .ok (.iconst 4, 1) := by decide +kernel
theorem dqM_column_84 : decode cqM_column 84 = .ok (.if_icmp .ge 24, 3) := by decide +kernel
theorem dqM_column_87 : decode cqM_column 87 = .ok (.aload_n 0, 1) := by decide +kernel
theorem dqM_column_88 : decode cqM_column 88 = .ok (.getfield 27, 3) := by decide +kernel
theorem dqM_column_91 : decode cqM_column 91 = .ok (.bipush 24, 2) := by decide +kernel
theorem dqM_column_93 : decode cqM_column 93 = .ok (.iload_n 2, 1) := by decide +kernel
theorem dqM_column_94 : decode cqM_column 94 = .ok (.imul, 1) := by decide +kernel
theorem dqM_column_95 : decode cqM_column 95 = .ok (.aload_n 0, 1) := by decide +kernel
theorem dqM_column_96 : decode cqM_column 96 = .ok (.getfield 88, 3) := by decide +kernel
theorem dqM_column_99 : decode cqM_column 99 = .ok (.iadd, 1) := by decide +kernel
theorem dqM_column_100 : decode cqM_column 100 = .ok (.iconst 0, 1) := by decide +kernel
theorem dqM_column_101 : decode cqM_column 101 = .ok (.bastore, 1) := by decide +kernel
theorem dqM_column_102 : decode cqM_column 102 = .ok (.iinc 2 1, 3) := by decide +kernel
theorem dqM_column_105 : decode cqM_column 105 = .ok (.goto (-23), 3) := by decide +kernel
theorem dqM_column_108 : decode cqM_column 108 = .ok (.aload_n 0, 1) := by decide +kernel
theorem dqM_column_109 : decode cqM_column 109 = .ok (.dup, 1) := by decide +kernel
theorem dqM_column_110 : decode cqM_column 110 = .ok (.getfield 88, 3) := by decide +kernel
theorem dqM_column_113 : decode cqM_column 113 = .ok (.iconst 1, 1) := by decide +kernel
theorem dqM_column_114 : decode cqM_column 114 = .ok (.iadd, 1) := by decide +kernel
theorem dqM_column_115 : decode cqM_column 115 = .ok (.putfield 88, 3) := by decide +kernel
theorem dqM_column_118 : decode cqM_column 118 = .ok (.aload_n 0, 1) := by decide +kernel
theorem dqM_column_119 : decode cqM_column 119 = .ok (.invokevirtual 84, 3) := by decide +kernel
theorem dqM_column_122 : decode cqM_column 122 = .ok (.aload_n 0, 1) := by decide +kernel
theorem dqM_column_123 : decode cqM_column 123 = .ok (.getfield 88, 3) := by decide +kernel
theorem dqM_column_126 : decode cqM_column 126 = .ok (.iconst 1, 1) := by decide +kernel
theorem dqM_column_127 : decode cqM_column 127 = .ok (.isub, 1) := by decide +kernel
theorem dqM_column_128 : decode cqM_column 128 = .ok (.ireturn, 1) := by decide +kernel
theorem dqM_clear_0 : decode cqM_clear 0 = .ok (.aload_n 0, 1) := by decide +kernel
theorem dqM_clear_1 : decode cqM_clear 1 = .ok (.getfield 88, 3) := by decide +kernel
theorem dqM_clear_4 : decode cqM_clear 4 = .ok (.istore_n 1, 1) := by decide +kernel
theorem dqM_clear_5 : decode cqM_clear 5 = .ok (.aload_n 0, 1) := by decide +kernel
theorem dqM_clear_6 : decode cqM_clear 6 = .ok (.iconst 0, 1) := by decide +kernel
theorem dqM_clear_7 : decode cqM_clear 7 = .ok (.putfield 88, 3) := by decide +kernel
theorem dqM_clear_10 : decode cqM_clear 10 = .ok (.aload_n 0, 1) := by decide +kernel
theorem dqM_clear_11 : decode cqM_clear 11 = .ok (.iconst 0, 1) := by decide +kernel
theorem dqM_clear_12 : decode cqM_clear 12 = .ok (.putfield 91, 3) := by decide +kernel
theorem dqM_clear_15 : decode cqM_clear 15 = .ok (.aload_n 0, 1) := by decide +kernel
theorem dqM_clear_16 : decode cqM_clear 16 = .ok (.iconst 0, 1) := by decide +kernel
theorem dqM_clear_17 : decode cqM_clear 17 = .ok (.putfield 94, 3) := by decide +kernel
theorem dqM_clear_20 : decode cqM_clear 20 = .ok (.aload_n 0, 1) := by decide +kernel
theorem dqM_clear_21 : decode cqM_clear 21 = .ok (.invokevirtual 84, 3) := by decide +kernel
theorem dqM_clear_24 : decode cqM_clear 24 = .ok (.iload_n 1, 1) := by decide +kernel
theorem dqM_clear_25 : decode cqM_clear 25 = .ok (.ireturn, 1) := by decide +kernel
theorem dqM_springOf_0 : decode cqM_springOf 0 = .ok (.iconst 0, 1) := by decide +kernel
theorem dqM_springOf_1 : decode cqM_springOf 1 = .ok (.istore_n 2, 1) := by decide +kernel
theorem dqM_springOf_2 : decode cqM_springOf 2 = .ok (.iload_n 1, 1) := by decide +kernel
theorem dqM_springOf_3 : decode cqM_springOf 3 = .ok (.iload_n 2, 1) := by decide +kernel
theorem dqM_springOf_4 : decode cqM_springOf 4 = .ok (.iconst 1, 1) := by decide +kernel
theorem dqM_springOf_5 : decode cqM_springOf 5 = .ok (.iadd, 1) := by decide +kernel
theorem dqM_springOf_6 : decode cqM_springOf 6 = .ok (.ishr, 1) := by decide +kernel
theorem dqM_springOf_7 : decode cqM_springOf 7 = .ok (.ifCond .le 9, 3) := by decide +kernel
theorem dqM_springOf_10 : decode cqM_springOf 10 = .ok (.iinc 2 1, 3) := by decide +kernel
theorem dqM_springOf_13 : decode cqM_springOf 13 = .ok (.goto (-11), 3) := by decide +kernel
theorem dqM_springOf_16 : decode cqM_springOf 16 = .ok (.ldc2_w 97, 3) := by decide +kernel
theorem dqM_springOf_19 : decode cqM_springOf 19 = .ok (.aload_n 0, 1) := by decide +kernel
theorem dqM_springOf_20 : decode cqM_springOf 20 = .ok (.getfield 7, 3) := by decide +kernel
theorem dqM_springOf_23 : decode cqM_springOf 23 = .ok (.aload_n 0, 1) := by decide +kernel
theorem dqM_springOf_24 : decode cqM_springOf 24 = .ok (.getfield 13, 3) := by decide +kernel
theorem dqM_springOf_27 : decode cqM_springOf 27 = .ok (.iload_n 2, 1) := by decide +kernel
theorem dqM_springOf_28 : decode cqM_springOf 28 = .ok (.imul, 1) := by decide +kernel
theorem dqM_springOf_29 : decode cqM_springOf 29 = .ok (.iadd, 1) := by decide +kernel
theorem dqM_springOf_30 : decode cqM_springOf 30 = .ok (.i2l, 1) := by decide +kernel
theorem dqM_springOf_31 : decode cqM_springOf 31 = .ok (.lmul, 1) := by decide +kernel
theorem dqM_springOf_32 : decode cqM_springOf 32 = .ok (.aload_n 0, 1) := by decide +kernel
theorem dqM_springOf_33 : decode cqM_springOf 33 = .ok (.getfield 13, 3) := by decide +kernel
theorem dqM_springOf_36 : decode cqM_springOf 36 = .ok (.i2l, 1) := by decide +kernel
theorem dqM_springOf_37 : decode cqM_springOf 37 = .ok (.iload_n 1, 1) := by decide +kernel
theorem dqM_springOf_38 : decode cqM_springOf 38 = .ok (.iconst 1, 1) := by decide +kernel
theorem dqM_springOf_39 : decode cqM_springOf 39 = .ok (.iload_n 2, 1) := by decide +kernel
theorem dqM_springOf_40 : decode cqM_springOf 40 = .ok (.ishl, 1) := by decide +kernel
theorem dqM_springOf_41 : decode cqM_springOf 41 = .ok (.isub, 1) := by decide +kernel
theorem dqM_springOf_42 : decode cqM_springOf 42 = .ok (.i2l, 1) := by decide +kernel
theorem dqM_springOf_43 : decode cqM_springOf 43 = .ok (.lmul, 1) := by decide +kernel
theorem dqM_springOf_44 : decode cqM_springOf 44 = .ok (.ldc 99, 2) := by decide +kernel
theorem dqM_springOf_46 : decode cqM_springOf 46 = .ok (.iload_n 2, 1) := by decide +kernel
theorem dqM_springOf_47 : decode cqM_springOf 47 = .ok (.ishr, 1) := by decide +kernel
theorem dqM_springOf_48 : decode cqM_springOf 48 = .ok (.i2l, 1) := by decide +kernel
theorem dqM_springOf_49 : decode cqM_springOf 49 = .ok (.lmul, 1) := by decide +kernel
theorem dqM_springOf_50 : decode cqM_springOf 50 = .ok (.ladd, 1) := by decide +kernel
theorem dqM_springOf_51 : decode cqM_springOf 51 = .ok (.lreturn, 1) := by decide +kernel
theorem dqM_spring_0 : decode cqM_spring 0 = .ok (.iload_n 1, 1) := by decide +kernel
theorem dqM_spring_1 : decode cqM_spring 1 = .ok (.iconst 1, 1) := by decide +kernel
theorem dqM_spring_2 : decode cqM_spring 2 = .ok (.if_icmp .lt 9, 3) := by decide +kernel
theorem dqM_spring_5 : decode cqM_spring 5 = .ok (.iload_n 1, 1) := by decide +kernel
theorem dqM_spring_6 : decode cqM_spring 6 = .ok (.ldc 87, 2) := by decide +kernel
theorem dqM_spring_8 : decode cqM_spring 8 = .ok (.if_icmp .le 9, 3) := by decide +kernel
theorem dqM_spring_11 : decode cqM_spring 11 = .ok (.ldc2_w 100, 3) := by decide +kernel
theorem dqM_spring_14 : decode cqM_spring 14 = .ok (.goto 8, 3) := by decide +kernel
theorem dqM_spring_17 : decode cqM_spring 17 = .ok (.aload_n 0, 1) := by decide +kernel
theorem dqM_spring_18 : decode cqM_spring 18 = .ok (.iload_n 1, 1) := by decide +kernel
theorem dqM_spring_19 : decode cqM_spring 19 = .ok (.invokevirtual 102, 3) := by decide +kernel
theorem dqM_spring_22 : decode cqM_spring 22 = .ok (.lreturn, 1) := by decide +kernel
theorem dqM_isColumn_0 : decode cqM_isColumn 0 = .ok (.iload_n 1, 1) := by decide +kernel
theorem dqM_isColumn_1 : decode cqM_isColumn 1 = .ok (.ifCond .lt 15, 3) := by decide +kernel
theorem dqM_isColumn_4 : decode cqM_isColumn 4 = .ok (.iload_n 1, 1) := by decide +kernel
theorem dqM_isColumn_5 : decode cqM_isColumn 5 = .ok (.aload_n 0, 1) := by decide +kernel
theorem dqM_isColumn_6 : decode cqM_isColumn 6 = .ok (.getfield 88, 3) := by decide +kernel
theorem dqM_isColumn_9 : decode cqM_isColumn 9 = .ok (.if_icmp .ge 7, 3) := by decide +kernel
theorem dqM_isColumn_12 : decode cqM_isColumn 12 = .ok (.iconst 1, 1) := by decide +kernel
theorem dqM_isColumn_13 : decode cqM_isColumn 13 = .ok (.goto 4, 3) := by decide +kernel
theorem dqM_isColumn_16 : decode cqM_isColumn 16 = .ok (.iconst 0, 1) := by decide +kernel
theorem dqM_isColumn_17 : decode cqM_isColumn 17 = .ok (.ireturn, 1) := by decide +kernel
theorem dqM_least_0 : decode cqM_least 0 = .ok (.iload_n 1, 1) := by decide +kernel
theorem dqM_least_1 : decode cqM_least 1 = .ok (.ifCond .lt 13, 3) := by decide +kernel
theorem dqM_least_4 : decode cqM_least 4 = .ok (.iload_n 1, 1) := by decide +kernel
theorem dqM_least_5 : decode cqM_least 5 = .ok (.aload_n 0, 1) := by decide +kernel
theorem dqM_least_6 : decode cqM_least 6 = .ok (.getfield 88, 3) := by decide +kernel
theorem dqM_least_9 : decode cqM_least 9 = .ok (.iconst 1, 1) := by decide +kernel
theorem dqM_least_10 : decode cqM_least 10 = .ok (.isub, 1) := by decide +kernel
theorem dqM_least_11 : decode cqM_least 11 = .ok (.if_icmp .lt 5, 3) := by decide +kernel
theorem dqM_least_14 : decode cqM_least 14 = .ok (.iconst (-1), 1) := by decide +kernel
theorem dqM_least_15 : decode cqM_least 15 = .ok (.ireturn, 1) := by decide +kernel
theorem dqM_least_16 : decode cqM_least 16 = .ok (.iload_n 2, 1) := by decide +kernel
theorem dqM_least_17 : decode cqM_least 17 = .ok (.ifCond .lt 10, 3) := by decide +kernel
theorem dqM_least_20 : decode cqM_least 20 = .ok (.iload_n 2, 1) := by decide +kernel
theorem dqM_least_21 : decode cqM_least 21 = .ok (.sipush 1000, 3) := by decide +kernel
theorem dqM_least_24 : decode cqM_least 24 = .ok (.if_icmp .le 6, 3) := by decide +kernel
theorem dqM_least_27 : decode cqM_least 27 = .ok (.bipush (-2), 2) := by decide +kernel
theorem dqM_least_29 : decode cqM_least 29 = .ok (.ireturn, 1) := by decide +kernel
theorem dqM_least_30 : decode cqM_least 30 = .ok (.aload_n 0, 1) := by decide +kernel
theorem dqM_least_31 : decode cqM_least 31 = .ok (.getfield 20, 3) := by decide +kernel
theorem dqM_least_34 : decode cqM_least 34 = .ok (.iload_n 1, 1) := by decide +kernel
theorem dqM_least_35 : decode cqM_least 35 = .ok (.iaload, 1) := by decide +kernel
theorem dqM_least_36 : decode cqM_least 36 = .ok (.istore_n 3, 1) := by decide +kernel
theorem dqM_least_37 : decode cqM_least 37 = .ok (.aload_n 0, 1) := by decide +kernel
theorem dqM_least_38 : decode cqM_least 38 = .ok (.getfield 20, 3) := by decide +kernel
theorem dqM_least_41 : decode cqM_least 41 = .ok (.iload_n 1, 1) := by decide +kernel
theorem dqM_least_42 : decode cqM_least 42 = .ok (.iload_n 2, 1) := by decide +kernel
theorem dqM_least_43 : decode cqM_least 43 = .ok (.iastore, 1) := by decide +kernel
theorem dqM_least_44 : decode cqM_least 44 = .ok (.aload_n 0, 1) := by decide +kernel
theorem dqM_least_45 : decode cqM_least 45 = .ok (.invokevirtual 84, 3) := by decide +kernel
theorem dqM_least_48 : decode cqM_least 48 = .ok (.iload_n 3, 1) := by decide +kernel
theorem dqM_least_49 : decode cqM_least 49 = .ok (.ireturn, 1) := by decide +kernel
theorem dqM_item_0 : decode cqM_item 0 = .ok (.iload_n 1, 1) := by decide +kernel
theorem dqM_item_1 : decode cqM_item 1 = .ok (.ifCond .lt 16, 3) := by decide +kernel
theorem dqM_item_4 : decode cqM_item 4 = .ok (.iload_n 1, 1) := by decide +kernel
theorem dqM_item_5 : decode cqM_item 5 = .ok (.iconst 3, 1) := by decide +kernel
theorem dqM_item_6 : decode cqM_item 6 = .ok (.if_icmp .gt 11, 3) := by decide +kernel
theorem dqM_item_9 : decode cqM_item 9 = .ok (.aload_n 0, 1) := by decide +kernel
theorem dqM_item_10 : decode cqM_item 10 = .ok (.iload_n 2, 1) := by decide +kernel
theorem dqM_item_11 : decode cqM_item 11 = .ok (.invokevirtual 106, 3) := by decide +kernel
theorem dqM_item_14 : decode cqM_item 14 = .ok (.ifCond .ne 5, 3) := by decide +kernel
theorem dqM_item_17 : decode cqM_item 17 = .ok (.iconst (-1), 1) := by decide +kernel
theorem dqM_item_18 : decode cqM_item 18 = .ok (.ireturn, 1) := by decide +kernel
theorem dqM_item_19 : decode cqM_item 19 = .ok (.iload_n 3, 1) := by decide +kernel
theorem dqM_item_20 : decode cqM_item 20 = .ok (.ifCond .lt 23, 3) := by decide +kernel
theorem dqM_item_23 : decode cqM_item 23 = .ok (.iload_n 3, 1) := by decide +kernel
theorem dqM_item_24 : decode cqM_item 24 = .ok (.sipush 500, 3) := by decide +kernel
theorem dqM_item_27 : decode cqM_item 27 = .ok (.if_icmp .gt 16, 3) := by decide +kernel
theorem dqM_item_30 : decode cqM_item 30 = .ok (.iload 4, 2) := by decide +kernel
theorem dqM_item_32 : decode cqM_item 32 = .ok (.ifCond .lt 11, 3) := by decide +kernel
theorem dqM_item_35 : decode cqM_item 35 = .ok (.iload 4, 2) := by decide +kernel
theorem dqM_item_37 : decode cqM_item 37 = .ok (.sipush 500, 3) := by decide +kernel
theorem dqM_item_40 : decode cqM_item 40 = .ok (.if_icmp .le 6, 3) := by decide +kernel
theorem dqM_item_43 : decode cqM_item 43 = .ok (.bipush (-2), 2) := by decide +kernel
theorem dqM_item_45 : decode cqM_item 45 = .ok (.ireturn, 1) := by decide +kernel
theorem dqM_item_46 : decode cqM_item 46 = .ok (.bipush 24, 2) := by decide +kernel
theorem dqM_item_48 : decode cqM_item 48 = .ok (.iload_n 1, 1) := by decide +kernel
theorem dqM_item_49 : decode cqM_item 49 = .ok (.imul, 1) := by decide +kernel
theorem dqM_item_50 : decode cqM_item 50 = .ok (.iload_n 2, 1) := by decide +kernel
theorem dqM_item_51 : decode cqM_item 51 = .ok (.iadd, 1) := by decide +kernel
theorem dqM_item_52 : decode cqM_item 52 = .ok (.istore 5, 2) := by decide +kernel
theorem dqM_item_54 : decode cqM_item 54 = .ok (.aload_n 0, 1) := by decide +kernel
theorem dqM_item_55 : decode cqM_item 55 = .ok (.getfield 27, 3) := by decide +kernel
theorem dqM_item_58 : decode cqM_item 58 = .ok (.iload 5, 2) := by decide +kernel
theorem dqM_item_60 : decode cqM_item 60 = .ok (.baload, 1) := by decide +kernel
theorem dqM_item_61 : decode cqM_item 61 = .ok (.ifCond .eq 7, 3) := by decide +kernel
theorem dqM_item_64 : decode cqM_item 64 = .ok (.iconst 0, 1) := by decide +kernel
theorem dqM_item_65 : decode cqM_item 65 = .ok (.goto 4, 3) := by decide +kernel
theorem dqM_item_68 : decode cqM_item 68 = .ok (.iconst 1, 1) := by decide +kernel
theorem dqM_item_69 : decode cqM_item 69 = .ok (.istore 6, 2) := by decide +kernel
theorem dqM_item_71 : decode cqM_item 71 = .ok (.aload_n 0, 1) := by decide +kernel
theorem dqM_item_72 : decode cqM_item 72 = .ok (.getfield 27, 3) := by decide +kernel
theorem dqM_item_75 : decode cqM_item 75 = .ok (.iload 5, 2) := by decide +kernel
theorem dqM_item_77 : decode cqM_item 77 = .ok (.iconst 1, 1) := by decide +kernel
theorem dqM_item_78 : decode cqM_item 78 = .ok (.bastore, 1) := by decide +kernel
theorem dqM_item_79 : decode cqM_item 79 = .ok (.aload_n 0, 1) := by decide +kernel
theorem dqM_item_80 : decode cqM_item 80 = .ok (.getfield 30, 3) := by decide +kernel
theorem dqM_item_83 : decode cqM_item 83 = .ok (.iload 5, 2) := by decide +kernel
theorem dqM_item_85 : decode cqM_item 85 = .ok (.iload_n 3, 1) := by decide +kernel
theorem dqM_item_86 : decode cqM_item 86 = .ok (.iastore, 1) := by decide +kernel
theorem dqM_item_87 : decode cqM_item 87 = .ok (.aload_n 0, 1) := by decide +kernel
theorem dqM_item_88 : decode cqM_item 88 = .ok (.getfield 33, 3) := by decide +kernel
theorem dqM_item_91 : decode cqM_item 91 = .ok (.iload 5, 2) := by decide +kernel
theorem dqM_item_93 : decode cqM_item 93 = .ok (.iload 4, 2) := by decide +kernel
theorem dqM_item_95 : decode cqM_item 95 = .ok (.iastore, 1) := by decide +kernel
theorem dqM_item_96 : decode cqM_item 96 = .ok (.aload_n 0, 1) := by decide +kernel
theorem dqM_item_97 : decode cqM_item 97 = .ok (.invokevirtual 84, 3) := by decide +kernel
theorem dqM_item_100 : decode cqM_item 100 = .ok (.iload 6, 2) := by decide +kernel
theorem dqM_item_102 : decode cqM_item 102 = .ok (.ireturn, 1) := by decide +kernel
theorem dqM_remove_0 : decode cqM_remove 0 = .ok (.iload_n 1, 1) := by decide +kernel
theorem dqM_remove_1 : decode cqM_remove 1 = .ok (.ifCond .lt 30, 3) := by decide +kernel
theorem dqM_remove_4 : decode cqM_remove 4 = .ok (.iload_n 1, 1) := by decide +kernel
theorem dqM_remove_5 : decode cqM_remove 5 = .ok (.iconst 3, 1) := by decide +kernel
theorem dqM_remove_6 : decode cqM_remove 6 = .ok (.if_icmp .gt 25, 3) := by decide +kernel
theorem dqM_remove_9 : decode cqM_remove 9 = .ok (.aload_n 0, 1) := by decide +kernel
theorem dqM_remove_10 : decode cqM_remove 10 = .ok (.iload_n 2, 1) := by decide +kernel
theorem dqM_remove_11 : decode cqM_remove 11 = .ok (.invokevirtual 106, 3) := by decide +kernel
theorem dqM_remove_14 : decode cqM_remove 14 = .ok (.ifCond .eq 17, 3) := by decide +kernel
theorem dqM_remove_17 : decode cqM_remove 17 = .ok (.aload_n 0, 1) := by decide +kernel
theorem dqM_remove_18 : decode cqM_remove 18 = .ok (.getfield 27, 3) := by decide +kernel
theorem dqM_remove_21 : decode cqM_remove 21 = .ok (.bipush 24, 2) := by decide +kernel
theorem dqM_remove_23 : decode cqM_remove 23 = .ok (.iload_n 1, 1) := by decide +kernel
theorem dqM_remove_24 : decode cqM_remove 24 = .ok (.imul, 1) := by decide +kernel
theorem dqM_remove_25 : decode cqM_remove 25 = .ok (.iload_n 2, 1) := by decide +kernel
theorem dqM_remove_26 : decode cqM_remove 26 = .ok (.iadd, 1) := by decide +kernel
theorem dqM_remove_27 : decode cqM_remove 27 = .ok (.baload, 1) := by decide +kernel
theorem dqM_remove_28 : decode cqM_remove 28 = .ok (.ifCond .ne 5, 3) := by decide +kernel
theorem dqM_remove_31 : decode cqM_remove 31 = .ok (.iconst (-1), 1) := by decide +kernel
theorem dqM_remove_32 : decode cqM_remove 32 = .ok (.ireturn, 1) := by decide +kernel
theorem dqM_remove_33 : decode cqM_remove 33 = .ok (.aload_n 0, 1) := by decide +kernel
theorem dqM_remove_34 : decode cqM_remove 34 = .ok (.getfield 27, 3) := by decide +kernel
theorem dqM_remove_37 : decode cqM_remove 37 = .ok (.bipush 24, 2) := by decide +kernel
theorem dqM_remove_39 : decode cqM_remove 39 = .ok (.iload_n 1, 1) := by decide +kernel
theorem dqM_remove_40 : decode cqM_remove 40 = .ok (.imul, 1) := by decide +kernel
theorem dqM_remove_41 : decode cqM_remove 41 = .ok (.iload_n 2, 1) := by decide +kernel
theorem dqM_remove_42 : decode cqM_remove 42 = .ok (.iadd, 1) := by decide +kernel
theorem dqM_remove_43 : decode cqM_remove 43 = .ok (.iconst 0, 1) := by decide +kernel
theorem dqM_remove_44 : decode cqM_remove 44 = .ok (.bastore, 1) := by decide +kernel
theorem dqM_remove_45 : decode cqM_remove 45 = .ok (.aload_n 0, 1) := by decide +kernel
theorem dqM_remove_46 : decode cqM_remove 46 = .ok (.invokevirtual 84, 3) := by decide +kernel
theorem dqM_remove_49 : decode cqM_remove 49 = .ok (.iconst 1, 1) := by decide +kernel
theorem dqM_remove_50 : decode cqM_remove 50 = .ok (.ireturn, 1) := by decide +kernel
theorem dqM_rod_0 : decode cqM_rod 0 = .ok (.aload_n 0, 1) := by decide +kernel
theorem dqM_rod_1 : decode cqM_rod 1 = .ok (.iload_n 1, 1) := by decide +kernel
theorem dqM_rod_2 : decode cqM_rod 2 = .ok (.invokevirtual 106, 3) := by decide +kernel
theorem dqM_rod_5 : decode cqM_rod 5 = .ok (.ifCond .eq 11, 3) := by decide +kernel
theorem dqM_rod_8 : decode cqM_rod 8 = .ok (.aload_n 0, 1) := by decide +kernel
theorem dqM_rod_9 : decode cqM_rod 9 = .ok (.iload_n 2, 1) := by decide +kernel
theorem dqM_rod_10 : decode cqM_rod 10 = .ok (.invokevirtual 106, 3) := by decide +kernel
theorem dqM_rod_13 : decode cqM_rod 13 = .ok (.ifCond .ne 5, 3) := by decide +kernel
theorem dqM_rod_16 : decode cqM_rod 16 = .ok (.iconst (-1), 1) := by decide +kernel
theorem dqM_rod_17 : decode cqM_rod 17 = .ok (.ireturn, 1) := by decide +kernel
theorem dqM_rod_18 : decode cqM_rod 18 = .ok (.iload_n 1, 1) := by decide +kernel
theorem dqM_rod_19 : decode cqM_rod 19 = .ok (.iload_n 2, 1) := by decide +kernel
theorem dqM_rod_20 : decode cqM_rod 20 = .ok (.if_icmp .ge 14, 3) := by decide +kernel
theorem dqM_rod_23 : decode cqM_rod 23 = .ok (.iload_n 3, 1) := by decide +kernel
theorem dqM_rod_24 : decode cqM_rod 24 = .ok (.ifCond .lt 10, 3) := by decide +kernel
theorem dqM_rod_27 : decode cqM_rod 27 = .ok (.iload_n 3, 1) := by decide +kernel
theorem dqM_rod_28 : decode cqM_rod 28 = .ok (.sipush 5000, 3) := by decide +kernel
theorem dqM_rod_31 : decode cqM_rod 31 = .ok (.if_icmp .le 6, 3) := by decide +kernel
theorem dqM_rod_34 : decode cqM_rod 34 = .ok (.bipush (-2), 2) := by decide +kernel
theorem dqM_rod_36 : decode cqM_rod 36 = .ok (.ireturn, 1) := by decide +kernel
theorem dqM_rod_37 : decode cqM_rod 37 = .ok (.aload_n 0, 1) := by decide +kernel
theorem dqM_rod_38 : decode cqM_rod 38 = .ok (.getfield 91, 3) := by decide +kernel
theorem dqM_rod_41 : decode cqM_rod 41 = .ok (.bipush 20, 2) := by decide +kernel
theorem dqM_rod_43 : decode cqM_rod 43 = .ok (.if_icmp .ne 6, 3) := by decide +kernel
theorem dqM_rod_46 : decode cqM_rod 46 = .ok (.bipush (-4), 2) := by decide +kernel
theorem dqM_rod_48 : decode cqM_rod 48 = .ok (.ireturn, 1) := by decide +kernel
theorem dqM_rod_49 : decode cqM_rod 49 = .ok (.aload_n 0, 1) := by decide +kernel
theorem dqM_rod_50 : decode cqM_rod 50 = .ok (.getfield 36, 3) := by decide +kernel
theorem dqM_rod_53 : decode cqM_rod 53 = .ok (.aload_n 0, 1) := by decide +kernel
theorem dqM_rod_54 : decode cqM_rod 54 = .ok (.getfield 91, 3) := by decide +kernel
theorem dqM_rod_57 : decode cqM_rod 57 = .ok (.iload_n 1, 1) := by decide +kernel
theorem dqM_rod_58 : decode cqM_rod 58 = .ok (.iastore, 1) := by decide +kernel
theorem dqM_rod_59 : decode cqM_rod 59 = .ok (.aload_n 0, 1) := by decide +kernel
theorem dqM_rod_60 : decode cqM_rod 60 = .ok (.getfield 39, 3) := by decide +kernel
theorem dqM_rod_63 : decode cqM_rod 63 = .ok (.aload_n 0, 1) := by decide +kernel
theorem dqM_rod_64 : decode cqM_rod 64 = .ok (.getfield 91, 3) := by decide +kernel
theorem dqM_rod_67 : decode cqM_rod 67 = .ok (.iload_n 2, 1) := by decide +kernel
theorem dqM_rod_68 : decode cqM_rod 68 = .ok (.iastore, 1) := by decide +kernel
theorem dqM_rod_69 : decode cqM_rod 69 = .ok (.aload_n 0, 1) := by decide +kernel
theorem dqM_rod_70 : decode cqM_rod 70 = .ok (.getfield 42, 3) := by decide +kernel
theorem dqM_rod_73 : decode cqM_rod 73 = .ok (.aload_n 0, 1) := by decide +kernel
theorem dqM_rod_74 : decode cqM_rod 74 = .ok (.getfield 91, 3) := by decide +kernel
theorem dqM_rod_77 : decode cqM_rod 77 = .ok (.iload_n 3, 1) := by decide +kernel
theorem dqM_rod_78 : decode cqM_rod 78 = .ok (.iastore, 1) := by decide +kernel
theorem dqM_rod_79 : decode cqM_rod 79 = .ok (.aload_n 0, 1) := by decide +kernel
theorem dqM_rod_80 : decode cqM_rod 80 = .ok (.getfield 45, 3) := by decide +kernel
theorem dqM_rod_83 : decode cqM_rod 83 = .ok (.aload_n 0, 1) := by decide +kernel
theorem dqM_rod_84 : decode cqM_rod 84 = .ok (.getfield 91, 3) := by decide +kernel
theorem dqM_rod_87 : decode cqM_rod 87 = .ok (.iconst 1, 1) := by decide +kernel
theorem dqM_rod_88 : decode cqM_rod 88 = .ok (.bastore, 1) := by decide +kernel
theorem dqM_rod_89 : decode cqM_rod 89 = .ok (.aload_n 0, 1) := by decide +kernel
theorem dqM_rod_90 : decode cqM_rod 90 = .ok (.dup, 1) := by decide +kernel
theorem dqM_rod_91 : decode cqM_rod 91 = .ok (.getfield 91, 3) := by decide +kernel
theorem dqM_rod_94 : decode cqM_rod 94 = .ok (.iconst 1, 1) := by decide +kernel
theorem dqM_rod_95 : decode cqM_rod 95 = .ok (.iadd, 1) := by decide +kernel
theorem dqM_rod_96 : decode cqM_rod 96 = .ok (.putfield 91, 3) := by decide +kernel
theorem dqM_rod_99 : decode cqM_rod 99 = .ok (.aload_n 0, 1) := by decide +kernel
theorem dqM_rod_100 : decode cqM_rod 100 = .ok (.dup, 1) := by decide +kernel
theorem dqM_rod_101 : decode cqM_rod 101 = .ok (.getfield 94, 3) := by decide +kernel
theorem dqM_rod_104 : decode cqM_rod 104 = .ok (.iconst 1, 1) := by decide +kernel
theorem dqM_rod_105 : decode cqM_rod 105 = .ok (.iadd, 1) := by decide +kernel
theorem dqM_rod_106 : decode cqM_rod 106 = .ok (.putfield 94, 3) := by decide +kernel
theorem dqM_rod_109 : decode cqM_rod 109 = .ok (.aload_n 0, 1) := by decide +kernel
theorem dqM_rod_110 : decode cqM_rod 110 = .ok (.invokevirtual 84, 3) := by decide +kernel
theorem dqM_rod_113 : decode cqM_rod 113 = .ok (.aload_n 0, 1) := by decide +kernel
theorem dqM_rod_114 : decode cqM_rod 114 = .ok (.getfield 91, 3) := by decide +kernel
theorem dqM_rod_117 : decode cqM_rod 117 = .ok (.iconst 1, 1) := by decide +kernel
theorem dqM_rod_118 : decode cqM_rod 118 = .ok (.isub, 1) := by decide +kernel
theorem dqM_rod_119 : decode cqM_rod 119 = .ok (.ireturn, 1) := by decide +kernel
theorem dqM_drop_0 : decode cqM_drop 0 = .ok (.iload_n 1, 1) := by decide +kernel
theorem dqM_drop_1 : decode cqM_drop 1 = .ok (.ifCond .lt 20, 3) := by decide +kernel
theorem dqM_drop_4 : decode cqM_drop 4 = .ok (.iload_n 1, 1) := by decide +kernel
theorem dqM_drop_5 : decode cqM_drop 5 = .ok (.aload_n 0, 1) := by decide +kernel
theorem dqM_drop_6 : decode cqM_drop 6 = .ok (.getfield 91, 3) := by decide +kernel
theorem dqM_drop_9 : decode cqM_drop 9 = .ok (.if_icmp .ge 12, 3) := by decide +kernel
theorem dqM_drop_12 : decode cqM_drop 12 = .ok (.aload_n 0, 1) := by decide +kernel
theorem dqM_drop_13 : decode cqM_drop 13 = .ok (.getfield 45, 3) := by decide +kernel
theorem dqM_drop_16 : decode cqM_drop 16 = .ok (.iload_n 1, 1) := by decide +kernel
theorem dqM_drop_17 : decode cqM_drop 17 = .ok (.baload, 1) := by decide +kernel
theorem dqM_drop_18 : decode cqM_drop 18 = .ok (.ifCond .ne 5, 3) := by decide +kernel
theorem dqM_drop_21 : decode cqM_drop 21 = .ok (.iconst (-1), 1) := by decide +kernel
theorem dqM_drop_22 : decode cqM_drop 22 = .ok (.ireturn, 1) := by decide +kernel
theorem dqM_drop_23 : decode cqM_drop 23 = .ok (.aload_n 0, 1) := by decide +kernel
theorem dqM_drop_24 : decode cqM_drop 24 = .ok (.getfield 45, 3) := by decide +kernel
theorem dqM_drop_27 : decode cqM_drop 27 = .ok (.iload_n 1, 1) := by decide +kernel
theorem dqM_drop_28 : decode cqM_drop 28 = .ok (.iconst 0, 1) := by decide +kernel
theorem dqM_drop_29 : decode cqM_drop 29 = .ok (.bastore, 1) := by decide +kernel
theorem dqM_drop_30 : decode cqM_drop 30 = .ok (.aload_n 0, 1) := by decide +kernel
theorem dqM_drop_31 : decode cqM_drop 31 = .ok (.dup, 1) := by decide +kernel
theorem dqM_drop_32 : decode cqM_drop 32 = .ok (.getfield 94, 3) := by decide +kernel
theorem dqM_drop_35 : decode cqM_drop 35 = .ok (.iconst 1, 1) := by decide +kernel
theorem dqM_drop_36 : decode cqM_drop 36 = .ok (.isub, 1) := by decide +kernel
theorem dqM_drop_37 : decode cqM_drop 37 = .ok (.putfield 94, 3) := by decide +kernel
theorem dqM_drop_40 : decode cqM_drop 40 = .ok (.aload_n 0, 1) := by decide +kernel
theorem dqM_drop_41 : decode cqM_drop 41 = .ok (.invokevirtual 84, 3) := by decide +kernel
theorem dqM_drop_44 : decode cqM_drop 44 = .ok (.aload_n 0, 1) := by decide +kernel
theorem dqM_drop_45 : decode cqM_drop 45 = .ok (.getfield 94, 3) := by decide +kernel
theorem dqM_drop_48 : decode cqM_drop 48 = .ok (.ireturn, 1) := by decide +kernel
theorem dqM_bar_0 : decode cqM_bar 0 = .ok (.aload_n 0, 1) := by decide +kernel
theorem dqM_bar_1 : decode cqM_bar 1 = .ok (.iload_n 1, 1) := by decide +kernel
theorem dqM_bar_2 : decode cqM_bar 2 = .ok (.invokevirtual 106, 3) := by decide +kernel
theorem dqM_bar_5 : decode cqM_bar 5 = .ok (.ifCond .ne 5, 3) := by decide +kernel
theorem dqM_bar_8 : decode cqM_bar 8 = .ok (.iconst (-1), 1) := by decide +kernel
theorem dqM_bar_9 : decode cqM_bar 9 = .ok (.ireturn, 1) := by decide +kernel
theorem dqM_bar_10 : decode cqM_bar 10 = .ok (.aload_n 0, 1) := by decide +kernel
theorem dqM_bar_11 : decode cqM_bar 11 = .ok (.getfield 23, 3) := by decide +kernel
theorem dqM_bar_14 : decode cqM_bar 14 = .ok (.iload_n 1, 1) := by decide +kernel
theorem dqM_bar_15 : decode cqM_bar 15 = .ok (.baload, 1) := by decide +kernel
theorem dqM_bar_16 : decode cqM_bar 16 = .ok (.ifCond .eq 7, 3) := by decide +kernel
theorem dqM_bar_19 : decode cqM_bar 19 = .ok (.iconst 1, 1) := by decide +kernel
theorem dqM_bar_20 : decode cqM_bar 20 = .ok (.goto 4, 3) := by decide +kernel
theorem dqM_bar_23 : decode cqM_bar 23 = .ok (.iconst 0, 1) := by decide +kernel
theorem dqM_bar_24 : decode cqM_bar 24 = .ok (.istore_n 3, 1) := by decide +kernel
theorem dqM_bar_25 : decode cqM_bar 25 = .ok (.aload_n 0, 1) := by decide +kernel
theorem dqM_bar_26 : decode cqM_bar 26 = .ok (.getfield 23, 3) := by decide +kernel
theorem dqM_bar_29 : decode cqM_bar 29 = .ok (.iload_n 1, 1) := by decide +kernel
theorem dqM_bar_30 : decode cqM_bar 30 = .ok (.iload_n 2, 1) := by decide +kernel
theorem dqM_bar_31 : decode cqM_bar 31 = .ok (.bastore, 1) := by decide +kernel
theorem dqM_bar_32 : decode cqM_bar 32 = .ok (.aload_n 0, 1) := by decide +kernel
theorem dqM_bar_33 : decode cqM_bar 33 = .ok (.invokevirtual 84, 3) := by decide +kernel
theorem dqM_bar_36 : decode cqM_bar 36 = .ok (.iload_n 3, 1) := by decide +kernel
theorem dqM_bar_37 : decode cqM_bar 37 = .ok (.ireturn, 1) := by decide +kernel
theorem dqM_sum_0 : decode cqM_sum 0 = .ok (.iconst 0, 1) := by decide +kernel
theorem dqM_sum_1 : decode cqM_sum 1 = .ok (.istore_n 3, 1) := by decide +kernel
theorem dqM_sum_2 : decode cqM_sum 2 = .ok (.iload_n 1, 1) := by decide +kernel
theorem dqM_sum_3 : decode cqM_sum 3 = .ok (.istore 4, 2) := by decide +kernel
theorem dqM_sum_5 : decode cqM_sum 5 = .ok (.iload 4, 2) := by decide +kernel
theorem dqM_sum_7 : decode cqM_sum 7 = .ok (.iload_n 2, 1) := by decide +kernel
theorem dqM_sum_8 : decode cqM_sum 8 = .ok (.if_icmp .ge 19, 3) := by decide +kernel
theorem dqM_sum_11 : decode cqM_sum 11 = .ok (.iload_n 3, 1) := by decide +kernel
theorem dqM_sum_12 : decode cqM_sum 12 = .ok (.aload_n 0, 1) := by decide +kernel
theorem dqM_sum_13 : decode cqM_sum 13 = .ok (.getfield 62, 3) := by decide +kernel
theorem dqM_sum_16 : decode cqM_sum 16 = .ok (.iload 4, 2) := by decide +kernel
theorem dqM_sum_18 : decode cqM_sum 18 = .ok (.iaload, 1) := by decide +kernel
theorem dqM_sum_19 : decode cqM_sum 19 = .ok (.iadd, 1) := by decide +kernel
theorem dqM_sum_20 : decode cqM_sum 20 = .ok (.istore_n 3, 1) := by decide +kernel
theorem dqM_sum_21 : decode cqM_sum 21 = .ok (.iinc 4 1, 3) := by decide +kernel
theorem dqM_sum_24 : decode cqM_sum 24 = .ok (.goto (-19), 3) := by decide +kernel
theorem dqM_sum_27 : decode cqM_sum 27 = .ok (.iload_n 3, 1) := by decide +kernel
theorem dqM_sum_28 : decode cqM_sum 28 = .ok (.ireturn, 1) := by decide +kernel
theorem dqM_hasSpring_0 : decode cqM_hasSpring 0 = .ok (.iload_n 1, 1) := by decide +kernel
theorem dqM_hasSpring_1 : decode cqM_hasSpring 1 = .ok (.istore_n 3, 1) := by decide +kernel
theorem dqM_hasSpring_2 : decode cqM_hasSpring 2 = .ok (.iload_n 3, 1) := by decide +kernel
theorem dqM_hasSpring_3 : decode cqM_hasSpring 3 = .ok (.iload_n 2, 1) := by decide +kernel
theorem dqM_hasSpring_4 : decode cqM_hasSpring 4 = .ok (.if_icmp .ge 22, 3) := by decide +kernel
theorem dqM_hasSpring_7 : decode cqM_hasSpring 7 = .ok (.aload_n 0, 1) := by decide +kernel
theorem dqM_hasSpring_8 : decode cqM_hasSpring 8 = .ok (.getfield 55, 3) := by decide +kernel
theorem dqM_hasSpring_11 : decode cqM_hasSpring 11 = .ok (.iload_n 3, 1) := by decide +kernel
theorem dqM_hasSpring_12 : decode cqM_hasSpring 12 = .ok (.laload, 1) := by decide +kernel
theorem dqM_hasSpring_13 : decode cqM_hasSpring 13 = .ok (.lconst 0, 1) := by decide +kernel
theorem dqM_hasSpring_14 : decode cqM_hasSpring 14 = .ok (.lcmp, 1) := by decide +kernel
theorem dqM_hasSpring_15 : decode cqM_hasSpring 15 = .ok (.ifCond .le 5, 3) := by decide +kernel
theorem dqM_hasSpring_18 : decode cqM_hasSpring 18 = .ok (.iconst 1, 1) := by decide +kernel
theorem dqM_hasSpring_19 : decode cqM_hasSpring 19 = .ok (.ireturn, 1) := by decide +kernel
theorem dqM_hasSpring_20 : decode cqM_hasSpring 20 = .ok (.iinc 3 1, 3) := by decide +kernel
theorem dqM_hasSpring_23 : decode cqM_hasSpring 23 = .ok (.goto (-21), 3) := by decide +kernel
theorem dqM_hasSpring_26 : decode cqM_hasSpring 26 = .ok (.iconst 0, 1) := by decide +kernel
theorem dqM_hasSpring_27 : decode cqM_hasSpring 27 = .ok (.ireturn, 1) := by decide +kernel
theorem dqM_findForce_0 : decode cqM_findForce 0 = .ok (.aload_n 0, 1) := by decide +kernel
theorem dqM_findForce_1 : decode cqM_findForce 1 = .ok (.lconst 0, 1) := by decide +kernel
theorem dqM_findForce_2 : decode cqM_findForce 2 = .ok (.putfield 110, 3) := by decide +kernel
theorem dqM_findForce_5 : decode cqM_findForce 5 = .ok (.aload_n 0, 1) := by decide +kernel
theorem dqM_findForce_6 : decode cqM_findForce 6 = .ok (.lconst 1, 1) := by decide +kernel
theorem dqM_findForce_7 : decode cqM_findForce 7 = .ok (.putfield 113, 3) := by decide +kernel
theorem dqM_findForce_10 : decode cqM_findForce 10 = .ok (.aload_n 0, 1) := by decide +kernel
theorem dqM_findForce_11 : decode cqM_findForce 11 = .ok (.iload_n 1, 1) := by decide +kernel
theorem dqM_findForce_12 : decode cqM_findForce 12 = .ok (.iload_n 2, 1) := by decide +kernel
theorem dqM_findForce_13 : decode cqM_findForce 13 = .ok (.invokevirtual 116, 3) := by decide +kernel
theorem dqM_findForce_16 : decode cqM_findForce 16 = .ok (.i2l, 1) := by decide +kernel
theorem dqM_findForce_17 : decode cqM_findForce 17 = .ok (.lstore 4, 2) := by decide +kernel
theorem dqM_findForce_19 : decode cqM_findForce 19 = .ok (.lload 4, 2) := by decide +kernel
theorem dqM_findForce_21 : decode cqM_findForce 21 = .ok (.iload_n 3, 1) := by decide +kernel
theorem dqM_findForce_22 : decode cqM_findForce 22 = .ok (.i2l, 1) := by decide +kernel
theorem dqM_findForce_23 : decode cqM_findForce 23 = .ok (.lcmp, 1) := by decide +kernel
theorem dqM_findForce_24 : decode cqM_findForce 24 = .ok (.ifCond .ge 12, 3) := by decide +kernel
theorem dqM_findForce_27 : decode cqM_findForce 27 = .ok (.aload_n 0, 1) := by decide +kernel
theorem dqM_findForce_28 : decode cqM_findForce 28 = .ok (.iload_n 1, 1) := by decide +kernel
theorem dqM_findForce_29 : decode cqM_findForce 29 = .ok (.iload_n 2, 1) := by decide +kernel
theorem dqM_findForce_30 : decode cqM_findForce 30 = .ok (.invokevirtual 120, 3) := by decide +kernel
theorem dqM_findForce_33 : decode cqM_findForce 33 = .ok (.ifCond .ne 4, 3) := by decide +kernel
theorem dqM_findForce_36 : decode cqM_findForce 36 = .ok (.return_, 1) := by decide +kernel
theorem dqM_findForce_37 : decode cqM_findForce 37 = .ok (.iload_n 1, 1) := by decide +kernel
theorem dqM_findForce_38 : decode cqM_findForce 38 = .ok (.istore 6, 2) := by decide +kernel
theorem dqM_findForce_40 : decode cqM_findForce 40 = .ok (.iload 6, 2) := by decide +kernel
theorem dqM_findForce_42 : decode cqM_findForce 42 = .ok (.iload_n 2, 1) := by decide +kernel
theorem dqM_findForce_43 : decode cqM_findForce 43 = .ok (.if_icmp .ge 17, 3) := by decide +kernel
theorem dqM_findForce_46 : decode cqM_findForce 46 = .ok (.aload_n 0, 1) := by decide +kernel
theorem dqM_findForce_47 : decode cqM_findForce 47 = .ok (.getfield 65, 3) := by decide +kernel
theorem dqM_findForce_50 : decode cqM_findForce 50 = .ok (.iload 6, 2) := by decide +kernel
theorem dqM_findForce_52 : decode cqM_findForce 52 = .ok (.iconst 0, 1) := by decide +kernel
theorem dqM_findForce_53 : decode cqM_findForce 53 = .ok (.bastore, 1) := by decide +kernel
theorem dqM_findForce_54 : decode cqM_findForce 54 = .ok (.iinc 6 1, 3) := by decide +kernel
theorem dqM_findForce_57 : decode cqM_findForce 57 = .ok (.goto (-17), 3) := by decide +kernel
theorem dqM_findForce_60 : decode cqM_findForce 60 = .ok (.lconst 0, 1) := by decide +kernel
theorem dqM_findForce_61 : decode cqM_findForce 61 = .ok (.lstore 6, 2) := by decide +kernel
theorem dqM_findForce_63 : decode cqM_findForce 63 = .ok (.iconst 0, 1) := by decide +kernel
theorem dqM_findForce_64 : decode cqM_findForce 64 = .ok (.istore 8, 2) := by decide +kernel
theorem dqM_findForce_66 : decode cqM_findForce 66 = .ok (.iload 8, 2) := by decide +kernel
theorem dqM_findForce_68 : decode cqM_findForce 68 = .ok (.ifCond .ne 176, 3) := by decide +kernel
theorem dqM_findForce_71 : decode cqM_findForce 71 = .ok (.iconst (-1), 1) := by decide +kernel
theorem dqM_findForce_72 : decode cqM_findForce 72 = .ok (.istore 9, 2) := by decide +kernel
theorem dqM_findForce_74 : decode cqM_findForce 74 = .ok (.iload_n 1, 1) := by decide +kernel
theorem dqM_findForce_75 : decode cqM_findForce 75 = .ok (.istore 10, 2) := by decide +kernel
theorem dqM_findForce_77 : decode cqM_findForce 77 = .ok (.iload 10, 2) := by decide +kernel
theorem dqM_findForce_79 : decode cqM_findForce 79 = .ok (.iload_n 2, 1) := by decide +kernel
theorem dqM_findForce_80 : decode cqM_findForce 80 = .ok (.if_icmp .ge 76, 3) := by decide +kernel
theorem dqM_findForce_83 : decode cqM_findForce 83 = .ok (.aload_n 0, 1) := by decide +kernel
theorem dqM_findForce_84 : decode cqM_findForce 84 = .ok (.getfield 65, 3) := by decide +kernel
theorem dqM_findForce_87 : decode cqM_findForce 87 = .ok (.iload 10, 2) := by decide +kernel
theorem dqM_findForce_89 : decode cqM_findForce 89 = .ok (.baload, 1) := by decide +kernel
theorem dqM_findForce_90 : decode cqM_findForce 90 = .ok (.ifCond .ne 60, 3) := by decide +kernel
theorem dqM_findForce_93 : decode cqM_findForce 93 = .ok (.aload_n 0, 1) := by decide +kernel
theorem dqM_findForce_94 : decode cqM_findForce 94 = .ok (.getfield 55, 3) := by decide +kernel
theorem dqM_findForce_97 : decode cqM_findForce 97 = .ok (.iload 10, 2) := by decide +kernel
theorem dqM_findForce_99 : decode cqM_findForce 99 = .ok (.laload, 1) := by decide +kernel
theorem dqM_findForce_100 : decode cqM_findForce 100 = .ok (.lconst 0, 1) := by decide +kernel
theorem dqM_findForce_101 : decode cqM_findForce 101 = .ok (.lcmp, 1) := by decide +kernel
theorem dqM_findForce_102 : decode cqM_findForce 102 = .ok (.ifCond .le 48, 3) := by decide +kernel
theorem dqM_findForce_105 : decode cqM_findForce 105 = .ok (.iload 9, 2) := by decide +kernel
theorem dqM_findForce_107 : decode cqM_findForce 107 = .ok (.ifCond .lt 39, 3) := by decide +kernel
theorem dqM_findForce_110 : decode cqM_findForce 110 = .ok (.aload_n 0, 1) := by decide +kernel
theorem dqM_findForce_111 : decode cqM_findForce 111 = .ok (.getfield 62, 3) := by decide +kernel
theorem dqM_findForce_114 : decode cqM_findForce 114 = .ok (.iload 10, 2) := by decide +kernel
theorem dqM_findForce_116 : decode cqM_findForce 116 = .ok (.iaload, 1) := by decide +kernel
theorem dqM_findForce_117 : decode cqM_findForce 117 = .ok (.i2l, 1) := by decide +kernel
theorem dqM_findForce_118 : decode cqM_findForce 118 = .ok (.aload_n 0, 1) := by decide +kernel
theorem dqM_findForce_119 : decode cqM_findForce 119 = .ok (.getfield 55, 3) := by decide +kernel
theorem dqM_findForce_122 : decode cqM_findForce 122 = .ok (.iload 9, 2) := by decide +kernel
theorem dqM_findForce_124 : decode cqM_findForce 124 = .ok (.laload, 1) := by decide +kernel
theorem dqM_findForce_125 : decode cqM_findForce 125 = .ok (.lmul, 1) := by decide +kernel
theorem dqM_findForce_126 : decode cqM_findForce 126 = .ok (.aload_n 0, 1) := by decide +kernel
theorem dqM_findForce_127 : decode cqM_findForce 127 = .ok (.getfield 62, 3) := by decide +kernel
theorem dqM_findForce_130 : decode cqM_findForce 130 = .ok (.iload 9, 2) := by decide +kernel
theorem dqM_findForce_132 : decode cqM_findForce 132 = .ok (.iaload, 1) := by decide +kernel
theorem dqM_findForce_133 : decode cqM_findForce 133 = .ok (.i2l, 1) := by decide +kernel
theorem dqM_findForce_134 : decode cqM_findForce 134 = .ok (.aload_n 0, 1) := by decide +kernel
theorem dqM_findForce_135 : decode cqM_findForce 135 = .ok (.getfield 55, 3) := by decide +kernel
theorem dqM_findForce_138 : decode cqM_findForce 138 = .ok (.iload 10, 2) := by decide +kernel
theorem dqM_findForce_140 : decode cqM_findForce 140 = .ok (.laload, 1) := by decide +kernel
theorem dqM_findForce_141 : decode cqM_findForce 141 = .ok (.lmul, 1) := by decide +kernel
theorem dqM_findForce_142 : decode cqM_findForce 142 = .ok (.lcmp, 1) := by decide +kernel
theorem dqM_findForce_143 : decode cqM_findForce 143 = .ok (.ifCond .ge 7, 3) := by decide +kernel
theorem dqM_findForce_146 : decode cqM_findForce 146 = .ok (.iload 10, 2) := by decide +kernel
theorem dqM_findForce_148 : decode cqM_findForce 148 = .ok (.istore 9, 2) := by decide +kernel
theorem dqM_findForce_150 : decode cqM_findForce 150 = .ok (.iinc 10 1, 3) := by decide +kernel
theorem dqM_findForce_153 : decode cqM_findForce 153 = .ok (.goto (-76), 3) := by decide +kernel
theorem dqM_findForce_156 : decode cqM_findForce 156 = .ok (.iload 9, 2) := by decide +kernel
theorem dqM_findForce_158 : decode cqM_findForce 158 = .ok (.ifCond .lt 38, 3) := by decide +kernel
theorem dqM_findForce_161 : decode cqM_findForce 161 = .ok (.lload 6, 2) := by decide +kernel
theorem dqM_findForce_163 : decode cqM_findForce 163 = .ok (.lconst 0, 1) := by decide +kernel
theorem dqM_findForce_164 : decode cqM_findForce 164 = .ok (.lcmp, 1) := by decide +kernel
theorem dqM_findForce_165 : decode cqM_findForce 165 = .ok (.ifCond .le 35, 3) := by decide +kernel
theorem dqM_findForce_168 : decode cqM_findForce 168 = .ok (.iload_n 3, 1) := by decide +kernel
theorem dqM_findForce_169 : decode cqM_findForce 169 = .ok (.i2l, 1) := by decide +kernel
theorem dqM_findForce_170 : decode cqM_findForce 170 = .ok (.lload 4, 2) := by decide +kernel
theorem dqM_findForce_172 : decode cqM_findForce 172 = .ok (.lsub, 1) := by decide +kernel
theorem dqM_findForce_173 : decode cqM_findForce 173 = .ok (.aload_n 0, 1) := by decide +kernel
theorem dqM_findForce_174 : decode cqM_findForce 174 = .ok (.getfield 55, 3) := by decide +kernel
theorem dqM_findForce_177 : decode cqM_findForce 177 = .ok (.iload 9, 2) := by decide +kernel
theorem dqM_findForce_179 : decode cqM_findForce 179 = .ok (.laload, 1) := by decide +kernel
theorem dqM_findForce_180 : decode cqM_findForce 180 = .ok (.lmul, 1) := by decide +kernel
theorem dqM_findForce_181 : decode cqM_findForce 181 = .ok (.aload_n 0, 1) := by decide +kernel
theorem dqM_findForce_182 : decode cqM_findForce 182 = .ok (.getfield 62, 3) := by decide +kernel
theorem dqM_findForce_185 : decode cqM_findForce 185 = .ok (.iload 9, 2) := by decide +kernel
theorem dqM_findForce_187 : decode cqM_findForce 187 = .ok (.iaload, 1) := by decide +kernel
theorem dqM_findForce_188 : decode cqM_findForce 188 = .ok (.i2l, 1) := by decide +kernel
theorem dqM_findForce_189 : decode cqM_findForce 189 = .ok (.lload 6, 2) := by decide +kernel
theorem dqM_findForce_191 : decode cqM_findForce 191 = .ok (.lmul, 1) := by decide +kernel
theorem dqM_findForce_192 : decode cqM_findForce 192 = .ok (.lcmp, 1) := by decide +kernel
theorem dqM_findForce_193 : decode cqM_findForce 193 = .ok (.ifCond .gt 7, 3) := by decide +kernel
theorem dqM_findForce_196 : decode cqM_findForce 196 = .ok (.iconst 1, 1) := by decide +kernel
theorem dqM_findForce_197 : decode cqM_findForce 197 = .ok (.goto 4, 3) := by decide +kernel
theorem dqM_findForce_200 : decode cqM_findForce 200 = .ok (.iconst 0, 1) := by decide +kernel
theorem dqM_findForce_201 : decode cqM_findForce 201 = .ok (.istore 8, 2) := by decide +kernel
theorem dqM_findForce_203 : decode cqM_findForce 203 = .ok (.iload 8, 2) := by decide +kernel
theorem dqM_findForce_205 : decode cqM_findForce 205 = .ok (.ifCond .ne 36, 3) := by decide +kernel
theorem dqM_findForce_208 : decode cqM_findForce 208 = .ok (.aload_n 0, 1) := by decide +kernel
theorem dqM_findForce_209 : decode cqM_findForce 209 = .ok (.getfield 65, 3) := by decide +kernel
theorem dqM_findForce_212 : decode cqM_findForce 212 = .ok (.iload 9, 2) := by decide +kernel
theorem dqM_findForce_214 : decode cqM_findForce 214 = .ok (.iconst 1, 1) := by decide +kernel
theorem dqM_findForce_215 : decode cqM_findForce 215 = .ok (.bastore, 1) := by decide +kernel
theorem dqM_findForce_216 : decode cqM_findForce 216 = .ok (.lload 6, 2) := by decide +kernel
theorem dqM_findForce_218 : decode cqM_findForce 218 = .ok (.aload_n 0, 1) := by decide +kernel
theorem dqM_findForce_219 : decode cqM_findForce 219 = .ok (.getfield 55, 3) := by decide +kernel
theorem dqM_findForce_222 : decode cqM_findForce 222 = .ok (.iload 9, 2) := by decide +kernel
theorem dqM_findForce_224 : decode cqM_findForce 224 = .ok (.laload, 1) := by decide +kernel
theorem dqM_findForce_225 : decode cqM_findForce 225 = .ok (.ladd, 1) := by decide +kernel
theorem dqM_findForce_226 : decode cqM_findForce 226 = .ok (.lstore 6, 2) := by decide +kernel
theorem dqM_findForce_228 : decode cqM_findForce 228 = .ok (.lload 4, 2) := by decide +kernel
theorem dqM_findForce_230 : decode cqM_findForce 230 = .ok (.aload_n 0, 1) := by decide +kernel
theorem dqM_findForce_231 : decode cqM_findForce 231 = .ok (.getfield 62, 3) := by decide +kernel
theorem dqM_findForce_234 : decode cqM_findForce 234 = .ok (.iload 9, 2) := by decide +kernel
theorem dqM_findForce_236 : decode cqM_findForce 236 = .ok (.iaload, 1) := by decide +kernel
theorem dqM_findForce_237 : decode cqM_findForce 237 = .ok (.i2l, 1) := by decide +kernel
theorem dqM_findForce_238 : decode cqM_findForce 238 = .ok (.lsub, 1) := by decide +kernel
theorem dqM_findForce_239 : decode cqM_findForce 239 = .ok (.lstore 4, 2) := by decide +kernel
theorem dqM_findForce_241 : decode cqM_findForce 241 = .ok (.goto (-175), 3) := by decide +kernel
theorem dqM_findForce_244 : decode cqM_findForce 244 = .ok (.aload_n 0, 1) := by decide +kernel
theorem dqM_findForce_245 : decode cqM_findForce 245 = .ok (.iload_n 3, 1) := by decide +kernel
theorem dqM_findForce_246 : decode cqM_findForce 246 = .ok (.i2l, 1) := by decide +kernel
theorem dqM_findForce_247 : decode cqM_findForce 247 = .ok (.lload 4, 2) := by decide +kernel
theorem dqM_findForce_249 : decode cqM_findForce 249 = .ok (.lsub, 1) := by decide +kernel
theorem dqM_findForce_250 : decode cqM_findForce 250 = .ok (.putfield 110, 3) := by decide +kernel
theorem dqM_findForce_253 : decode cqM_findForce 253 = .ok (.aload_n 0, 1) := by decide +kernel
theorem dqM_findForce_254 : decode cqM_findForce 254 = .ok (.lload 6, 2) := by decide +kernel
theorem dqM_findForce_256 : decode cqM_findForce 256 = .ok (.putfield 113, 3) := by decide +kernel
theorem dqM_findForce_259 : decode cqM_findForce 259 = .ok (.return_, 1) := by decide +kernel
