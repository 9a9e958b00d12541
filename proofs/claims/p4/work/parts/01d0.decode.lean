theorem dqX_init_0 : decode cqX_init 0 = .ok (.aload_n 0, 1) := by decide +kernel
theorem dqX_init_1 : decode cqX_init 1 = .ok (.invokespecial 3, 3) := by decide +kernel
theorem dqX_init_4 : decode cqX_init 4 = .ok (.aload_n 0, 1) := by decide +kernel
theorem dqX_init_5 : decode cqX_init 5 = .ok (.new 9, 3) := by decide +kernel
theorem dqX_init_8 : decode cqX_init 8 = .ok (.dup, 1) := by decide +kernel
theorem dqX_init_9 : decode cqX_init 9 = .ok (.invokespecial 11, 3) := by decide +kernel
theorem dqX_init_12 : decode cqX_init 12 = .ok (.putfield 12, 3) := by decide +kernel
theorem dqX_init_15 : decode cqX_init 15 = .ok (.aload_n 0, 1) := by decide +kernel
theorem dqX_init_16 : decode cqX_init 16 = .ok (.new 16, 3) := by decide +kernel
theorem dqX_init_19 : decode cqX_init 19 = .ok (.dup, 1) := by decide +kernel
theorem dqX_init_20 : decode cqX_init 20 = .ok (.invokespecial 18, 3) := by decide +kernel
theorem dqX_init_23 : decode cqX_init 23 = .ok (.putfield 19, 3) := by decide +kernel
theorem dqX_init_26 : decode cqX_init 26 = .ok (.aload_n 0, 1) := by decide +kernel
theorem dqX_init_27 : decode cqX_init 27 = .ok (.new 23, 3) := by decide +kernel
theorem dqX_init_30 : decode cqX_init 30 = .ok (.dup, 1) := by decide +kernel
theorem dqX_init_31 : decode cqX_init 31 = .ok (.invokespecial 25, 3) := by decide +kernel
theorem dqX_init_34 : decode cqX_init 34 = .ok (.putfield 26, 3) := by decide +kernel
theorem dqX_init_37 : decode cqX_init 37 = .ok (.aload_n 0, 1) := by decide +kernel
theorem dqX_init_38 : decode cqX_init 38 = .ok (.new 30, 3) := by decide +kernel
theorem dqX_init_41 : decode cqX_init 41 = .ok (.dup, 1) := by decide +kernel
theorem dqX_init_42 : decode cqX_init 42 = .ok (.invokespecial 32, 3) := by decide +kernel
theorem dqX_init_45 : decode cqX_init 45 = .ok (.putfield 33, 3) := by decide +kernel
theorem dqX_init_48 : decode cqX_init 48 = .ok (.aload_n 0, 1) := by decide +kernel
theorem dqX_init_49 : decode cqX_init 49 = .ok (.new 37, 3) := by decide +kernel
theorem dqX_init_52 : decode cqX_init 52 = .ok (.dup, 1) := by decide +kernel
theorem dqX_init_53 : decode cqX_init 53 = .ok (.invokespecial 39, 3) := by decide +kernel
theorem dqX_init_56 : decode cqX_init 56 = .ok (.putfield 40, 3) := by decide +kernel
theorem dqX_init_59 : decode cqX_init 59 = .ok (.aload_n 0, 1) := by decide +kernel
theorem dqX_init_60 : decode cqX_init 60 = .ok (.new 37, 3) := by decide +kernel
theorem dqX_init_63 : decode cqX_init 63 = .ok (.dup, 1) := by decide +kernel
theorem dqX_init_64 : decode cqX_init 64 = .ok (.invokespecial 39, 3) := by decide +kernel
theorem dqX_init_67 : decode cqX_init 67 = .ok (.putfield 44, 3) := by decide +kernel
theorem dqX_init_70 : decode cqX_init 70 = .ok (.aload_n 0, 1) := by decide +kernel
theorem dqX_init_71 : decode cqX_init 71 = .ok (.new 47, 3) := by decide +kernel
theorem dqX_init_74 : decode cqX_init 74 = .ok (.dup, 1) := by decide +kernel
theorem dqX_init_75 : decode cqX_init 75 = .ok (.invokespecial 49, 3) := by decide +kernel
theorem dqX_init_78 : decode cqX_init 78 = .ok (.putfield 50, 3) := by decide +kernel
theorem dqX_init_81 : decode cqX_init 81 = .ok (.aload_n 0, 1) := by decide +kernel
theorem dqX_init_82 : decode cqX_init 82 = .ok (.iconst 0, 1) := by decide +kernel
theorem dqX_init_83 : decode cqX_init 83 = .ok (.putfield 54, 3) := by decide +kernel
theorem dqX_init_86 : decode cqX_init 86 = .ok (.aload_n 0, 1) := by decide +kernel
theorem dqX_init_87 : decode cqX_init 87 = .ok (.iconst 0, 1) := by decide +kernel
theorem dqX_init_88 : decode cqX_init 88 = .ok (.putfield 58, 3) := by decide +kernel
theorem dqX_init_91 : decode cqX_init 91 = .ok (.return_, 1) := by decide +kernel
theorem dqX_table_0 : decode cqX_table 0 = .ok (.iload_n 1, 1) := by decide +kernel
theorem dqX_table_1 : decode cqX_table 1 = .ok (.iconst 0, 1) := by decide +kernel
theorem dqX_table_2 : decode cqX_table 2 = .ok (.bipush 100, 2) := by decide +kernel
theorem dqX_table_4 : decode cqX_table 4 = .ok (.invokestatic 61, 3) := by decide +kernel
theorem dqX_table_7 : decode cqX_table 7 = .ok (.ifCond .eq 13, 3) := by decide +kernel
theorem dqX_table_10 : decode cqX_table 10 = .ok (.iload_n 2, 1) := by decide +kernel
theorem dqX_table_11 : decode cqX_table 11 = .ok (.iconst 0, 1) := by decide +kernel
theorem dqX_table_12 : decode cqX_table 12 = .ok (.bipush 100, 2) := by decide +kernel
theorem dqX_table_14 : decode cqX_table 14 = .ok (.invokestatic 61, 3) := by decide +kernel
theorem dqX_table_17 : decode cqX_table 17 = .ok (.ifCond .ne 6, 3) := by decide +kernel
theorem dqX_table_20 : decode cqX_table 20 = .ok (.bipush (-2), 2) := by decide +kernel
theorem dqX_table_22 : decode cqX_table 22 = .ok (.ireturn, 1) := by decide +kernel
theorem dqX_table_23 : decode cqX_table 23 = .ok (.aload_n 0, 1) := by decide +kernel
theorem dqX_table_24 : decode cqX_table 24 = .ok (.invokevirtual 65, 3) := by decide +kernel
theorem dqX_table_27 : decode cqX_table 27 = .ok (.aload_n 0, 1) := by decide +kernel
theorem dqX_table_28 : decode cqX_table 28 = .ok (.getfield 12, 3) := by decide +kernel
theorem dqX_table_31 : decode cqX_table 31 = .ok (.iload_n 1, 1) := by decide +kernel
theorem dqX_table_32 : decode cqX_table 32 = .ok (.iload_n 2, 1) := by decide +kernel
theorem dqX_table_33 : decode cqX_table 33 = .ok (.invokevirtual 68, 3) := by decide +kernel
theorem dqX_table_36 : decode cqX_table 36 = .ok (.iconst 1, 1) := by decide +kernel
theorem dqX_table_37 : decode cqX_table 37 = .ok (.ireturn, 1) := by decide +kernel
theorem dqX_column_0 : decode cqX_column 0 = .ok (.iload_n 1, 1) := by decide +kernel
theorem dqX_column_1 : decode cqX_column 1 = .ok (.iconst 0, 1) := by decide +kernel
theorem dqX_column_2 : decode cqX_column 2 = .ok (.ldc 72, 2) := by decide +kernel
theorem dqX_column_4 : decode cqX_column 4 = .ok (.invokestatic 61, 3) := by decide +kernel
theorem dqX_column_7 : decode cqX_column 7 = .ok (.ifCond .ne 6, 3) := by decide +kernel
theorem dqX_column_10 : decode cqX_column 10 = .ok (.bipush (-2), 2) := by decide +kernel
theorem dqX_column_12 : decode cqX_column 12 = .ok (.ireturn, 1) := by decide +kernel
theorem dqX_column_13 : decode cqX_column 13 = .ok (.aload_n 0, 1) := by decide +kernel
theorem dqX_column_14 : decode cqX_column 14 = .ok (.getfield 12, 3) := by decide +kernel
theorem dqX_column_17 : decode cqX_column 17 = .ok (.iload_n 1, 1) := by decide +kernel
theorem dqX_column_18 : decode cqX_column 18 = .ok (.invokevirtual 73, 3) := by decide +kernel
theorem dqX_column_21 : decode cqX_column 21 = .ok (.ifCond .ne 6, 3) := by decide +kernel
theorem dqX_column_24 : decode cqX_column 24 = .ok (.bipush (-3), 2) := by decide +kernel
theorem dqX_column_26 : decode cqX_column 26 = .ok (.ireturn, 1) := by decide +kernel
theorem dqX_column_27 : decode cqX_column 27 = .ok (.aload_n 0, 1) := by decide +kernel
theorem dqX_column_28 : decode cqX_column 28 = .ok (.getfield 12, 3) := by decide +kernel
theorem dqX_column_31 : decode cqX_column 31 = .ok (.invokevirtual 77, 3) := by decide +kernel
theorem dqX_column_34 : decode cqX_column 34 = .ok (.ifCond .eq 6, 3) := by decide +kernel
theorem dqX_column_37 : decode cqX_column 37 = .ok (.bipush (-4), 2) := by decide +kernel
theorem dqX_column_39 : decode cqX_column 39 = .ok (.ireturn, 1) := by decide +kernel
theorem dqX_column_40 : decode cqX_column 40 = .ok (.aload_n 0, 1) := by decide +kernel
theorem dqX_column_41 : decode cqX_column 41 = .ok (.invokevirtual 65, 3) := by decide +kernel
theorem dqX_column_44 : decode cqX_column 44 = .ok (.aload_n 0, 1) := by decide +kernel
theorem dqX_column_45 : decode cqX_column 45 = .ok (.getfield 12, 3) := by decide +kernel
theorem dqX_column_48 : decode cqX_column 48 = .ok (.iload_n 1, 1) := by decide +kernel
theorem dqX_column_49 : decode cqX_column 49 = .ok (.invokevirtual 81, 3) := by decide +kernel
theorem dqX_column_52 : decode cqX_column 52 = .ok (.ireturn, 1) := by decide +kernel
theorem dqX_clear_0 : decode cqX_clear 0 = .ok (.aload_n 0, 1) := by decide +kernel
theorem dqX_clear_1 : decode cqX_clear 1 = .ok (.invokevirtual 65, 3) := by decide +kernel
theorem dqX_clear_4 : decode cqX_clear 4 = .ok (.aload_n 0, 1) := by decide +kernel
theorem dqX_clear_5 : decode cqX_clear 5 = .ok (.getfield 19, 3) := by decide +kernel
theorem dqX_clear_8 : decode cqX_clear 8 = .ok (.invokevirtual 85, 3) := by decide +kernel
theorem dqX_clear_11 : decode cqX_clear 11 = .ok (.aload_n 0, 1) := by decide +kernel
theorem dqX_clear_12 : decode cqX_clear 12 = .ok (.getfield 26, 3) := by decide +kernel
theorem dqX_clear_15 : decode cqX_clear 15 = .ok (.invokevirtual 88, 3) := by decide +kernel
theorem dqX_clear_18 : decode cqX_clear 18 = .ok (.aload_n 0, 1) := by decide +kernel
theorem dqX_clear_19 : decode cqX_clear 19 = .ok (.getfield 12, 3) := by decide +kernel
theorem dqX_clear_22 : decode cqX_clear 22 = .ok (.invokevirtual 89, 3) := by decide +kernel
theorem dqX_clear_25 : decode cqX_clear 25 = .ok (.ireturn, 1) := by decide +kernel
theorem dqX_spring_0 : decode cqX_spring 0 = .ok (.iload_n 1, 1) := by decide +kernel
theorem dqX_spring_1 : decode cqX_spring 1 = .ok (.iconst 1, 1) := by decide +kernel
theorem dqX_spring_2 : decode cqX_spring 2 = .ok (.ldc 72, 2) := by decide +kernel
theorem dqX_spring_4 : decode cqX_spring 4 = .ok (.invokestatic 61, 3) := by decide +kernel
theorem dqX_spring_7 : decode cqX_spring 7 = .ok (.ifCond .ne 7, 3) := by decide +kernel
theorem dqX_spring_10 : decode cqX_spring 10 = .ok (.ldc2_w 92, 3) := by decide +kernel
theorem dqX_spring_13 : decode cqX_spring 13 = .ok (.lreturn, 1) := by decide +kernel
theorem dqX_spring_14 : decode cqX_spring 14 = .ok (.aload_n 0, 1) := by decide +kernel
theorem dqX_spring_15 : decode cqX_spring 15 = .ok (.getfield 12, 3) := by decide +kernel
theorem dqX_spring_18 : decode cqX_spring 18 = .ok (.iload_n 1, 1) := by decide +kernel
theorem dqX_spring_19 : decode cqX_spring 19 = .ok (.invokevirtual 94, 3) := by decide +kernel
theorem dqX_spring_22 : decode cqX_spring 22 = .ok (.lreturn, 1) := by decide +kernel
theorem dqX_least_0 : decode cqX_least 0 = .ok (.aload_n 0, 1) := by decide +kernel
theorem dqX_least_1 : decode cqX_least 1 = .ok (.getfield 12, 3) := by decide +kernel
theorem dqX_least_4 : decode cqX_least 4 = .ok (.iload_n 1, 1) := by decide +kernel
theorem dqX_least_5 : decode cqX_least 5 = .ok (.invokevirtual 98, 3) := by decide +kernel
theorem dqX_least_8 : decode cqX_least 8 = .ok (.ifCond .ne 5, 3) := by decide +kernel
theorem dqX_least_11 : decode cqX_least 11 = .ok (.iconst (-1), 1) := by decide +kernel
theorem dqX_least_12 : decode cqX_least 12 = .ok (.ireturn, 1) := by decide +kernel
theorem dqX_least_13 : decode cqX_least 13 = .ok (.iload_n 2, 1) := by decide +kernel
theorem dqX_least_14 : decode cqX_least 14 = .ok (.iconst 0, 1) := by decide +kernel
theorem dqX_least_15 : decode cqX_least 15 = .ok (.sipush 1000, 3) := by decide +kernel
theorem dqX_least_18 : decode cqX_least 18 = .ok (.invokestatic 61, 3) := by decide +kernel
theorem dqX_least_21 : decode cqX_least 21 = .ok (.ifCond .ne 6, 3) := by decide +kernel
theorem dqX_least_24 : decode cqX_least 24 = .ok (.bipush (-2), 2) := by decide +kernel
theorem dqX_least_26 : decode cqX_least 26 = .ok (.ireturn, 1) := by decide +kernel
theorem dqX_least_27 : decode cqX_least 27 = .ok (.aload_n 0, 1) := by decide +kernel
theorem dqX_least_28 : decode cqX_least 28 = .ok (.invokevirtual 65, 3) := by decide +kernel
theorem dqX_least_31 : decode cqX_least 31 = .ok (.aload_n 0, 1) := by decide +kernel
theorem dqX_least_32 : decode cqX_least 32 = .ok (.getfield 12, 3) := by decide +kernel
theorem dqX_least_35 : decode cqX_least 35 = .ok (.iload_n 1, 1) := by decide +kernel
theorem dqX_least_36 : decode cqX_least 36 = .ok (.iload_n 2, 1) := by decide +kernel
theorem dqX_least_37 : decode cqX_least 37 = .ok (.invokevirtual 101, 3) := by decide +kernel
theorem dqX_least_40 : decode cqX_least 40 = .ok (.ireturn, 1) := by decide +kernel
theorem dqX_item_0 : decode cqX_item 0 = .ok (.iload_n 1, 1) := by decide +kernel
theorem dqX_item_1 : decode cqX_item 1 = .ok (.invokestatic 105, 3) := by decide +kernel
theorem dqX_item_4 : decode cqX_item 4 = .ok (.ifCond .eq 14, 3) := by decide +kernel
theorem dqX_item_7 : decode cqX_item 7 = .ok (.aload_n 0, 1) := by decide +kernel
theorem dqX_item_8 : decode cqX_item 8 = .ok (.getfield 12, 3) := by decide +kernel
theorem dqX_item_11 : decode cqX_item 11 = .ok (.iload_n 2, 1) := by decide +kernel
theorem dqX_item_12 : decode cqX_item 12 = .ok (.invokevirtual 108, 3) := by decide +kernel
theorem dqX_item_15 : decode cqX_item 15 = .ok (.ifCond .ne 5, 3) := by decide +kernel
theorem dqX_item_18 : decode cqX_item 18 = .ok (.iconst (-1), 1) := by decide +kernel
theorem dqX_item_19 : decode cqX_item 19 = .ok (.ireturn, 1) := by decide +kernel
theorem dqX_item_20 : decode cqX_item 20 = .ok (.iload_n 3, 1) := by decide +kernel
theorem dqX_item_21 : decode cqX_item 21 = .ok (.iconst 0, 1) := by decide +kernel
theorem dqX_item_22 : decode cqX_item 22 = .ok (.sipush 500, 3) := by decide +kernel
theorem dqX_item_25 : decode cqX_item 25 = .ok (.invokestatic 61, 3) := by decide +kernel
theorem dqX_item_28 : decode cqX_item 28 = .ok (.ifCond .eq 15, 3) := by decide +kernel
theorem dqX_item_31 : decode cqX_item 31 = .ok (.iload 4, 2) := by decide +kernel
theorem dqX_item_33 : decode cqX_item 33 = .ok (.iconst 0, 1) := by decide +kernel
theorem dqX_item_34 : decode cqX_item 34 = .ok (.sipush 500, 3) := by decide +kernel
theorem dqX_item_37 : decode cqX_item 37 = .ok (.invokestatic 61, 3) := by decide +kernel
theorem dqX_item_40 : decode cqX_item 40 = .ok (.ifCond .ne 6, 3) := by decide +kernel
theorem dqX_item_43 : decode cqX_item 43 = .ok (.bipush (-2), 2) := by decide +kernel
theorem dqX_item_45 : decode cqX_item 45 = .ok (.ireturn, 1) := by decide +kernel
theorem dqX_item_46 : decode cqX_item 46 = .ok (.aload_n 0, 1) := by decide +kernel
theorem dqX_item_47 : decode cqX_item 47 = .ok (.invokevirtual 65, 3) := by decide +kernel
theorem dqX_item_50 : decode cqX_item 50 = .ok (.aload_n 0, 1) := by decide +kernel
theorem dqX_item_51 : decode cqX_item 51 = .ok (.getfield 19, 3) := by decide +kernel
theorem dqX_item_54 : decode cqX_item 54 = .ok (.iload_n 1, 1) := by decide +kernel
theorem dqX_item_55 : decode cqX_item 55 = .ok (.iload_n 2, 1) := by decide +kernel
theorem dqX_item_56 : decode cqX_item 56 = .ok (.iload_n 3, 1) := by decide +kernel
theorem dqX_item_57 : decode cqX_item 57 = .ok (.iload 4, 2) := by decide +kernel
theorem dqX_item_59 : decode cqX_item 59 = .ok (.invokevirtual 111, 3) := by decide +kernel
theorem dqX_item_62 : decode cqX_item 62 = .ok (.ifCond .eq 7, 3) := by decide +kernel
theorem dqX_item_65 : decode cqX_item 65 = .ok (.iconst 0, 1) := by decide +kernel
theorem dqX_item_66 : decode cqX_item 66 = .ok (.goto 4, 3) := by decide +kernel
theorem dqX_item_69 : decode cqX_item 69 = .ok (.iconst 1, 1) := by decide +kernel
theorem dqX_item_70 : decode cqX_item 70 = .ok (.ireturn, 1) := by decide +kernel
theorem dqX_remove_0 : decode cqX_remove 0 = .ok (.iload_n 1, 1) := by decide +kernel
theorem dqX_remove_1 : decode cqX_remove 1 = .ok (.invokestatic 105, 3) := by decide +kernel
theorem dqX_remove_4 : decode cqX_remove 4 = .ok (.ifCond .eq 26, 3) := by decide +kernel
theorem dqX_remove_7 : decode cqX_remove 7 = .ok (.aload_n 0, 1) := by decide +kernel
theorem dqX_remove_8 : decode cqX_remove 8 = .ok (.getfield 12, 3) := by decide +kernel
theorem dqX_remove_11 : decode cqX_remove 11 = .ok (.iload_n 2, 1) := by decide +kernel
theorem dqX_remove_12 : decode cqX_remove 12 = .ok (.invokevirtual 108, 3) := by decide +kernel
theorem dqX_remove_15 : decode cqX_remove 15 = .ok (.ifCond .eq 15, 3) := by decide +kernel
theorem dqX_remove_18 : decode cqX_remove 18 = .ok (.aload_n 0, 1) := by decide +kernel
theorem dqX_remove_19 : decode cqX_remove 19 = .ok (.getfield 19, 3) := by decide +kernel
theorem dqX_remove_22 : decode cqX_remove 22 = .ok (.iload_n 1, 1) := by decide +kernel
theorem dqX_remove_23 : decode cqX_remove 23 = .ok (.iload_n 2, 1) := by decide +kernel
theorem dqX_remove_24 : decode cqX_remove 24 = .ok (.invokevirtual 115, 3) := by decide +kernel
theorem dqX_remove_27 : decode cqX_remove 27 = .ok (.ifCond .ne 5, 3) := by decide +kernel
theorem dqX_remove_30 : decode cqX_remove 30 = .ok (.iconst (-1), 1) := by decide +kernel
theorem dqX_remove_31 : decode cqX_remove 31 = .ok (.ireturn, 1) := by decide +kernel
theorem dqX_remove_32 : decode cqX_remove 32 = .ok (.aload_n 0, 1) := by decide +kernel
theorem dqX_remove_33 : decode cqX_remove 33 = .ok (.invokevirtual 65, 3) := by decide +kernel
theorem dqX_remove_36 : decode cqX_remove 36 = .ok (.aload_n 0, 1) := by decide +kernel
theorem dqX_remove_37 : decode cqX_remove 37 = .ok (.getfield 19, 3) := by decide +kernel
theorem dqX_remove_40 : decode cqX_remove 40 = .ok (.iload_n 1, 1) := by decide +kernel
theorem dqX_remove_41 : decode cqX_remove 41 = .ok (.iload_n 2, 1) := by decide +kernel
theorem dqX_remove_42 : decode cqX_remove 42 = .ok (.invokevirtual 118, 3) := by decide +kernel
theorem dqX_remove_45 : decode cqX_remove 45 = .ok (.iconst 1, 1) := by decide +kernel
theorem dqX_remove_46 : decode cqX_remove 46 = .ok (.ireturn, 1) := by decide +kernel
theorem dqX_rod_0 : decode cqX_rod 0 = .ok (.aload_n 0, 1) := by decide +kernel
theorem dqX_rod_1 : decode cqX_rod 1 = .ok (.getfield 12, 3) := by decide +kernel
theorem dqX_rod_4 : decode cqX_rod 4 = .ok (.iload_n 1, 1) := by decide +kernel
theorem dqX_rod_5 : decode cqX_rod 5 = .ok (.invokevirtual 108, 3) := by decide +kernel
theorem dqX_rod_8 : decode cqX_rod 8 = .ok (.ifCond .eq 14, 3) := by decide +kernel
theorem dqX_rod_11 : decode cqX_rod 11 = .ok (.aload_n 0, 1) := by decide +kernel
theorem dqX_rod_12 : decode cqX_rod 12 = .ok (.getfield 12, 3) := by decide +kernel
theorem dqX_rod_15 : decode cqX_rod 15 = .ok (.iload_n 2, 1) := by decide +kernel
theorem dqX_rod_16 : decode cqX_rod 16 = .ok (.invokevirtual 108, 3) := by decide +kernel
theorem dqX_rod_19 : decode cqX_rod 19 = .ok (.ifCond .ne 5, 3) := by decide +kernel
theorem dqX_rod_22 : decode cqX_rod 22 = .ok (.iconst (-1), 1) := by decide +kernel
theorem dqX_rod_23 : decode cqX_rod 23 = .ok (.ireturn, 1) := by decide +kernel
theorem dqX_rod_24 : decode cqX_rod 24 = .ok (.iload_n 1, 1) := by decide +kernel
theorem dqX_rod_25 : decode cqX_rod 25 = .ok (.iload_n 2, 1) := by decide +kernel
theorem dqX_rod_26 : decode cqX_rod 26 = .ok (.if_icmp .ge 14, 3) := by decide +kernel
theorem dqX_rod_29 : decode cqX_rod 29 = .ok (.iload_n 3, 1) := by decide +kernel
theorem dqX_rod_30 : decode cqX_rod 30 = .ok (.iconst 0, 1) := by decide +kernel
theorem dqX_rod_31 : decode cqX_rod 31 = .ok (.sipush 5000, 3) := by decide +kernel
theorem dqX_rod_34 : decode cqX_rod 34 = .ok (.invokestatic 61, 3) := by decide +kernel
theorem dqX_rod_37 : decode cqX_rod 37 = .ok (.ifCond .ne 6, 3) := by decide +kernel
theorem dqX_rod_40 : decode cqX_rod 40 = .ok (.bipush (-2), 2) := by decide +kernel
theorem dqX_rod_42 : decode cqX_rod 42 = .ok (.ireturn, 1) := by decide +kernel
theorem dqX_rod_43 : decode cqX_rod 43 = .ok (.aload_n 0, 1) := by decide +kernel
theorem dqX_rod_44 : decode cqX_rod 44 = .ok (.getfield 26, 3) := by decide +kernel
theorem dqX_rod_47 : decode cqX_rod 47 = .ok (.invokevirtual 121, 3) := by decide +kernel
theorem dqX_rod_50 : decode cqX_rod 50 = .ok (.ifCond .eq 6, 3) := by decide +kernel
theorem dqX_rod_53 : decode cqX_rod 53 = .ok (.bipush (-4), 2) := by decide +kernel
theorem dqX_rod_55 : decode cqX_rod 55 = .ok (.ireturn, 1) := by decide +kernel
theorem dqX_rod_56 : decode cqX_rod 56 = .ok (.aload_n 0, 1) := by decide +kernel
theorem dqX_rod_57 : decode cqX_rod 57 = .ok (.invokevirtual 65, 3) := by decide +kernel
theorem dqX_rod_60 : decode cqX_rod 60 = .ok (.aload_n 0, 1) := by decide +kernel
theorem dqX_rod_61 : decode cqX_rod 61 = .ok (.getfield 26, 3) := by decide +kernel
theorem dqX_rod_64 : decode cqX_rod 64 = .ok (.iload_n 1, 1) := by decide +kernel
theorem dqX_rod_65 : decode cqX_rod 65 = .ok (.iload_n 2, 1) := by decide +kernel
theorem dqX_rod_66 : decode cqX_rod 66 = .ok (.iload_n 3, 1) := by decide +kernel
theorem dqX_rod_67 : decode cqX_rod 67 = .ok (.invokevirtual 124, 3) := by decide +kernel
theorem dqX_rod_70 : decode cqX_rod 70 = .ok (.ireturn, 1) := by decide +kernel
theorem dqX_drop_0 : decode cqX_drop 0 = .ok (.aload_n 0, 1) := by decide +kernel
theorem dqX_drop_1 : decode cqX_drop 1 = .ok (.getfield 26, 3) := by decide +kernel
theorem dqX_drop_4 : decode cqX_drop 4 = .ok (.iload_n 1, 1) := by decide +kernel
theorem dqX_drop_5 : decode cqX_drop 5 = .ok (.invokevirtual 127, 3) := by decide +kernel
theorem dqX_drop_8 : decode cqX_drop 8 = .ok (.ifCond .ne 5, 3) := by decide +kernel
theorem dqX_drop_11 : decode cqX_drop 11 = .ok (.iconst (-1), 1) := by decide +kernel
theorem dqX_drop_12 : decode cqX_drop 12 = .ok (.ireturn, 1) := by decide +kernel
theorem dqX_drop_13 : decode cqX_drop 13 = .ok (.aload_n 0, 1) := by decide +kernel
theorem dqX_drop_14 : decode cqX_drop 14 = .ok (.invokevirtual 65, 3) := by decide +kernel
theorem dqX_drop_17 : decode cqX_drop 17 = .ok (.aload_n 0, 1) := by decide +kernel
theorem dqX_drop_18 : decode cqX_drop 18 = .ok (.getfield 26, 3) := by decide +kernel
theorem dqX_drop_21 : decode cqX_drop 21 = .ok (.iload_n 1, 1) := by decide +kernel
theorem dqX_drop_22 : decode cqX_drop 22 = .ok (.invokevirtual 128, 3) := by decide +kernel
theorem dqX_drop_25 : decode cqX_drop 25 = .ok (.ireturn, 1) := by decide +kernel
theorem dqX_bar_0 : decode cqX_bar 0 = .ok (.aload_n 0, 1) := by decide +kernel
theorem dqX_bar_1 : decode cqX_bar 1 = .ok (.getfield 12, 3) := by decide +kernel
theorem dqX_bar_4 : decode cqX_bar 4 = .ok (.iload_n 1, 1) := by decide +kernel
theorem dqX_bar_5 : decode cqX_bar 5 = .ok (.invokevirtual 108, 3) := by decide +kernel
theorem dqX_bar_8 : decode cqX_bar 8 = .ok (.ifCond .ne 5, 3) := by decide +kernel
theorem dqX_bar_11 : decode cqX_bar 11 = .ok (.iconst (-1), 1) := by decide +kernel
theorem dqX_bar_12 : decode cqX_bar 12 = .ok (.ireturn, 1) := by decide +kernel
theorem dqX_bar_13 : decode cqX_bar 13 = .ok (.aload_n 0, 1) := by decide +kernel
theorem dqX_bar_14 : decode cqX_bar 14 = .ok (.invokevirtual 65, 3) := by decide +kernel
theorem dqX_bar_17 : decode cqX_bar 17 = .ok (.aload_n 0, 1) := by decide +kernel
theorem dqX_bar_18 : decode cqX_bar 18 = .ok (.getfield 12, 3) := by decide +kernel
theorem dqX_bar_21 : decode cqX_bar 21 = .ok (.iload_n 1, 1) := by decide +kernel
theorem dqX_bar_22 : decode cqX_bar 22 = .ok (.iload_n 2, 1) := by decide +kernel
theorem dqX_bar_23 : decode cqX_bar 23 = .ok (.invokevirtual 130, 3) := by decide +kernel
theorem dqX_bar_26 : decode cqX_bar 26 = .ok (.ifCond .eq 7, 3) := by decide +kernel
theorem dqX_bar_29 : decode cqX_bar 29 = .ok (.iconst 1, 1) := by decide +kernel
theorem dqX_bar_30 : decode cqX_bar 30 = .ok (.goto 4, 3) := by decide +kernel
theorem dqX_bar_33 : decode cqX_bar 33 = .ok (.iconst 0, 1) := by decide +kernel
theorem dqX_bar_34 : decode cqX_bar 34 = .ok (.ireturn, 1) := by decide +kernel
theorem dqX_run_0 : decode cqX_run 0 = .ok (.iload_n 1, 1) := by decide +kernel
theorem dqX_run_1 : decode cqX_run 1 = .ok (.invokestatic 134, 3) := by decide +kernel
theorem dqX_run_4 : decode cqX_run 4 = .ok (.ifCond .ne 6, 3) := by decide +kernel
theorem dqX_run_7 : decode cqX_run 7 = .ok (.bipush (-2), 2) := by decide +kernel
theorem dqX_run_9 : decode cqX_run 9 = .ok (.ireturn, 1) := by decide +kernel
theorem dqX_run_10 : decode cqX_run 10 = .ok (.aload_n 0, 1) := by decide +kernel
theorem dqX_run_11 : decode cqX_run 11 = .ok (.getfield 12, 3) := by decide +kernel
theorem dqX_run_14 : decode cqX_run 14 = .ok (.iconst 0, 1) := by decide +kernel
theorem dqX_run_15 : decode cqX_run 15 = .ok (.invokevirtual 98, 3) := by decide +kernel
theorem dqX_run_18 : decode cqX_run 18 = .ok (.ifCond .ne 6, 3) := by decide +kernel
theorem dqX_run_21 : decode cqX_run 21 = .ok (.bipush (-3), 2) := by decide +kernel
theorem dqX_run_23 : decode cqX_run 23 = .ok (.ireturn, 1) := by decide +kernel
theorem dqX_run_24 : decode cqX_run 24 = .ok (.aload_n 0, 1) := by decide +kernel
theorem dqX_run_25 : decode cqX_run 25 = .ok (.iconst 0, 1) := by decide +kernel
theorem dqX_run_26 : decode cqX_run 26 = .ok (.aload_n 0, 1) := by decide +kernel
theorem dqX_run_27 : decode cqX_run 27 = .ok (.getfield 12, 3) := by decide +kernel
theorem dqX_run_30 : decode cqX_run 30 = .ok (.invokevirtual 137, 3) := by decide +kernel
theorem dqX_run_33 : decode cqX_run 33 = .ok (.iload_n 1, 1) := by decide +kernel
theorem dqX_run_34 : decode cqX_run 34 = .ok (.invokevirtual 140, 3) := by decide +kernel
theorem dqX_run_37 : decode cqX_run 37 = .ok (.ireturn, 1) := by decide +kernel
theorem dqX_line_0 : decode cqX_line 0 = .ok (.aload_n 0, 1) := by decide +kernel
theorem dqX_line_1 : decode cqX_line 1 = .ok (.getfield 12, 3) := by decide +kernel
theorem dqX_line_4 : decode cqX_line 4 = .ok (.iload_n 1, 1) := by decide +kernel
theorem dqX_line_5 : decode cqX_line 5 = .ok (.invokevirtual 108, 3) := by decide +kernel
theorem dqX_line_8 : decode cqX_line 8 = .ok (.ifCond .eq 14, 3) := by decide +kernel
theorem dqX_line_11 : decode cqX_line 11 = .ok (.aload_n 0, 1) := by decide +kernel
theorem dqX_line_12 : decode cqX_line 12 = .ok (.getfield 12, 3) := by decide +kernel
theorem dqX_line_15 : decode cqX_line 15 = .ok (.iload_n 2, 1) := by decide +kernel
theorem dqX_line_16 : decode cqX_line 16 = .ok (.invokevirtual 108, 3) := by decide +kernel
theorem dqX_line_19 : decode cqX_line 19 = .ok (.ifCond .ne 5, 3) := by decide +kernel
theorem dqX_line_22 : decode cqX_line 22 = .ok (.iconst (-1), 1) := by decide +kernel
theorem dqX_line_23 : decode cqX_line 23 = .ok (.ireturn, 1) := by decide +kernel
theorem dqX_line_24 : decode cqX_line 24 = .ok (.iload_n 1, 1) := by decide +kernel
theorem dqX_line_25 : decode cqX_line 25 = .ok (.iload_n 2, 1) := by decide +kernel
theorem dqX_line_26 : decode cqX_line 26 = .ok (.if_icmp .ge 10, 3) := by decide +kernel
theorem dqX_line_29 : decode cqX_line 29 = .ok (.iload_n 3, 1) := by decide +kernel
theorem dqX_line_30 : decode cqX_line 30 = .ok (.invokestatic 134, 3) := by decide +kernel
theorem dqX_line_33 : decode cqX_line 33 = .ok (.ifCond .ne 6, 3) := by decide +kernel
theorem dqX_line_36 : decode cqX_line 36 = .ok (.bipush (-2), 2) := by decide +kernel
theorem dqX_line_38 : decode cqX_line 38 = .ok (.ireturn, 1) := by decide +kernel
theorem dqX_line_39 : decode cqX_line 39 = .ok (.aload_n 0, 1) := by decide +kernel
theorem dqX_line_40 : decode cqX_line 40 = .ok (.iload_n 1, 1) := by decide +kernel
theorem dqX_line_41 : decode cqX_line 41 = .ok (.iload_n 2, 1) := by decide +kernel
theorem dqX_line_42 : decode cqX_line 42 = .ok (.iload_n 3, 1) := by decide +kernel
theorem dqX_line_43 : decode cqX_line 43 = .ok (.invokevirtual 140, 3) := by decide +kernel
theorem dqX_line_46 : decode cqX_line 46 = .ok (.ireturn, 1) := by decide +kernel
theorem dqX_over_0 : decode cqX_over 0 = .ok (.aload_n 0, 1) := by decide +kernel
theorem dqX_over_1 : decode cqX_over 1 = .ok (.getfield 54, 3) := by decide +kernel
theorem dqX_over_4 : decode cqX_over 4 = .ok (.ifCond .ne 6, 3) := by decide +kernel
theorem dqX_over_7 : decode cqX_over 7 = .ok (.bipush (-3), 2) := by decide +kernel
theorem dqX_over_9 : decode cqX_over 9 = .ok (.ireturn, 1) := by decide +kernel
theorem dqX_over_10 : decode cqX_over 10 = .ok (.aload_n 0, 1) := by decide +kernel
theorem dqX_over_11 : decode cqX_over 11 = .ok (.getfield 40, 3) := by decide +kernel
theorem dqX_over_14 : decode cqX_over 14 = .ok (.invokevirtual 143, 3) := by decide +kernel
theorem dqX_over_17 : decode cqX_over 17 = .ok (.ireturn, 1) := by decide +kernel
theorem dqX_force_0 : decode cqX_force 0 = .ok (.iload_n 1, 1) := by decide +kernel
theorem dqX_force_1 : decode cqX_force 1 = .ok (.invokestatic 146, 3) := by decide +kernel
theorem dqX_force_4 : decode cqX_force 4 = .ok (.ifCond .ne 7, 3) := by decide +kernel
theorem dqX_force_7 : decode cqX_force 7 = .ok (.ldc2_w 92, 3) := by decide +kernel
theorem dqX_force_10 : decode cqX_force 10 = .ok (.lreturn, 1) := by decide +kernel
theorem dqX_force_11 : decode cqX_force 11 = .ok (.aload_n 0, 1) := by decide +kernel
theorem dqX_force_12 : decode cqX_force 12 = .ok (.getfield 54, 3) := by decide +kernel
theorem dqX_force_15 : decode cqX_force 15 = .ok (.ifCond .ne 7, 3) := by decide +kernel
theorem dqX_force_18 : decode cqX_force 18 = .ok (.ldc2_w 149, 3) := by decide +kernel
theorem dqX_force_21 : decode cqX_force 21 = .ok (.lreturn, 1) := by decide +kernel
theorem dqX_force_22 : decode cqX_force 22 = .ok (.aload_n 0, 1) := by decide +kernel
theorem dqX_force_23 : decode cqX_force 23 = .ok (.getfield 40, 3) := by decide +kernel
theorem dqX_force_26 : decode cqX_force 26 = .ok (.iload_n 1, 1) := by decide +kernel
theorem dqX_force_27 : decode cqX_force 27 = .ok (.invokevirtual 151, 3) := by decide +kernel
theorem dqX_force_30 : decode cqX_force 30 = .ok (.lreturn, 1) := by decide +kernel
theorem dqX_width_0 : decode cqX_width 0 = .ok (.aload_n 0, 1) := by decide +kernel
theorem dqX_width_1 : decode cqX_width 1 = .ok (.getfield 54, 3) := by decide +kernel
theorem dqX_width_4 : decode cqX_width 4 = .ok (.ifCond .ne 7, 3) := by decide +kernel
theorem dqX_width_7 : decode cqX_width 7 = .ok (.ldc2_w 149, 3) := by decide +kernel
theorem dqX_width_10 : decode cqX_width 10 = .ok (.lreturn, 1) := by decide +kernel
theorem dqX_width_11 : decode cqX_width 11 = .ok (.aload_n 0, 1) := by decide +kernel
theorem dqX_width_12 : decode cqX_width 12 = .ok (.getfield 40, 3) := by decide +kernel
theorem dqX_width_15 : decode cqX_width 15 = .ok (.iload_n 1, 1) := by decide +kernel
theorem dqX_width_16 : decode cqX_width 16 = .ok (.invokevirtual 154, 3) := by decide +kernel
theorem dqX_width_19 : decode cqX_width 19 = .ok (.ifCond .ne 7, 3) := by decide +kernel
theorem dqX_width_22 : decode cqX_width 22 = .ok (.ldc2_w 157, 3) := by decide +kernel
theorem dqX_width_25 : decode cqX_width 25 = .ok (.lreturn, 1) := by decide +kernel
theorem dqX_width_26 : decode cqX_width 26 = .ok (.iload_n 2, 1) := by decide +kernel
theorem dqX_width_27 : decode cqX_width 27 = .ok (.invokestatic 146, 3) := by decide +kernel
theorem dqX_width_30 : decode cqX_width 30 = .ok (.ifCond .ne 7, 3) := by decide +kernel
theorem dqX_width_33 : decode cqX_width 33 = .ok (.ldc2_w 92, 3) := by decide +kernel
theorem dqX_width_36 : decode cqX_width 36 = .ok (.lreturn, 1) := by decide +kernel
theorem dqX_width_37 : decode cqX_width 37 = .ok (.aload_n 0, 1) := by decide +kernel
theorem dqX_width_38 : decode cqX_width 38 = .ok (.getfield 40, 3) := by decide +kernel
theorem dqX_width_41 : decode cqX_width 41 = .ok (.iload_n 1, 1) := by decide +kernel
theorem dqX_width_42 : decode cqX_width 42 = .ok (.iload_n 2, 1) := by decide +kernel
theorem dqX_width_43 : decode cqX_width 43 = .ok (.invokevirtual 159, 3) := by decide +kernel
theorem dqX_width_46 : decode cqX_width 46 = .ok (.lreturn, 1) := by decide +kernel
theorem dqX_settled_0 : decode cqX_settled 0 = .ok (.aload_n 0, 1) := by decide +kernel
theorem dqX_settled_1 : decode cqX_settled 1 = .ok (.getfield 54, 3) := by decide +kernel
theorem dqX_settled_4 : decode cqX_settled 4 = .ok (.ifCond .ne 6, 3) := by decide +kernel
theorem dqX_settled_7 : decode cqX_settled 7 = .ok (.bipush (-3), 2) := by decide +kernel
theorem dqX_settled_9 : decode cqX_settled 9 = .ok (.ireturn, 1) := by decide +kernel
theorem dqX_settled_10 : decode cqX_settled 10 = .ok (.aload_n 0, 1) := by decide +kernel
theorem dqX_settled_11 : decode cqX_settled 11 = .ok (.getfield 40, 3) := by decide +kernel
theorem dqX_settled_14 : decode cqX_settled 14 = .ok (.iload_n 1, 1) := by decide +kernel
theorem dqX_settled_15 : decode cqX_settled 15 = .ok (.invokevirtual 154, 3) := by decide +kernel
theorem dqX_settled_18 : decode cqX_settled 18 = .ok (.ifCond .ne 5, 3) := by decide +kernel
theorem dqX_settled_21 : decode cqX_settled 21 = .ok (.iconst (-1), 1) := by decide +kernel
theorem dqX_settled_22 : decode cqX_settled 22 = .ok (.ireturn, 1) := by decide +kernel
theorem dqX_settled_23 : decode cqX_settled 23 = .ok (.aload_n 0, 1) := by decide +kernel
theorem dqX_settled_24 : decode cqX_settled 24 = .ok (.getfield 40, 3) := by decide +kernel
theorem dqX_settled_27 : decode cqX_settled 27 = .ok (.iload_n 1, 1) := by decide +kernel
theorem dqX_settled_28 : decode cqX_settled 28 = .ok (.invokevirtual 163, 3) := by decide +kernel
theorem dqX_settled_31 : decode cqX_settled 31 = .ok (.ireturn, 1) := by decide +kernel
theorem dqX_place_0 : decode cqX_place 0 = .ok (.aload_n 0, 1) := by decide +kernel
theorem dqX_place_1 : decode cqX_place 1 = .ok (.getfield 54, 3) := by decide +kernel
theorem dqX_place_4 : decode cqX_place 4 = .ok (.ifCond .ne 6, 3) := by decide +kernel
theorem dqX_place_7 : decode cqX_place 7 = .ok (.bipush (-3), 2) := by decide +kernel
theorem dqX_place_9 : decode cqX_place 9 = .ok (.ireturn, 1) := by decide +kernel
theorem dqX_place_10 : decode cqX_place 10 = .ok (.aload_n 0, 1) := by decide +kernel
theorem dqX_place_11 : decode cqX_place 11 = .ok (.getfield 40, 3) := by decide +kernel
theorem dqX_place_14 : decode cqX_place 14 = .ok (.iload_n 1, 1) := by decide +kernel
theorem dqX_place_15 : decode cqX_place 15 = .ok (.invokevirtual 166, 3) := by decide +kernel
theorem dqX_place_18 : decode cqX_place 18 = .ok (.ifCond .ne 5, 3) := by decide +kernel
theorem dqX_place_21 : decode cqX_place 21 = .ok (.iconst (-1), 1) := by decide +kernel
theorem dqX_place_22 : decode cqX_place 22 = .ok (.ireturn, 1) := by decide +kernel
theorem dqX_place_23 : decode cqX_place 23 = .ok (.aload_n 0, 1) := by decide +kernel
theorem dqX_place_24 : decode cqX_place 24 = .ok (.getfield 40, 3) := by decide +kernel
theorem dqX_place_27 : decode cqX_place 27 = .ok (.iload_n 1, 1) := by decide +kernel
theorem dqX_place_28 : decode cqX_place 28 = .ok (.invokevirtual 169, 3) := by decide +kernel
theorem dqX_place_31 : decode cqX_place 31 = .ok (.ireturn, 1) := by decide +kernel
theorem dqX_level_0 : decode cqX_level 0 = .ok (.aload_n 0, 1) := by decide +kernel
theorem dqX_level_1 : decode cqX_level 1 = .ok (.getfield 54, 3) := by decide +kernel
theorem dqX_level_4 : decode cqX_level 4 = .ok (.ifCond .ne 6, 3) := by decide +kernel
theorem dqX_level_7 : decode cqX_level 7 = .ok (.bipush (-3), 2) := by decide +kernel
theorem dqX_level_9 : decode cqX_level 9 = .ok (.ireturn, 1) := by decide +kernel
theorem dqX_level_10 : decode cqX_level 10 = .ok (.aload_n 0, 1) := by decide +kernel
theorem dqX_level_11 : decode cqX_level 11 = .ok (.getfield 40, 3) := by decide +kernel
theorem dqX_level_14 : decode cqX_level 14 = .ok (.aload_n 0, 1) := by decide +kernel
theorem dqX_level_15 : decode cqX_level 15 = .ok (.getfield 12, 3) := by decide +kernel
theorem dqX_level_18 : decode cqX_level 18 = .ok (.iload_n 1, 1) := by decide +kernel
theorem dqX_level_19 : decode cqX_level 19 = .ok (.invokevirtual 172, 3) := by decide +kernel
theorem dqX_level_22 : decode cqX_level 22 = .ok (.ifCond .ne 6, 3) := by decide +kernel
theorem dqX_level_25 : decode cqX_level 25 = .ok (.bipush (-2), 2) := by decide +kernel
theorem dqX_level_27 : decode cqX_level 27 = .ok (.ireturn, 1) := by decide +kernel
theorem dqX_level_28 : decode cqX_level 28 = .ok (.aload_n 0, 1) := by decide +kernel
theorem dqX_level_29 : decode cqX_level 29 = .ok (.getfield 40, 3) := by decide +kernel
theorem dqX_level_32 : decode cqX_level 32 = .ok (.aload_n 0, 1) := by decide +kernel
theorem dqX_level_33 : decode cqX_level 33 = .ok (.getfield 12, 3) := by decide +kernel
theorem dqX_level_36 : decode cqX_level 36 = .ok (.iload_n 1, 1) := by decide +kernel
theorem dqX_level_37 : decode cqX_level 37 = .ok (.invokevirtual 176, 3) := by decide +kernel
theorem dqX_level_40 : decode cqX_level 40 = .ok (.ireturn, 1) := by decide +kernel
theorem dqX_lines_0 : decode cqX_lines 0 = .ok (.iload_n 1, 1) := by decide +kernel
theorem dqX_lines_1 : decode cqX_lines 1 = .ok (.invokestatic 134, 3) := by decide +kernel
theorem dqX_lines_4 : decode cqX_lines 4 = .ok (.ifCond .ne 6, 3) := by decide +kernel
theorem dqX_lines_7 : decode cqX_lines 7 = .ok (.bipush (-2), 2) := by decide +kernel
theorem dqX_lines_9 : decode cqX_lines 9 = .ok (.ireturn, 1) := by decide +kernel
theorem dqX_lines_10 : decode cqX_lines 10 = .ok (.aload_n 0, 1) := by decide +kernel
theorem dqX_lines_11 : decode cqX_lines 11 = .ok (.getfield 12, 3) := by decide +kernel
theorem dqX_lines_14 : decode cqX_lines 14 = .ok (.iconst 0, 1) := by decide +kernel
theorem dqX_lines_15 : decode cqX_lines 15 = .ok (.invokevirtual 98, 3) := by decide +kernel
theorem dqX_lines_18 : decode cqX_lines 18 = .ok (.ifCond .ne 6, 3) := by decide +kernel
theorem dqX_lines_21 : decode cqX_lines 21 = .ok (.bipush (-3), 2) := by decide +kernel
theorem dqX_lines_23 : decode cqX_lines 23 = .ok (.ireturn, 1) := by decide +kernel
theorem dqX_lines_24 : decode cqX_lines 24 = .ok (.aload_n 0, 1) := by decide +kernel
theorem dqX_lines_25 : decode cqX_lines 25 = .ok (.getfield 33, 3) := by decide +kernel
theorem dqX_lines_28 : decode cqX_lines 28 = .ok (.aload_n 0, 1) := by decide +kernel
theorem dqX_lines_29 : decode cqX_lines 29 = .ok (.getfield 19, 3) := by decide +kernel
theorem dqX_lines_32 : decode cqX_lines 32 = .ok (.aload_n 0, 1) := by decide +kernel
theorem dqX_lines_33 : decode cqX_lines 33 = .ok (.getfield 26, 3) := by decide +kernel
theorem dqX_lines_36 : decode cqX_lines 36 = .ok (.aload_n 0, 1) := by decide +kernel
theorem dqX_lines_37 : decode cqX_lines 37 = .ok (.getfield 12, 3) := by decide +kernel
theorem dqX_lines_40 : decode cqX_lines 40 = .ok (.invokevirtual 180, 3) := by decide +kernel
theorem dqX_lines_43 : decode cqX_lines 43 = .ok (.invokevirtual 183, 3) := by decide +kernel
theorem dqX_lines_46 : decode cqX_lines 46 = .ok (.aload_n 0, 1) := by decide +kernel
theorem dqX_lines_47 : decode cqX_lines 47 = .ok (.getfield 50, 3) := by decide +kernel
theorem dqX_lines_50 : decode cqX_lines 50 = .ok (.aload_n 0, 1) := by decide +kernel
theorem dqX_lines_51 : decode cqX_lines 51 = .ok (.getfield 12, 3) := by decide +kernel
theorem dqX_lines_54 : decode cqX_lines 54 = .ok (.aload_n 0, 1) := by decide +kernel
theorem dqX_lines_55 : decode cqX_lines 55 = .ok (.getfield 33, 3) := by decide +kernel
theorem dqX_lines_58 : decode cqX_lines 58 = .ok (.aload_n 0, 1) := by decide +kernel
theorem dqX_lines_59 : decode cqX_lines 59 = .ok (.getfield 44, 3) := by decide +kernel
theorem dqX_lines_62 : decode cqX_lines 62 = .ok (.iload_n 1, 1) := by decide +kernel
theorem dqX_lines_63 : decode cqX_lines 63 = .ok (.invokevirtual 187, 3) := by decide +kernel
theorem dqX_lines_66 : decode cqX_lines 66 = .ok (.aload_n 0, 1) := by decide +kernel
theorem dqX_lines_67 : decode cqX_lines 67 = .ok (.iconst 1, 1) := by decide +kernel
theorem dqX_lines_68 : decode cqX_lines 68 = .ok (.putfield 58, 3) := by decide +kernel
theorem dqX_lines_71 : decode cqX_lines 71 = .ok (.aload_n 0, 1) := by decide +kernel
theorem dqX_lines_72 : decode cqX_lines 72 = .ok (.getfield 50, 3) := by decide +kernel
theorem dqX_lines_75 : decode cqX_lines 75 = .ok (.invokevirtual 191, 3) := by decide +kernel
theorem dqX_lines_78 : decode cqX_lines 78 = .ok (.ireturn, 1) := by decide +kernel
theorem dqX_begin_0 : decode cqX_begin 0 = .ok (.aload_n 0, 1) := by decide +kernel
theorem dqX_begin_1 : decode cqX_begin 1 = .ok (.getfield 58, 3) := by decide +kernel
theorem dqX_begin_4 : decode cqX_begin 4 = .ok (.ifCond .ne 6, 3) := by decide +kernel
theorem dqX_begin_7 : decode cqX_begin 7 = .ok (.bipush (-3), 2) := by decide +kernel
theorem dqX_begin_9 : decode cqX_begin 9 = .ok (.ireturn, 1) := by decide +kernel
theorem dqX_begin_10 : decode cqX_begin 10 = .ok (.iload_n 1, 1) := by decide +kernel
theorem dqX_begin_11 : decode cqX_begin 11 = .ok (.iconst 0, 1) := by decide +kernel
theorem dqX_begin_12 : decode cqX_begin 12 = .ok (.aload_n 0, 1) := by decide +kernel
theorem dqX_begin_13 : decode cqX_begin 13 = .ok (.getfield 50, 3) := by decide +kernel
theorem dqX_begin_16 : decode cqX_begin 16 = .ok (.invokevirtual 191, 3) := by decide +kernel
theorem dqX_begin_19 : decode cqX_begin 19 = .ok (.invokestatic 61, 3) := by decide +kernel
theorem dqX_begin_22 : decode cqX_begin 22 = .ok (.ifCond .ne 5, 3) := by decide +kernel
theorem dqX_begin_25 : decode cqX_begin 25 = .ok (.iconst (-1), 1) := by decide +kernel
theorem dqX_begin_26 : decode cqX_begin 26 = .ok (.ireturn, 1) := by decide +kernel
theorem dqX_begin_27 : decode cqX_begin 27 = .ok (.aload_n 0, 1) := by decide +kernel
theorem dqX_begin_28 : decode cqX_begin 28 = .ok (.getfield 50, 3) := by decide +kernel
theorem dqX_begin_31 : decode cqX_begin 31 = .ok (.iload_n 1, 1) := by decide +kernel
theorem dqX_begin_32 : decode cqX_begin 32 = .ok (.invokevirtual 192, 3) := by decide +kernel
theorem dqX_begin_35 : decode cqX_begin 35 = .ok (.ireturn, 1) := by decide +kernel
theorem dqX_cost_0 : decode cqX_cost 0 = .ok (.aload_n 0, 1) := by decide +kernel
theorem dqX_cost_1 : decode cqX_cost 1 = .ok (.getfield 58, 3) := by decide +kernel
theorem dqX_cost_4 : decode cqX_cost 4 = .ok (.ifCond .ne 7, 3) := by decide +kernel
theorem dqX_cost_7 : decode cqX_cost 7 = .ok (.ldc2_w 149, 3) := by decide +kernel
theorem dqX_cost_10 : decode cqX_cost 10 = .ok (.lreturn, 1) := by decide +kernel
theorem dqX_cost_11 : decode cqX_cost 11 = .ok (.aload_n 0, 1) := by decide +kernel
theorem dqX_cost_12 : decode cqX_cost 12 = .ok (.getfield 50, 3) := by decide +kernel
theorem dqX_cost_15 : decode cqX_cost 15 = .ok (.invokevirtual 195, 3) := by decide +kernel
theorem dqX_cost_18 : decode cqX_cost 18 = .ok (.lreturn, 1) := by decide +kernel
theorem dqX_natural_0 : decode cqX_natural 0 = .ok (.aload_n 0, 1) := by decide +kernel
theorem dqX_natural_1 : decode cqX_natural 1 = .ok (.getfield 12, 3) := by decide +kernel
theorem dqX_natural_4 : decode cqX_natural 4 = .ok (.iload_n 1, 1) := by decide +kernel
theorem dqX_natural_5 : decode cqX_natural 5 = .ok (.invokevirtual 108, 3) := by decide +kernel
theorem dqX_natural_8 : decode cqX_natural 8 = .ok (.ifCond .eq 14, 3) := by decide +kernel
theorem dqX_natural_11 : decode cqX_natural 11 = .ok (.aload_n 0, 1) := by decide +kernel
theorem dqX_natural_12 : decode cqX_natural 12 = .ok (.getfield 12, 3) := by decide +kernel
theorem dqX_natural_15 : decode cqX_natural 15 = .ok (.iload_n 2, 1) := by decide +kernel
theorem dqX_natural_16 : decode cqX_natural 16 = .ok (.invokevirtual 108, 3) := by decide +kernel
theorem dqX_natural_19 : decode cqX_natural 19 = .ok (.ifCond .ne 5, 3) := by decide +kernel
theorem dqX_natural_22 : decode cqX_natural 22 = .ok (.iconst (-1), 1) := by decide +kernel
theorem dqX_natural_23 : decode cqX_natural 23 = .ok (.ireturn, 1) := by decide +kernel
theorem dqX_natural_24 : decode cqX_natural 24 = .ok (.iload_n 1, 1) := by decide +kernel
theorem dqX_natural_25 : decode cqX_natural 25 = .ok (.iload_n 2, 1) := by decide +kernel
theorem dqX_natural_26 : decode cqX_natural 26 = .ok (.if_icmp .lt 6, 3) := by decide +kernel
theorem dqX_natural_29 : decode cqX_natural 29 = .ok (.bipush (-2), 2) := by decide +kernel
theorem dqX_natural_31 : decode cqX_natural 31 = .ok (.ireturn, 1) := by decide +kernel
theorem dqX_natural_32 : decode cqX_natural 32 = .ok (.aload_n 0, 1) := by decide +kernel
theorem dqX_natural_33 : decode cqX_natural 33 = .ok (.getfield 33, 3) := by decide +kernel
theorem dqX_natural_36 : decode cqX_natural 36 = .ok (.aload_n 0, 1) := by decide +kernel
theorem dqX_natural_37 : decode cqX_natural 37 = .ok (.getfield 19, 3) := by decide +kernel
theorem dqX_natural_40 : decode cqX_natural 40 = .ok (.aload_n 0, 1) := by decide +kernel
theorem dqX_natural_41 : decode cqX_natural 41 = .ok (.getfield 26, 3) := by decide +kernel
theorem dqX_natural_44 : decode cqX_natural 44 = .ok (.aload_n 0, 1) := by decide +kernel
theorem dqX_natural_45 : decode cqX_natural 45 = .ok (.getfield 12, 3) := by decide +kernel
theorem dqX_natural_48 : decode cqX_natural 48 = .ok (.invokevirtual 180, 3) := by decide +kernel
theorem dqX_natural_51 : decode cqX_natural 51 = .ok (.invokevirtual 183, 3) := by decide +kernel
theorem dqX_natural_54 : decode cqX_natural 54 = .ok (.aload_n 0, 1) := by decide +kernel
theorem dqX_natural_55 : decode cqX_natural 55 = .ok (.getfield 44, 3) := by decide +kernel
theorem dqX_natural_58 : decode cqX_natural 58 = .ok (.aload_n 0, 1) := by decide +kernel
theorem dqX_natural_59 : decode cqX_natural 59 = .ok (.getfield 12, 3) := by decide +kernel
theorem dqX_natural_62 : decode cqX_natural 62 = .ok (.aload_n 0, 1) := by decide +kernel
theorem dqX_natural_63 : decode cqX_natural 63 = .ok (.getfield 33, 3) := by decide +kernel
theorem dqX_natural_66 : decode cqX_natural 66 = .ok (.iload_n 1, 1) := by decide +kernel
theorem dqX_natural_67 : decode cqX_natural 67 = .ok (.iload_n 2, 1) := by decide +kernel
theorem dqX_natural_68 : decode cqX_natural 68 = .ok (.invokevirtual 199, 3) := by decide +kernel
theorem dqX_natural_71 : decode cqX_natural 71 = .ok (.aload_n 0, 1) := by decide +kernel
theorem dqX_natural_72 : decode cqX_natural 72 = .ok (.getfield 44, 3) := by decide +kernel
theorem dqX_natural_75 : decode cqX_natural 75 = .ok (.invokevirtual 203, 3) := by decide +kernel
theorem dqX_natural_78 : decode cqX_natural 78 = .ok (.l2i, 1) := by decide +kernel
theorem dqX_natural_79 : decode cqX_natural 79 = .ok (.ireturn, 1) := by decide +kernel
theorem dqX_takeInHand_0 : decode cqX_takeInHand 0 = .ok (.aload_n 0, 1) := by decide +kernel
theorem dqX_takeInHand_1 : decode cqX_takeInHand 1 = .ok (.getfield 33, 3) := by decide +kernel
theorem dqX_takeInHand_4 : decode cqX_takeInHand 4 = .ok (.aload_n 0, 1) := by decide +kernel
theorem dqX_takeInHand_5 : decode cqX_takeInHand 5 = .ok (.getfield 19, 3) := by decide +kernel
theorem dqX_takeInHand_8 : decode cqX_takeInHand 8 = .ok (.aload_n 0, 1) := by decide +kernel
theorem dqX_takeInHand_9 : decode cqX_takeInHand 9 = .ok (.getfield 26, 3) := by decide +kernel
theorem dqX_takeInHand_12 : decode cqX_takeInHand 12 = .ok (.aload_n 0, 1) := by decide +kernel
theorem dqX_takeInHand_13 : decode cqX_takeInHand 13 = .ok (.getfield 12, 3) := by decide +kernel
theorem dqX_takeInHand_16 : decode cqX_takeInHand 16 = .ok (.invokevirtual 180, 3) := by decide +kernel
theorem dqX_takeInHand_19 : decode cqX_takeInHand 19 = .ok (.invokevirtual 183, 3) := by decide +kernel
theorem dqX_takeInHand_22 : decode cqX_takeInHand 22 = .ok (.aload_n 0, 1) := by decide +kernel
theorem dqX_takeInHand_23 : decode cqX_takeInHand 23 = .ok (.getfield 40, 3) := by decide +kernel
theorem dqX_takeInHand_26 : decode cqX_takeInHand 26 = .ok (.aload_n 0, 1) := by decide +kernel
theorem dqX_takeInHand_27 : decode cqX_takeInHand 27 = .ok (.getfield 12, 3) := by decide +kernel
theorem dqX_takeInHand_30 : decode cqX_takeInHand 30 = .ok (.aload_n 0, 1) := by decide +kernel
theorem dqX_takeInHand_31 : decode cqX_takeInHand 31 = .ok (.getfield 33, 3) := by decide +kernel
theorem dqX_takeInHand_34 : decode cqX_takeInHand 34 = .ok (.iload_n 1, 1) := by decide +kernel
theorem dqX_takeInHand_35 : decode cqX_takeInHand 35 = .ok (.iload_n 2, 1) := by decide +kernel
theorem dqX_takeInHand_36 : decode cqX_takeInHand 36 = .ok (.invokevirtual 199, 3) := by decide +kernel
theorem dqX_takeInHand_39 : decode cqX_takeInHand 39 = .ok (.aload_n 0, 1) := by decide +kernel
theorem dqX_takeInHand_40 : decode cqX_takeInHand 40 = .ok (.iconst 1, 1) := by decide +kernel
theorem dqX_takeInHand_41 : decode cqX_takeInHand 41 = .ok (.putfield 54, 3) := by decide +kernel
theorem dqX_takeInHand_44 : decode cqX_takeInHand 44 = .ok (.aload_n 0, 1) := by decide +kernel
theorem dqX_takeInHand_45 : decode cqX_takeInHand 45 = .ok (.getfield 40, 3) := by decide +kernel
theorem dqX_takeInHand_48 : decode cqX_takeInHand 48 = .ok (.iload_n 3, 1) := by decide +kernel
theorem dqX_takeInHand_49 : decode cqX_takeInHand 49 = .ok (.invokevirtual 206, 3) := by decide +kernel
theorem dqX_takeInHand_52 : decode cqX_takeInHand 52 = .ok (.ireturn, 1) := by decide +kernel
theorem dqX_forgetAnswers_0 : decode cqX_forgetAnswers 0 = .ok (.aload_n 0, 1) := by decide +kernel
theorem dqX_forgetAnswers_1 : decode cqX_forgetAnswers 1 = .ok (.iconst 0, 1) := by decide +kernel
theorem dqX_forgetAnswers_2 : decode cqX_forgetAnswers 2 = .ok (.putfield 54, 3) := by decide +kernel
theorem dqX_forgetAnswers_5 : decode cqX_forgetAnswers 5 = .ok (.aload_n 0, 1) := by decide +kernel
theorem dqX_forgetAnswers_6 : decode cqX_forgetAnswers 6 = .ok (.iconst 0, 1) := by decide +kernel
theorem dqX_forgetAnswers_7 : decode cqX_forgetAnswers 7 = .ok (.putfield 58, 3) := by decide +kernel
theorem dqX_forgetAnswers_10 : decode cqX_forgetAnswers 10 = .ok (.return_, 1) := by decide +kernel
theorem dqX_isStaff_0 : decode cqX_isStaff 0 = .ok (.iload_n 0, 1) := by decide +kernel
theorem dqX_isStaff_1 : decode cqX_isStaff 1 = .ok (.iconst 0, 1) := by decide +kernel
theorem dqX_isStaff_2 : decode cqX_isStaff 2 = .ok (.iconst 3, 1) := by decide +kernel
theorem dqX_isStaff_3 : decode cqX_isStaff 3 = .ok (.invokestatic 61, 3) := by decide +kernel
theorem dqX_isStaff_6 : decode cqX_isStaff 6 = .ok (.ireturn, 1) := by decide +kernel
theorem dqX_isExtent_0 : decode cqX_isExtent 0 = .ok (.iload_n 0, 1) := by decide +kernel
theorem dqX_isExtent_1 : decode cqX_isExtent 1 = .ok (.iconst 0, 1) := by decide +kernel
theorem dqX_isExtent_2 : decode cqX_isExtent 2 = .ok (.sipush 20000, 3) := by decide +kernel
theorem dqX_isExtent_5 : decode cqX_isExtent 5 = .ok (.invokestatic 61, 3) := by decide +kernel
theorem dqX_isExtent_8 : decode cqX_isExtent 8 = .ok (.ireturn, 1) := by decide +kernel
theorem dqX_isPart_0 : decode cqX_isPart 0 = .ok (.iload_n 0, 1) := by decide +kernel
theorem dqX_isPart_1 : decode cqX_isPart 1 = .ok (.ifCond .eq 8, 3) := by decide +kernel
theorem dqX_isPart_4 : decode cqX_isPart 4 = .ok (.iload_n 0, 1) := by decide +kernel
theorem dqX_isPart_5 : decode cqX_isPart 5 = .ok (.iconst 1, 1) := by decide +kernel
theorem dqX_isPart_6 : decode cqX_isPart 6 = .ok (.if_icmp .ne 7, 3) := by decide +kernel
theorem dqX_isPart_9 : decode cqX_isPart 9 = .ok (.iconst 1, 1) := by decide +kernel
theorem dqX_isPart_10 : decode cqX_isPart 10 = .ok (.goto 4, 3) := by decide +kernel
theorem dqX_isPart_13 : decode cqX_isPart 13 = .ok (.iconst 0, 1) := by decide +kernel
theorem dqX_isPart_14 : decode cqX_isPart 14 = .ok (.ireturn, 1) := by decide +kernel
theorem dqX_within_0 : decode cqX_within 0 = .ok (.iload_n 1, 1) := by decide +kernel
theorem dqX_within_1 : decode cqX_within 1 = .ok (.iload_n 0, 1) := by decide +kernel
theorem dqX_within_2 : decode cqX_within 2 = .ok (.if_icmp .gt 12, 3) := by decide +kernel
theorem dqX_within_5 : decode cqX_within 5 = .ok (.iload_n 0, 1) := by decide +kernel
theorem dqX_within_6 : decode cqX_within 6 = .ok (.iload_n 2, 1) := by decide +kernel
theorem dqX_within_7 : decode cqX_within 7 = .ok (.if_icmp .gt 7, 3) := by decide +kernel
theorem dqX_within_10 : decode cqX_within 10 = .ok (.iconst 1, 1) := by decide +kernel
theorem dqX_within_11 : decode cqX_within 11 = .ok (.goto 4, 3) := by decide +kernel
theorem dqX_within_14 : decode cqX_within 14 = .ok (.iconst 0, 1) := by decide +kernel
theorem dqX_within_15 : decode cqX_within 15 = .ok (.ireturn, 1) := by decide +kernel
theorem dqX_sumOf_0 : decode cqX_sumOf 0 = .ok (.lconst 0, 1) := by decide +kernel
theorem dqX_sumOf_1 : decode cqX_sumOf 1 = .ok (.lstore_n 3, 1) := by decide +kernel
theorem dqX_sumOf_2 : decode cqX_sumOf 2 = .ok (.iload_n 1, 1) := by decide +kernel
theorem dqX_sumOf_3 : decode cqX_sumOf 3 = .ok (.istore 5, 2) := by decide +kernel
theorem dqX_sumOf_5 : decode cqX_sumOf 5 = .ok (.iload 5, 2) := by decide +kernel
theorem dqX_sumOf_7 : decode cqX_sumOf 7 = .ok (.iload_n 2, 1) := by decide +kernel
theorem dqX_sumOf_8 : decode cqX_sumOf 8 = .ok (.if_icmp .ge 16, 3) := by decide +kernel
theorem dqX_sumOf_11 : decode cqX_sumOf 11 = .ok (.lload_n 3, 1) := by decide +kernel
theorem dqX_sumOf_12 : decode cqX_sumOf 12 = .ok (.aload_n 0, 1) := by decide +kernel
theorem dqX_sumOf_13 : decode cqX_sumOf 13 = .ok (.iload 5, 2) := by decide +kernel
theorem dqX_sumOf_15 : decode cqX_sumOf 15 = .ok (.laload, 1) := by decide +kernel
theorem dqX_sumOf_16 : decode cqX_sumOf 16 = .ok (.ladd, 1) := by decide +kernel
theorem dqX_sumOf_17 : decode cqX_sumOf 17 = .ok (.lstore_n 3, 1) := by decide +kernel
theorem dqX_sumOf_18 : decode cqX_sumOf 18 = .ok (.iinc 5 1, 3) := by decide +kernel
theorem dqX_sumOf_21 : decode cqX_sumOf 21 = .ok (.goto (-16), 3) := by decide +kernel
theorem dqX_sumOf_24 : decode cqX_sumOf 24 = .ok (.lload_n 3, 1) := by decide +kernel
theorem dqX_sumOf_25 : decode cqX_sumOf 25 = .ok (.lreturn, 1) := by decide +kernel
theorem dqX_dividedDown_0 : decode cqX_dividedDown 0 = .ok (.lload_n 2, 1) := by decide +kernel
theorem dqX_dividedDown_1 : decode cqX_dividedDown 1 = .ok (.lconst 0, 1) := by decide +kernel
theorem dqX_dividedDown_2 : decode cqX_dividedDown 2 = .ok (.lcmp, 1) := by decide +kernel
theorem dqX_dividedDown_3 : decode cqX_dividedDown 3 = .ok (.ifCond .le 11, 3) := by decide +kernel
theorem dqX_dividedDown_6 : decode cqX_dividedDown 6 = .ok (.lload_n 0, 1) := by decide +kernel
theorem dqX_dividedDown_7 : decode cqX_dividedDown 7 = .ok (.lload_n 2, 1) := by decide +kernel
theorem dqX_dividedDown_8 : decode cqX_dividedDown 8 = .ok (.invokestatic 209, 3) := by decide +kernel
theorem dqX_dividedDown_11 : decode cqX_dividedDown 11 = .ok (.goto 4, 3) := by decide +kernel
theorem dqX_dividedDown_14 : decode cqX_dividedDown 14 = .ok (.lconst 0, 1) := by decide +kernel
theorem dqX_dividedDown_15 : decode cqX_dividedDown 15 = .ok (.lreturn, 1) := by decide +kernel
theorem dqX_dividedUp_0 : decode cqX_dividedUp 0 = .ok (.lload_n 0, 1) := by decide +kernel
theorem dqX_dividedUp_1 : decode cqX_dividedUp 1 = .ok (.lneg, 1) := by decide +kernel
theorem dqX_dividedUp_2 : decode cqX_dividedUp 2 = .ok (.lload_n 2, 1) := by decide +kernel
theorem dqX_dividedUp_3 : decode cqX_dividedUp 3 = .ok (.invokestatic 215, 3) := by decide +kernel
theorem dqX_dividedUp_6 : decode cqX_dividedUp 6 = .ok (.lneg, 1) := by decide +kernel
theorem dqX_dividedUp_7 : decode cqX_dividedUp 7 = .ok (.lreturn, 1) := by decide +kernel
theorem dqX_commonDivisor_0 : decode cqX_commonDivisor 0 = .ok (.lload_n 0, 1) := by decide +kernel
theorem dqX_commonDivisor_1 : decode cqX_commonDivisor 1 = .ok (.lstore 4, 2) := by decide +kernel
theorem dqX_commonDivisor_3 : decode cqX_commonDivisor 3 = .ok (.lload_n 2, 1) := by decide +kernel
theorem dqX_commonDivisor_4 : decode cqX_commonDivisor 4 = .ok (.lstore 6, 2) := by decide +kernel
theorem dqX_commonDivisor_6 : decode cqX_commonDivisor 6 = .ok (.iconst 0, 1) := by decide +kernel
theorem dqX_commonDivisor_7 : decode cqX_commonDivisor 7 = .ok (.istore 8, 2) := by decide +kernel
theorem dqX_commonDivisor_9 : decode cqX_commonDivisor 9 = .ok (.iload 8, 2) := by decide +kernel
theorem dqX_commonDivisor_11 : decode cqX_commonDivisor 11 = .ok (.sipush 128, 3) := by decide +kernel
theorem dqX_commonDivisor_14 : decode cqX_commonDivisor 14 = .ok (.if_icmp .ge 31, 3) := by decide +kernel
theorem dqX_commonDivisor_17 : decode cqX_commonDivisor 17 = .ok (.lload 6, 2) := by decide +kernel
theorem dqX_commonDivisor_19 : decode cqX_commonDivisor 19 = .ok (.lconst 0, 1) := by decide +kernel
theorem dqX_commonDivisor_20 : decode cqX_commonDivisor 20 = .ok (.lcmp, 1) := by decide +kernel
theorem dqX_commonDivisor_21 : decode cqX_commonDivisor 21 = .ok (.ifCond .eq 24, 3) := by decide +kernel
theorem dqX_commonDivisor_24 : decode cqX_commonDivisor 24 = .ok (.lload 4, 2) := by decide +kernel
theorem dqX_commonDivisor_26 : decode cqX_commonDivisor 26 = .ok (.lload 6, 2) := by decide +kernel
theorem dqX_commonDivisor_28 : decode cqX_commonDivisor 28 = .ok (.lrem, 1) := by decide +kernel
theorem dqX_commonDivisor_29 : decode cqX_commonDivisor 29 = .ok (.lstore 9, 2) := by decide +kernel
theorem dqX_commonDivisor_31 : decode cqX_commonDivisor 31 = .ok (.lload 6, 2) := by decide +kernel
theorem dqX_commonDivisor_33 : decode cqX_commonDivisor 33 = .ok (.lstore 4, 2) := by decide +kernel
theorem dqX_commonDivisor_35 : decode cqX_commonDivisor 35 = .ok (.lload 9, 2) := by decide +kernel
theorem dqX_commonDivisor_37 : decode cqX_commonDivisor 37 = .ok (.lstore 6, 2) := by decide +kernel
theorem dqX_commonDivisor_39 : decode cqX_commonDivisor 39 = .ok (.iinc 8 1, 3) := by decide +kernel
theorem dqX_commonDivisor_42 : decode cqX_commonDivisor 42 = .ok (.goto (-33), 3) := by decide +kernel
theorem dqX_commonDivisor_45 : decode cqX_commonDivisor 45 = .ok (.lconst 1, 1) := by decide +kernel
theorem dqX_commonDivisor_46 : decode cqX_commonDivisor 46 = .ok (.lload 4, 2) := by decide +kernel
theorem dqX_commonDivisor_48 : decode cqX_commonDivisor 48 = .ok (.invokestatic 218, 3) := by decide +kernel
theorem dqX_commonDivisor_51 : decode cqX_commonDivisor 51 = .ok (.lreturn, 1) := by decide +kernel
