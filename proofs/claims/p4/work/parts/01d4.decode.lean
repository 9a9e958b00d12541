theorem dqFo_find_0 : decode cqFo_find 0 = .ok (.aload_n 0, 1) := by decide +kernel
theorem dqFo_find_1 : decode cqFo_find 1 = .ok (.lconst 0, 1) := by decide +kernel
theorem dqFo_find_2 : decode cqFo_find 2 = .ok (.putfield 7, 3) := by decide +kernel
theorem dqFo_find_5 : decode cqFo_find 5 = .ok (.aload_n 0, 1) := by decide +kernel
theorem dqFo_find_6 : decode cqFo_find 6 = .ok (.lconst 1, 1) := by decide +kernel
theorem dqFo_find_7 : decode cqFo_find 7 = .ok (.putfield 13, 3) := by decide +kernel
theorem dqFo_find_10 : decode cqFo_find 10 = .ok (.aload_n 1, 1) := by decide +kernel
theorem dqFo_find_11 : decode cqFo_find 11 = .ok (.iload_n 3, 1) := by decide +kernel
theorem dqFo_find_12 : decode cqFo_find 12 = .ok (.iload 4, 2) := by decide +kernel
theorem dqFo_find_14 : decode cqFo_find 14 = .ok (.invokestatic 16, 3) := by decide +kernel
theorem dqFo_find_17 : decode cqFo_find 17 = .ok (.lload 5, 2) := by decide +kernel
theorem dqFo_find_19 : decode cqFo_find 19 = .ok (.lcmp, 1) := by decide +kernel
theorem dqFo_find_20 : decode cqFo_find 20 = .ok (.ifCond .lt 5, 3) := by decide +kernel
theorem dqFo_find_23 : decode cqFo_find 23 = .ok (.iconst 1, 1) := by decide +kernel
theorem dqFo_find_24 : decode cqFo_find 24 = .ok (.ireturn, 1) := by decide +kernel
theorem dqFo_find_25 : decode cqFo_find 25 = .ok (.aload_n 2, 1) := by decide +kernel
theorem dqFo_find_26 : decode cqFo_find 26 = .ok (.iload_n 3, 1) := by decide +kernel
theorem dqFo_find_27 : decode cqFo_find 27 = .ok (.iload 4, 2) := by decide +kernel
theorem dqFo_find_29 : decode cqFo_find 29 = .ok (.invokestatic 16, 3) := by decide +kernel
theorem dqFo_find_32 : decode cqFo_find 32 = .ok (.lconst 0, 1) := by decide +kernel
theorem dqFo_find_33 : decode cqFo_find 33 = .ok (.lcmp, 1) := by decide +kernel
theorem dqFo_find_34 : decode cqFo_find 34 = .ok (.ifCond .gt 5, 3) := by decide +kernel
theorem dqFo_find_37 : decode cqFo_find 37 = .ok (.iconst 0, 1) := by decide +kernel
theorem dqFo_find_38 : decode cqFo_find 38 = .ok (.ireturn, 1) := by decide +kernel
theorem dqFo_find_39 : decode cqFo_find 39 = .ok (.aload_n 0, 1) := by decide +kernel
theorem dqFo_find_40 : decode cqFo_find 40 = .ok (.lconst 1, 1) := by decide +kernel
theorem dqFo_find_41 : decode cqFo_find 41 = .ok (.putfield 7, 3) := by decide +kernel
theorem dqFo_find_44 : decode cqFo_find 44 = .ok (.aload_n 0, 1) := by decide +kernel
theorem dqFo_find_45 : decode cqFo_find 45 = .ok (.lconst 0, 1) := by decide +kernel
theorem dqFo_find_46 : decode cqFo_find 46 = .ok (.putfield 13, 3) := by decide +kernel
theorem dqFo_find_49 : decode cqFo_find 49 = .ok (.iconst 1, 1) := by decide +kernel
theorem dqFo_find_50 : decode cqFo_find 50 = .ok (.istore 7, 2) := by decide +kernel
theorem dqFo_find_52 : decode cqFo_find 52 = .ok (.iload_n 3, 1) := by decide +kernel
theorem dqFo_find_53 : decode cqFo_find 53 = .ok (.istore 8, 2) := by decide +kernel
theorem dqFo_find_55 : decode cqFo_find 55 = .ok (.iload 8, 2) := by decide +kernel
theorem dqFo_find_57 : decode cqFo_find 57 = .ok (.iload 4, 2) := by decide +kernel
theorem dqFo_find_59 : decode cqFo_find 59 = .ok (.if_icmp .ge 48, 3) := by decide +kernel
theorem dqFo_find_62 : decode cqFo_find 62 = .ok (.iload 7, 2) := by decide +kernel
theorem dqFo_find_64 : decode cqFo_find 64 = .ok (.ifCond .eq 43, 3) := by decide +kernel
theorem dqFo_find_67 : decode cqFo_find 67 = .ok (.aload_n 0, 1) := by decide +kernel
theorem dqFo_find_68 : decode cqFo_find 68 = .ok (.getfield 13, 3) := by decide +kernel
theorem dqFo_find_71 : decode cqFo_find 71 = .ok (.lstore 9, 2) := by decide +kernel
theorem dqFo_find_73 : decode cqFo_find 73 = .ok (.aload_n 0, 1) := by decide +kernel
theorem dqFo_find_74 : decode cqFo_find 74 = .ok (.aload_n 1, 1) := by decide +kernel
theorem dqFo_find_75 : decode cqFo_find 75 = .ok (.aload_n 2, 1) := by decide +kernel
theorem dqFo_find_76 : decode cqFo_find 76 = .ok (.iload_n 3, 1) := by decide +kernel
theorem dqFo_find_77 : decode cqFo_find 77 = .ok (.iload 4, 2) := by decide +kernel
theorem dqFo_find_79 : decode cqFo_find 79 = .ok (.lload 5, 2) := by decide +kernel
theorem dqFo_find_81 : decode cqFo_find 81 = .ok (.invokevirtual 22, 3) := by decide +kernel
theorem dqFo_find_84 : decode cqFo_find 84 = .ok (.aload_n 0, 1) := by decide +kernel
theorem dqFo_find_85 : decode cqFo_find 85 = .ok (.getfield 13, 3) := by decide +kernel
theorem dqFo_find_88 : decode cqFo_find 88 = .ok (.lload 9, 2) := by decide +kernel
theorem dqFo_find_90 : decode cqFo_find 90 = .ok (.lcmp, 1) := by decide +kernel
theorem dqFo_find_91 : decode cqFo_find 91 = .ok (.ifCond .eq 7, 3) := by decide +kernel
theorem dqFo_find_94 : decode cqFo_find 94 = .ok (.iconst 1, 1) := by decide +kernel
theorem dqFo_find_95 : decode cqFo_find 95 = .ok (.goto 4, 3) := by decide +kernel
theorem dqFo_find_98 : decode cqFo_find 98 = .ok (.iconst 0, 1) := by decide +kernel
theorem dqFo_find_99 : decode cqFo_find 99 = .ok (.istore 7, 2) := by decide +kernel
theorem dqFo_find_101 : decode cqFo_find 101 = .ok (.iinc 8 1, 3) := by decide +kernel
theorem dqFo_find_104 : decode cqFo_find 104 = .ok (.goto (-49), 3) := by decide +kernel
theorem dqFo_find_107 : decode cqFo_find 107 = .ok (.iconst 1, 1) := by decide +kernel
theorem dqFo_find_108 : decode cqFo_find 108 = .ok (.ireturn, 1) := by decide +kernel
theorem dqFo_fit_0 : decode cqFo_fit 0 = .ok (.lload 5, 2) := by decide +kernel
theorem dqFo_fit_2 : decode cqFo_fit 2 = .ok (.lstore 7, 2) := by decide +kernel
theorem dqFo_fit_4 : decode cqFo_fit 4 = .ok (.lconst 0, 1) := by decide +kernel
theorem dqFo_fit_5 : decode cqFo_fit 5 = .ok (.lstore 9, 2) := by decide +kernel
theorem dqFo_fit_7 : decode cqFo_fit 7 = .ok (.iload_n 3, 1) := by decide +kernel
theorem dqFo_fit_8 : decode cqFo_fit 8 = .ok (.istore 11, 2) := by decide +kernel
theorem dqFo_fit_10 : decode cqFo_fit 10 = .ok (.iload 11, 2) := by decide +kernel
theorem dqFo_fit_12 : decode cqFo_fit 12 = .ok (.iload 4, 2) := by decide +kernel
theorem dqFo_fit_14 : decode cqFo_fit 14 = .ok (.if_icmp .ge 61, 3) := by decide +kernel
theorem dqFo_fit_17 : decode cqFo_fit 17 = .ok (.aload_n 2, 1) := by decide +kernel
theorem dqFo_fit_18 : decode cqFo_fit 18 = .ok (.iload 11, 2) := by decide +kernel
theorem dqFo_fit_20 : decode cqFo_fit 20 = .ok (.laload, 1) := by decide +kernel
theorem dqFo_fit_21 : decode cqFo_fit 21 = .ok (.lconst 0, 1) := by decide +kernel
theorem dqFo_fit_22 : decode cqFo_fit 22 = .ok (.lcmp, 1) := by decide +kernel
theorem dqFo_fit_23 : decode cqFo_fit 23 = .ok (.ifCond .le 37, 3) := by decide +kernel
theorem dqFo_fit_26 : decode cqFo_fit 26 = .ok (.aload_n 1, 1) := by decide +kernel
theorem dqFo_fit_27 : decode cqFo_fit 27 = .ok (.iload 11, 2) := by decide +kernel
theorem dqFo_fit_29 : decode cqFo_fit 29 = .ok (.laload, 1) := by decide +kernel
theorem dqFo_fit_30 : decode cqFo_fit 30 = .ok (.aload_n 0, 1) := by decide +kernel
theorem dqFo_fit_31 : decode cqFo_fit 31 = .ok (.getfield 13, 3) := by decide +kernel
theorem dqFo_fit_34 : decode cqFo_fit 34 = .ok (.lmul, 1) := by decide +kernel
theorem dqFo_fit_35 : decode cqFo_fit 35 = .ok (.aload_n 0, 1) := by decide +kernel
theorem dqFo_fit_36 : decode cqFo_fit 36 = .ok (.getfield 7, 3) := by decide +kernel
theorem dqFo_fit_39 : decode cqFo_fit 39 = .ok (.aload_n 2, 1) := by decide +kernel
theorem dqFo_fit_40 : decode cqFo_fit 40 = .ok (.iload 11, 2) := by decide +kernel
theorem dqFo_fit_42 : decode cqFo_fit 42 = .ok (.laload, 1) := by decide +kernel
theorem dqFo_fit_43 : decode cqFo_fit 43 = .ok (.lmul, 1) := by decide +kernel
theorem dqFo_fit_44 : decode cqFo_fit 44 = .ok (.lcmp, 1) := by decide +kernel
theorem dqFo_fit_45 : decode cqFo_fit 45 = .ok (.ifCond .gt 15, 3) := by decide +kernel
theorem dqFo_fit_48 : decode cqFo_fit 48 = .ok (.lload 9, 2) := by decide +kernel
theorem dqFo_fit_50 : decode cqFo_fit 50 = .ok (.aload_n 2, 1) := by decide +kernel
theorem dqFo_fit_51 : decode cqFo_fit 51 = .ok (.iload 11, 2) := by decide +kernel
theorem dqFo_fit_53 : decode cqFo_fit 53 = .ok (.laload, 1) := by decide +kernel
theorem dqFo_fit_54 : decode cqFo_fit 54 = .ok (.ladd, 1) := by decide +kernel
theorem dqFo_fit_55 : decode cqFo_fit 55 = .ok (.lstore 9, 2) := by decide +kernel
theorem dqFo_fit_57 : decode cqFo_fit 57 = .ok (.goto 12, 3) := by decide +kernel
theorem dqFo_fit_60 : decode cqFo_fit 60 = .ok (.lload 7, 2) := by decide +kernel
theorem dqFo_fit_62 : decode cqFo_fit 62 = .ok (.aload_n 1, 1) := by decide +kernel
theorem dqFo_fit_63 : decode cqFo_fit 63 = .ok (.iload 11, 2) := by decide +kernel
theorem dqFo_fit_65 : decode cqFo_fit 65 = .ok (.laload, 1) := by decide +kernel
theorem dqFo_fit_66 : decode cqFo_fit 66 = .ok (.lsub, 1) := by decide +kernel
theorem dqFo_fit_67 : decode cqFo_fit 67 = .ok (.lstore 7, 2) := by decide +kernel
theorem dqFo_fit_69 : decode cqFo_fit 69 = .ok (.iinc 11 1, 3) := by decide +kernel
theorem dqFo_fit_72 : decode cqFo_fit 72 = .ok (.goto (-62), 3) := by decide +kernel
theorem dqFo_fit_75 : decode cqFo_fit 75 = .ok (.aload_n 0, 1) := by decide +kernel
theorem dqFo_fit_76 : decode cqFo_fit 76 = .ok (.lload 7, 2) := by decide +kernel
theorem dqFo_fit_78 : decode cqFo_fit 78 = .ok (.putfield 7, 3) := by decide +kernel
theorem dqFo_fit_81 : decode cqFo_fit 81 = .ok (.aload_n 0, 1) := by decide +kernel
theorem dqFo_fit_82 : decode cqFo_fit 82 = .ok (.lload 9, 2) := by decide +kernel
theorem dqFo_fit_84 : decode cqFo_fit 84 = .ok (.putfield 13, 3) := by decide +kernel
theorem dqFo_fit_87 : decode cqFo_fit 87 = .ok (.return_, 1) := by decide +kernel
theorem dqFo_bringToLowestTerms_0 : decode cqFo_bringToLowestTerms 0 = .ok (.aload_n 0, 1) := by decide +kernel
theorem dqFo_bringToLowestTerms_1 : decode cqFo_bringToLowestTerms 1 = .ok (.getfield 7, 3) := by decide +kernel
theorem dqFo_bringToLowestTerms_4 : decode cqFo_bringToLowestTerms 4 = .ok (.aload_n 0, 1) := by decide +kernel
theorem dqFo_bringToLowestTerms_5 : decode cqFo_bringToLowestTerms 5 = .ok (.getfield 13, 3) := by decide +kernel
theorem dqFo_bringToLowestTerms_8 : decode cqFo_bringToLowestTerms 8 = .ok (.invokestatic 26, 3) := by decide +kernel
theorem dqFo_bringToLowestTerms_11 : decode cqFo_bringToLowestTerms 11 = .ok (.lstore_n 1, 1) := by decide +kernel
theorem dqFo_bringToLowestTerms_12 : decode cqFo_bringToLowestTerms 12 = .ok (.aload_n 0, 1) := by decide +kernel
theorem dqFo_bringToLowestTerms_13 : decode cqFo_bringToLowestTerms 13 = .ok (.dup, 1) := by decide +kernel
theorem dqFo_bringToLowestTerms_14 : decode cqFo_bringToLowestTerms 14 = .ok (.getfield 7, 3) := by decide +kernel
theorem dqFo_bringToLowestTerms_17 : decode cqFo_bringToLowestTerms 17 = .ok (.lload_n 1, 1) := by decide +kernel
theorem dqFo_bringToLowestTerms_18 : decode cqFo_bringToLowestTerms 18 = .ok (.ldiv, 1) := by decide +kernel
theorem dqFo_bringToLowestTerms_19 : decode cqFo_bringToLowestTerms 19 = .ok (.putfield 7, 3) := by decide +kernel
theorem dqFo_bringToLowestTerms_22 : decode cqFo_bringToLowestTerms 22 = .ok (.aload_n 0, 1) := by decide +kernel
theorem dqFo_bringToLowestTerms_23 : decode cqFo_bringToLowestTerms 23 = .ok (.dup, 1) := by decide +kernel
theorem dqFo_bringToLowestTerms_24 : decode cqFo_bringToLowestTerms 24 = .ok (.getfield 13, 3) := by decide +kernel
theorem dqFo_bringToLowestTerms_27 : decode cqFo_bringToLowestTerms 27 = .ok (.lload_n 1, 1) := by decide +kernel
theorem dqFo_bringToLowestTerms_28 : decode cqFo_bringToLowestTerms 28 = .ok (.ldiv, 1) := by decide +kernel
theorem dqFo_bringToLowestTerms_29 : decode cqFo_bringToLowestTerms 29 = .ok (.putfield 13, 3) := by decide +kernel
theorem dqFo_bringToLowestTerms_32 : decode cqFo_bringToLowestTerms 32 = .ok (.return_, 1) := by decide +kernel
theorem dqIt_init_0 : decode cqIt_init 0 = .ok (.aload_n 0, 1) := by decide +kernel
theorem dqIt_init_1 : decode cqIt_init 1 = .ok (.invokespecial 3, 3) := by decide +kernel
theorem dqIt_init_4 : decode cqIt_init 4 = .ok (.aload_n 0, 1) := by decide +kernel
theorem dqIt_init_5 : decode cqIt_init 5 = .ok (.bipush 96, 2) := by decide +kernel
theorem dqIt_init_7 : decode cqIt_init 7 = .ok (.newarray .boolean, 2) := by decide +kernel
theorem dqIt_init_9 : decode cqIt_init 9 = .ok (.putfield 9, 3) := by decide +kernel
theorem dqIt_init_12 : decode cqIt_init 12 = .ok (.aload_n 0, 1) := by decide +kernel
theorem dqIt_init_13 : decode cqIt_init 13 = .ok (.bipush 96, 2) := by decide +kernel
theorem dqIt_init_15 : decode cqIt_init 15 = .ok (.newarray .int, 2) := by decide +kernel
theorem dqIt_init_17 : decode cqIt_init 17 = .ok (.putfield 15, 3) := by decide +kernel
theorem dqIt_init_20 : decode cqIt_init 20 = .ok (.aload_n 0, 1) := by decide +kernel
theorem dqIt_init_21 : decode cqIt_init 21 = .ok (.bipush 96, 2) := by decide +kernel
theorem dqIt_init_23 : decode cqIt_init 23 = .ok (.newarray .int, 2) := by decide +kernel
theorem dqIt_init_25 : decode cqIt_init 25 = .ok (.putfield 19, 3) := by decide +kernel
theorem dqIt_init_28 : decode cqIt_init 28 = .ok (.return_, 1) := by decide +kernel
theorem dqIt_seat_0 : decode cqIt_seat 0 = .ok (.iload_n 0, 1) := by decide +kernel
theorem dqIt_seat_1 : decode cqIt_seat 1 = .ok (.bipush 24, 2) := by decide +kernel
theorem dqIt_seat_3 : decode cqIt_seat 3 = .ok (.imul, 1) := by decide +kernel
theorem dqIt_seat_4 : decode cqIt_seat 4 = .ok (.iload_n 1, 1) := by decide +kernel
theorem dqIt_seat_5 : decode cqIt_seat 5 = .ok (.iadd, 1) := by decide +kernel
theorem dqIt_seat_6 : decode cqIt_seat 6 = .ok (.ireturn, 1) := by decide +kernel
theorem dqIt_have_0 : decode cqIt_have 0 = .ok (.aload_n 0, 1) := by decide +kernel
theorem dqIt_have_1 : decode cqIt_have 1 = .ok (.getfield 9, 3) := by decide +kernel
theorem dqIt_have_4 : decode cqIt_have 4 = .ok (.iload_n 1, 1) := by decide +kernel
theorem dqIt_have_5 : decode cqIt_have 5 = .ok (.iload_n 2, 1) := by decide +kernel
theorem dqIt_have_6 : decode cqIt_have 6 = .ok (.invokestatic 22, 3) := by decide +kernel
theorem dqIt_have_9 : decode cqIt_have 9 = .ok (.baload, 1) := by decide +kernel
theorem dqIt_have_10 : decode cqIt_have 10 = .ok (.ireturn, 1) := by decide +kernel
theorem dqIt_leftOf_0 : decode cqIt_leftOf 0 = .ok (.aload_n 0, 1) := by decide +kernel
theorem dqIt_leftOf_1 : decode cqIt_leftOf 1 = .ok (.getfield 15, 3) := by decide +kernel
theorem dqIt_leftOf_4 : decode cqIt_leftOf 4 = .ok (.iload_n 1, 1) := by decide +kernel
theorem dqIt_leftOf_5 : decode cqIt_leftOf 5 = .ok (.iload_n 2, 1) := by decide +kernel
theorem dqIt_leftOf_6 : decode cqIt_leftOf 6 = .ok (.invokestatic 22, 3) := by decide +kernel
theorem dqIt_leftOf_9 : decode cqIt_leftOf 9 = .ok (.iaload, 1) := by decide +kernel
theorem dqIt_leftOf_10 : decode cqIt_leftOf 10 = .ok (.ireturn, 1) := by decide +kernel
theorem dqIt_rightOf_0 : decode cqIt_rightOf 0 = .ok (.aload_n 0, 1) := by decide +kernel
theorem dqIt_rightOf_1 : decode cqIt_rightOf 1 = .ok (.getfield 19, 3) := by decide +kernel
theorem dqIt_rightOf_4 : decode cqIt_rightOf 4 = .ok (.iload_n 1, 1) := by decide +kernel
theorem dqIt_rightOf_5 : decode cqIt_rightOf 5 = .ok (.iload_n 2, 1) := by decide +kernel
theorem dqIt_rightOf_6 : decode cqIt_rightOf 6 = .ok (.invokestatic 22, 3) := by decide +kernel
theorem dqIt_rightOf_9 : decode cqIt_rightOf 9 = .ok (.iaload, 1) := by decide +kernel
theorem dqIt_rightOf_10 : decode cqIt_rightOf 10 = .ok (.ireturn, 1) := by decide +kernel
theorem dqIt_put_0 : decode cqIt_put 0 = .ok (.iload_n 1, 1) := by decide +kernel
theorem dqIt_put_1 : decode cqIt_put 1 = .ok (.iload_n 2, 1) := by decide +kernel
theorem dqIt_put_2 : decode cqIt_put 2 = .ok (.invokestatic 22, 3) := by decide +kernel
theorem dqIt_put_5 : decode cqIt_put 5 = .ok (.istore 5, 2) := by decide +kernel
theorem dqIt_put_7 : decode cqIt_put 7 = .ok (.aload_n 0, 1) := by decide +kernel
theorem dqIt_put_8 : decode cqIt_put 8 = .ok (.getfield 9, 3) := by decide +kernel
theorem dqIt_put_11 : decode cqIt_put 11 = .ok (.iload 5, 2) := by decide +kernel
theorem dqIt_put_13 : decode cqIt_put 13 = .ok (.baload, 1) := by decide +kernel
theorem dqIt_put_14 : decode cqIt_put 14 = .ok (.istore 6, 2) := by decide +kernel
theorem dqIt_put_16 : decode cqIt_put 16 = .ok (.aload_n 0, 1) := by decide +kernel
theorem dqIt_put_17 : decode cqIt_put 17 = .ok (.getfield 9, 3) := by decide +kernel
theorem dqIt_put_20 : decode cqIt_put 20 = .ok (.iload 5, 2) := by decide +kernel
theorem dqIt_put_22 : decode cqIt_put 22 = .ok (.iconst 1, 1) := by decide +kernel
theorem dqIt_put_23 : decode cqIt_put 23 = .ok (.bastore, 1) := by decide +kernel
theorem dqIt_put_24 : decode cqIt_put 24 = .ok (.aload_n 0, 1) := by decide +kernel
theorem dqIt_put_25 : decode cqIt_put 25 = .ok (.getfield 15, 3) := by decide +kernel
theorem dqIt_put_28 : decode cqIt_put 28 = .ok (.iload 5, 2) := by decide +kernel
theorem dqIt_put_30 : decode cqIt_put 30 = .ok (.iload_n 3, 1) := by decide +kernel
theorem dqIt_put_31 : decode cqIt_put 31 = .ok (.iastore, 1) := by decide +kernel
theorem dqIt_put_32 : decode cqIt_put 32 = .ok (.aload_n 0, 1) := by decide +kernel
theorem dqIt_put_33 : decode cqIt_put 33 = .ok (.getfield 19, 3) := by decide +kernel
theorem dqIt_put_36 : decode cqIt_put 36 = .ok (.iload 5, 2) := by decide +kernel
theorem dqIt_put_38 : decode cqIt_put 38 = .ok (.iload 4, 2) := by decide +kernel
theorem dqIt_put_40 : decode cqIt_put 40 = .ok (.iastore, 1) := by decide +kernel
theorem dqIt_put_41 : decode cqIt_put 41 = .ok (.iload 6, 2) := by decide +kernel
theorem dqIt_put_43 : decode cqIt_put 43 = .ok (.ireturn, 1) := by decide +kernel
theorem dqIt_take_0 : decode cqIt_take 0 = .ok (.aload_n 0, 1) := by decide +kernel
theorem dqIt_take_1 : decode cqIt_take 1 = .ok (.getfield 9, 3) := by decide +kernel
theorem dqIt_take_4 : decode cqIt_take 4 = .ok (.iload_n 1, 1) := by decide +kernel
theorem dqIt_take_5 : decode cqIt_take 5 = .ok (.iload_n 2, 1) := by decide +kernel
theorem dqIt_take_6 : decode cqIt_take 6 = .ok (.invokestatic 22, 3) := by decide +kernel
theorem dqIt_take_9 : decode cqIt_take 9 = .ok (.iconst 0, 1) := by decide +kernel
theorem dqIt_take_10 : decode cqIt_take 10 = .ok (.bastore, 1) := by decide +kernel
theorem dqIt_take_11 : decode cqIt_take 11 = .ok (.return_, 1) := by decide +kernel
theorem dqIt_takeAll_0 : decode cqIt_takeAll 0 = .ok (.iconst 0, 1) := by decide +kernel
theorem dqIt_takeAll_1 : decode cqIt_takeAll 1 = .ok (.istore_n 1, 1) := by decide +kernel
theorem dqIt_takeAll_2 : decode cqIt_takeAll 2 = .ok (.iload_n 1, 1) := by decide +kernel
theorem dqIt_takeAll_3 : decode cqIt_takeAll 3 = .ok (.aload_n 0, 1) := by decide +kernel
theorem dqIt_takeAll_4 : decode cqIt_takeAll 4 = .ok (.getfield 9, 3) := by decide +kernel
theorem dqIt_takeAll_7 : decode cqIt_takeAll 7 = .ok (.arraylength, 1) := by decide +kernel
theorem dqIt_takeAll_8 : decode cqIt_takeAll 8 = .ok (.if_icmp .ge 16, 3) := by decide +kernel
theorem dqIt_takeAll_11 : decode cqIt_takeAll 11 = .ok (.aload_n 0, 1) := by decide +kernel
theorem dqIt_takeAll_12 : decode cqIt_takeAll 12 = .ok (.getfield 9, 3) := by decide +kernel
theorem dqIt_takeAll_15 : decode cqIt_takeAll 15 = .ok (.iload_n 1, 1) := by decide +kernel
theorem dqIt_takeAll_16 : decode cqIt_takeAll 16 = .ok (.iconst 0, 1) := by decide +kernel
theorem dqIt_takeAll_17 : decode cqIt_takeAll 17 = .ok (.bastore, 1) := by decide +kernel
theorem dqIt_takeAll_18 : decode cqIt_takeAll 18 = .ok (.iinc 1 1, 3) := by decide +kernel
theorem dqIt_takeAll_21 : decode cqIt_takeAll 21 = .ok (.goto (-19), 3) := by decide +kernel
theorem dqIt_takeAll_24 : decode cqIt_takeAll 24 = .ok (.return_, 1) := by decide +kernel
theorem dqLi_init_0 : decode cqLi_init 0 = .ok (.aload_n 0, 1) := by decide +kernel
theorem dqLi_init_1 : decode cqLi_init 1 = .ok (.invokespecial 3, 3) := by decide +kernel
theorem dqLi_init_4 : decode cqLi_init 4 = .ok (.aload_n 0, 1) := by decide +kernel
theorem dqLi_init_5 : decode cqLi_init 5 = .ok (.bipush 24, 2) := by decide +kernel
theorem dqLi_init_7 : decode cqLi_init 7 = .ok (.newarray .long, 2) := by decide +kernel
theorem dqLi_init_9 : decode cqLi_init 9 = .ok (.putfield 9, 3) := by decide +kernel
theorem dqLi_init_12 : decode cqLi_init 12 = .ok (.aload_n 0, 1) := by decide +kernel
theorem dqLi_init_13 : decode cqLi_init 13 = .ok (.bipush 24, 2) := by decide +kernel
theorem dqLi_init_15 : decode cqLi_init 15 = .ok (.newarray .long, 2) := by decide +kernel
theorem dqLi_init_17 : decode cqLi_init 17 = .ok (.putfield 15, 3) := by decide +kernel
theorem dqLi_init_20 : decode cqLi_init 20 = .ok (.aload_n 0, 1) := by decide +kernel
theorem dqLi_init_21 : decode cqLi_init 21 = .ok (.new 18, 3) := by decide +kernel
theorem dqLi_init_24 : decode cqLi_init 24 = .ok (.dup, 1) := by decide +kernel
theorem dqLi_init_25 : decode cqLi_init 25 = .ok (.invokespecial 20, 3) := by decide +kernel
theorem dqLi_init_28 : decode cqLi_init 28 = .ok (.putfield 21, 3) := by decide +kernel
theorem dqLi_init_31 : decode cqLi_init 31 = .ok (.aload_n 0, 1) := by decide +kernel
theorem dqLi_init_32 : decode cqLi_init 32 = .ok (.iconst 0, 1) := by decide +kernel
theorem dqLi_init_33 : decode cqLi_init 33 = .ok (.putfield 25, 3) := by decide +kernel
theorem dqLi_init_36 : decode cqLi_init 36 = .ok (.aload_n 0, 1) := by decide +kernel
theorem dqLi_init_37 : decode cqLi_init 37 = .ok (.iconst 0, 1) := by decide +kernel
theorem dqLi_init_38 : decode cqLi_init 38 = .ok (.putfield 29, 3) := by decide +kernel
theorem dqLi_init_41 : decode cqLi_init 41 = .ok (.aload_n 0, 1) := by decide +kernel
theorem dqLi_init_42 : decode cqLi_init 42 = .ok (.lconst 0, 1) := by decide +kernel
theorem dqLi_init_43 : decode cqLi_init 43 = .ok (.putfield 32, 3) := by decide +kernel
theorem dqLi_init_46 : decode cqLi_init 46 = .ok (.return_, 1) := by decide +kernel
theorem dqLi_settle_0 : decode cqLi_settle 0 = .ok (.aload_n 0, 1) := by decide +kernel
theorem dqLi_settle_1 : decode cqLi_settle 1 = .ok (.iload_n 3, 1) := by decide +kernel
theorem dqLi_settle_2 : decode cqLi_settle 2 = .ok (.putfield 25, 3) := by decide +kernel
theorem dqLi_settle_5 : decode cqLi_settle 5 = .ok (.aload_n 0, 1) := by decide +kernel
theorem dqLi_settle_6 : decode cqLi_settle 6 = .ok (.iload 4, 2) := by decide +kernel
theorem dqLi_settle_8 : decode cqLi_settle 8 = .ok (.putfield 29, 3) := by decide +kernel
theorem dqLi_settle_11 : decode cqLi_settle 11 = .ok (.aload_n 0, 1) := by decide +kernel
theorem dqLi_settle_12 : decode cqLi_settle 12 = .ok (.getfield 25, 3) := by decide +kernel
theorem dqLi_settle_15 : decode cqLi_settle 15 = .ok (.istore 5, 2) := by decide +kernel
theorem dqLi_settle_17 : decode cqLi_settle 17 = .ok (.iload 5, 2) := by decide +kernel
theorem dqLi_settle_19 : decode cqLi_settle 19 = .ok (.aload_n 0, 1) := by decide +kernel
theorem dqLi_settle_20 : decode cqLi_settle 20 = .ok (.getfield 29, 3) := by decide +kernel
theorem dqLi_settle_23 : decode cqLi_settle 23 = .ok (.if_icmp .ge 40, 3) := by decide +kernel
theorem dqLi_settle_26 : decode cqLi_settle 26 = .ok (.aload_n 0, 1) := by decide +kernel
theorem dqLi_settle_27 : decode cqLi_settle 27 = .ok (.getfield 9, 3) := by decide +kernel
theorem dqLi_settle_30 : decode cqLi_settle 30 = .ok (.iload 5, 2) := by decide +kernel
theorem dqLi_settle_32 : decode cqLi_settle 32 = .ok (.aload_n 1, 1) := by decide +kernel
theorem dqLi_settle_33 : decode cqLi_settle 33 = .ok (.iload 5, 2) := by decide +kernel
theorem dqLi_settle_35 : decode cqLi_settle 35 = .ok (.invokevirtual 36, 3) := by decide +kernel
theorem dqLi_settle_38 : decode cqLi_settle 38 = .ok (.i2l, 1) := by decide +kernel
theorem dqLi_settle_39 : decode cqLi_settle 39 = .ok (.lastore, 1) := by decide +kernel
theorem dqLi_settle_40 : decode cqLi_settle 40 = .ok (.aload_n 0, 1) := by decide +kernel
theorem dqLi_settle_41 : decode cqLi_settle 41 = .ok (.getfield 15, 3) := by decide +kernel
theorem dqLi_settle_44 : decode cqLi_settle 44 = .ok (.iload 5, 2) := by decide +kernel
theorem dqLi_settle_46 : decode cqLi_settle 46 = .ok (.aload_n 1, 1) := by decide +kernel
theorem dqLi_settle_47 : decode cqLi_settle 47 = .ok (.aload_n 1, 1) := by decide +kernel
theorem dqLi_settle_48 : decode cqLi_settle 48 = .ok (.iload 5, 2) := by decide +kernel
theorem dqLi_settle_50 : decode cqLi_settle 50 = .ok (.invokevirtual 42, 3) := by decide +kernel
theorem dqLi_settle_53 : decode cqLi_settle 53 = .ok (.invokevirtual 45, 3) := by decide +kernel
theorem dqLi_settle_56 : decode cqLi_settle 56 = .ok (.lastore, 1) := by decide +kernel
theorem dqLi_settle_57 : decode cqLi_settle 57 = .ok (.iinc 5 1, 3) := by decide +kernel
theorem dqLi_settle_60 : decode cqLi_settle 60 = .ok (.goto (-43), 3) := by decide +kernel
theorem dqLi_settle_63 : decode cqLi_settle 63 = .ok (.iconst 0, 1) := by decide +kernel
theorem dqLi_settle_64 : decode cqLi_settle 64 = .ok (.istore 5, 2) := by decide +kernel
theorem dqLi_settle_66 : decode cqLi_settle 66 = .ok (.iload 5, 2) := by decide +kernel
theorem dqLi_settle_68 : decode cqLi_settle 68 = .ok (.aload_n 2, 1) := by decide +kernel
theorem dqLi_settle_69 : decode cqLi_settle 69 = .ok (.invokevirtual 49, 3) := by decide +kernel
theorem dqLi_settle_72 : decode cqLi_settle 72 = .ok (.if_icmp .ge 58, 3) := by decide +kernel
theorem dqLi_settle_75 : decode cqLi_settle 75 = .ok (.aload_n 2, 1) := by decide +kernel
theorem dqLi_settle_76 : decode cqLi_settle 76 = .ok (.iload 5, 2) := by decide +kernel
theorem dqLi_settle_78 : decode cqLi_settle 78 = .ok (.invokevirtual 55, 3) := by decide +kernel
theorem dqLi_settle_81 : decode cqLi_settle 81 = .ok (.aload_n 0, 1) := by decide +kernel
theorem dqLi_settle_82 : decode cqLi_settle 82 = .ok (.getfield 25, 3) := by decide +kernel
theorem dqLi_settle_85 : decode cqLi_settle 85 = .ok (.if_icmp .lt 39, 3) := by decide +kernel
theorem dqLi_settle_88 : decode cqLi_settle 88 = .ok (.aload_n 2, 1) := by decide +kernel
theorem dqLi_settle_89 : decode cqLi_settle 89 = .ok (.iload 5, 2) := by decide +kernel
theorem dqLi_settle_91 : decode cqLi_settle 91 = .ok (.invokevirtual 58, 3) := by decide +kernel
theorem dqLi_settle_94 : decode cqLi_settle 94 = .ok (.aload_n 0, 1) := by decide +kernel
theorem dqLi_settle_95 : decode cqLi_settle 95 = .ok (.getfield 29, 3) := by decide +kernel
theorem dqLi_settle_98 : decode cqLi_settle 98 = .ok (.if_icmp .gt 26, 3) := by decide +kernel
theorem dqLi_settle_101 : decode cqLi_settle 101 = .ok (.aload_n 0, 1) := by decide +kernel
theorem dqLi_settle_102 : decode cqLi_settle 102 = .ok (.aload_n 2, 1) := by decide +kernel
theorem dqLi_settle_103 : decode cqLi_settle 103 = .ok (.iload 5, 2) := by decide +kernel
theorem dqLi_settle_105 : decode cqLi_settle 105 = .ok (.invokevirtual 55, 3) := by decide +kernel
theorem dqLi_settle_108 : decode cqLi_settle 108 = .ok (.aload_n 2, 1) := by decide +kernel
theorem dqLi_settle_109 : decode cqLi_settle 109 = .ok (.iload 5, 2) := by decide +kernel
theorem dqLi_settle_111 : decode cqLi_settle 111 = .ok (.invokevirtual 58, 3) := by decide +kernel
theorem dqLi_settle_114 : decode cqLi_settle 114 = .ok (.aload_n 2, 1) := by decide +kernel
theorem dqLi_settle_115 : decode cqLi_settle 115 = .ok (.iload 5, 2) := by decide +kernel
theorem dqLi_settle_117 : decode cqLi_settle 117 = .ok (.invokevirtual 61, 3) := by decide +kernel
theorem dqLi_settle_120 : decode cqLi_settle 120 = .ok (.i2l, 1) := by decide +kernel
theorem dqLi_settle_121 : decode cqLi_settle 121 = .ok (.invokevirtual 64, 3) := by decide +kernel
theorem dqLi_settle_124 : decode cqLi_settle 124 = .ok (.iinc 5 1, 3) := by decide +kernel
theorem dqLi_settle_127 : decode cqLi_settle 127 = .ok (.goto (-61), 3) := by decide +kernel
theorem dqLi_settle_130 : decode cqLi_settle 130 = .ok (.return_, 1) := by decide +kernel
theorem dqLi_meet_0 : decode cqLi_meet 0 = .ok (.lload_n 3, 1) := by decide +kernel
theorem dqLi_meet_1 : decode cqLi_meet 1 = .ok (.aload_n 0, 1) := by decide +kernel
theorem dqLi_meet_2 : decode cqLi_meet 2 = .ok (.getfield 9, 3) := by decide +kernel
theorem dqLi_meet_5 : decode cqLi_meet 5 = .ok (.iload_n 1, 1) := by decide +kernel
theorem dqLi_meet_6 : decode cqLi_meet 6 = .ok (.iload_n 2, 1) := by decide +kernel
theorem dqLi_meet_7 : decode cqLi_meet 7 = .ok (.invokestatic 68, 3) := by decide +kernel
theorem dqLi_meet_10 : decode cqLi_meet 10 = .ok (.lsub, 1) := by decide +kernel
theorem dqLi_meet_11 : decode cqLi_meet 11 = .ok (.lstore 5, 2) := by decide +kernel
theorem dqLi_meet_13 : decode cqLi_meet 13 = .ok (.lload 5, 2) := by decide +kernel
theorem dqLi_meet_15 : decode cqLi_meet 15 = .ok (.lconst 0, 1) := by decide +kernel
theorem dqLi_meet_16 : decode cqLi_meet 16 = .ok (.lcmp, 1) := by decide +kernel
theorem dqLi_meet_17 : decode cqLi_meet 17 = .ok (.ifCond .gt 4, 3) := by decide +kernel
theorem dqLi_meet_20 : decode cqLi_meet 20 = .ok (.return_, 1) := by decide +kernel
theorem dqLi_meet_21 : decode cqLi_meet 21 = .ok (.aload_n 0, 1) := by decide +kernel
theorem dqLi_meet_22 : decode cqLi_meet 22 = .ok (.getfield 21, 3) := by decide +kernel
theorem dqLi_meet_25 : decode cqLi_meet 25 = .ok (.aload_n 0, 1) := by decide +kernel
theorem dqLi_meet_26 : decode cqLi_meet 26 = .ok (.getfield 9, 3) := by decide +kernel
theorem dqLi_meet_29 : decode cqLi_meet 29 = .ok (.aload_n 0, 1) := by decide +kernel
theorem dqLi_meet_30 : decode cqLi_meet 30 = .ok (.getfield 15, 3) := by decide +kernel
theorem dqLi_meet_33 : decode cqLi_meet 33 = .ok (.iload_n 1, 1) := by decide +kernel
theorem dqLi_meet_34 : decode cqLi_meet 34 = .ok (.iload_n 2, 1) := by decide +kernel
theorem dqLi_meet_35 : decode cqLi_meet 35 = .ok (.lload_n 3, 1) := by decide +kernel
theorem dqLi_meet_36 : decode cqLi_meet 36 = .ok (.invokevirtual 72, 3) := by decide +kernel
theorem dqLi_meet_39 : decode cqLi_meet 39 = .ok (.ifCond .ne 17, 3) := by decide +kernel
theorem dqLi_meet_42 : decode cqLi_meet 42 = .ok (.aload_n 0, 1) := by decide +kernel
theorem dqLi_meet_43 : decode cqLi_meet 43 = .ok (.getfield 9, 3) := by decide +kernel
theorem dqLi_meet_46 : decode cqLi_meet 46 = .ok (.iload_n 2, 1) := by decide +kernel
theorem dqLi_meet_47 : decode cqLi_meet 47 = .ok (.iconst 1, 1) := by decide +kernel
theorem dqLi_meet_48 : decode cqLi_meet 48 = .ok (.isub, 1) := by decide +kernel
theorem dqLi_meet_49 : decode cqLi_meet 49 = .ok (.dup2, 1) := by decide +kernel
theorem dqLi_meet_50 : decode cqLi_meet 50 = .ok (.laload, 1) := by decide +kernel
theorem dqLi_meet_51 : decode cqLi_meet 51 = .ok (.lload 5, 2) := by decide +kernel
theorem dqLi_meet_53 : decode cqLi_meet 53 = .ok (.ladd, 1) := by decide +kernel
theorem dqLi_meet_54 : decode cqLi_meet 54 = .ok (.lastore, 1) := by decide +kernel
theorem dqLi_meet_55 : decode cqLi_meet 55 = .ok (.return_, 1) := by decide +kernel
theorem dqLi_meet_56 : decode cqLi_meet 56 = .ok (.iload_n 1, 1) := by decide +kernel
theorem dqLi_meet_57 : decode cqLi_meet 57 = .ok (.istore 7, 2) := by decide +kernel
theorem dqLi_meet_59 : decode cqLi_meet 59 = .ok (.iload 7, 2) := by decide +kernel
theorem dqLi_meet_61 : decode cqLi_meet 61 = .ok (.iload_n 2, 1) := by decide +kernel
theorem dqLi_meet_62 : decode cqLi_meet 62 = .ok (.if_icmp .ge 55, 3) := by decide +kernel
theorem dqLi_meet_65 : decode cqLi_meet 65 = .ok (.aload_n 0, 1) := by decide +kernel
theorem dqLi_meet_66 : decode cqLi_meet 66 = .ok (.getfield 21, 3) := by decide +kernel
theorem dqLi_meet_69 : decode cqLi_meet 69 = .ok (.invokevirtual 76, 3) := by decide +kernel
theorem dqLi_meet_72 : decode cqLi_meet 72 = .ok (.aload_n 0, 1) := by decide +kernel
theorem dqLi_meet_73 : decode cqLi_meet 73 = .ok (.getfield 15, 3) := by decide +kernel
theorem dqLi_meet_76 : decode cqLi_meet 76 = .ok (.iload 7, 2) := by decide +kernel
theorem dqLi_meet_78 : decode cqLi_meet 78 = .ok (.laload, 1) := by decide +kernel
theorem dqLi_meet_79 : decode cqLi_meet 79 = .ok (.lmul, 1) := by decide +kernel
theorem dqLi_meet_80 : decode cqLi_meet 80 = .ok (.aload_n 0, 1) := by decide +kernel
theorem dqLi_meet_81 : decode cqLi_meet 81 = .ok (.getfield 21, 3) := by decide +kernel
theorem dqLi_meet_84 : decode cqLi_meet 84 = .ok (.invokevirtual 80, 3) := by decide +kernel
theorem dqLi_meet_87 : decode cqLi_meet 87 = .ok (.invokestatic 83, 3) := by decide +kernel
theorem dqLi_meet_90 : decode cqLi_meet 90 = .ok (.lstore 8, 2) := by decide +kernel
theorem dqLi_meet_92 : decode cqLi_meet 92 = .ok (.aload_n 0, 1) := by decide +kernel
theorem dqLi_meet_93 : decode cqLi_meet 93 = .ok (.getfield 9, 3) := by decide +kernel
theorem dqLi_meet_96 : decode cqLi_meet 96 = .ok (.iload 7, 2) := by decide +kernel
theorem dqLi_meet_98 : decode cqLi_meet 98 = .ok (.aload_n 0, 1) := by decide +kernel
theorem dqLi_meet_99 : decode cqLi_meet 99 = .ok (.getfield 9, 3) := by decide +kernel
theorem dqLi_meet_102 : decode cqLi_meet 102 = .ok (.iload 7, 2) := by decide +kernel
theorem dqLi_meet_104 : decode cqLi_meet 104 = .ok (.laload, 1) := by decide +kernel
theorem dqLi_meet_105 : decode cqLi_meet 105 = .ok (.lload 8, 2) := by decide +kernel
theorem dqLi_meet_107 : decode cqLi_meet 107 = .ok (.invokestatic 87, 3) := by decide +kernel
theorem dqLi_meet_110 : decode cqLi_meet 110 = .ok (.lastore, 1) := by decide +kernel
theorem dqLi_meet_111 : decode cqLi_meet 111 = .ok (.iinc 7 1, 3) := by decide +kernel
theorem dqLi_meet_114 : decode cqLi_meet 114 = .ok (.goto (-55), 3) := by decide +kernel
theorem dqLi_meet_117 : decode cqLi_meet 117 = .ok (.return_, 1) := by decide +kernel
theorem dqLi_stretch_0 : decode cqLi_stretch 0 = .ok (.aload_n 0, 1) := by decide +kernel
theorem dqLi_stretch_1 : decode cqLi_stretch 1 = .ok (.getfield 21, 3) := by decide +kernel
theorem dqLi_stretch_4 : decode cqLi_stretch 4 = .ok (.aload_n 0, 1) := by decide +kernel
theorem dqLi_stretch_5 : decode cqLi_stretch 5 = .ok (.getfield 9, 3) := by decide +kernel
theorem dqLi_stretch_8 : decode cqLi_stretch 8 = .ok (.aload_n 0, 1) := by decide +kernel
theorem dqLi_stretch_9 : decode cqLi_stretch 9 = .ok (.getfield 15, 3) := by decide +kernel
theorem dqLi_stretch_12 : decode cqLi_stretch 12 = .ok (.aload_n 0, 1) := by decide +kernel
theorem dqLi_stretch_13 : decode cqLi_stretch 13 = .ok (.getfield 25, 3) := by decide +kernel
theorem dqLi_stretch_16 : decode cqLi_stretch 16 = .ok (.aload_n 0, 1) := by decide +kernel
theorem dqLi_stretch_17 : decode cqLi_stretch 17 = .ok (.getfield 29, 3) := by decide +kernel
theorem dqLi_stretch_20 : decode cqLi_stretch 20 = .ok (.iload_n 1, 1) := by decide +kernel
theorem dqLi_stretch_21 : decode cqLi_stretch 21 = .ok (.i2l, 1) := by decide +kernel
theorem dqLi_stretch_22 : decode cqLi_stretch 22 = .ok (.invokevirtual 72, 3) := by decide +kernel
theorem dqLi_stretch_25 : decode cqLi_stretch 25 = .ok (.istore_n 2, 1) := by decide +kernel
theorem dqLi_stretch_26 : decode cqLi_stretch 26 = .ok (.aload_n 0, 1) := by decide +kernel
theorem dqLi_stretch_27 : decode cqLi_stretch 27 = .ok (.getfield 21, 3) := by decide +kernel
theorem dqLi_stretch_30 : decode cqLi_stretch 30 = .ok (.invokevirtual 92, 3) := by decide +kernel
theorem dqLi_stretch_33 : decode cqLi_stretch 33 = .ok (.aload_n 0, 1) := by decide +kernel
theorem dqLi_stretch_34 : decode cqLi_stretch 34 = .ok (.lconst 0, 1) := by decide +kernel
theorem dqLi_stretch_35 : decode cqLi_stretch 35 = .ok (.aload_n 0, 1) := by decide +kernel
theorem dqLi_stretch_36 : decode cqLi_stretch 36 = .ok (.invokevirtual 95, 3) := by decide +kernel
theorem dqLi_stretch_39 : decode cqLi_stretch 39 = .ok (.iload_n 1, 1) := by decide +kernel
theorem dqLi_stretch_40 : decode cqLi_stretch 40 = .ok (.i2l, 1) := by decide +kernel
theorem dqLi_stretch_41 : decode cqLi_stretch 41 = .ok (.lsub, 1) := by decide +kernel
theorem dqLi_stretch_42 : decode cqLi_stretch 42 = .ok (.invokestatic 87, 3) := by decide +kernel
theorem dqLi_stretch_45 : decode cqLi_stretch 45 = .ok (.putfield 32, 3) := by decide +kernel
theorem dqLi_stretch_48 : decode cqLi_stretch 48 = .ok (.aload_n 0, 1) := by decide +kernel
theorem dqLi_stretch_49 : decode cqLi_stretch 49 = .ok (.getfield 32, 3) := by decide +kernel
theorem dqLi_stretch_52 : decode cqLi_stretch 52 = .ok (.lconst 0, 1) := by decide +kernel
theorem dqLi_stretch_53 : decode cqLi_stretch 53 = .ok (.lcmp, 1) := by decide +kernel
theorem dqLi_stretch_54 : decode cqLi_stretch 54 = .ok (.ifCond .le 5, 3) := by decide +kernel
theorem dqLi_stretch_57 : decode cqLi_stretch 57 = .ok (.iconst 1, 1) := by decide +kernel
theorem dqLi_stretch_58 : decode cqLi_stretch 58 = .ok (.ireturn, 1) := by decide +kernel
theorem dqLi_stretch_59 : decode cqLi_stretch 59 = .ok (.iload_n 2, 1) := by decide +kernel
theorem dqLi_stretch_60 : decode cqLi_stretch 60 = .ok (.ifCond .eq 7, 3) := by decide +kernel
theorem dqLi_stretch_63 : decode cqLi_stretch 63 = .ok (.iconst 0, 1) := by decide +kernel
theorem dqLi_stretch_64 : decode cqLi_stretch 64 = .ok (.goto 4, 3) := by decide +kernel
theorem dqLi_stretch_67 : decode cqLi_stretch 67 = .ok (.iconst 2, 1) := by decide +kernel
theorem dqLi_stretch_68 : decode cqLi_stretch 68 = .ok (.ireturn, 1) := by decide +kernel
theorem dqLi_sumOfLeasts_0 : decode cqLi_sumOfLeasts 0 = .ok (.aload_n 0, 1) := by decide +kernel
theorem dqLi_sumOfLeasts_1 : decode cqLi_sumOfLeasts 1 = .ok (.getfield 9, 3) := by decide +kernel
theorem dqLi_sumOfLeasts_4 : decode cqLi_sumOfLeasts 4 = .ok (.aload_n 0, 1) := by decide +kernel
theorem dqLi_sumOfLeasts_5 : decode cqLi_sumOfLeasts 5 = .ok (.getfield 25, 3) := by decide +kernel
theorem dqLi_sumOfLeasts_8 : decode cqLi_sumOfLeasts 8 = .ok (.aload_n 0, 1) := by decide +kernel
theorem dqLi_sumOfLeasts_9 : decode cqLi_sumOfLeasts 9 = .ok (.getfield 29, 3) := by decide +kernel
theorem dqLi_sumOfLeasts_12 : decode cqLi_sumOfLeasts 12 = .ok (.invokestatic 68, 3) := by decide +kernel
theorem dqLi_sumOfLeasts_15 : decode cqLi_sumOfLeasts 15 = .ok (.lreturn, 1) := by decide +kernel
theorem dqLi_naturalWidth_0 : decode cqLi_naturalWidth 0 = .ok (.lconst 0, 1) := by decide +kernel
theorem dqLi_naturalWidth_1 : decode cqLi_naturalWidth 1 = .ok (.lstore_n 1, 1) := by decide +kernel
theorem dqLi_naturalWidth_2 : decode cqLi_naturalWidth 2 = .ok (.aload_n 0, 1) := by decide +kernel
theorem dqLi_naturalWidth_3 : decode cqLi_naturalWidth 3 = .ok (.getfield 25, 3) := by decide +kernel
theorem dqLi_naturalWidth_6 : decode cqLi_naturalWidth 6 = .ok (.istore_n 3, 1) := by decide +kernel
theorem dqLi_naturalWidth_7 : decode cqLi_naturalWidth 7 = .ok (.iload_n 3, 1) := by decide +kernel
theorem dqLi_naturalWidth_8 : decode cqLi_naturalWidth 8 = .ok (.aload_n 0, 1) := by decide +kernel
theorem dqLi_naturalWidth_9 : decode cqLi_naturalWidth 9 = .ok (.getfield 29, 3) := by decide +kernel
theorem dqLi_naturalWidth_12 : decode cqLi_naturalWidth 12 = .ok (.if_icmp .ge 31, 3) := by decide +kernel
theorem dqLi_naturalWidth_15 : decode cqLi_naturalWidth 15 = .ok (.lload_n 1, 1) := by decide +kernel
theorem dqLi_naturalWidth_16 : decode cqLi_naturalWidth 16 = .ok (.aload_n 0, 1) := by decide +kernel
theorem dqLi_naturalWidth_17 : decode cqLi_naturalWidth 17 = .ok (.getfield 9, 3) := by decide +kernel
theorem dqLi_naturalWidth_20 : decode cqLi_naturalWidth 20 = .ok (.iload_n 3, 1) := by decide +kernel
theorem dqLi_naturalWidth_21 : decode cqLi_naturalWidth 21 = .ok (.laload, 1) := by decide +kernel
theorem dqLi_naturalWidth_22 : decode cqLi_naturalWidth 22 = .ok (.aload_n 0, 1) := by decide +kernel
theorem dqLi_naturalWidth_23 : decode cqLi_naturalWidth 23 = .ok (.getfield 15, 3) := by decide +kernel
theorem dqLi_naturalWidth_26 : decode cqLi_naturalWidth 26 = .ok (.iload_n 3, 1) := by decide +kernel
theorem dqLi_naturalWidth_27 : decode cqLi_naturalWidth 27 = .ok (.laload, 1) := by decide +kernel
theorem dqLi_naturalWidth_28 : decode cqLi_naturalWidth 28 = .ok (.ldc2_w 98, 3) := by decide +kernel
theorem dqLi_naturalWidth_31 : decode cqLi_naturalWidth 31 = .ok (.ldiv, 1) := by decide +kernel
theorem dqLi_naturalWidth_32 : decode cqLi_naturalWidth 32 = .ok (.invokestatic 87, 3) := by decide +kernel
theorem dqLi_naturalWidth_35 : decode cqLi_naturalWidth 35 = .ok (.ladd, 1) := by decide +kernel
theorem dqLi_naturalWidth_36 : decode cqLi_naturalWidth 36 = .ok (.lstore_n 1, 1) := by decide +kernel
theorem dqLi_naturalWidth_37 : decode cqLi_naturalWidth 37 = .ok (.iinc 3 1, 3) := by decide +kernel
theorem dqLi_naturalWidth_40 : decode cqLi_naturalWidth 40 = .ok (.goto (-33), 3) := by decide +kernel
theorem dqLi_naturalWidth_43 : decode cqLi_naturalWidth 43 = .ok (.lload_n 1, 1) := by decide +kernel
theorem dqLi_naturalWidth_44 : decode cqLi_naturalWidth 44 = .ok (.lreturn, 1) := by decide +kernel
theorem dqLi_hasGap_0 : decode cqLi_hasGap 0 = .ok (.iload_n 1, 1) := by decide +kernel
theorem dqLi_hasGap_1 : decode cqLi_hasGap 1 = .ok (.aload_n 0, 1) := by decide +kernel
theorem dqLi_hasGap_2 : decode cqLi_hasGap 2 = .ok (.getfield 25, 3) := by decide +kernel
theorem dqLi_hasGap_5 : decode cqLi_hasGap 5 = .ok (.aload_n 0, 1) := by decide +kernel
theorem dqLi_hasGap_6 : decode cqLi_hasGap 6 = .ok (.getfield 29, 3) := by decide +kernel
theorem dqLi_hasGap_9 : decode cqLi_hasGap 9 = .ok (.iconst 1, 1) := by decide +kernel
theorem dqLi_hasGap_10 : decode cqLi_hasGap 10 = .ok (.isub, 1) := by decide +kernel
theorem dqLi_hasGap_11 : decode cqLi_hasGap 11 = .ok (.invokestatic 100, 3) := by decide +kernel
theorem dqLi_hasGap_14 : decode cqLi_hasGap 14 = .ok (.ireturn, 1) := by decide +kernel
theorem dqLi_hasColumn_0 : decode cqLi_hasColumn 0 = .ok (.iload_n 1, 1) := by decide +kernel
theorem dqLi_hasColumn_1 : decode cqLi_hasColumn 1 = .ok (.aload_n 0, 1) := by decide +kernel
theorem dqLi_hasColumn_2 : decode cqLi_hasColumn 2 = .ok (.getfield 25, 3) := by decide +kernel
theorem dqLi_hasColumn_5 : decode cqLi_hasColumn 5 = .ok (.aload_n 0, 1) := by decide +kernel
theorem dqLi_hasColumn_6 : decode cqLi_hasColumn 6 = .ok (.getfield 29, 3) := by decide +kernel
theorem dqLi_hasColumn_9 : decode cqLi_hasColumn 9 = .ok (.invokestatic 100, 3) := by decide +kernel
theorem dqLi_hasColumn_12 : decode cqLi_hasColumn 12 = .ok (.ireturn, 1) := by decide +kernel
theorem dqLi_spans_0 : decode cqLi_spans 0 = .ok (.iload_n 2, 1) := by decide +kernel
theorem dqLi_spans_1 : decode cqLi_spans 1 = .ok (.aload_n 1, 1) := by decide +kernel
theorem dqLi_spans_2 : decode cqLi_spans 2 = .ok (.aload_n 0, 1) := by decide +kernel
theorem dqLi_spans_3 : decode cqLi_spans 3 = .ok (.getfield 25, 3) := by decide +kernel
theorem dqLi_spans_6 : decode cqLi_spans 6 = .ok (.invokevirtual 104, 3) := by decide +kernel
theorem dqLi_spans_9 : decode cqLi_spans 9 = .ok (.aload_n 1, 1) := by decide +kernel
theorem dqLi_spans_10 : decode cqLi_spans 10 = .ok (.aload_n 0, 1) := by decide +kernel
theorem dqLi_spans_11 : decode cqLi_spans 11 = .ok (.getfield 29, 3) := by decide +kernel
theorem dqLi_spans_14 : decode cqLi_spans 14 = .ok (.invokevirtual 104, 3) := by decide +kernel
theorem dqLi_spans_17 : decode cqLi_spans 17 = .ok (.invokestatic 100, 3) := by decide +kernel
theorem dqLi_spans_20 : decode cqLi_spans 20 = .ok (.ireturn, 1) := by decide +kernel
theorem dqLi_excess_0 : decode cqLi_excess 0 = .ok (.aload_n 0, 1) := by decide +kernel
theorem dqLi_excess_1 : decode cqLi_excess 1 = .ok (.getfield 32, 3) := by decide +kernel
theorem dqLi_excess_4 : decode cqLi_excess 4 = .ok (.l2i, 1) := by decide +kernel
theorem dqLi_excess_5 : decode cqLi_excess 5 = .ok (.ireturn, 1) := by decide +kernel
theorem dqLi_leastOf_0 : decode cqLi_leastOf 0 = .ok (.aload_n 0, 1) := by decide +kernel
theorem dqLi_leastOf_1 : decode cqLi_leastOf 1 = .ok (.getfield 9, 3) := by decide +kernel
theorem dqLi_leastOf_4 : decode cqLi_leastOf 4 = .ok (.iload_n 1, 1) := by decide +kernel
theorem dqLi_leastOf_5 : decode cqLi_leastOf 5 = .ok (.laload, 1) := by decide +kernel
theorem dqLi_leastOf_6 : decode cqLi_leastOf 6 = .ok (.l2i, 1) := by decide +kernel
theorem dqLi_leastOf_7 : decode cqLi_leastOf 7 = .ok (.ireturn, 1) := by decide +kernel
theorem dqLi_forcePart_0 : decode cqLi_forcePart 0 = .ok (.iload_n 1, 1) := by decide +kernel
theorem dqLi_forcePart_1 : decode cqLi_forcePart 1 = .ok (.ifCond .ne 13, 3) := by decide +kernel
theorem dqLi_forcePart_4 : decode cqLi_forcePart 4 = .ok (.aload_n 0, 1) := by decide +kernel
theorem dqLi_forcePart_5 : decode cqLi_forcePart 5 = .ok (.getfield 21, 3) := by decide +kernel
theorem dqLi_forcePart_8 : decode cqLi_forcePart 8 = .ok (.invokevirtual 76, 3) := by decide +kernel
theorem dqLi_forcePart_11 : decode cqLi_forcePart 11 = .ok (.goto 10, 3) := by decide +kernel
theorem dqLi_forcePart_14 : decode cqLi_forcePart 14 = .ok (.aload_n 0, 1) := by decide +kernel
theorem dqLi_forcePart_15 : decode cqLi_forcePart 15 = .ok (.getfield 21, 3) := by decide +kernel
theorem dqLi_forcePart_18 : decode cqLi_forcePart 18 = .ok (.invokevirtual 80, 3) := by decide +kernel
theorem dqLi_forcePart_21 : decode cqLi_forcePart 21 = .ok (.lreturn, 1) := by decide +kernel
theorem dqLi_widthPart_0 : decode cqLi_widthPart 0 = .ok (.aload_n 0, 1) := by decide +kernel
theorem dqLi_widthPart_1 : decode cqLi_widthPart 1 = .ok (.iload_n 1, 1) := by decide +kernel
theorem dqLi_widthPart_2 : decode cqLi_widthPart 2 = .ok (.invokevirtual 107, 3) := by decide +kernel
theorem dqLi_widthPart_5 : decode cqLi_widthPart 5 = .ok (.lstore_n 3, 1) := by decide +kernel
theorem dqLi_widthPart_6 : decode cqLi_widthPart 6 = .ok (.aload_n 0, 1) := by decide +kernel
theorem dqLi_widthPart_7 : decode cqLi_widthPart 7 = .ok (.getfield 21, 3) := by decide +kernel
theorem dqLi_widthPart_10 : decode cqLi_widthPart 10 = .ok (.invokevirtual 80, 3) := by decide +kernel
theorem dqLi_widthPart_13 : decode cqLi_widthPart 13 = .ok (.lstore 5, 2) := by decide +kernel
theorem dqLi_widthPart_15 : decode cqLi_widthPart 15 = .ok (.iload_n 2, 1) := by decide +kernel
theorem dqLi_widthPart_16 : decode cqLi_widthPart 16 = .ok (.ifCond .ne 7, 3) := by decide +kernel
theorem dqLi_widthPart_19 : decode cqLi_widthPart 19 = .ok (.lload_n 3, 1) := by decide +kernel
theorem dqLi_widthPart_20 : decode cqLi_widthPart 20 = .ok (.goto 5, 3) := by decide +kernel
theorem dqLi_widthPart_23 : decode cqLi_widthPart 23 = .ok (.lload 5, 2) := by decide +kernel
theorem dqLi_widthPart_25 : decode cqLi_widthPart 25 = .ok (.lload_n 3, 1) := by decide +kernel
theorem dqLi_widthPart_26 : decode cqLi_widthPart 26 = .ok (.lload 5, 2) := by decide +kernel
theorem dqLi_widthPart_28 : decode cqLi_widthPart 28 = .ok (.invokestatic 110, 3) := by decide +kernel
theorem dqLi_widthPart_31 : decode cqLi_widthPart 31 = .ok (.ldiv, 1) := by decide +kernel
theorem dqLi_widthPart_32 : decode cqLi_widthPart 32 = .ok (.lreturn, 1) := by decide +kernel
theorem dqLi_placeOf_0 : decode cqLi_placeOf 0 = .ok (.aload_n 0, 1) := by decide +kernel
theorem dqLi_placeOf_1 : decode cqLi_placeOf 1 = .ok (.iload_n 1, 1) := by decide +kernel
theorem dqLi_placeOf_2 : decode cqLi_placeOf 2 = .ok (.invokevirtual 113, 3) := by decide +kernel
theorem dqLi_placeOf_5 : decode cqLi_placeOf 5 = .ok (.aload_n 0, 1) := by decide +kernel
theorem dqLi_placeOf_6 : decode cqLi_placeOf 6 = .ok (.getfield 21, 3) := by decide +kernel
theorem dqLi_placeOf_9 : decode cqLi_placeOf 9 = .ok (.invokevirtual 80, 3) := by decide +kernel
theorem dqLi_placeOf_12 : decode cqLi_placeOf 12 = .ok (.invokestatic 116, 3) := by decide +kernel
theorem dqLi_placeOf_15 : decode cqLi_placeOf 15 = .ok (.l2i, 1) := by decide +kernel
theorem dqLi_placeOf_16 : decode cqLi_placeOf 16 = .ok (.ireturn, 1) := by decide +kernel
theorem dqLi_placeAt_0 : decode cqLi_placeAt 0 = .ok (.aload_n 0, 1) := by decide +kernel
theorem dqLi_placeAt_1 : decode cqLi_placeAt 1 = .ok (.getfield 25, 3) := by decide +kernel
theorem dqLi_placeAt_4 : decode cqLi_placeAt 4 = .ok (.istore_n 3, 1) := by decide +kernel
theorem dqLi_placeAt_5 : decode cqLi_placeAt 5 = .ok (.iload_n 3, 1) := by decide +kernel
theorem dqLi_placeAt_6 : decode cqLi_placeAt 6 = .ok (.iconst 1, 1) := by decide +kernel
theorem dqLi_placeAt_7 : decode cqLi_placeAt 7 = .ok (.iadd, 1) := by decide +kernel
theorem dqLi_placeAt_8 : decode cqLi_placeAt 8 = .ok (.aload_n 0, 1) := by decide +kernel
theorem dqLi_placeAt_9 : decode cqLi_placeAt 9 = .ok (.getfield 29, 3) := by decide +kernel
theorem dqLi_placeAt_12 : decode cqLi_placeAt 12 = .ok (.if_icmp .ge 20, 3) := by decide +kernel
theorem dqLi_placeAt_15 : decode cqLi_placeAt 15 = .ok (.aload_n 1, 1) := by decide +kernel
theorem dqLi_placeAt_16 : decode cqLi_placeAt 16 = .ok (.iload_n 3, 1) := by decide +kernel
theorem dqLi_placeAt_17 : decode cqLi_placeAt 17 = .ok (.iconst 1, 1) := by decide +kernel
theorem dqLi_placeAt_18 : decode cqLi_placeAt 18 = .ok (.iadd, 1) := by decide +kernel
theorem dqLi_placeAt_19 : decode cqLi_placeAt 19 = .ok (.invokevirtual 104, 3) := by decide +kernel
theorem dqLi_placeAt_22 : decode cqLi_placeAt 22 = .ok (.iload_n 2, 1) := by decide +kernel
theorem dqLi_placeAt_23 : decode cqLi_placeAt 23 = .ok (.if_icmp .gt 9, 3) := by decide +kernel
theorem dqLi_placeAt_26 : decode cqLi_placeAt 26 = .ok (.iinc 3 1, 3) := by decide +kernel
theorem dqLi_placeAt_29 : decode cqLi_placeAt 29 = .ok (.goto (-24), 3) := by decide +kernel
theorem dqLi_placeAt_32 : decode cqLi_placeAt 32 = .ok (.aload_n 1, 1) := by decide +kernel
theorem dqLi_placeAt_33 : decode cqLi_placeAt 33 = .ok (.iload_n 3, 1) := by decide +kernel
theorem dqLi_placeAt_34 : decode cqLi_placeAt 34 = .ok (.invokevirtual 42, 3) := by decide +kernel
theorem dqLi_placeAt_37 : decode cqLi_placeAt 37 = .ok (.i2l, 1) := by decide +kernel
theorem dqLi_placeAt_38 : decode cqLi_placeAt 38 = .ok (.lstore 4, 2) := by decide +kernel
theorem dqLi_placeAt_40 : decode cqLi_placeAt 40 = .ok (.iload_n 2, 1) := by decide +kernel
theorem dqLi_placeAt_41 : decode cqLi_placeAt 41 = .ok (.aload_n 1, 1) := by decide +kernel
theorem dqLi_placeAt_42 : decode cqLi_placeAt 42 = .ok (.iload_n 3, 1) := by decide +kernel
theorem dqLi_placeAt_43 : decode cqLi_placeAt 43 = .ok (.invokevirtual 104, 3) := by decide +kernel
theorem dqLi_placeAt_46 : decode cqLi_placeAt 46 = .ok (.isub, 1) := by decide +kernel
theorem dqLi_placeAt_47 : decode cqLi_placeAt 47 = .ok (.i2l, 1) := by decide +kernel
theorem dqLi_placeAt_48 : decode cqLi_placeAt 48 = .ok (.lstore 6, 2) := by decide +kernel
theorem dqLi_placeAt_50 : decode cqLi_placeAt 50 = .ok (.aload_n 0, 1) := by decide +kernel
theorem dqLi_placeAt_51 : decode cqLi_placeAt 51 = .ok (.iload_n 3, 1) := by decide +kernel
theorem dqLi_placeAt_52 : decode cqLi_placeAt 52 = .ok (.invokevirtual 113, 3) := by decide +kernel
theorem dqLi_placeAt_55 : decode cqLi_placeAt 55 = .ok (.lload 4, 2) := by decide +kernel
theorem dqLi_placeAt_57 : decode cqLi_placeAt 57 = .ok (.lmul, 1) := by decide +kernel
theorem dqLi_placeAt_58 : decode cqLi_placeAt 58 = .ok (.aload_n 0, 1) := by decide +kernel
theorem dqLi_placeAt_59 : decode cqLi_placeAt 59 = .ok (.iload_n 3, 1) := by decide +kernel
theorem dqLi_placeAt_60 : decode cqLi_placeAt 60 = .ok (.invokevirtual 107, 3) := by decide +kernel
theorem dqLi_placeAt_63 : decode cqLi_placeAt 63 = .ok (.lload 6, 2) := by decide +kernel
theorem dqLi_placeAt_65 : decode cqLi_placeAt 65 = .ok (.lmul, 1) := by decide +kernel
theorem dqLi_placeAt_66 : decode cqLi_placeAt 66 = .ok (.ladd, 1) := by decide +kernel
theorem dqLi_placeAt_67 : decode cqLi_placeAt 67 = .ok (.lstore 8, 2) := by decide +kernel
theorem dqLi_placeAt_69 : decode cqLi_placeAt 69 = .ok (.lload 8, 2) := by decide +kernel
theorem dqLi_placeAt_71 : decode cqLi_placeAt 71 = .ok (.aload_n 0, 1) := by decide +kernel
theorem dqLi_placeAt_72 : decode cqLi_placeAt 72 = .ok (.getfield 21, 3) := by decide +kernel
theorem dqLi_placeAt_75 : decode cqLi_placeAt 75 = .ok (.invokevirtual 80, 3) := by decide +kernel
theorem dqLi_placeAt_78 : decode cqLi_placeAt 78 = .ok (.lload 4, 2) := by decide +kernel
theorem dqLi_placeAt_80 : decode cqLi_placeAt 80 = .ok (.lmul, 1) := by decide +kernel
theorem dqLi_placeAt_81 : decode cqLi_placeAt 81 = .ok (.invokestatic 116, 3) := by decide +kernel
theorem dqLi_placeAt_84 : decode cqLi_placeAt 84 = .ok (.l2i, 1) := by decide +kernel
theorem dqLi_placeAt_85 : decode cqLi_placeAt 85 = .ok (.ireturn, 1) := by decide +kernel
theorem dqLi_widthAbove_0 : decode cqLi_widthAbove 0 = .ok (.aload_n 0, 1) := by decide +kernel
theorem dqLi_widthAbove_1 : decode cqLi_widthAbove 1 = .ok (.getfield 9, 3) := by decide +kernel
theorem dqLi_widthAbove_4 : decode cqLi_widthAbove 4 = .ok (.iload_n 1, 1) := by decide +kernel
theorem dqLi_widthAbove_5 : decode cqLi_widthAbove 5 = .ok (.laload, 1) := by decide +kernel
theorem dqLi_widthAbove_6 : decode cqLi_widthAbove 6 = .ok (.aload_n 0, 1) := by decide +kernel
theorem dqLi_widthAbove_7 : decode cqLi_widthAbove 7 = .ok (.getfield 21, 3) := by decide +kernel
theorem dqLi_widthAbove_10 : decode cqLi_widthAbove 10 = .ok (.invokevirtual 80, 3) := by decide +kernel
theorem dqLi_widthAbove_13 : decode cqLi_widthAbove 13 = .ok (.lmul, 1) := by decide +kernel
theorem dqLi_widthAbove_14 : decode cqLi_widthAbove 14 = .ok (.aload_n 0, 1) := by decide +kernel
theorem dqLi_widthAbove_15 : decode cqLi_widthAbove 15 = .ok (.getfield 21, 3) := by decide +kernel
theorem dqLi_widthAbove_18 : decode cqLi_widthAbove 18 = .ok (.invokevirtual 76, 3) := by decide +kernel
theorem dqLi_widthAbove_21 : decode cqLi_widthAbove 21 = .ok (.aload_n 0, 1) := by decide +kernel
theorem dqLi_widthAbove_22 : decode cqLi_widthAbove 22 = .ok (.getfield 15, 3) := by decide +kernel
theorem dqLi_widthAbove_25 : decode cqLi_widthAbove 25 = .ok (.iload_n 1, 1) := by decide +kernel
theorem dqLi_widthAbove_26 : decode cqLi_widthAbove 26 = .ok (.laload, 1) := by decide +kernel
theorem dqLi_widthAbove_27 : decode cqLi_widthAbove 27 = .ok (.lmul, 1) := by decide +kernel
theorem dqLi_widthAbove_28 : decode cqLi_widthAbove 28 = .ok (.invokestatic 87, 3) := by decide +kernel
theorem dqLi_widthAbove_31 : decode cqLi_widthAbove 31 = .ok (.lreturn, 1) := by decide +kernel
theorem dqLi_widthsAboveBefore_0 : decode cqLi_widthsAboveBefore 0 = .ok (.lconst 0, 1) := by decide +kernel
theorem dqLi_widthsAboveBefore_1 : decode cqLi_widthsAboveBefore 1 = .ok (.lstore_n 2, 1) := by decide +kernel
theorem dqLi_widthsAboveBefore_2 : decode cqLi_widthsAboveBefore 2 = .ok (.aload_n 0, 1) := by decide +kernel
theorem dqLi_widthsAboveBefore_3 : decode cqLi_widthsAboveBefore 3 = .ok (.getfield 25, 3) := by decide +kernel
theorem dqLi_widthsAboveBefore_6 : decode cqLi_widthsAboveBefore 6 = .ok (.istore 4, 2) := by decide +kernel
theorem dqLi_widthsAboveBefore_8 : decode cqLi_widthsAboveBefore 8 = .ok (.iload 4, 2) := by decide +kernel
theorem dqLi_widthsAboveBefore_10 : decode cqLi_widthsAboveBefore 10 = .ok (.iload_n 1, 1) := by decide +kernel
theorem dqLi_widthsAboveBefore_11 : decode cqLi_widthsAboveBefore 11 = .ok (.if_icmp .ge 18, 3) := by decide +kernel
theorem dqLi_widthsAboveBefore_14 : decode cqLi_widthsAboveBefore 14 = .ok (.lload_n 2, 1) := by decide +kernel
theorem dqLi_widthsAboveBefore_15 : decode cqLi_widthsAboveBefore 15 = .ok (.aload_n 0, 1) := by decide +kernel
theorem dqLi_widthsAboveBefore_16 : decode cqLi_widthsAboveBefore 16 = .ok (.iload 4, 2) := by decide +kernel
theorem dqLi_widthsAboveBefore_18 : decode cqLi_widthsAboveBefore 18 = .ok (.invokevirtual 107, 3) := by decide +kernel
theorem dqLi_widthsAboveBefore_21 : decode cqLi_widthsAboveBefore 21 = .ok (.ladd, 1) := by decide +kernel
theorem dqLi_widthsAboveBefore_22 : decode cqLi_widthsAboveBefore 22 = .ok (.lstore_n 2, 1) := by decide +kernel
theorem dqLi_widthsAboveBefore_23 : decode cqLi_widthsAboveBefore 23 = .ok (.iinc 4 1, 3) := by decide +kernel
theorem dqLi_widthsAboveBefore_26 : decode cqLi_widthsAboveBefore 26 = .ok (.goto (-18), 3) := by decide +kernel
theorem dqLi_widthsAboveBefore_29 : decode cqLi_widthsAboveBefore 29 = .ok (.lload_n 2, 1) := by decide +kernel
theorem dqLi_widthsAboveBefore_30 : decode cqLi_widthsAboveBefore 30 = .ok (.lreturn, 1) := by decide +kernel
theorem dqNe_init_0 : decode cqNe_init 0 = .ok (.aload_n 0, 1) := by decide +kernel
theorem dqNe_init_1 : decode cqNe_init 1 = .ok (.invokespecial 3, 3) := by decide +kernel
theorem dqNe_init_4 : decode cqNe_init 4 = .ok (.aload_n 0, 1) := by decide +kernel
theorem dqNe_init_5 : decode cqNe_init 5 = .ok (.bipush 112, 2) := by decide +kernel
theorem dqNe_init_7 : decode cqNe_init 7 = .ok (.newarray .int, 2) := by decide +kernel
theorem dqNe_init_9 : decode cqNe_init 9 = .ok (.putfield 9, 3) := by decide +kernel
theorem dqNe_init_12 : decode cqNe_init 12 = .ok (.aload_n 0, 1) := by decide +kernel
theorem dqNe_init_13 : decode cqNe_init 13 = .ok (.bipush 112, 2) := by decide +kernel
theorem dqNe_init_15 : decode cqNe_init 15 = .ok (.newarray .int, 2) := by decide +kernel
theorem dqNe_init_17 : decode cqNe_init 17 = .ok (.putfield 15, 3) := by decide +kernel
theorem dqNe_init_20 : decode cqNe_init 20 = .ok (.aload_n 0, 1) := by decide +kernel
theorem dqNe_init_21 : decode cqNe_init 21 = .ok (.bipush 112, 2) := by decide +kernel
theorem dqNe_init_23 : decode cqNe_init 23 = .ok (.newarray .int, 2) := by decide +kernel
theorem dqNe_init_25 : decode cqNe_init 25 = .ok (.putfield 18, 3) := by decide +kernel
theorem dqNe_init_28 : decode cqNe_init 28 = .ok (.aload_n 0, 1) := by decide +kernel
theorem dqNe_init_29 : decode cqNe_init 29 = .ok (.iconst 0, 1) := by decide +kernel
theorem dqNe_init_30 : decode cqNe_init 30 = .ok (.putfield 21, 3) := by decide +kernel
theorem dqNe_init_33 : decode cqNe_init 33 = .ok (.return_, 1) := by decide +kernel
theorem dqNe_gather_0 : decode cqNe_gather 0 = .ok (.aload_n 0, 1) := by decide +kernel
theorem dqNe_gather_1 : decode cqNe_gather 1 = .ok (.iconst 0, 1) := by decide +kernel
theorem dqNe_gather_2 : decode cqNe_gather 2 = .ok (.putfield 21, 3) := by decide +kernel
theorem dqNe_gather_5 : decode cqNe_gather 5 = .ok (.iconst 0, 1) := by decide +kernel
theorem dqNe_gather_6 : decode cqNe_gather 6 = .ok (.istore 4, 2) := by decide +kernel
theorem dqNe_gather_8 : decode cqNe_gather 8 = .ok (.iload 4, 2) := by decide +kernel
theorem dqNe_gather_10 : decode cqNe_gather 10 = .ok (.iconst 4, 1) := by decide +kernel
theorem dqNe_gather_11 : decode cqNe_gather 11 = .ok (.if_icmp .ge 17, 3) := by decide +kernel
theorem dqNe_gather_14 : decode cqNe_gather 14 = .ok (.aload_n 0, 1) := by decide +kernel
theorem dqNe_gather_15 : decode cqNe_gather 15 = .ok (.aload_n 1, 1) := by decide +kernel
theorem dqNe_gather_16 : decode cqNe_gather 16 = .ok (.iload 4, 2) := by decide +kernel
theorem dqNe_gather_18 : decode cqNe_gather 18 = .ok (.iload_n 3, 1) := by decide +kernel
theorem dqNe_gather_19 : decode cqNe_gather 19 = .ok (.invokevirtual 25, 3) := by decide +kernel
theorem dqNe_gather_22 : decode cqNe_gather 22 = .ok (.iinc 4 1, 3) := by decide +kernel
theorem dqNe_gather_25 : decode cqNe_gather 25 = .ok (.goto (-17), 3) := by decide +kernel
theorem dqNe_gather_28 : decode cqNe_gather 28 = .ok (.iconst 0, 1) := by decide +kernel
theorem dqNe_gather_29 : decode cqNe_gather 29 = .ok (.istore 4, 2) := by decide +kernel
theorem dqNe_gather_31 : decode cqNe_gather 31 = .ok (.iload 4, 2) := by decide +kernel
theorem dqNe_gather_33 : decode cqNe_gather 33 = .ok (.aload_n 2, 1) := by decide +kernel
theorem dqNe_gather_34 : decode cqNe_gather 34 = .ok (.invokevirtual 29, 3) := by decide +kernel
theorem dqNe_gather_37 : decode cqNe_gather 37 = .ok (.if_icmp .ge 40, 3) := by decide +kernel
theorem dqNe_gather_40 : decode cqNe_gather 40 = .ok (.aload_n 2, 1) := by decide +kernel
theorem dqNe_gather_41 : decode cqNe_gather 41 = .ok (.iload 4, 2) := by decide +kernel
theorem dqNe_gather_43 : decode cqNe_gather 43 = .ok (.invokevirtual 35, 3) := by decide +kernel
theorem dqNe_gather_46 : decode cqNe_gather 46 = .ok (.ifCond .eq 25, 3) := by decide +kernel
theorem dqNe_gather_49 : decode cqNe_gather 49 = .ok (.aload_n 0, 1) := by decide +kernel
theorem dqNe_gather_50 : decode cqNe_gather 50 = .ok (.aload_n 2, 1) := by decide +kernel
theorem dqNe_gather_51 : decode cqNe_gather 51 = .ok (.iload 4, 2) := by decide +kernel
theorem dqNe_gather_53 : decode cqNe_gather 53 = .ok (.invokevirtual 39, 3) := by decide +kernel
theorem dqNe_gather_56 : decode cqNe_gather 56 = .ok (.aload_n 2, 1) := by decide +kernel
theorem dqNe_gather_57 : decode cqNe_gather 57 = .ok (.iload 4, 2) := by decide +kernel
theorem dqNe_gather_59 : decode cqNe_gather 59 = .ok (.invokevirtual 43, 3) := by decide +kernel
theorem dqNe_gather_62 : decode cqNe_gather 62 = .ok (.aload_n 2, 1) := by decide +kernel
theorem dqNe_gather_63 : decode cqNe_gather 63 = .ok (.iload 4, 2) := by decide +kernel
theorem dqNe_gather_65 : decode cqNe_gather 65 = .ok (.invokevirtual 46, 3) := by decide +kernel
theorem dqNe_gather_68 : decode cqNe_gather 68 = .ok (.invokevirtual 49, 3) := by decide +kernel
theorem dqNe_gather_71 : decode cqNe_gather 71 = .ok (.iinc 4 1, 3) := by decide +kernel
theorem dqNe_gather_74 : decode cqNe_gather 74 = .ok (.goto (-43), 3) := by decide +kernel
theorem dqNe_gather_77 : decode cqNe_gather 77 = .ok (.return_, 1) := by decide +kernel
