theorem dqNe_gatherStaff_0 : decode cqNe_gatherStaff 0 = .ok (.iconst (-1), 1) := by decide +kernel
theorem dqNe_gatherStaff_1 : decode cqNe_gatherStaff 1 = .ok (.istore 4, 2) := by decide +kernel
theorem dqNe_gatherStaff_3 : decode cqNe_gatherStaff 3 = .ok (.iconst 0, 1) := by decide +kernel
theorem dqNe_gatherStaff_4 : decode cqNe_gatherStaff 4 = .ok (.istore 5, 2) := by decide +kernel
theorem dqNe_gatherStaff_6 : decode cqNe_gatherStaff 6 = .ok (.iload 5, 2) := by decide +kernel
theorem dqNe_gatherStaff_8 : decode cqNe_gatherStaff 8 = .ok (.iload_n 3, 1) := by decide +kernel
theorem dqNe_gatherStaff_9 : decode cqNe_gatherStaff 9 = .ok (.if_icmp .ge 55, 3) := by decide +kernel
theorem dqNe_gatherStaff_12 : decode cqNe_gatherStaff 12 = .ok (.aload_n 1, 1) := by decide +kernel
theorem dqNe_gatherStaff_13 : decode cqNe_gatherStaff 13 = .ok (.iload_n 2, 1) := by decide +kernel
theorem dqNe_gatherStaff_14 : decode cqNe_gatherStaff 14 = .ok (.iload 5, 2) := by decide +kernel
theorem dqNe_gatherStaff_16 : decode cqNe_gatherStaff 16 = .ok (.invokevirtual 53, 3) := by decide +kernel
theorem dqNe_gatherStaff_19 : decode cqNe_gatherStaff 19 = .ok (.ifCond .eq 39, 3) := by decide +kernel
theorem dqNe_gatherStaff_22 : decode cqNe_gatherStaff 22 = .ok (.iload 4, 2) := by decide +kernel
theorem dqNe_gatherStaff_24 : decode cqNe_gatherStaff 24 = .ok (.ifCond .lt 30, 3) := by decide +kernel
theorem dqNe_gatherStaff_27 : decode cqNe_gatherStaff 27 = .ok (.aload_n 1, 1) := by decide +kernel
theorem dqNe_gatherStaff_28 : decode cqNe_gatherStaff 28 = .ok (.iload_n 2, 1) := by decide +kernel
theorem dqNe_gatherStaff_29 : decode cqNe_gatherStaff 29 = .ok (.iload 4, 2) := by decide +kernel
theorem dqNe_gatherStaff_31 : decode cqNe_gatherStaff 31 = .ok (.invokevirtual 58, 3) := by decide +kernel
theorem dqNe_gatherStaff_34 : decode cqNe_gatherStaff 34 = .ok (.aload_n 1, 1) := by decide +kernel
theorem dqNe_gatherStaff_35 : decode cqNe_gatherStaff 35 = .ok (.iload_n 2, 1) := by decide +kernel
theorem dqNe_gatherStaff_36 : decode cqNe_gatherStaff 36 = .ok (.iload 5, 2) := by decide +kernel
theorem dqNe_gatherStaff_38 : decode cqNe_gatherStaff 38 = .ok (.invokevirtual 62, 3) := by decide +kernel
theorem dqNe_gatherStaff_41 : decode cqNe_gatherStaff 41 = .ok (.iadd, 1) := by decide +kernel
theorem dqNe_gatherStaff_42 : decode cqNe_gatherStaff 42 = .ok (.istore 6, 2) := by decide +kernel
theorem dqNe_gatherStaff_44 : decode cqNe_gatherStaff 44 = .ok (.aload_n 0, 1) := by decide +kernel
theorem dqNe_gatherStaff_45 : decode cqNe_gatherStaff 45 = .ok (.iload 4, 2) := by decide +kernel
theorem dqNe_gatherStaff_47 : decode cqNe_gatherStaff 47 = .ok (.iload 5, 2) := by decide +kernel
theorem dqNe_gatherStaff_49 : decode cqNe_gatherStaff 49 = .ok (.iload 6, 2) := by decide +kernel
theorem dqNe_gatherStaff_51 : decode cqNe_gatherStaff 51 = .ok (.invokevirtual 49, 3) := by decide +kernel
theorem dqNe_gatherStaff_54 : decode cqNe_gatherStaff 54 = .ok (.iload 5, 2) := by decide +kernel
theorem dqNe_gatherStaff_56 : decode cqNe_gatherStaff 56 = .ok (.istore 4, 2) := by decide +kernel
theorem dqNe_gatherStaff_58 : decode cqNe_gatherStaff 58 = .ok (.iinc 5 1, 3) := by decide +kernel
theorem dqNe_gatherStaff_61 : decode cqNe_gatherStaff 61 = .ok (.goto (-55), 3) := by decide +kernel
theorem dqNe_gatherStaff_64 : decode cqNe_gatherStaff 64 = .ok (.return_, 1) := by decide +kernel
theorem dqNe_note_0 : decode cqNe_note 0 = .ok (.aload_n 0, 1) := by decide +kernel
theorem dqNe_note_1 : decode cqNe_note 1 = .ok (.getfield 21, 3) := by decide +kernel
theorem dqNe_note_4 : decode cqNe_note 4 = .ok (.bipush 112, 2) := by decide +kernel
theorem dqNe_note_6 : decode cqNe_note 6 = .ok (.if_icmp .ge 43, 3) := by decide +kernel
theorem dqNe_note_9 : decode cqNe_note 9 = .ok (.aload_n 0, 1) := by decide +kernel
theorem dqNe_note_10 : decode cqNe_note 10 = .ok (.getfield 9, 3) := by decide +kernel
theorem dqNe_note_13 : decode cqNe_note 13 = .ok (.aload_n 0, 1) := by decide +kernel
theorem dqNe_note_14 : decode cqNe_note 14 = .ok (.getfield 21, 3) := by decide +kernel
theorem dqNe_note_17 : decode cqNe_note 17 = .ok (.iload_n 1, 1) := by decide +kernel
theorem dqNe_note_18 : decode cqNe_note 18 = .ok (.iastore, 1) := by decide +kernel
theorem dqNe_note_19 : decode cqNe_note 19 = .ok (.aload_n 0, 1) := by decide +kernel
theorem dqNe_note_20 : decode cqNe_note 20 = .ok (.getfield 15, 3) := by decide +kernel
theorem dqNe_note_23 : decode cqNe_note 23 = .ok (.aload_n 0, 1) := by decide +kernel
theorem dqNe_note_24 : decode cqNe_note 24 = .ok (.getfield 21, 3) := by decide +kernel
theorem dqNe_note_27 : decode cqNe_note 27 = .ok (.iload_n 2, 1) := by decide +kernel
theorem dqNe_note_28 : decode cqNe_note 28 = .ok (.iastore, 1) := by decide +kernel
theorem dqNe_note_29 : decode cqNe_note 29 = .ok (.aload_n 0, 1) := by decide +kernel
theorem dqNe_note_30 : decode cqNe_note 30 = .ok (.getfield 18, 3) := by decide +kernel
theorem dqNe_note_33 : decode cqNe_note 33 = .ok (.aload_n 0, 1) := by decide +kernel
theorem dqNe_note_34 : decode cqNe_note 34 = .ok (.getfield 21, 3) := by decide +kernel
theorem dqNe_note_37 : decode cqNe_note 37 = .ok (.iload_n 3, 1) := by decide +kernel
theorem dqNe_note_38 : decode cqNe_note 38 = .ok (.iastore, 1) := by decide +kernel
theorem dqNe_note_39 : decode cqNe_note 39 = .ok (.aload_n 0, 1) := by decide +kernel
theorem dqNe_note_40 : decode cqNe_note 40 = .ok (.dup, 1) := by decide +kernel
theorem dqNe_note_41 : decode cqNe_note 41 = .ok (.getfield 21, 3) := by decide +kernel
theorem dqNe_note_44 : decode cqNe_note 44 = .ok (.iconst 1, 1) := by decide +kernel
theorem dqNe_note_45 : decode cqNe_note 45 = .ok (.iadd, 1) := by decide +kernel
theorem dqNe_note_46 : decode cqNe_note 46 = .ok (.putfield 21, 3) := by decide +kernel
theorem dqNe_note_49 : decode cqNe_note 49 = .ok (.return_, 1) := by decide +kernel
theorem dqNe_size_0 : decode cqNe_size 0 = .ok (.aload_n 0, 1) := by decide +kernel
theorem dqNe_size_1 : decode cqNe_size 1 = .ok (.getfield 21, 3) := by decide +kernel
theorem dqNe_size_4 : decode cqNe_size 4 = .ok (.ireturn, 1) := by decide +kernel
theorem dqNe_fromOf_0 : decode cqNe_fromOf 0 = .ok (.aload_n 0, 1) := by decide +kernel
theorem dqNe_fromOf_1 : decode cqNe_fromOf 1 = .ok (.getfield 9, 3) := by decide +kernel
theorem dqNe_fromOf_4 : decode cqNe_fromOf 4 = .ok (.iload_n 1, 1) := by decide +kernel
theorem dqNe_fromOf_5 : decode cqNe_fromOf 5 = .ok (.iaload, 1) := by decide +kernel
theorem dqNe_fromOf_6 : decode cqNe_fromOf 6 = .ok (.ireturn, 1) := by decide +kernel
theorem dqNe_toOf_0 : decode cqNe_toOf 0 = .ok (.aload_n 0, 1) := by decide +kernel
theorem dqNe_toOf_1 : decode cqNe_toOf 1 = .ok (.getfield 15, 3) := by decide +kernel
theorem dqNe_toOf_4 : decode cqNe_toOf 4 = .ok (.iload_n 1, 1) := by decide +kernel
theorem dqNe_toOf_5 : decode cqNe_toOf 5 = .ok (.iaload, 1) := by decide +kernel
theorem dqNe_toOf_6 : decode cqNe_toOf 6 = .ok (.ireturn, 1) := by decide +kernel
theorem dqNe_widthOf_0 : decode cqNe_widthOf 0 = .ok (.aload_n 0, 1) := by decide +kernel
theorem dqNe_widthOf_1 : decode cqNe_widthOf 1 = .ok (.getfield 18, 3) := by decide +kernel
theorem dqNe_widthOf_4 : decode cqNe_widthOf 4 = .ok (.iload_n 1, 1) := by decide +kernel
theorem dqNe_widthOf_5 : decode cqNe_widthOf 5 = .ok (.iaload, 1) := by decide +kernel
theorem dqNe_widthOf_6 : decode cqNe_widthOf 6 = .ok (.ireturn, 1) := by decide +kernel
theorem dqRo_init_0 : decode cqRo_init 0 = .ok (.aload_n 0, 1) := by decide +kernel
theorem dqRo_init_1 : decode cqRo_init 1 = .ok (.invokespecial 3, 3) := by decide +kernel
theorem dqRo_init_4 : decode cqRo_init 4 = .ok (.aload_n 0, 1) := by decide +kernel
theorem dqRo_init_5 : decode cqRo_init 5 = .ok (.bipush 20, 2) := by decide +kernel
theorem dqRo_init_7 : decode cqRo_init 7 = .ok (.newarray .boolean, 2) := by decide +kernel
theorem dqRo_init_9 : decode cqRo_init 9 = .ok (.putfield 9, 3) := by decide +kernel
theorem dqRo_init_12 : decode cqRo_init 12 = .ok (.aload_n 0, 1) := by decide +kernel
theorem dqRo_init_13 : decode cqRo_init 13 = .ok (.bipush 20, 2) := by decide +kernel
theorem dqRo_init_15 : decode cqRo_init 15 = .ok (.newarray .int, 2) := by decide +kernel
theorem dqRo_init_17 : decode cqRo_init 17 = .ok (.putfield 15, 3) := by decide +kernel
theorem dqRo_init_20 : decode cqRo_init 20 = .ok (.aload_n 0, 1) := by decide +kernel
theorem dqRo_init_21 : decode cqRo_init 21 = .ok (.bipush 20, 2) := by decide +kernel
theorem dqRo_init_23 : decode cqRo_init 23 = .ok (.newarray .int, 2) := by decide +kernel
theorem dqRo_init_25 : decode cqRo_init 25 = .ok (.putfield 19, 3) := by decide +kernel
theorem dqRo_init_28 : decode cqRo_init 28 = .ok (.aload_n 0, 1) := by decide +kernel
theorem dqRo_init_29 : decode cqRo_init 29 = .ok (.bipush 20, 2) := by decide +kernel
theorem dqRo_init_31 : decode cqRo_init 31 = .ok (.newarray .int, 2) := by decide +kernel
theorem dqRo_init_33 : decode cqRo_init 33 = .ok (.putfield 22, 3) := by decide +kernel
theorem dqRo_init_36 : decode cqRo_init 36 = .ok (.aload_n 0, 1) := by decide +kernel
theorem dqRo_init_37 : decode cqRo_init 37 = .ok (.iconst 0, 1) := by decide +kernel
theorem dqRo_init_38 : decode cqRo_init 38 = .ok (.putfield 25, 3) := by decide +kernel
theorem dqRo_init_41 : decode cqRo_init 41 = .ok (.aload_n 0, 1) := by decide +kernel
theorem dqRo_init_42 : decode cqRo_init 42 = .ok (.iconst 0, 1) := by decide +kernel
theorem dqRo_init_43 : decode cqRo_init 43 = .ok (.putfield 29, 3) := by decide +kernel
theorem dqRo_init_46 : decode cqRo_init 46 = .ok (.return_, 1) := by decide +kernel
theorem dqRo_areUsedUp_0 : decode cqRo_areUsedUp 0 = .ok (.aload_n 0, 1) := by decide +kernel
theorem dqRo_areUsedUp_1 : decode cqRo_areUsedUp 1 = .ok (.getfield 25, 3) := by decide +kernel
theorem dqRo_areUsedUp_4 : decode cqRo_areUsedUp 4 = .ok (.bipush 20, 2) := by decide +kernel
theorem dqRo_areUsedUp_6 : decode cqRo_areUsedUp 6 = .ok (.if_icmp .lt 7, 3) := by decide +kernel
theorem dqRo_areUsedUp_9 : decode cqRo_areUsedUp 9 = .ok (.iconst 1, 1) := by decide +kernel
theorem dqRo_areUsedUp_10 : decode cqRo_areUsedUp 10 = .ok (.goto 4, 3) := by decide +kernel
theorem dqRo_areUsedUp_13 : decode cqRo_areUsedUp 13 = .ok (.iconst 0, 1) := by decide +kernel
theorem dqRo_areUsedUp_14 : decode cqRo_areUsedUp 14 = .ok (.ireturn, 1) := by decide +kernel
theorem dqRo_numbersGiven_0 : decode cqRo_numbersGiven 0 = .ok (.aload_n 0, 1) := by decide +kernel
theorem dqRo_numbersGiven_1 : decode cqRo_numbersGiven 1 = .ok (.getfield 25, 3) := by decide +kernel
theorem dqRo_numbersGiven_4 : decode cqRo_numbersGiven 4 = .ok (.ireturn, 1) := by decide +kernel
theorem dqRo_have_0 : decode cqRo_have 0 = .ok (.iload_n 1, 1) := by decide +kernel
theorem dqRo_have_1 : decode cqRo_have 1 = .ok (.iconst 0, 1) := by decide +kernel
theorem dqRo_have_2 : decode cqRo_have 2 = .ok (.aload_n 0, 1) := by decide +kernel
theorem dqRo_have_3 : decode cqRo_have 3 = .ok (.getfield 25, 3) := by decide +kernel
theorem dqRo_have_6 : decode cqRo_have 6 = .ok (.iconst 1, 1) := by decide +kernel
theorem dqRo_have_7 : decode cqRo_have 7 = .ok (.isub, 1) := by decide +kernel
theorem dqRo_have_8 : decode cqRo_have 8 = .ok (.invokestatic 32, 3) := by decide +kernel
theorem dqRo_have_11 : decode cqRo_have 11 = .ok (.ifCond .eq 16, 3) := by decide +kernel
theorem dqRo_have_14 : decode cqRo_have 14 = .ok (.aload_n 0, 1) := by decide +kernel
theorem dqRo_have_15 : decode cqRo_have 15 = .ok (.getfield 9, 3) := by decide +kernel
theorem dqRo_have_18 : decode cqRo_have 18 = .ok (.iload_n 1, 1) := by decide +kernel
theorem dqRo_have_19 : decode cqRo_have 19 = .ok (.baload, 1) := by decide +kernel
theorem dqRo_have_20 : decode cqRo_have 20 = .ok (.ifCond .eq 7, 3) := by decide +kernel
theorem dqRo_have_23 : decode cqRo_have 23 = .ok (.iconst 1, 1) := by decide +kernel
theorem dqRo_have_24 : decode cqRo_have 24 = .ok (.goto 4, 3) := by decide +kernel
theorem dqRo_have_27 : decode cqRo_have 27 = .ok (.iconst 0, 1) := by decide +kernel
theorem dqRo_have_28 : decode cqRo_have 28 = .ok (.ireturn, 1) := by decide +kernel
theorem dqRo_put_0 : decode cqRo_put 0 = .ok (.aload_n 0, 1) := by decide +kernel
theorem dqRo_put_1 : decode cqRo_put 1 = .ok (.getfield 25, 3) := by decide +kernel
theorem dqRo_put_4 : decode cqRo_put 4 = .ok (.istore 4, 2) := by decide +kernel
theorem dqRo_put_6 : decode cqRo_put 6 = .ok (.aload_n 0, 1) := by decide +kernel
theorem dqRo_put_7 : decode cqRo_put 7 = .ok (.getfield 9, 3) := by decide +kernel
theorem dqRo_put_10 : decode cqRo_put 10 = .ok (.iload 4, 2) := by decide +kernel
theorem dqRo_put_12 : decode cqRo_put 12 = .ok (.iconst 1, 1) := by decide +kernel
theorem dqRo_put_13 : decode cqRo_put 13 = .ok (.bastore, 1) := by decide +kernel
theorem dqRo_put_14 : decode cqRo_put 14 = .ok (.aload_n 0, 1) := by decide +kernel
theorem dqRo_put_15 : decode cqRo_put 15 = .ok (.getfield 15, 3) := by decide +kernel
theorem dqRo_put_18 : decode cqRo_put 18 = .ok (.iload 4, 2) := by decide +kernel
theorem dqRo_put_20 : decode cqRo_put 20 = .ok (.iload_n 1, 1) := by decide +kernel
theorem dqRo_put_21 : decode cqRo_put 21 = .ok (.iastore, 1) := by decide +kernel
theorem dqRo_put_22 : decode cqRo_put 22 = .ok (.aload_n 0, 1) := by decide +kernel
theorem dqRo_put_23 : decode cqRo_put 23 = .ok (.getfield 19, 3) := by decide +kernel
theorem dqRo_put_26 : decode cqRo_put 26 = .ok (.iload 4, 2) := by decide +kernel
theorem dqRo_put_28 : decode cqRo_put 28 = .ok (.iload_n 2, 1) := by decide +kernel
theorem dqRo_put_29 : decode cqRo_put 29 = .ok (.iastore, 1) := by decide +kernel
theorem dqRo_put_30 : decode cqRo_put 30 = .ok (.aload_n 0, 1) := by decide +kernel
theorem dqRo_put_31 : decode cqRo_put 31 = .ok (.getfield 22, 3) := by decide +kernel
theorem dqRo_put_34 : decode cqRo_put 34 = .ok (.iload 4, 2) := by decide +kernel
theorem dqRo_put_36 : decode cqRo_put 36 = .ok (.iload_n 3, 1) := by decide +kernel
theorem dqRo_put_37 : decode cqRo_put 37 = .ok (.iastore, 1) := by decide +kernel
theorem dqRo_put_38 : decode cqRo_put 38 = .ok (.aload_n 0, 1) := by decide +kernel
theorem dqRo_put_39 : decode cqRo_put 39 = .ok (.dup, 1) := by decide +kernel
theorem dqRo_put_40 : decode cqRo_put 40 = .ok (.getfield 25, 3) := by decide +kernel
theorem dqRo_put_43 : decode cqRo_put 43 = .ok (.iconst 1, 1) := by decide +kernel
theorem dqRo_put_44 : decode cqRo_put 44 = .ok (.iadd, 1) := by decide +kernel
theorem dqRo_put_45 : decode cqRo_put 45 = .ok (.putfield 25, 3) := by decide +kernel
theorem dqRo_put_48 : decode cqRo_put 48 = .ok (.aload_n 0, 1) := by decide +kernel
theorem dqRo_put_49 : decode cqRo_put 49 = .ok (.dup, 1) := by decide +kernel
theorem dqRo_put_50 : decode cqRo_put 50 = .ok (.getfield 29, 3) := by decide +kernel
theorem dqRo_put_53 : decode cqRo_put 53 = .ok (.iconst 1, 1) := by decide +kernel
theorem dqRo_put_54 : decode cqRo_put 54 = .ok (.iadd, 1) := by decide +kernel
theorem dqRo_put_55 : decode cqRo_put 55 = .ok (.putfield 29, 3) := by decide +kernel
theorem dqRo_put_58 : decode cqRo_put 58 = .ok (.iload 4, 2) := by decide +kernel
theorem dqRo_put_60 : decode cqRo_put 60 = .ok (.ireturn, 1) := by decide +kernel
theorem dqRo_take_0 : decode cqRo_take 0 = .ok (.aload_n 0, 1) := by decide +kernel
theorem dqRo_take_1 : decode cqRo_take 1 = .ok (.getfield 9, 3) := by decide +kernel
theorem dqRo_take_4 : decode cqRo_take 4 = .ok (.iload_n 1, 1) := by decide +kernel
theorem dqRo_take_5 : decode cqRo_take 5 = .ok (.iconst 0, 1) := by decide +kernel
theorem dqRo_take_6 : decode cqRo_take 6 = .ok (.bastore, 1) := by decide +kernel
theorem dqRo_take_7 : decode cqRo_take 7 = .ok (.aload_n 0, 1) := by decide +kernel
theorem dqRo_take_8 : decode cqRo_take 8 = .ok (.dup, 1) := by decide +kernel
theorem dqRo_take_9 : decode cqRo_take 9 = .ok (.getfield 29, 3) := by decide +kernel
theorem dqRo_take_12 : decode cqRo_take 12 = .ok (.iconst 1, 1) := by decide +kernel
theorem dqRo_take_13 : decode cqRo_take 13 = .ok (.isub, 1) := by decide +kernel
theorem dqRo_take_14 : decode cqRo_take 14 = .ok (.putfield 29, 3) := by decide +kernel
theorem dqRo_take_17 : decode cqRo_take 17 = .ok (.aload_n 0, 1) := by decide +kernel
theorem dqRo_take_18 : decode cqRo_take 18 = .ok (.getfield 29, 3) := by decide +kernel
theorem dqRo_take_21 : decode cqRo_take 21 = .ok (.ireturn, 1) := by decide +kernel
theorem dqRo_takeAll_0 : decode cqRo_takeAll 0 = .ok (.iconst 0, 1) := by decide +kernel
theorem dqRo_takeAll_1 : decode cqRo_takeAll 1 = .ok (.istore_n 1, 1) := by decide +kernel
theorem dqRo_takeAll_2 : decode cqRo_takeAll 2 = .ok (.iload_n 1, 1) := by decide +kernel
theorem dqRo_takeAll_3 : decode cqRo_takeAll 3 = .ok (.aload_n 0, 1) := by decide +kernel
theorem dqRo_takeAll_4 : decode cqRo_takeAll 4 = .ok (.getfield 25, 3) := by decide +kernel
theorem dqRo_takeAll_7 : decode cqRo_takeAll 7 = .ok (.if_icmp .ge 16, 3) := by decide +kernel
theorem dqRo_takeAll_10 : decode cqRo_takeAll 10 = .ok (.aload_n 0, 1) := by decide +kernel
theorem dqRo_takeAll_11 : decode cqRo_takeAll 11 = .ok (.getfield 9, 3) := by decide +kernel
theorem dqRo_takeAll_14 : decode cqRo_takeAll 14 = .ok (.iload_n 1, 1) := by decide +kernel
theorem dqRo_takeAll_15 : decode cqRo_takeAll 15 = .ok (.iconst 0, 1) := by decide +kernel
theorem dqRo_takeAll_16 : decode cqRo_takeAll 16 = .ok (.bastore, 1) := by decide +kernel
theorem dqRo_takeAll_17 : decode cqRo_takeAll 17 = .ok (.iinc 1 1, 3) := by decide +kernel
theorem dqRo_takeAll_20 : decode cqRo_takeAll 20 = .ok (.goto (-18), 3) := by decide +kernel
theorem dqRo_takeAll_23 : decode cqRo_takeAll 23 = .ok (.aload_n 0, 1) := by decide +kernel
theorem dqRo_takeAll_24 : decode cqRo_takeAll 24 = .ok (.iconst 0, 1) := by decide +kernel
theorem dqRo_takeAll_25 : decode cqRo_takeAll 25 = .ok (.putfield 29, 3) := by decide +kernel
theorem dqRo_takeAll_28 : decode cqRo_takeAll 28 = .ok (.return_, 1) := by decide +kernel
theorem dqRo_fromOf_0 : decode cqRo_fromOf 0 = .ok (.aload_n 0, 1) := by decide +kernel
theorem dqRo_fromOf_1 : decode cqRo_fromOf 1 = .ok (.getfield 15, 3) := by decide +kernel
theorem dqRo_fromOf_4 : decode cqRo_fromOf 4 = .ok (.iload_n 1, 1) := by decide +kernel
theorem dqRo_fromOf_5 : decode cqRo_fromOf 5 = .ok (.iaload, 1) := by decide +kernel
theorem dqRo_fromOf_6 : decode cqRo_fromOf 6 = .ok (.ireturn, 1) := by decide +kernel
theorem dqRo_toOf_0 : decode cqRo_toOf 0 = .ok (.aload_n 0, 1) := by decide +kernel
theorem dqRo_toOf_1 : decode cqRo_toOf 1 = .ok (.getfield 19, 3) := by decide +kernel
theorem dqRo_toOf_4 : decode cqRo_toOf 4 = .ok (.iload_n 1, 1) := by decide +kernel
theorem dqRo_toOf_5 : decode cqRo_toOf 5 = .ok (.iaload, 1) := by decide +kernel
theorem dqRo_toOf_6 : decode cqRo_toOf 6 = .ok (.ireturn, 1) := by decide +kernel
theorem dqRo_widthOf_0 : decode cqRo_widthOf 0 = .ok (.aload_n 0, 1) := by decide +kernel
theorem dqRo_widthOf_1 : decode cqRo_widthOf 1 = .ok (.getfield 22, 3) := by decide +kernel
theorem dqRo_widthOf_4 : decode cqRo_widthOf 4 = .ok (.iload_n 1, 1) := by decide +kernel
theorem dqRo_widthOf_5 : decode cqRo_widthOf 5 = .ok (.iaload, 1) := by decide +kernel
theorem dqRo_widthOf_6 : decode cqRo_widthOf 6 = .ok (.ireturn, 1) := by decide +kernel
