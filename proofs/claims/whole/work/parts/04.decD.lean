theorem d_D_init_0 : decode b_D_init 0 = .ok (.aload_n 0, 1) := by decide +kernel
theorem d_D_init_1 : decode b_D_init 1 = .ok (.invokespecial 3, 3) := by decide +kernel
theorem d_D_init_4 : decode b_D_init 4 = .ok (.aload_n 0, 1) := by decide +kernel
theorem d_D_init_5 : decode b_D_init 5 = .ok (.iconst 4, 1) := by decide +kernel
theorem d_D_init_6 : decode b_D_init 6 = .ok (.newarray .int, 2) := by decide +kernel
theorem d_D_init_8 : decode b_D_init 8 = .ok (.putfield 9, 3) := by decide +kernel
theorem d_D_init_11 : decode b_D_init 11 = .ok (.aload_n 0, 1) := by decide +kernel
theorem d_D_init_12 : decode b_D_init 12 = .ok (.bipush 20, 2) := by decide +kernel
theorem d_D_init_14 : decode b_D_init 14 = .ok (.newarray .int, 2) := by decide +kernel
theorem d_D_init_16 : decode b_D_init 16 = .ok (.putfield 15, 3) := by decide +kernel
theorem d_D_init_19 : decode b_D_init 19 = .ok (.aload_n 0, 1) := by decide +kernel
theorem d_D_init_20 : decode b_D_init 20 = .ok (.bipush 20, 2) := by decide +kernel
theorem d_D_init_22 : decode b_D_init 22 = .ok (.newarray .int, 2) := by decide +kernel
theorem d_D_init_24 : decode b_D_init 24 = .ok (.putfield 18, 3) := by decide +kernel
theorem d_D_init_27 : decode b_D_init 27 = .ok (.aload_n 0, 1) := by decide +kernel
theorem d_D_init_28 : decode b_D_init 28 = .ok (.bipush 20, 2) := by decide +kernel
theorem d_D_init_30 : decode b_D_init 30 = .ok (.newarray .int, 2) := by decide +kernel
theorem d_D_init_32 : decode b_D_init 32 = .ok (.putfield 21, 3) := by decide +kernel
theorem d_D_init_35 : decode b_D_init 35 = .ok (.aload_n 0, 1) := by decide +kernel
theorem d_D_init_36 : decode b_D_init 36 = .ok (.bipush 6, 2) := by decide +kernel
theorem d_D_init_38 : decode b_D_init 38 = .ok (.newarray .int, 2) := by decide +kernel
theorem d_D_init_40 : decode b_D_init 40 = .ok (.putfield 24, 3) := by decide +kernel
theorem d_D_init_43 : decode b_D_init 43 = .ok (.aload_n 0, 1) := by decide +kernel
theorem d_D_init_44 : decode b_D_init 44 = .ok (.bipush 6, 2) := by decide +kernel
theorem d_D_init_46 : decode b_D_init 46 = .ok (.newarray .int, 2) := by decide +kernel
theorem d_D_init_48 : decode b_D_init 48 = .ok (.putfield 27, 3) := by decide +kernel
theorem d_D_init_51 : decode b_D_init 51 = .ok (.aload_n 0, 1) := by decide +kernel
theorem d_D_init_52 : decode b_D_init 52 = .ok (.bipush 6, 2) := by decide +kernel
theorem d_D_init_54 : decode b_D_init 54 = .ok (.newarray .int, 2) := by decide +kernel
theorem d_D_init_56 : decode b_D_init 56 = .ok (.putfield 30, 3) := by decide +kernel
theorem d_D_init_59 : decode b_D_init 59 = .ok (.aload_n 0, 1) := by decide +kernel
theorem d_D_init_60 : decode b_D_init 60 = .ok (.bipush 6, 2) := by decide +kernel
theorem d_D_init_62 : decode b_D_init 62 = .ok (.newarray .boolean, 2) := by decide +kernel
theorem d_D_init_64 : decode b_D_init 64 = .ok (.putfield 33, 3) := by decide +kernel
theorem d_D_init_67 : decode b_D_init 67 = .ok (.aload_n 0, 1) := by decide +kernel
theorem d_D_init_68 : decode b_D_init 68 = .ok (.iconst 0, 1) := by decide +kernel
theorem d_D_init_69 : decode b_D_init 69 = .ok (.putfield 37, 3) := by decide +kernel
theorem d_D_init_72 : decode b_D_init 72 = .ok (.aload_n 0, 1) := by decide +kernel
theorem d_D_init_73 : decode b_D_init 73 = .ok (.iconst 0, 1) := by decide +kernel
theorem d_D_init_74 : decode b_D_init 74 = .ok (.putfield 41, 3) := by decide +kernel
theorem d_D_init_77 : decode b_D_init 77 = .ok (.aload_n 0, 1) := by decide +kernel
theorem d_D_init_78 : decode b_D_init 78 = .ok (.iconst 0, 1) := by decide +kernel
theorem d_D_init_79 : decode b_D_init 79 = .ok (.putfield 44, 3) := by decide +kernel
theorem d_D_init_82 : decode b_D_init 82 = .ok (.aload_n 0, 1) := by decide +kernel
theorem d_D_init_83 : decode b_D_init 83 = .ok (.iconst 0, 1) := by decide +kernel
theorem d_D_init_84 : decode b_D_init 84 = .ok (.putfield 47, 3) := by decide +kernel
theorem d_D_init_87 : decode b_D_init 87 = .ok (.aload_n 0, 1) := by decide +kernel
theorem d_D_init_88 : decode b_D_init 88 = .ok (.bipush 96, 2) := by decide +kernel
theorem d_D_init_90 : decode b_D_init 90 = .ok (.putfield 50, 3) := by decide +kernel
theorem d_D_init_93 : decode b_D_init 93 = .ok (.return_, 1) := by decide +kernel
theorem d_D_hasPerson_0 : decode b_D_hasPerson 0 = .ok (.iload_n 1, 1) := by decide +kernel
theorem d_D_hasPerson_1 : decode b_D_hasPerson 1 = .ok (.ifCond .lt (15), 3) := by decide +kernel
theorem d_D_hasPerson_4 : decode b_D_hasPerson 4 = .ok (.iload_n 1, 1) := by decide +kernel
theorem d_D_hasPerson_5 : decode b_D_hasPerson 5 = .ok (.aload_n 0, 1) := by decide +kernel
theorem d_D_hasPerson_6 : decode b_D_hasPerson 6 = .ok (.getfield 37, 3) := by decide +kernel
theorem d_D_hasPerson_9 : decode b_D_hasPerson 9 = .ok (.if_icmp .ge (7), 3) := by decide +kernel
theorem d_D_hasPerson_12 : decode b_D_hasPerson 12 = .ok (.iconst 1, 1) := by decide +kernel
theorem d_D_hasPerson_13 : decode b_D_hasPerson 13 = .ok (.goto (4), 3) := by decide +kernel
theorem d_D_hasPerson_16 : decode b_D_hasPerson 16 = .ok (.iconst 0, 1) := by decide +kernel
theorem d_D_hasPerson_17 : decode b_D_hasPerson 17 = .ok (.ireturn, 1) := by decide +kernel
theorem d_D_hasTask_0 : decode b_D_hasTask 0 = .ok (.iload_n 1, 1) := by decide +kernel
theorem d_D_hasTask_1 : decode b_D_hasTask 1 = .ok (.ifCond .lt (15), 3) := by decide +kernel
theorem d_D_hasTask_4 : decode b_D_hasTask 4 = .ok (.iload_n 1, 1) := by decide +kernel
theorem d_D_hasTask_5 : decode b_D_hasTask 5 = .ok (.aload_n 0, 1) := by decide +kernel
theorem d_D_hasTask_6 : decode b_D_hasTask 6 = .ok (.getfield 44, 3) := by decide +kernel
theorem d_D_hasTask_9 : decode b_D_hasTask 9 = .ok (.if_icmp .ge (7), 3) := by decide +kernel
theorem d_D_hasTask_12 : decode b_D_hasTask 12 = .ok (.iconst 1, 1) := by decide +kernel
theorem d_D_hasTask_13 : decode b_D_hasTask 13 = .ok (.goto (4), 3) := by decide +kernel
theorem d_D_hasTask_16 : decode b_D_hasTask 16 = .ok (.iconst 0, 1) := by decide +kernel
theorem d_D_hasTask_17 : decode b_D_hasTask 17 = .ok (.ireturn, 1) := by decide +kernel
theorem d_D_addPerson_0 : decode b_D_addPerson 0 = .ok (.aload_n 0, 1) := by decide +kernel
theorem d_D_addPerson_1 : decode b_D_addPerson 1 = .ok (.getfield 37, 3) := by decide +kernel
theorem d_D_addPerson_4 : decode b_D_addPerson 4 = .ok (.iconst 4, 1) := by decide +kernel
theorem d_D_addPerson_5 : decode b_D_addPerson 5 = .ok (.if_icmp .lt (5), 3) := by decide +kernel
theorem d_D_addPerson_8 : decode b_D_addPerson 8 = .ok (.iconst (-1), 1) := by decide +kernel
theorem d_D_addPerson_9 : decode b_D_addPerson 9 = .ok (.ireturn, 1) := by decide +kernel
theorem d_D_addPerson_10 : decode b_D_addPerson 10 = .ok (.aload_n 0, 1) := by decide +kernel
theorem d_D_addPerson_11 : decode b_D_addPerson 11 = .ok (.getfield 9, 3) := by decide +kernel
theorem d_D_addPerson_14 : decode b_D_addPerson 14 = .ok (.aload_n 0, 1) := by decide +kernel
theorem d_D_addPerson_15 : decode b_D_addPerson 15 = .ok (.getfield 37, 3) := by decide +kernel
theorem d_D_addPerson_18 : decode b_D_addPerson 18 = .ok (.iload_n 1, 1) := by decide +kernel
theorem d_D_addPerson_19 : decode b_D_addPerson 19 = .ok (.iastore, 1) := by decide +kernel
theorem d_D_addPerson_20 : decode b_D_addPerson 20 = .ok (.aload_n 0, 1) := by decide +kernel
theorem d_D_addPerson_21 : decode b_D_addPerson 21 = .ok (.dup, 1) := by decide +kernel
theorem d_D_addPerson_22 : decode b_D_addPerson 22 = .ok (.getfield 37, 3) := by decide +kernel
theorem d_D_addPerson_25 : decode b_D_addPerson 25 = .ok (.iconst 1, 1) := by decide +kernel
theorem d_D_addPerson_26 : decode b_D_addPerson 26 = .ok (.iadd, 1) := by decide +kernel
theorem d_D_addPerson_27 : decode b_D_addPerson 27 = .ok (.putfield 37, 3) := by decide +kernel
theorem d_D_addPerson_30 : decode b_D_addPerson 30 = .ok (.aload_n 0, 1) := by decide +kernel
theorem d_D_addPerson_31 : decode b_D_addPerson 31 = .ok (.getfield 37, 3) := by decide +kernel
theorem d_D_addPerson_34 : decode b_D_addPerson 34 = .ok (.iconst 1, 1) := by decide +kernel
theorem d_D_addPerson_35 : decode b_D_addPerson 35 = .ok (.isub, 1) := by decide +kernel
theorem d_D_addPerson_36 : decode b_D_addPerson 36 = .ok (.ireturn, 1) := by decide +kernel
theorem d_D_addSpan_0 : decode b_D_addSpan 0 = .ok (.aload_n 0, 1) := by decide +kernel
theorem d_D_addSpan_1 : decode b_D_addSpan 1 = .ok (.getfield 41, 3) := by decide +kernel
theorem d_D_addSpan_4 : decode b_D_addSpan 4 = .ok (.bipush 20, 2) := by decide +kernel
theorem d_D_addSpan_6 : decode b_D_addSpan 6 = .ok (.if_icmp .lt (4), 3) := by decide +kernel
theorem d_D_addSpan_9 : decode b_D_addSpan 9 = .ok (.return_, 1) := by decide +kernel
theorem d_D_addSpan_10 : decode b_D_addSpan 10 = .ok (.aload_n 0, 1) := by decide +kernel
theorem d_D_addSpan_11 : decode b_D_addSpan 11 = .ok (.getfield 15, 3) := by decide +kernel
theorem d_D_addSpan_14 : decode b_D_addSpan 14 = .ok (.aload_n 0, 1) := by decide +kernel
theorem d_D_addSpan_15 : decode b_D_addSpan 15 = .ok (.getfield 41, 3) := by decide +kernel
theorem d_D_addSpan_18 : decode b_D_addSpan 18 = .ok (.iload_n 1, 1) := by decide +kernel
theorem d_D_addSpan_19 : decode b_D_addSpan 19 = .ok (.iastore, 1) := by decide +kernel
theorem d_D_addSpan_20 : decode b_D_addSpan 20 = .ok (.aload_n 0, 1) := by decide +kernel
theorem d_D_addSpan_21 : decode b_D_addSpan 21 = .ok (.getfield 18, 3) := by decide +kernel
theorem d_D_addSpan_24 : decode b_D_addSpan 24 = .ok (.aload_n 0, 1) := by decide +kernel
theorem d_D_addSpan_25 : decode b_D_addSpan 25 = .ok (.getfield 41, 3) := by decide +kernel
theorem d_D_addSpan_28 : decode b_D_addSpan 28 = .ok (.iload_n 2, 1) := by decide +kernel
theorem d_D_addSpan_29 : decode b_D_addSpan 29 = .ok (.iastore, 1) := by decide +kernel
theorem d_D_addSpan_30 : decode b_D_addSpan 30 = .ok (.aload_n 0, 1) := by decide +kernel
theorem d_D_addSpan_31 : decode b_D_addSpan 31 = .ok (.getfield 21, 3) := by decide +kernel
theorem d_D_addSpan_34 : decode b_D_addSpan 34 = .ok (.aload_n 0, 1) := by decide +kernel
theorem d_D_addSpan_35 : decode b_D_addSpan 35 = .ok (.getfield 41, 3) := by decide +kernel
theorem d_D_addSpan_38 : decode b_D_addSpan 38 = .ok (.iload_n 3, 1) := by decide +kernel
theorem d_D_addSpan_39 : decode b_D_addSpan 39 = .ok (.iastore, 1) := by decide +kernel
theorem d_D_addSpan_40 : decode b_D_addSpan 40 = .ok (.aload_n 0, 1) := by decide +kernel
theorem d_D_addSpan_41 : decode b_D_addSpan 41 = .ok (.dup, 1) := by decide +kernel
theorem d_D_addSpan_42 : decode b_D_addSpan 42 = .ok (.getfield 41, 3) := by decide +kernel
theorem d_D_addSpan_45 : decode b_D_addSpan 45 = .ok (.iconst 1, 1) := by decide +kernel
theorem d_D_addSpan_46 : decode b_D_addSpan 46 = .ok (.iadd, 1) := by decide +kernel
theorem d_D_addSpan_47 : decode b_D_addSpan 47 = .ok (.putfield 41, 3) := by decide +kernel
theorem d_D_addSpan_50 : decode b_D_addSpan 50 = .ok (.return_, 1) := by decide +kernel
theorem d_D_dropLatestSpan_0 : decode b_D_dropLatestSpan 0 = .ok (.aload_n 0, 1) := by decide +kernel
theorem d_D_dropLatestSpan_1 : decode b_D_dropLatestSpan 1 = .ok (.getfield 41, 3) := by decide +kernel
theorem d_D_dropLatestSpan_4 : decode b_D_dropLatestSpan 4 = .ok (.ifCond .le (13), 3) := by decide +kernel
theorem d_D_dropLatestSpan_7 : decode b_D_dropLatestSpan 7 = .ok (.aload_n 0, 1) := by decide +kernel
theorem d_D_dropLatestSpan_8 : decode b_D_dropLatestSpan 8 = .ok (.dup, 1) := by decide +kernel
theorem d_D_dropLatestSpan_9 : decode b_D_dropLatestSpan 9 = .ok (.getfield 41, 3) := by decide +kernel
theorem d_D_dropLatestSpan_12 : decode b_D_dropLatestSpan 12 = .ok (.iconst 1, 1) := by decide +kernel
theorem d_D_dropLatestSpan_13 : decode b_D_dropLatestSpan 13 = .ok (.isub, 1) := by decide +kernel
theorem d_D_dropLatestSpan_14 : decode b_D_dropLatestSpan 14 = .ok (.putfield 41, 3) := by decide +kernel
theorem d_D_dropLatestSpan_17 : decode b_D_dropLatestSpan 17 = .ok (.return_, 1) := by decide +kernel
theorem d_D_addTask_0 : decode b_D_addTask 0 = .ok (.aload_n 0, 1) := by decide +kernel
theorem d_D_addTask_1 : decode b_D_addTask 1 = .ok (.getfield 44, 3) := by decide +kernel
theorem d_D_addTask_4 : decode b_D_addTask 4 = .ok (.bipush 6, 2) := by decide +kernel
theorem d_D_addTask_6 : decode b_D_addTask 6 = .ok (.if_icmp .lt (5), 3) := by decide +kernel
theorem d_D_addTask_9 : decode b_D_addTask 9 = .ok (.iconst (-1), 1) := by decide +kernel
theorem d_D_addTask_10 : decode b_D_addTask 10 = .ok (.ireturn, 1) := by decide +kernel
theorem d_D_addTask_11 : decode b_D_addTask 11 = .ok (.aload_n 0, 1) := by decide +kernel
theorem d_D_addTask_12 : decode b_D_addTask 12 = .ok (.getfield 24, 3) := by decide +kernel
theorem d_D_addTask_15 : decode b_D_addTask 15 = .ok (.aload_n 0, 1) := by decide +kernel
theorem d_D_addTask_16 : decode b_D_addTask 16 = .ok (.getfield 44, 3) := by decide +kernel
theorem d_D_addTask_19 : decode b_D_addTask 19 = .ok (.iload_n 1, 1) := by decide +kernel
theorem d_D_addTask_20 : decode b_D_addTask 20 = .ok (.iastore, 1) := by decide +kernel
theorem d_D_addTask_21 : decode b_D_addTask 21 = .ok (.aload_n 0, 1) := by decide +kernel
theorem d_D_addTask_22 : decode b_D_addTask 22 = .ok (.getfield 27, 3) := by decide +kernel
theorem d_D_addTask_25 : decode b_D_addTask 25 = .ok (.aload_n 0, 1) := by decide +kernel
theorem d_D_addTask_26 : decode b_D_addTask 26 = .ok (.getfield 44, 3) := by decide +kernel
theorem d_D_addTask_29 : decode b_D_addTask 29 = .ok (.iload_n 2, 1) := by decide +kernel
theorem d_D_addTask_30 : decode b_D_addTask 30 = .ok (.iastore, 1) := by decide +kernel
theorem d_D_addTask_31 : decode b_D_addTask 31 = .ok (.aload_n 0, 1) := by decide +kernel
theorem d_D_addTask_32 : decode b_D_addTask 32 = .ok (.getfield 30, 3) := by decide +kernel
theorem d_D_addTask_35 : decode b_D_addTask 35 = .ok (.aload_n 0, 1) := by decide +kernel
theorem d_D_addTask_36 : decode b_D_addTask 36 = .ok (.getfield 44, 3) := by decide +kernel
theorem d_D_addTask_39 : decode b_D_addTask 39 = .ok (.iload_n 3, 1) := by decide +kernel
theorem d_D_addTask_40 : decode b_D_addTask 40 = .ok (.iastore, 1) := by decide +kernel
theorem d_D_addTask_41 : decode b_D_addTask 41 = .ok (.aload_n 0, 1) := by decide +kernel
theorem d_D_addTask_42 : decode b_D_addTask 42 = .ok (.getfield 33, 3) := by decide +kernel
theorem d_D_addTask_45 : decode b_D_addTask 45 = .ok (.aload_n 0, 1) := by decide +kernel
theorem d_D_addTask_46 : decode b_D_addTask 46 = .ok (.getfield 44, 3) := by decide +kernel
theorem d_D_addTask_49 : decode b_D_addTask 49 = .ok (.iload 4, 2) := by decide +kernel
theorem d_D_addTask_51 : decode b_D_addTask 51 = .ok (.bastore, 1) := by decide +kernel
theorem d_D_addTask_52 : decode b_D_addTask 52 = .ok (.aload_n 0, 1) := by decide +kernel
theorem d_D_addTask_53 : decode b_D_addTask 53 = .ok (.dup, 1) := by decide +kernel
theorem d_D_addTask_54 : decode b_D_addTask 54 = .ok (.getfield 44, 3) := by decide +kernel
theorem d_D_addTask_57 : decode b_D_addTask 57 = .ok (.iconst 1, 1) := by decide +kernel
theorem d_D_addTask_58 : decode b_D_addTask 58 = .ok (.iadd, 1) := by decide +kernel
theorem d_D_addTask_59 : decode b_D_addTask 59 = .ok (.putfield 44, 3) := by decide +kernel
theorem d_D_addTask_62 : decode b_D_addTask 62 = .ok (.aload_n 0, 1) := by decide +kernel
theorem d_D_addTask_63 : decode b_D_addTask 63 = .ok (.getfield 44, 3) := by decide +kernel
theorem d_D_addTask_66 : decode b_D_addTask 66 = .ok (.iconst 1, 1) := by decide +kernel
theorem d_D_addTask_67 : decode b_D_addTask 67 = .ok (.isub, 1) := by decide +kernel
theorem d_D_addTask_68 : decode b_D_addTask 68 = .ok (.ireturn, 1) := by decide +kernel
theorem d_D_lengthOf_0 : decode b_D_lengthOf 0 = .ok (.aload_n 0, 1) := by decide +kernel
theorem d_D_lengthOf_1 : decode b_D_lengthOf 1 = .ok (.iload_n 1, 1) := by decide +kernel
theorem d_D_lengthOf_2 : decode b_D_lengthOf 2 = .ok (.invokevirtual 53, 3) := by decide +kernel
theorem d_D_lengthOf_5 : decode b_D_lengthOf 5 = .ok (.ifCond .eq (19), 3) := by decide +kernel
theorem d_D_lengthOf_8 : decode b_D_lengthOf 8 = .ok (.aload_n 0, 1) := by decide +kernel
theorem d_D_lengthOf_9 : decode b_D_lengthOf 9 = .ok (.getfield 30, 3) := by decide +kernel
theorem d_D_lengthOf_12 : decode b_D_lengthOf 12 = .ok (.iload_n 1, 1) := by decide +kernel
theorem d_D_lengthOf_13 : decode b_D_lengthOf 13 = .ok (.iaload, 1) := by decide +kernel
theorem d_D_lengthOf_14 : decode b_D_lengthOf 14 = .ok (.aload_n 0, 1) := by decide +kernel
theorem d_D_lengthOf_15 : decode b_D_lengthOf 15 = .ok (.getfield 27, 3) := by decide +kernel
theorem d_D_lengthOf_18 : decode b_D_lengthOf 18 = .ok (.iload_n 1, 1) := by decide +kernel
theorem d_D_lengthOf_19 : decode b_D_lengthOf 19 = .ok (.iaload, 1) := by decide +kernel
theorem d_D_lengthOf_20 : decode b_D_lengthOf 20 = .ok (.isub, 1) := by decide +kernel
theorem d_D_lengthOf_21 : decode b_D_lengthOf 21 = .ok (.goto (4), 3) := by decide +kernel
theorem d_D_lengthOf_24 : decode b_D_lengthOf 24 = .ok (.iconst 0, 1) := by decide +kernel
theorem d_D_lengthOf_25 : decode b_D_lengthOf 25 = .ok (.ireturn, 1) := by decide +kernel
theorem d_D_suits_0 : decode b_D_suits 0 = .ok (.aload_n 0, 1) := by decide +kernel
theorem d_D_suits_1 : decode b_D_suits 1 = .ok (.iload_n 1, 1) := by decide +kernel
theorem d_D_suits_2 : decode b_D_suits 2 = .ok (.invokevirtual 57, 3) := by decide +kernel
theorem d_D_suits_5 : decode b_D_suits 5 = .ok (.ifCond .eq (11), 3) := by decide +kernel
theorem d_D_suits_8 : decode b_D_suits 8 = .ok (.aload_n 0, 1) := by decide +kernel
theorem d_D_suits_9 : decode b_D_suits 9 = .ok (.iload_n 2, 1) := by decide +kernel
theorem d_D_suits_10 : decode b_D_suits 10 = .ok (.invokevirtual 53, 3) := by decide +kernel
theorem d_D_suits_13 : decode b_D_suits 13 = .ok (.ifCond .ne (5), 3) := by decide +kernel
theorem d_D_suits_16 : decode b_D_suits 16 = .ok (.iconst 0, 1) := by decide +kernel
theorem d_D_suits_17 : decode b_D_suits 17 = .ok (.ireturn, 1) := by decide +kernel
theorem d_D_suits_18 : decode b_D_suits 18 = .ok (.aload_n 0, 1) := by decide +kernel
theorem d_D_suits_19 : decode b_D_suits 19 = .ok (.getfield 9, 3) := by decide +kernel
theorem d_D_suits_22 : decode b_D_suits 22 = .ok (.iload_n 1, 1) := by decide +kernel
theorem d_D_suits_23 : decode b_D_suits 23 = .ok (.iaload, 1) := by decide +kernel
theorem d_D_suits_24 : decode b_D_suits 24 = .ok (.aload_n 0, 1) := by decide +kernel
theorem d_D_suits_25 : decode b_D_suits 25 = .ok (.getfield 24, 3) := by decide +kernel
theorem d_D_suits_28 : decode b_D_suits 28 = .ok (.iload_n 2, 1) := by decide +kernel
theorem d_D_suits_29 : decode b_D_suits 29 = .ok (.iaload, 1) := by decide +kernel
theorem d_D_suits_30 : decode b_D_suits 30 = .ok (.ishr, 1) := by decide +kernel
theorem d_D_suits_31 : decode b_D_suits 31 = .ok (.iconst 1, 1) := by decide +kernel
theorem d_D_suits_32 : decode b_D_suits 32 = .ok (.iand, 1) := by decide +kernel
theorem d_D_suits_33 : decode b_D_suits 33 = .ok (.ifCond .eq (16), 3) := by decide +kernel
theorem d_D_suits_36 : decode b_D_suits 36 = .ok (.aload_n 0, 1) := by decide +kernel
theorem d_D_suits_37 : decode b_D_suits 37 = .ok (.iload_n 1, 1) := by decide +kernel
theorem d_D_suits_38 : decode b_D_suits 38 = .ok (.iload_n 2, 1) := by decide +kernel
theorem d_D_suits_39 : decode b_D_suits 39 = .ok (.invokevirtual 60, 3) := by decide +kernel
theorem d_D_suits_42 : decode b_D_suits 42 = .ok (.ifCond .ne (7), 3) := by decide +kernel
theorem d_D_suits_45 : decode b_D_suits 45 = .ok (.iconst 1, 1) := by decide +kernel
theorem d_D_suits_46 : decode b_D_suits 46 = .ok (.goto (4), 3) := by decide +kernel
theorem d_D_suits_49 : decode b_D_suits 49 = .ok (.iconst 0, 1) := by decide +kernel
theorem d_D_suits_50 : decode b_D_suits 50 = .ok (.ireturn, 1) := by decide +kernel
theorem d_D_isOffIn_0 : decode b_D_isOffIn 0 = .ok (.iconst 0, 1) := by decide +kernel
theorem d_D_isOffIn_1 : decode b_D_isOffIn 1 = .ok (.istore_n 3, 1) := by decide +kernel
theorem d_D_isOffIn_2 : decode b_D_isOffIn 2 = .ok (.iload_n 3, 1) := by decide +kernel
theorem d_D_isOffIn_3 : decode b_D_isOffIn 3 = .ok (.aload_n 0, 1) := by decide +kernel
theorem d_D_isOffIn_4 : decode b_D_isOffIn 4 = .ok (.getfield 41, 3) := by decide +kernel
theorem d_D_isOffIn_7 : decode b_D_isOffIn 7 = .ok (.if_icmp .ge (51), 3) := by decide +kernel
theorem d_D_isOffIn_10 : decode b_D_isOffIn 10 = .ok (.aload_n 0, 1) := by decide +kernel
theorem d_D_isOffIn_11 : decode b_D_isOffIn 11 = .ok (.getfield 15, 3) := by decide +kernel
theorem d_D_isOffIn_14 : decode b_D_isOffIn 14 = .ok (.iload_n 3, 1) := by decide +kernel
theorem d_D_isOffIn_15 : decode b_D_isOffIn 15 = .ok (.iaload, 1) := by decide +kernel
theorem d_D_isOffIn_16 : decode b_D_isOffIn 16 = .ok (.iload_n 1, 1) := by decide +kernel
theorem d_D_isOffIn_17 : decode b_D_isOffIn 17 = .ok (.if_icmp .ne (35), 3) := by decide +kernel
theorem d_D_isOffIn_20 : decode b_D_isOffIn 20 = .ok (.aload_n 0, 1) := by decide +kernel
theorem d_D_isOffIn_21 : decode b_D_isOffIn 21 = .ok (.getfield 18, 3) := by decide +kernel
theorem d_D_isOffIn_24 : decode b_D_isOffIn 24 = .ok (.iload_n 3, 1) := by decide +kernel
theorem d_D_isOffIn_25 : decode b_D_isOffIn 25 = .ok (.iaload, 1) := by decide +kernel
theorem d_D_isOffIn_26 : decode b_D_isOffIn 26 = .ok (.aload_n 0, 1) := by decide +kernel
theorem d_D_isOffIn_27 : decode b_D_isOffIn 27 = .ok (.getfield 30, 3) := by decide +kernel
theorem d_D_isOffIn_30 : decode b_D_isOffIn 30 = .ok (.iload_n 2, 1) := by decide +kernel
theorem d_D_isOffIn_31 : decode b_D_isOffIn 31 = .ok (.iaload, 1) := by decide +kernel
theorem d_D_isOffIn_32 : decode b_D_isOffIn 32 = .ok (.if_icmp .ge (20), 3) := by decide +kernel
theorem d_D_isOffIn_35 : decode b_D_isOffIn 35 = .ok (.aload_n 0, 1) := by decide +kernel
theorem d_D_isOffIn_36 : decode b_D_isOffIn 36 = .ok (.getfield 27, 3) := by decide +kernel
theorem d_D_isOffIn_39 : decode b_D_isOffIn 39 = .ok (.iload_n 2, 1) := by decide +kernel
theorem d_D_isOffIn_40 : decode b_D_isOffIn 40 = .ok (.iaload, 1) := by decide +kernel
theorem d_D_isOffIn_41 : decode b_D_isOffIn 41 = .ok (.aload_n 0, 1) := by decide +kernel
theorem d_D_isOffIn_42 : decode b_D_isOffIn 42 = .ok (.getfield 21, 3) := by decide +kernel
theorem d_D_isOffIn_45 : decode b_D_isOffIn 45 = .ok (.iload_n 3, 1) := by decide +kernel
theorem d_D_isOffIn_46 : decode b_D_isOffIn 46 = .ok (.iaload, 1) := by decide +kernel
theorem d_D_isOffIn_47 : decode b_D_isOffIn 47 = .ok (.if_icmp .ge (5), 3) := by decide +kernel
theorem d_D_isOffIn_50 : decode b_D_isOffIn 50 = .ok (.iconst 1, 1) := by decide +kernel
theorem d_D_isOffIn_51 : decode b_D_isOffIn 51 = .ok (.ireturn, 1) := by decide +kernel
theorem d_D_isOffIn_52 : decode b_D_isOffIn 52 = .ok (.iinc 3 1, 3) := by decide +kernel
theorem d_D_isOffIn_55 : decode b_D_isOffIn 55 = .ok (.goto (-53), 3) := by decide +kernel
theorem d_D_isOffIn_58 : decode b_D_isOffIn 58 = .ok (.iconst 0, 1) := by decide +kernel
theorem d_D_isOffIn_59 : decode b_D_isOffIn 59 = .ok (.ireturn, 1) := by decide +kernel
theorem d_D_areTooNear_0 : decode b_D_areTooNear 0 = .ok (.aload_n 0, 1) := by decide +kernel
theorem d_D_areTooNear_1 : decode b_D_areTooNear 1 = .ok (.iload_n 1, 1) := by decide +kernel
theorem d_D_areTooNear_2 : decode b_D_areTooNear 2 = .ok (.invokevirtual 53, 3) := by decide +kernel
theorem d_D_areTooNear_5 : decode b_D_areTooNear 5 = .ok (.ifCond .eq (11), 3) := by decide +kernel
theorem d_D_areTooNear_8 : decode b_D_areTooNear 8 = .ok (.aload_n 0, 1) := by decide +kernel
theorem d_D_areTooNear_9 : decode b_D_areTooNear 9 = .ok (.iload_n 2, 1) := by decide +kernel
theorem d_D_areTooNear_10 : decode b_D_areTooNear 10 = .ok (.invokevirtual 53, 3) := by decide +kernel
theorem d_D_areTooNear_13 : decode b_D_areTooNear 13 = .ok (.ifCond .ne (5), 3) := by decide +kernel
theorem d_D_areTooNear_16 : decode b_D_areTooNear 16 = .ok (.iconst 0, 1) := by decide +kernel
theorem d_D_areTooNear_17 : decode b_D_areTooNear 17 = .ok (.ireturn, 1) := by decide +kernel
theorem d_D_areTooNear_18 : decode b_D_areTooNear 18 = .ok (.aload_n 0, 1) := by decide +kernel
theorem d_D_areTooNear_19 : decode b_D_areTooNear 19 = .ok (.getfield 27, 3) := by decide +kernel
theorem d_D_areTooNear_22 : decode b_D_areTooNear 22 = .ok (.iload_n 1, 1) := by decide +kernel
theorem d_D_areTooNear_23 : decode b_D_areTooNear 23 = .ok (.iaload, 1) := by decide +kernel
theorem d_D_areTooNear_24 : decode b_D_areTooNear 24 = .ok (.aload_n 0, 1) := by decide +kernel
theorem d_D_areTooNear_25 : decode b_D_areTooNear 25 = .ok (.getfield 30, 3) := by decide +kernel
theorem d_D_areTooNear_28 : decode b_D_areTooNear 28 = .ok (.iload_n 2, 1) := by decide +kernel
theorem d_D_areTooNear_29 : decode b_D_areTooNear 29 = .ok (.iaload, 1) := by decide +kernel
theorem d_D_areTooNear_30 : decode b_D_areTooNear 30 = .ok (.aload_n 0, 1) := by decide +kernel
theorem d_D_areTooNear_31 : decode b_D_areTooNear 31 = .ok (.getfield 47, 3) := by decide +kernel
theorem d_D_areTooNear_34 : decode b_D_areTooNear 34 = .ok (.iadd, 1) := by decide +kernel
theorem d_D_areTooNear_35 : decode b_D_areTooNear 35 = .ok (.if_icmp .ge (27), 3) := by decide +kernel
theorem d_D_areTooNear_38 : decode b_D_areTooNear 38 = .ok (.aload_n 0, 1) := by decide +kernel
theorem d_D_areTooNear_39 : decode b_D_areTooNear 39 = .ok (.getfield 27, 3) := by decide +kernel
theorem d_D_areTooNear_42 : decode b_D_areTooNear 42 = .ok (.iload_n 2, 1) := by decide +kernel
theorem d_D_areTooNear_43 : decode b_D_areTooNear 43 = .ok (.iaload, 1) := by decide +kernel
theorem d_D_areTooNear_44 : decode b_D_areTooNear 44 = .ok (.aload_n 0, 1) := by decide +kernel
theorem d_D_areTooNear_45 : decode b_D_areTooNear 45 = .ok (.getfield 30, 3) := by decide +kernel
theorem d_D_areTooNear_48 : decode b_D_areTooNear 48 = .ok (.iload_n 1, 1) := by decide +kernel
theorem d_D_areTooNear_49 : decode b_D_areTooNear 49 = .ok (.iaload, 1) := by decide +kernel
theorem d_D_areTooNear_50 : decode b_D_areTooNear 50 = .ok (.aload_n 0, 1) := by decide +kernel
theorem d_D_areTooNear_51 : decode b_D_areTooNear 51 = .ok (.getfield 47, 3) := by decide +kernel
theorem d_D_areTooNear_54 : decode b_D_areTooNear 54 = .ok (.iadd, 1) := by decide +kernel
theorem d_D_areTooNear_55 : decode b_D_areTooNear 55 = .ok (.if_icmp .ge (7), 3) := by decide +kernel
theorem d_D_areTooNear_58 : decode b_D_areTooNear 58 = .ok (.iconst 1, 1) := by decide +kernel
theorem d_D_areTooNear_59 : decode b_D_areTooNear 59 = .ok (.goto (4), 3) := by decide +kernel
theorem d_D_areTooNear_62 : decode b_D_areTooNear 62 = .ok (.iconst 0, 1) := by decide +kernel
theorem d_D_areTooNear_63 : decode b_D_areTooNear 63 = .ok (.ireturn, 1) := by decide +kernel
