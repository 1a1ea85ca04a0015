theorem d_G_init_0 : decode b_G_init 0 = .ok (.aload_n 0, 1) := by decide +kernel
theorem d_G_init_1 : decode b_G_init 1 = .ok (.invokespecial 1, 3) := by decide +kernel
theorem d_G_init_4 : decode b_G_init 4 = .ok (.aload_n 0, 1) := by decide +kernel
theorem d_G_init_5 : decode b_G_init 5 = .ok (.new 7, 3) := by decide +kernel
theorem d_G_init_8 : decode b_G_init 8 = .ok (.dup, 1) := by decide +kernel
theorem d_G_init_9 : decode b_G_init 9 = .ok (.invokespecial 9, 3) := by decide +kernel
theorem d_G_init_12 : decode b_G_init 12 = .ok (.putfield 10, 3) := by decide +kernel
theorem d_G_init_15 : decode b_G_init 15 = .ok (.aload_n 0, 1) := by decide +kernel
theorem d_G_init_16 : decode b_G_init 16 = .ok (.new 16, 3) := by decide +kernel
theorem d_G_init_19 : decode b_G_init 19 = .ok (.dup, 1) := by decide +kernel
theorem d_G_init_20 : decode b_G_init 20 = .ok (.invokespecial 18, 3) := by decide +kernel
theorem d_G_init_23 : decode b_G_init 23 = .ok (.putfield 19, 3) := by decide +kernel
theorem d_G_init_26 : decode b_G_init 26 = .ok (.aload_n 0, 1) := by decide +kernel
theorem d_G_init_27 : decode b_G_init 27 = .ok (.bipush 6, 2) := by decide +kernel
theorem d_G_init_29 : decode b_G_init 29 = .ok (.newarray .int, 2) := by decide +kernel
theorem d_G_init_31 : decode b_G_init 31 = .ok (.putfield 23, 3) := by decide +kernel
theorem d_G_init_34 : decode b_G_init 34 = .ok (.aload_n 0, 1) := by decide +kernel
theorem d_G_init_35 : decode b_G_init 35 = .ok (.bipush 6, 2) := by decide +kernel
theorem d_G_init_37 : decode b_G_init 37 = .ok (.newarray .int, 2) := by decide +kernel
theorem d_G_init_39 : decode b_G_init 39 = .ok (.putfield 27, 3) := by decide +kernel
theorem d_G_init_42 : decode b_G_init 42 = .ok (.aload_n 0, 1) := by decide +kernel
theorem d_G_init_43 : decode b_G_init 43 = .ok (.iconst 0, 1) := by decide +kernel
theorem d_G_init_44 : decode b_G_init 44 = .ok (.putfield 30, 3) := by decide +kernel
theorem d_G_init_47 : decode b_G_init 47 = .ok (.aload_n 0, 1) := by decide +kernel
theorem d_G_init_48 : decode b_G_init 48 = .ok (.iconst 0, 1) := by decide +kernel
theorem d_G_init_49 : decode b_G_init 49 = .ok (.putfield 34, 3) := by decide +kernel
theorem d_G_init_52 : decode b_G_init 52 = .ok (.aload_n 0, 1) := by decide +kernel
theorem d_G_init_53 : decode b_G_init 53 = .ok (.iconst (-1), 1) := by decide +kernel
theorem d_G_init_54 : decode b_G_init 54 = .ok (.putfield 37, 3) := by decide +kernel
theorem d_G_init_57 : decode b_G_init 57 = .ok (.aload_n 0, 1) := by decide +kernel
theorem d_G_init_58 : decode b_G_init 58 = .ok (.iconst 0, 1) := by decide +kernel
theorem d_G_init_59 : decode b_G_init 59 = .ok (.putfield 40, 3) := by decide +kernel
theorem d_G_init_62 : decode b_G_init 62 = .ok (.return_, 1) := by decide +kernel
theorem d_G_person_0 : decode b_G_person 0 = .ok (.iload_n 1, 1) := by decide +kernel
theorem d_G_person_1 : decode b_G_person 1 = .ok (.ifCond .lt (10), 3) := by decide +kernel
theorem d_G_person_4 : decode b_G_person 4 = .ok (.iload_n 1, 1) := by decide +kernel
theorem d_G_person_5 : decode b_G_person 5 = .ok (.sipush 256, 3) := by decide +kernel
theorem d_G_person_8 : decode b_G_person 8 = .ok (.if_icmp .lt (13), 3) := by decide +kernel
theorem d_G_person_11 : decode b_G_person 11 = .ok (.new 44, 3) := by decide +kernel
theorem d_G_person_14 : decode b_G_person 14 = .ok (.dup, 1) := by decide +kernel
theorem d_G_person_15 : decode b_G_person 15 = .ok (.ldc 46, 2) := by decide +kernel
theorem d_G_person_17 : decode b_G_person 17 = .ok (.invokespecial 48, 3) := by decide +kernel
theorem d_G_person_20 : decode b_G_person 20 = .ok (.athrow, 1) := by decide +kernel
theorem d_G_person_21 : decode b_G_person 21 = .ok (.aload_n 0, 1) := by decide +kernel
theorem d_G_person_22 : decode b_G_person 22 = .ok (.getfield 10, 3) := by decide +kernel
theorem d_G_person_25 : decode b_G_person 25 = .ok (.getfield 51, 3) := by decide +kernel
theorem d_G_person_28 : decode b_G_person 28 = .ok (.iconst 4, 1) := by decide +kernel
theorem d_G_person_29 : decode b_G_person 29 = .ok (.if_icmp .lt (13), 3) := by decide +kernel
theorem d_G_person_32 : decode b_G_person 32 = .ok (.new 54, 3) := by decide +kernel
theorem d_G_person_35 : decode b_G_person 35 = .ok (.dup, 1) := by decide +kernel
theorem d_G_person_36 : decode b_G_person 36 = .ok (.ldc 56, 2) := by decide +kernel
theorem d_G_person_38 : decode b_G_person 38 = .ok (.invokespecial 58, 3) := by decide +kernel
theorem d_G_person_41 : decode b_G_person 41 = .ok (.athrow, 1) := by decide +kernel
theorem d_G_person_42 : decode b_G_person 42 = .ok (.aload_n 0, 1) := by decide +kernel
theorem d_G_person_43 : decode b_G_person 43 = .ok (.getfield 10, 3) := by decide +kernel
theorem d_G_person_46 : decode b_G_person 46 = .ok (.iload_n 1, 1) := by decide +kernel
theorem d_G_person_47 : decode b_G_person 47 = .ok (.invokevirtual 59, 3) := by decide +kernel
theorem d_G_person_50 : decode b_G_person 50 = .ok (.ireturn, 1) := by decide +kernel
theorem d_G_off_0 : decode b_G_off 0 = .ok (.aload_n 0, 1) := by decide +kernel
theorem d_G_off_1 : decode b_G_off 1 = .ok (.iload_n 1, 1) := by decide +kernel
theorem d_G_off_2 : decode b_G_off 2 = .ok (.invokevirtual 63, 3) := by decide +kernel
theorem d_G_off_5 : decode b_G_off 5 = .ok (.aload_n 0, 1) := by decide +kernel
theorem d_G_off_6 : decode b_G_off 6 = .ok (.iload_n 2, 1) := by decide +kernel
theorem d_G_off_7 : decode b_G_off 7 = .ok (.iload_n 3, 1) := by decide +kernel
theorem d_G_off_8 : decode b_G_off 8 = .ok (.invokevirtual 67, 3) := by decide +kernel
theorem d_G_off_11 : decode b_G_off 11 = .ok (.aload_n 0, 1) := by decide +kernel
theorem d_G_off_12 : decode b_G_off 12 = .ok (.invokevirtual 71, 3) := by decide +kernel
theorem d_G_off_15 : decode b_G_off 15 = .ok (.aload_n 0, 1) := by decide +kernel
theorem d_G_off_16 : decode b_G_off 16 = .ok (.getfield 10, 3) := by decide +kernel
theorem d_G_off_19 : decode b_G_off 19 = .ok (.iload_n 1, 1) := by decide +kernel
theorem d_G_off_20 : decode b_G_off 20 = .ok (.iload_n 2, 1) := by decide +kernel
theorem d_G_off_21 : decode b_G_off 21 = .ok (.iload_n 3, 1) := by decide +kernel
theorem d_G_off_22 : decode b_G_off 22 = .ok (.invokevirtual 74, 3) := by decide +kernel
theorem d_G_off_25 : decode b_G_off 25 = .ok (.aload_n 0, 1) := by decide +kernel
theorem d_G_off_26 : decode b_G_off 26 = .ok (.getfield 10, 3) := by decide +kernel
theorem d_G_off_29 : decode b_G_off 29 = .ok (.getfield 78, 3) := by decide +kernel
theorem d_G_off_32 : decode b_G_off 32 = .ok (.ireturn, 1) := by decide +kernel
theorem d_G_task_0 : decode b_G_task 0 = .ok (.iload_n 1, 1) := by decide +kernel
theorem d_G_task_1 : decode b_G_task 1 = .ok (.ifCond .lt (9), 3) := by decide +kernel
theorem d_G_task_4 : decode b_G_task 4 = .ok (.iload_n 1, 1) := by decide +kernel
theorem d_G_task_5 : decode b_G_task 5 = .ok (.bipush 8, 2) := by decide +kernel
theorem d_G_task_7 : decode b_G_task 7 = .ok (.if_icmp .lt (13), 3) := by decide +kernel
theorem d_G_task_10 : decode b_G_task 10 = .ok (.new 81, 3) := by decide +kernel
theorem d_G_task_13 : decode b_G_task 13 = .ok (.dup, 1) := by decide +kernel
theorem d_G_task_14 : decode b_G_task 14 = .ok (.ldc 83, 2) := by decide +kernel
theorem d_G_task_16 : decode b_G_task 16 = .ok (.invokespecial 85, 3) := by decide +kernel
theorem d_G_task_19 : decode b_G_task 19 = .ok (.athrow, 1) := by decide +kernel
theorem d_G_task_20 : decode b_G_task 20 = .ok (.aload_n 0, 1) := by decide +kernel
theorem d_G_task_21 : decode b_G_task 21 = .ok (.iload_n 2, 1) := by decide +kernel
theorem d_G_task_22 : decode b_G_task 22 = .ok (.iload_n 3, 1) := by decide +kernel
theorem d_G_task_23 : decode b_G_task 23 = .ok (.invokevirtual 67, 3) := by decide +kernel
theorem d_G_task_26 : decode b_G_task 26 = .ok (.aload_n 0, 1) := by decide +kernel
theorem d_G_task_27 : decode b_G_task 27 = .ok (.getfield 10, 3) := by decide +kernel
theorem d_G_task_30 : decode b_G_task 30 = .ok (.getfield 86, 3) := by decide +kernel
theorem d_G_task_33 : decode b_G_task 33 = .ok (.bipush 6, 2) := by decide +kernel
theorem d_G_task_35 : decode b_G_task 35 = .ok (.if_icmp .lt (13), 3) := by decide +kernel
theorem d_G_task_38 : decode b_G_task 38 = .ok (.new 54, 3) := by decide +kernel
theorem d_G_task_41 : decode b_G_task 41 = .ok (.dup, 1) := by decide +kernel
theorem d_G_task_42 : decode b_G_task 42 = .ok (.ldc 89, 2) := by decide +kernel
theorem d_G_task_44 : decode b_G_task 44 = .ok (.invokespecial 58, 3) := by decide +kernel
theorem d_G_task_47 : decode b_G_task 47 = .ok (.athrow, 1) := by decide +kernel
theorem d_G_task_48 : decode b_G_task 48 = .ok (.aload_n 0, 1) := by decide +kernel
theorem d_G_task_49 : decode b_G_task 49 = .ok (.getfield 23, 3) := by decide +kernel
theorem d_G_task_52 : decode b_G_task 52 = .ok (.aload_n 0, 1) := by decide +kernel
theorem d_G_task_53 : decode b_G_task 53 = .ok (.getfield 10, 3) := by decide +kernel
theorem d_G_task_56 : decode b_G_task 56 = .ok (.getfield 86, 3) := by decide +kernel
theorem d_G_task_59 : decode b_G_task 59 = .ok (.iconst (-1), 1) := by decide +kernel
theorem d_G_task_60 : decode b_G_task 60 = .ok (.iastore, 1) := by decide +kernel
theorem d_G_task_61 : decode b_G_task 61 = .ok (.aload_n 0, 1) := by decide +kernel
theorem d_G_task_62 : decode b_G_task 62 = .ok (.getfield 10, 3) := by decide +kernel
theorem d_G_task_65 : decode b_G_task 65 = .ok (.iload_n 1, 1) := by decide +kernel
theorem d_G_task_66 : decode b_G_task 66 = .ok (.iload_n 2, 1) := by decide +kernel
theorem d_G_task_67 : decode b_G_task 67 = .ok (.iload_n 3, 1) := by decide +kernel
theorem d_G_task_68 : decode b_G_task 68 = .ok (.iload 4, 2) := by decide +kernel
theorem d_G_task_70 : decode b_G_task 70 = .ok (.invokevirtual 91, 3) := by decide +kernel
theorem d_G_task_73 : decode b_G_task 73 = .ok (.ireturn, 1) := by decide +kernel
theorem d_G_rest_0 : decode b_G_rest 0 = .ok (.aload_n 0, 1) := by decide +kernel
theorem d_G_rest_1 : decode b_G_rest 1 = .ok (.iload_n 1, 1) := by decide +kernel
theorem d_G_rest_2 : decode b_G_rest 2 = .ok (.invokevirtual 95, 3) := by decide +kernel
theorem d_G_rest_5 : decode b_G_rest 5 = .ok (.aload_n 0, 1) := by decide +kernel
theorem d_G_rest_6 : decode b_G_rest 6 = .ok (.getfield 10, 3) := by decide +kernel
theorem d_G_rest_9 : decode b_G_rest 9 = .ok (.getfield 98, 3) := by decide +kernel
theorem d_G_rest_12 : decode b_G_rest 12 = .ok (.istore_n 2, 1) := by decide +kernel
theorem d_G_rest_13 : decode b_G_rest 13 = .ok (.aload_n 0, 1) := by decide +kernel
theorem d_G_rest_14 : decode b_G_rest 14 = .ok (.getfield 10, 3) := by decide +kernel
theorem d_G_rest_17 : decode b_G_rest 17 = .ok (.iload_n 1, 1) := by decide +kernel
theorem d_G_rest_18 : decode b_G_rest 18 = .ok (.putfield 98, 3) := by decide +kernel
theorem d_G_rest_21 : decode b_G_rest 21 = .ok (.iload_n 2, 1) := by decide +kernel
theorem d_G_rest_22 : decode b_G_rest 22 = .ok (.ireturn, 1) := by decide +kernel
theorem d_G_limit_0 : decode b_G_limit 0 = .ok (.aload_n 0, 1) := by decide +kernel
theorem d_G_limit_1 : decode b_G_limit 1 = .ok (.iload_n 1, 1) := by decide +kernel
theorem d_G_limit_2 : decode b_G_limit 2 = .ok (.invokevirtual 95, 3) := by decide +kernel
theorem d_G_limit_5 : decode b_G_limit 5 = .ok (.aload_n 0, 1) := by decide +kernel
theorem d_G_limit_6 : decode b_G_limit 6 = .ok (.getfield 10, 3) := by decide +kernel
theorem d_G_limit_9 : decode b_G_limit 9 = .ok (.getfield 101, 3) := by decide +kernel
theorem d_G_limit_12 : decode b_G_limit 12 = .ok (.istore_n 2, 1) := by decide +kernel
theorem d_G_limit_13 : decode b_G_limit 13 = .ok (.aload_n 0, 1) := by decide +kernel
theorem d_G_limit_14 : decode b_G_limit 14 = .ok (.getfield 10, 3) := by decide +kernel
theorem d_G_limit_17 : decode b_G_limit 17 = .ok (.iload_n 1, 1) := by decide +kernel
theorem d_G_limit_18 : decode b_G_limit 18 = .ok (.putfield 101, 3) := by decide +kernel
theorem d_G_limit_21 : decode b_G_limit 21 = .ok (.iload_n 2, 1) := by decide +kernel
theorem d_G_limit_22 : decode b_G_limit 22 = .ok (.ireturn, 1) := by decide +kernel
theorem d_G_freeze_0 : decode b_G_freeze 0 = .ok (.aload_n 0, 1) := by decide +kernel
theorem d_G_freeze_1 : decode b_G_freeze 1 = .ok (.iload_n 1, 1) := by decide +kernel
theorem d_G_freeze_2 : decode b_G_freeze 2 = .ok (.invokevirtual 95, 3) := by decide +kernel
theorem d_G_freeze_5 : decode b_G_freeze 5 = .ok (.aload_n 0, 1) := by decide +kernel
theorem d_G_freeze_6 : decode b_G_freeze 6 = .ok (.getfield 34, 3) := by decide +kernel
theorem d_G_freeze_9 : decode b_G_freeze 9 = .ok (.istore_n 2, 1) := by decide +kernel
theorem d_G_freeze_10 : decode b_G_freeze 10 = .ok (.aload_n 0, 1) := by decide +kernel
theorem d_G_freeze_11 : decode b_G_freeze 11 = .ok (.iload_n 1, 1) := by decide +kernel
theorem d_G_freeze_12 : decode b_G_freeze 12 = .ok (.putfield 34, 3) := by decide +kernel
theorem d_G_freeze_15 : decode b_G_freeze 15 = .ok (.iload_n 2, 1) := by decide +kernel
theorem d_G_freeze_16 : decode b_G_freeze 16 = .ok (.ireturn, 1) := by decide +kernel
theorem d_G_run_0 : decode b_G_run 0 = .ok (.aload_n 0, 1) := by decide +kernel
theorem d_G_run_1 : decode b_G_run 1 = .ok (.getfield 19, 3) := by decide +kernel
theorem d_G_run_4 : decode b_G_run 4 = .ok (.aload_n 0, 1) := by decide +kernel
theorem d_G_run_5 : decode b_G_run 5 = .ok (.getfield 10, 3) := by decide +kernel
theorem d_G_run_8 : decode b_G_run 8 = .ok (.aload_n 0, 1) := by decide +kernel
theorem d_G_run_9 : decode b_G_run 9 = .ok (.getfield 23, 3) := by decide +kernel
theorem d_G_run_12 : decode b_G_run 12 = .ok (.invokevirtual 104, 3) := by decide +kernel
theorem d_G_run_15 : decode b_G_run 15 = .ok (.ifCond .ne (25), 3) := by decide +kernel
theorem d_G_run_18 : decode b_G_run 18 = .ok (.aload_n 0, 1) := by decide +kernel
theorem d_G_run_19 : decode b_G_run 19 = .ok (.aload_n 0, 1) := by decide +kernel
theorem d_G_run_20 : decode b_G_run 20 = .ok (.getfield 19, 3) := by decide +kernel
theorem d_G_run_23 : decode b_G_run 23 = .ok (.aload_n 0, 1) := by decide +kernel
theorem d_G_run_24 : decode b_G_run 24 = .ok (.getfield 10, 3) := by decide +kernel
theorem d_G_run_27 : decode b_G_run 27 = .ok (.aload_n 0, 1) := by decide +kernel
theorem d_G_run_28 : decode b_G_run 28 = .ok (.getfield 23, 3) := by decide +kernel
theorem d_G_run_31 : decode b_G_run 31 = .ok (.iconst 0, 1) := by decide +kernel
theorem d_G_run_32 : decode b_G_run 32 = .ok (.invokevirtual 108, 3) := by decide +kernel
theorem d_G_run_35 : decode b_G_run 35 = .ok (.putfield 37, 3) := by decide +kernel
theorem d_G_run_38 : decode b_G_run 38 = .ok (.iconst (-1), 1) := by decide +kernel
theorem d_G_run_39 : decode b_G_run 39 = .ok (.ireturn, 1) := by decide +kernel
theorem d_G_run_40 : decode b_G_run 40 = .ok (.aload_n 0, 1) := by decide +kernel
theorem d_G_run_41 : decode b_G_run 41 = .ok (.invokevirtual 112, 3) := by decide +kernel
theorem d_G_run_44 : decode b_G_run 44 = .ok (.aload_n 0, 1) := by decide +kernel
theorem d_G_run_45 : decode b_G_run 45 = .ok (.invokevirtual 115, 3) := by decide +kernel
theorem d_G_run_48 : decode b_G_run 48 = .ok (.ireturn, 1) := by decide +kernel
theorem d_G_told_0 : decode b_G_told 0 = .ok (.aload_n 0, 1) := by decide +kernel
theorem d_G_told_1 : decode b_G_told 1 = .ok (.getfield 37, 3) := by decide +kernel
theorem d_G_told_4 : decode b_G_told 4 = .ok (.ireturn, 1) := by decide +kernel
theorem d_G_of_0 : decode b_G_of 0 = .ok (.aload_n 0, 1) := by decide +kernel
theorem d_G_of_1 : decode b_G_of 1 = .ok (.iload_n 1, 1) := by decide +kernel
theorem d_G_of_2 : decode b_G_of 2 = .ok (.invokevirtual 119, 3) := by decide +kernel
theorem d_G_of_5 : decode b_G_of 5 = .ok (.aload_n 0, 1) := by decide +kernel
theorem d_G_of_6 : decode b_G_of 6 = .ok (.getfield 23, 3) := by decide +kernel
theorem d_G_of_9 : decode b_G_of 9 = .ok (.iload_n 1, 1) := by decide +kernel
theorem d_G_of_10 : decode b_G_of 10 = .ok (.iaload, 1) := by decide +kernel
theorem d_G_of_11 : decode b_G_of 11 = .ok (.ireturn, 1) := by decide +kernel
theorem d_G_cost_0 : decode b_G_cost 0 = .ok (.aload_n 0, 1) := by decide +kernel
theorem d_G_cost_1 : decode b_G_cost 1 = .ok (.invokevirtual 122, 3) := by decide +kernel
theorem d_G_cost_4 : decode b_G_cost 4 = .ok (.aload_n 0, 1) := by decide +kernel
theorem d_G_cost_5 : decode b_G_cost 5 = .ok (.invokevirtual 115, 3) := by decide +kernel
theorem d_G_cost_8 : decode b_G_cost 8 = .ok (.ireturn, 1) := by decide +kernel
theorem d_G_absent_0 : decode b_G_absent 0 = .ok (.aload_n 0, 1) := by decide +kernel
theorem d_G_absent_1 : decode b_G_absent 1 = .ok (.iload_n 1, 1) := by decide +kernel
theorem d_G_absent_2 : decode b_G_absent 2 = .ok (.invokevirtual 63, 3) := by decide +kernel
theorem d_G_absent_5 : decode b_G_absent 5 = .ok (.aload_n 0, 1) := by decide +kernel
theorem d_G_absent_6 : decode b_G_absent 6 = .ok (.iload_n 2, 1) := by decide +kernel
theorem d_G_absent_7 : decode b_G_absent 7 = .ok (.bipush 96, 2) := by decide +kernel
theorem d_G_absent_9 : decode b_G_absent 9 = .ok (.invokevirtual 67, 3) := by decide +kernel
theorem d_G_absent_12 : decode b_G_absent 12 = .ok (.aload_n 0, 1) := by decide +kernel
theorem d_G_absent_13 : decode b_G_absent 13 = .ok (.invokevirtual 122, 3) := by decide +kernel
theorem d_G_absent_16 : decode b_G_absent 16 = .ok (.aload_n 0, 1) := by decide +kernel
theorem d_G_absent_17 : decode b_G_absent 17 = .ok (.invokevirtual 71, 3) := by decide +kernel
theorem d_G_absent_20 : decode b_G_absent 20 = .ok (.aload_n 0, 1) := by decide +kernel
theorem d_G_absent_21 : decode b_G_absent 21 = .ok (.getfield 10, 3) := by decide +kernel
theorem d_G_absent_24 : decode b_G_absent 24 = .ok (.iload_n 1, 1) := by decide +kernel
theorem d_G_absent_25 : decode b_G_absent 25 = .ok (.iload_n 2, 1) := by decide +kernel
theorem d_G_absent_26 : decode b_G_absent 26 = .ok (.bipush 96, 2) := by decide +kernel
theorem d_G_absent_28 : decode b_G_absent 28 = .ok (.invokevirtual 74, 3) := by decide +kernel
theorem d_G_absent_31 : decode b_G_absent 31 = .ok (.aload_n 0, 1) := by decide +kernel
theorem d_G_absent_32 : decode b_G_absent 32 = .ok (.getfield 19, 3) := by decide +kernel
theorem d_G_absent_35 : decode b_G_absent 35 = .ok (.aload_n 0, 1) := by decide +kernel
theorem d_G_absent_36 : decode b_G_absent 36 = .ok (.getfield 10, 3) := by decide +kernel
theorem d_G_absent_39 : decode b_G_absent 39 = .ok (.aload_n 0, 1) := by decide +kernel
theorem d_G_absent_40 : decode b_G_absent 40 = .ok (.getfield 23, 3) := by decide +kernel
theorem d_G_absent_43 : decode b_G_absent 43 = .ok (.aload_n 0, 1) := by decide +kernel
theorem d_G_absent_44 : decode b_G_absent 44 = .ok (.getfield 34, 3) := by decide +kernel
theorem d_G_absent_47 : decode b_G_absent 47 = .ok (.invokevirtual 125, 3) := by decide +kernel
theorem d_G_absent_50 : decode b_G_absent 50 = .ok (.ifCond .ne (35), 3) := by decide +kernel
theorem d_G_absent_53 : decode b_G_absent 53 = .ok (.aload_n 0, 1) := by decide +kernel
theorem d_G_absent_54 : decode b_G_absent 54 = .ok (.aload_n 0, 1) := by decide +kernel
theorem d_G_absent_55 : decode b_G_absent 55 = .ok (.getfield 19, 3) := by decide +kernel
theorem d_G_absent_58 : decode b_G_absent 58 = .ok (.aload_n 0, 1) := by decide +kernel
theorem d_G_absent_59 : decode b_G_absent 59 = .ok (.getfield 10, 3) := by decide +kernel
theorem d_G_absent_62 : decode b_G_absent 62 = .ok (.aload_n 0, 1) := by decide +kernel
theorem d_G_absent_63 : decode b_G_absent 63 = .ok (.getfield 23, 3) := by decide +kernel
theorem d_G_absent_66 : decode b_G_absent 66 = .ok (.aload_n 0, 1) := by decide +kernel
theorem d_G_absent_67 : decode b_G_absent 67 = .ok (.getfield 34, 3) := by decide +kernel
theorem d_G_absent_70 : decode b_G_absent 70 = .ok (.invokevirtual 108, 3) := by decide +kernel
theorem d_G_absent_73 : decode b_G_absent 73 = .ok (.putfield 37, 3) := by decide +kernel
theorem d_G_absent_76 : decode b_G_absent 76 = .ok (.aload_n 0, 1) := by decide +kernel
theorem d_G_absent_77 : decode b_G_absent 77 = .ok (.getfield 10, 3) := by decide +kernel
theorem d_G_absent_80 : decode b_G_absent 80 = .ok (.invokevirtual 129, 3) := by decide +kernel
theorem d_G_absent_83 : decode b_G_absent 83 = .ok (.iconst (-1), 1) := by decide +kernel
theorem d_G_absent_84 : decode b_G_absent 84 = .ok (.ireturn, 1) := by decide +kernel
theorem d_G_absent_85 : decode b_G_absent 85 = .ok (.aload_n 0, 1) := by decide +kernel
theorem d_G_absent_86 : decode b_G_absent 86 = .ok (.invokevirtual 132, 3) := by decide +kernel
theorem d_G_absent_89 : decode b_G_absent 89 = .ok (.aload_n 0, 1) := by decide +kernel
theorem d_G_absent_90 : decode b_G_absent 90 = .ok (.invokevirtual 112, 3) := by decide +kernel
theorem d_G_absent_93 : decode b_G_absent 93 = .ok (.aload_n 0, 1) := by decide +kernel
theorem d_G_absent_94 : decode b_G_absent 94 = .ok (.getfield 30, 3) := by decide +kernel
theorem d_G_absent_97 : decode b_G_absent 97 = .ok (.ireturn, 1) := by decide +kernel
theorem d_G_changed_0 : decode b_G_changed 0 = .ok (.iload_n 1, 1) := by decide +kernel
theorem d_G_changed_1 : decode b_G_changed 1 = .ok (.ifCond .lt (11), 3) := by decide +kernel
theorem d_G_changed_4 : decode b_G_changed 4 = .ok (.iload_n 1, 1) := by decide +kernel
theorem d_G_changed_5 : decode b_G_changed 5 = .ok (.aload_n 0, 1) := by decide +kernel
theorem d_G_changed_6 : decode b_G_changed 6 = .ok (.getfield 30, 3) := by decide +kernel
theorem d_G_changed_9 : decode b_G_changed 9 = .ok (.if_icmp .lt (13), 3) := by decide +kernel
theorem d_G_changed_12 : decode b_G_changed 12 = .ok (.new 81, 3) := by decide +kernel
theorem d_G_changed_15 : decode b_G_changed 15 = .ok (.dup, 1) := by decide +kernel
theorem d_G_changed_16 : decode b_G_changed 16 = .ok (.ldc 135, 2) := by decide +kernel
theorem d_G_changed_18 : decode b_G_changed 18 = .ok (.invokespecial 85, 3) := by decide +kernel
theorem d_G_changed_21 : decode b_G_changed 21 = .ok (.athrow, 1) := by decide +kernel
theorem d_G_changed_22 : decode b_G_changed 22 = .ok (.aload_n 0, 1) := by decide +kernel
theorem d_G_changed_23 : decode b_G_changed 23 = .ok (.getfield 27, 3) := by decide +kernel
theorem d_G_changed_26 : decode b_G_changed 26 = .ok (.iload_n 1, 1) := by decide +kernel
theorem d_G_changed_27 : decode b_G_changed 27 = .ok (.iaload, 1) := by decide +kernel
theorem d_G_changed_28 : decode b_G_changed 28 = .ok (.ireturn, 1) := by decide +kernel
theorem d_G_swap_0 : decode b_G_swap 0 = .ok (.aload_n 0, 1) := by decide +kernel
theorem d_G_swap_1 : decode b_G_swap 1 = .ok (.iload_n 1, 1) := by decide +kernel
theorem d_G_swap_2 : decode b_G_swap 2 = .ok (.invokevirtual 119, 3) := by decide +kernel
theorem d_G_swap_5 : decode b_G_swap 5 = .ok (.aload_n 0, 1) := by decide +kernel
theorem d_G_swap_6 : decode b_G_swap 6 = .ok (.iload_n 2, 1) := by decide +kernel
theorem d_G_swap_7 : decode b_G_swap 7 = .ok (.invokevirtual 119, 3) := by decide +kernel
theorem d_G_swap_10 : decode b_G_swap 10 = .ok (.aload_n 0, 1) := by decide +kernel
theorem d_G_swap_11 : decode b_G_swap 11 = .ok (.invokevirtual 122, 3) := by decide +kernel
theorem d_G_swap_14 : decode b_G_swap 14 = .ok (.aload_n 0, 1) := by decide +kernel
theorem d_G_swap_15 : decode b_G_swap 15 = .ok (.getfield 10, 3) := by decide +kernel
theorem d_G_swap_18 : decode b_G_swap 18 = .ok (.getfield 137, 3) := by decide +kernel
theorem d_G_swap_21 : decode b_G_swap 21 = .ok (.iload_n 1, 1) := by decide +kernel
theorem d_G_swap_22 : decode b_G_swap 22 = .ok (.iaload, 1) := by decide +kernel
theorem d_G_swap_23 : decode b_G_swap 23 = .ok (.aload_n 0, 1) := by decide +kernel
theorem d_G_swap_24 : decode b_G_swap 24 = .ok (.getfield 34, 3) := by decide +kernel
theorem d_G_swap_27 : decode b_G_swap 27 = .ok (.if_icmp .lt (19), 3) := by decide +kernel
theorem d_G_swap_30 : decode b_G_swap 30 = .ok (.aload_n 0, 1) := by decide +kernel
theorem d_G_swap_31 : decode b_G_swap 31 = .ok (.getfield 10, 3) := by decide +kernel
theorem d_G_swap_34 : decode b_G_swap 34 = .ok (.getfield 137, 3) := by decide +kernel
theorem d_G_swap_37 : decode b_G_swap 37 = .ok (.iload_n 2, 1) := by decide +kernel
theorem d_G_swap_38 : decode b_G_swap 38 = .ok (.iaload, 1) := by decide +kernel
theorem d_G_swap_39 : decode b_G_swap 39 = .ok (.aload_n 0, 1) := by decide +kernel
theorem d_G_swap_40 : decode b_G_swap 40 = .ok (.getfield 34, 3) := by decide +kernel
theorem d_G_swap_43 : decode b_G_swap 43 = .ok (.if_icmp .ge (5), 3) := by decide +kernel
theorem d_G_swap_46 : decode b_G_swap 46 = .ok (.iconst 1, 1) := by decide +kernel
theorem d_G_swap_47 : decode b_G_swap 47 = .ok (.ireturn, 1) := by decide +kernel
theorem d_G_swap_48 : decode b_G_swap 48 = .ok (.aload_n 0, 1) := by decide +kernel
theorem d_G_swap_49 : decode b_G_swap 49 = .ok (.getfield 23, 3) := by decide +kernel
theorem d_G_swap_52 : decode b_G_swap 52 = .ok (.iload_n 1, 1) := by decide +kernel
theorem d_G_swap_53 : decode b_G_swap 53 = .ok (.iaload, 1) := by decide +kernel
theorem d_G_swap_54 : decode b_G_swap 54 = .ok (.istore_n 3, 1) := by decide +kernel
theorem d_G_swap_55 : decode b_G_swap 55 = .ok (.aload_n 0, 1) := by decide +kernel
theorem d_G_swap_56 : decode b_G_swap 56 = .ok (.getfield 23, 3) := by decide +kernel
theorem d_G_swap_59 : decode b_G_swap 59 = .ok (.iload_n 2, 1) := by decide +kernel
theorem d_G_swap_60 : decode b_G_swap 60 = .ok (.iaload, 1) := by decide +kernel
theorem d_G_swap_61 : decode b_G_swap 61 = .ok (.istore 4, 2) := by decide +kernel
theorem d_G_swap_63 : decode b_G_swap 63 = .ok (.aload_n 0, 1) := by decide +kernel
theorem d_G_swap_64 : decode b_G_swap 64 = .ok (.iload_n 1, 1) := by decide +kernel
theorem d_G_swap_65 : decode b_G_swap 65 = .ok (.iload 4, 2) := by decide +kernel
theorem d_G_swap_67 : decode b_G_swap 67 = .ok (.invokevirtual 140, 3) := by decide +kernel
theorem d_G_swap_70 : decode b_G_swap 70 = .ok (.ifCond .ne (12), 3) := by decide +kernel
theorem d_G_swap_73 : decode b_G_swap 73 = .ok (.aload_n 0, 1) := by decide +kernel
theorem d_G_swap_74 : decode b_G_swap 74 = .ok (.iload_n 2, 1) := by decide +kernel
theorem d_G_swap_75 : decode b_G_swap 75 = .ok (.iload_n 3, 1) := by decide +kernel
theorem d_G_swap_76 : decode b_G_swap 76 = .ok (.invokevirtual 140, 3) := by decide +kernel
theorem d_G_swap_79 : decode b_G_swap 79 = .ok (.ifCond .eq (5), 3) := by decide +kernel
theorem d_G_swap_82 : decode b_G_swap 82 = .ok (.iconst 2, 1) := by decide +kernel
theorem d_G_swap_83 : decode b_G_swap 83 = .ok (.ireturn, 1) := by decide +kernel
theorem d_G_swap_84 : decode b_G_swap 84 = .ok (.aload_n 0, 1) := by decide +kernel
theorem d_G_swap_85 : decode b_G_swap 85 = .ok (.iload_n 1, 1) := by decide +kernel
theorem d_G_swap_86 : decode b_G_swap 86 = .ok (.iload 4, 2) := by decide +kernel
theorem d_G_swap_88 : decode b_G_swap 88 = .ok (.invokevirtual 144, 3) := by decide +kernel
theorem d_G_swap_91 : decode b_G_swap 91 = .ok (.ifCond .ne (12), 3) := by decide +kernel
theorem d_G_swap_94 : decode b_G_swap 94 = .ok (.aload_n 0, 1) := by decide +kernel
theorem d_G_swap_95 : decode b_G_swap 95 = .ok (.iload_n 2, 1) := by decide +kernel
theorem d_G_swap_96 : decode b_G_swap 96 = .ok (.iload_n 3, 1) := by decide +kernel
theorem d_G_swap_97 : decode b_G_swap 97 = .ok (.invokevirtual 144, 3) := by decide +kernel
theorem d_G_swap_100 : decode b_G_swap 100 = .ok (.ifCond .eq (5), 3) := by decide +kernel
theorem d_G_swap_103 : decode b_G_swap 103 = .ok (.iconst 3, 1) := by decide +kernel
theorem d_G_swap_104 : decode b_G_swap 104 = .ok (.ireturn, 1) := by decide +kernel
theorem d_G_swap_105 : decode b_G_swap 105 = .ok (.aload_n 0, 1) := by decide +kernel
theorem d_G_swap_106 : decode b_G_swap 106 = .ok (.getfield 23, 3) := by decide +kernel
theorem d_G_swap_109 : decode b_G_swap 109 = .ok (.iload_n 1, 1) := by decide +kernel
theorem d_G_swap_110 : decode b_G_swap 110 = .ok (.iload 4, 2) := by decide +kernel
theorem d_G_swap_112 : decode b_G_swap 112 = .ok (.iastore, 1) := by decide +kernel
theorem d_G_swap_113 : decode b_G_swap 113 = .ok (.aload_n 0, 1) := by decide +kernel
theorem d_G_swap_114 : decode b_G_swap 114 = .ok (.getfield 23, 3) := by decide +kernel
theorem d_G_swap_117 : decode b_G_swap 117 = .ok (.iload_n 2, 1) := by decide +kernel
theorem d_G_swap_118 : decode b_G_swap 118 = .ok (.iload_n 3, 1) := by decide +kernel
theorem d_G_swap_119 : decode b_G_swap 119 = .ok (.iastore, 1) := by decide +kernel
theorem d_G_swap_120 : decode b_G_swap 120 = .ok (.aload_n 0, 1) := by decide +kernel
theorem d_G_swap_121 : decode b_G_swap 121 = .ok (.iload_n 3, 1) := by decide +kernel
theorem d_G_swap_122 : decode b_G_swap 122 = .ok (.iload 4, 2) := by decide +kernel
theorem d_G_swap_124 : decode b_G_swap 124 = .ok (.invokevirtual 147, 3) := by decide +kernel
theorem d_G_swap_127 : decode b_G_swap 127 = .ok (.istore 5, 2) := by decide +kernel
theorem d_G_swap_129 : decode b_G_swap 129 = .ok (.iload 5, 2) := by decide +kernel
theorem d_G_swap_131 : decode b_G_swap 131 = .ok (.ifCond .eq (18), 3) := by decide +kernel
theorem d_G_swap_134 : decode b_G_swap 134 = .ok (.aload_n 0, 1) := by decide +kernel
theorem d_G_swap_135 : decode b_G_swap 135 = .ok (.getfield 23, 3) := by decide +kernel
theorem d_G_swap_138 : decode b_G_swap 138 = .ok (.iload_n 1, 1) := by decide +kernel
theorem d_G_swap_139 : decode b_G_swap 139 = .ok (.iload_n 3, 1) := by decide +kernel
theorem d_G_swap_140 : decode b_G_swap 140 = .ok (.iastore, 1) := by decide +kernel
theorem d_G_swap_141 : decode b_G_swap 141 = .ok (.aload_n 0, 1) := by decide +kernel
theorem d_G_swap_142 : decode b_G_swap 142 = .ok (.getfield 23, 3) := by decide +kernel
theorem d_G_swap_145 : decode b_G_swap 145 = .ok (.iload_n 2, 1) := by decide +kernel
theorem d_G_swap_146 : decode b_G_swap 146 = .ok (.iload 4, 2) := by decide +kernel
theorem d_G_swap_148 : decode b_G_swap 148 = .ok (.iastore, 1) := by decide +kernel
theorem d_G_swap_149 : decode b_G_swap 149 = .ok (.iload 5, 2) := by decide +kernel
theorem d_G_swap_151 : decode b_G_swap 151 = .ok (.ireturn, 1) := by decide +kernel
theorem d_G_work_0 : decode b_G_work 0 = .ok (.aload_n 0, 1) := by decide +kernel
theorem d_G_work_1 : decode b_G_work 1 = .ok (.iload_n 1, 1) := by decide +kernel
theorem d_G_work_2 : decode b_G_work 2 = .ok (.invokevirtual 63, 3) := by decide +kernel
theorem d_G_work_5 : decode b_G_work 5 = .ok (.aload_n 0, 1) := by decide +kernel
theorem d_G_work_6 : decode b_G_work 6 = .ok (.iload_n 1, 1) := by decide +kernel
theorem d_G_work_7 : decode b_G_work 7 = .ok (.invokevirtual 151, 3) := by decide +kernel
theorem d_G_work_10 : decode b_G_work 10 = .ok (.ireturn, 1) := by decide +kernel
theorem d_G_fair_0 : decode b_G_fair 0 = .ok (.aload_n 0, 1) := by decide +kernel
theorem d_G_fair_1 : decode b_G_fair 1 = .ok (.getfield 10, 3) := by decide +kernel
theorem d_G_fair_4 : decode b_G_fair 4 = .ok (.getfield 51, 3) := by decide +kernel
theorem d_G_fair_7 : decode b_G_fair 7 = .ok (.ifCond .ne (5), 3) := by decide +kernel
theorem d_G_fair_10 : decode b_G_fair 10 = .ok (.iconst 0, 1) := by decide +kernel
theorem d_G_fair_11 : decode b_G_fair 11 = .ok (.ireturn, 1) := by decide +kernel
theorem d_G_fair_12 : decode b_G_fair 12 = .ok (.iconst 0, 1) := by decide +kernel
theorem d_G_fair_13 : decode b_G_fair 13 = .ok (.istore_n 1, 1) := by decide +kernel
theorem d_G_fair_14 : decode b_G_fair 14 = .ok (.bipush 6, 2) := by decide +kernel
theorem d_G_fair_16 : decode b_G_fair 16 = .ok (.istore_n 2, 1) := by decide +kernel
theorem d_G_fair_17 : decode b_G_fair 17 = .ok (.iconst 0, 1) := by decide +kernel
theorem d_G_fair_18 : decode b_G_fair 18 = .ok (.istore_n 3, 1) := by decide +kernel
theorem d_G_fair_19 : decode b_G_fair 19 = .ok (.iload_n 3, 1) := by decide +kernel
theorem d_G_fair_20 : decode b_G_fair 20 = .ok (.aload_n 0, 1) := by decide +kernel
theorem d_G_fair_21 : decode b_G_fair 21 = .ok (.getfield 10, 3) := by decide +kernel
theorem d_G_fair_24 : decode b_G_fair 24 = .ok (.getfield 51, 3) := by decide +kernel
theorem d_G_fair_27 : decode b_G_fair 27 = .ok (.if_icmp .ge (30), 3) := by decide +kernel
theorem d_G_fair_30 : decode b_G_fair 30 = .ok (.aload_n 0, 1) := by decide +kernel
theorem d_G_fair_31 : decode b_G_fair 31 = .ok (.iload_n 3, 1) := by decide +kernel
theorem d_G_fair_32 : decode b_G_fair 32 = .ok (.invokevirtual 154, 3) := by decide +kernel
theorem d_G_fair_35 : decode b_G_fair 35 = .ok (.istore 4, 2) := by decide +kernel
theorem d_G_fair_37 : decode b_G_fair 37 = .ok (.iload_n 1, 1) := by decide +kernel
theorem d_G_fair_38 : decode b_G_fair 38 = .ok (.iload 4, 2) := by decide +kernel
theorem d_G_fair_40 : decode b_G_fair 40 = .ok (.invokestatic 157, 3) := by decide +kernel
theorem d_G_fair_43 : decode b_G_fair 43 = .ok (.istore_n 1, 1) := by decide +kernel
theorem d_G_fair_44 : decode b_G_fair 44 = .ok (.iload_n 2, 1) := by decide +kernel
theorem d_G_fair_45 : decode b_G_fair 45 = .ok (.iload 4, 2) := by decide +kernel
theorem d_G_fair_47 : decode b_G_fair 47 = .ok (.invokestatic 162, 3) := by decide +kernel
theorem d_G_fair_50 : decode b_G_fair 50 = .ok (.istore_n 2, 1) := by decide +kernel
theorem d_G_fair_51 : decode b_G_fair 51 = .ok (.iinc 3 1, 3) := by decide +kernel
theorem d_G_fair_54 : decode b_G_fair 54 = .ok (.goto (-35), 3) := by decide +kernel
theorem d_G_fair_57 : decode b_G_fair 57 = .ok (.iload_n 1, 1) := by decide +kernel
theorem d_G_fair_58 : decode b_G_fair 58 = .ok (.iload_n 2, 1) := by decide +kernel
theorem d_G_fair_59 : decode b_G_fair 59 = .ok (.isub, 1) := by decide +kernel
theorem d_G_fair_60 : decode b_G_fair 60 = .ok (.ireturn, 1) := by decide +kernel
theorem d_G_count_0 : decode b_G_count 0 = .ok (.iload_n 1, 1) := by decide +kernel
theorem d_G_count_1 : decode b_G_count 1 = .ok (.tableswitch 60 0 3 #[31, 39, 47, 55], 31) := by decide +kernel
theorem d_G_count_32 : decode b_G_count 32 = .ok (.aload_n 0, 1) := by decide +kernel
theorem d_G_count_33 : decode b_G_count 33 = .ok (.getfield 10, 3) := by decide +kernel
theorem d_G_count_36 : decode b_G_count 36 = .ok (.getfield 51, 3) := by decide +kernel
theorem d_G_count_39 : decode b_G_count 39 = .ok (.ireturn, 1) := by decide +kernel
theorem d_G_count_40 : decode b_G_count 40 = .ok (.aload_n 0, 1) := by decide +kernel
theorem d_G_count_41 : decode b_G_count 41 = .ok (.getfield 10, 3) := by decide +kernel
theorem d_G_count_44 : decode b_G_count 44 = .ok (.getfield 86, 3) := by decide +kernel
theorem d_G_count_47 : decode b_G_count 47 = .ok (.ireturn, 1) := by decide +kernel
theorem d_G_count_48 : decode b_G_count 48 = .ok (.aload_n 0, 1) := by decide +kernel
theorem d_G_count_49 : decode b_G_count 49 = .ok (.getfield 10, 3) := by decide +kernel
theorem d_G_count_52 : decode b_G_count 52 = .ok (.getfield 78, 3) := by decide +kernel
theorem d_G_count_55 : decode b_G_count 55 = .ok (.ireturn, 1) := by decide +kernel
theorem d_G_count_56 : decode b_G_count 56 = .ok (.aload_n 0, 1) := by decide +kernel
theorem d_G_count_57 : decode b_G_count 57 = .ok (.getfield 30, 3) := by decide +kernel
theorem d_G_count_60 : decode b_G_count 60 = .ok (.ireturn, 1) := by decide +kernel
theorem d_G_count_61 : decode b_G_count 61 = .ok (.new 81, 3) := by decide +kernel
theorem d_G_count_64 : decode b_G_count 64 = .ok (.dup, 1) := by decide +kernel
theorem d_G_count_65 : decode b_G_count 65 = .ok (.ldc 165, 2) := by decide +kernel
theorem d_G_count_67 : decode b_G_count 67 = .ok (.invokespecial 85, 3) := by decide +kernel
theorem d_G_count_70 : decode b_G_count 70 = .ok (.athrow, 1) := by decide +kernel
theorem d_G_requirePerson_0 : decode b_G_requirePerson 0 = .ok (.aload_n 0, 1) := by decide +kernel
theorem d_G_requirePerson_1 : decode b_G_requirePerson 1 = .ok (.getfield 10, 3) := by decide +kernel
theorem d_G_requirePerson_4 : decode b_G_requirePerson 4 = .ok (.iload_n 1, 1) := by decide +kernel
theorem d_G_requirePerson_5 : decode b_G_requirePerson 5 = .ok (.invokevirtual 167, 3) := by decide +kernel
theorem d_G_requirePerson_8 : decode b_G_requirePerson 8 = .ok (.ifCond .ne (13), 3) := by decide +kernel
theorem d_G_requirePerson_11 : decode b_G_requirePerson 11 = .ok (.new 81, 3) := by decide +kernel
theorem d_G_requirePerson_14 : decode b_G_requirePerson 14 = .ok (.dup, 1) := by decide +kernel
theorem d_G_requirePerson_15 : decode b_G_requirePerson 15 = .ok (.ldc 171, 2) := by decide +kernel
theorem d_G_requirePerson_17 : decode b_G_requirePerson 17 = .ok (.invokespecial 85, 3) := by decide +kernel
theorem d_G_requirePerson_20 : decode b_G_requirePerson 20 = .ok (.athrow, 1) := by decide +kernel
theorem d_G_requirePerson_21 : decode b_G_requirePerson 21 = .ok (.return_, 1) := by decide +kernel
theorem d_G_requireTask_0 : decode b_G_requireTask 0 = .ok (.aload_n 0, 1) := by decide +kernel
theorem d_G_requireTask_1 : decode b_G_requireTask 1 = .ok (.getfield 10, 3) := by decide +kernel
theorem d_G_requireTask_4 : decode b_G_requireTask 4 = .ok (.iload_n 1, 1) := by decide +kernel
theorem d_G_requireTask_5 : decode b_G_requireTask 5 = .ok (.invokevirtual 173, 3) := by decide +kernel
theorem d_G_requireTask_8 : decode b_G_requireTask 8 = .ok (.ifCond .ne (13), 3) := by decide +kernel
theorem d_G_requireTask_11 : decode b_G_requireTask 11 = .ok (.new 81, 3) := by decide +kernel
theorem d_G_requireTask_14 : decode b_G_requireTask 14 = .ok (.dup, 1) := by decide +kernel
theorem d_G_requireTask_15 : decode b_G_requireTask 15 = .ok (.ldc 176, 2) := by decide +kernel
theorem d_G_requireTask_17 : decode b_G_requireTask 17 = .ok (.invokespecial 85, 3) := by decide +kernel
theorem d_G_requireTask_20 : decode b_G_requireTask 20 = .ok (.athrow, 1) := by decide +kernel
theorem d_G_requireTask_21 : decode b_G_requireTask 21 = .ok (.return_, 1) := by decide +kernel
theorem d_G_requireSpan_0 : decode b_G_requireSpan 0 = .ok (.iload_n 1, 1) := by decide +kernel
theorem d_G_requireSpan_1 : decode b_G_requireSpan 1 = .ok (.ifCond .lt (14), 3) := by decide +kernel
theorem d_G_requireSpan_4 : decode b_G_requireSpan 4 = .ok (.iload_n 1, 1) := by decide +kernel
theorem d_G_requireSpan_5 : decode b_G_requireSpan 5 = .ok (.iload_n 2, 1) := by decide +kernel
theorem d_G_requireSpan_6 : decode b_G_requireSpan 6 = .ok (.if_icmp .ge (9), 3) := by decide +kernel
theorem d_G_requireSpan_9 : decode b_G_requireSpan 9 = .ok (.iload_n 2, 1) := by decide +kernel
theorem d_G_requireSpan_10 : decode b_G_requireSpan 10 = .ok (.bipush 96, 2) := by decide +kernel
theorem d_G_requireSpan_12 : decode b_G_requireSpan 12 = .ok (.if_icmp .le (13), 3) := by decide +kernel
theorem d_G_requireSpan_15 : decode b_G_requireSpan 15 = .ok (.new 44, 3) := by decide +kernel
theorem d_G_requireSpan_18 : decode b_G_requireSpan 18 = .ok (.dup, 1) := by decide +kernel
theorem d_G_requireSpan_19 : decode b_G_requireSpan 19 = .ok (.ldc 178, 2) := by decide +kernel
theorem d_G_requireSpan_21 : decode b_G_requireSpan 21 = .ok (.invokespecial 48, 3) := by decide +kernel
theorem d_G_requireSpan_24 : decode b_G_requireSpan 24 = .ok (.athrow, 1) := by decide +kernel
theorem d_G_requireSpan_25 : decode b_G_requireSpan 25 = .ok (.return_, 1) := by decide +kernel
theorem d_G_requireQuarters_0 : decode b_G_requireQuarters 0 = .ok (.iload_n 1, 1) := by decide +kernel
theorem d_G_requireQuarters_1 : decode b_G_requireQuarters 1 = .ok (.ifCond .lt (9), 3) := by decide +kernel
theorem d_G_requireQuarters_4 : decode b_G_requireQuarters 4 = .ok (.iload_n 1, 1) := by decide +kernel
theorem d_G_requireQuarters_5 : decode b_G_requireQuarters 5 = .ok (.bipush 96, 2) := by decide +kernel
theorem d_G_requireQuarters_7 : decode b_G_requireQuarters 7 = .ok (.if_icmp .le (13), 3) := by decide +kernel
theorem d_G_requireQuarters_10 : decode b_G_requireQuarters 10 = .ok (.new 44, 3) := by decide +kernel
theorem d_G_requireQuarters_13 : decode b_G_requireQuarters 13 = .ok (.dup, 1) := by decide +kernel
theorem d_G_requireQuarters_14 : decode b_G_requireQuarters 14 = .ok (.ldc 180, 2) := by decide +kernel
theorem d_G_requireQuarters_16 : decode b_G_requireQuarters 16 = .ok (.invokespecial 48, 3) := by decide +kernel
theorem d_G_requireQuarters_19 : decode b_G_requireQuarters 19 = .ok (.athrow, 1) := by decide +kernel
theorem d_G_requireQuarters_20 : decode b_G_requireQuarters 20 = .ok (.return_, 1) := by decide +kernel
theorem d_G_requirePlan_0 : decode b_G_requirePlan 0 = .ok (.aload_n 0, 1) := by decide +kernel
theorem d_G_requirePlan_1 : decode b_G_requirePlan 1 = .ok (.getfield 40, 3) := by decide +kernel
theorem d_G_requirePlan_4 : decode b_G_requirePlan 4 = .ok (.ifCond .ne (13), 3) := by decide +kernel
theorem d_G_requirePlan_7 : decode b_G_requirePlan 7 = .ok (.new 54, 3) := by decide +kernel
theorem d_G_requirePlan_10 : decode b_G_requirePlan 10 = .ok (.dup, 1) := by decide +kernel
theorem d_G_requirePlan_11 : decode b_G_requirePlan 11 = .ok (.ldc 182, 2) := by decide +kernel
theorem d_G_requirePlan_13 : decode b_G_requirePlan 13 = .ok (.invokespecial 58, 3) := by decide +kernel
theorem d_G_requirePlan_16 : decode b_G_requirePlan 16 = .ok (.athrow, 1) := by decide +kernel
theorem d_G_requirePlan_17 : decode b_G_requirePlan 17 = .ok (.return_, 1) := by decide +kernel
theorem d_G_requireRoomForSpan_0 : decode b_G_requireRoomForSpan 0 = .ok (.aload_n 0, 1) := by decide +kernel
theorem d_G_requireRoomForSpan_1 : decode b_G_requireRoomForSpan 1 = .ok (.getfield 10, 3) := by decide +kernel
theorem d_G_requireRoomForSpan_4 : decode b_G_requireRoomForSpan 4 = .ok (.getfield 78, 3) := by decide +kernel
theorem d_G_requireRoomForSpan_7 : decode b_G_requireRoomForSpan 7 = .ok (.bipush 20, 2) := by decide +kernel
theorem d_G_requireRoomForSpan_9 : decode b_G_requireRoomForSpan 9 = .ok (.if_icmp .lt (13), 3) := by decide +kernel
theorem d_G_requireRoomForSpan_12 : decode b_G_requireRoomForSpan 12 = .ok (.new 54, 3) := by decide +kernel
theorem d_G_requireRoomForSpan_15 : decode b_G_requireRoomForSpan 15 = .ok (.dup, 1) := by decide +kernel
theorem d_G_requireRoomForSpan_16 : decode b_G_requireRoomForSpan 16 = .ok (.ldc 184, 2) := by decide +kernel
theorem d_G_requireRoomForSpan_18 : decode b_G_requireRoomForSpan 18 = .ok (.invokespecial 58, 3) := by decide +kernel
theorem d_G_requireRoomForSpan_21 : decode b_G_requireRoomForSpan 21 = .ok (.athrow, 1) := by decide +kernel
theorem d_G_requireRoomForSpan_22 : decode b_G_requireRoomForSpan 22 = .ok (.return_, 1) := by decide +kernel
theorem d_G_adoptFoundPlan_0 : decode b_G_adoptFoundPlan 0 = .ok (.iconst 0, 1) := by decide +kernel
theorem d_G_adoptFoundPlan_1 : decode b_G_adoptFoundPlan 1 = .ok (.istore_n 1, 1) := by decide +kernel
theorem d_G_adoptFoundPlan_2 : decode b_G_adoptFoundPlan 2 = .ok (.iload_n 1, 1) := by decide +kernel
theorem d_G_adoptFoundPlan_3 : decode b_G_adoptFoundPlan 3 = .ok (.aload_n 0, 1) := by decide +kernel
theorem d_G_adoptFoundPlan_4 : decode b_G_adoptFoundPlan 4 = .ok (.getfield 10, 3) := by decide +kernel
theorem d_G_adoptFoundPlan_7 : decode b_G_adoptFoundPlan 7 = .ok (.getfield 86, 3) := by decide +kernel
theorem d_G_adoptFoundPlan_10 : decode b_G_adoptFoundPlan 10 = .ok (.if_icmp .ge (24), 3) := by decide +kernel
theorem d_G_adoptFoundPlan_13 : decode b_G_adoptFoundPlan 13 = .ok (.aload_n 0, 1) := by decide +kernel
theorem d_G_adoptFoundPlan_14 : decode b_G_adoptFoundPlan 14 = .ok (.getfield 23, 3) := by decide +kernel
theorem d_G_adoptFoundPlan_17 : decode b_G_adoptFoundPlan 17 = .ok (.iload_n 1, 1) := by decide +kernel
theorem d_G_adoptFoundPlan_18 : decode b_G_adoptFoundPlan 18 = .ok (.aload_n 0, 1) := by decide +kernel
theorem d_G_adoptFoundPlan_19 : decode b_G_adoptFoundPlan 19 = .ok (.getfield 19, 3) := by decide +kernel
theorem d_G_adoptFoundPlan_22 : decode b_G_adoptFoundPlan 22 = .ok (.getfield 186, 3) := by decide +kernel
theorem d_G_adoptFoundPlan_25 : decode b_G_adoptFoundPlan 25 = .ok (.iload_n 1, 1) := by decide +kernel
theorem d_G_adoptFoundPlan_26 : decode b_G_adoptFoundPlan 26 = .ok (.iaload, 1) := by decide +kernel
theorem d_G_adoptFoundPlan_27 : decode b_G_adoptFoundPlan 27 = .ok (.iastore, 1) := by decide +kernel
theorem d_G_adoptFoundPlan_28 : decode b_G_adoptFoundPlan 28 = .ok (.iinc 1 1, 3) := by decide +kernel
theorem d_G_adoptFoundPlan_31 : decode b_G_adoptFoundPlan 31 = .ok (.goto (-29), 3) := by decide +kernel
theorem d_G_adoptFoundPlan_34 : decode b_G_adoptFoundPlan 34 = .ok (.aload_n 0, 1) := by decide +kernel
theorem d_G_adoptFoundPlan_35 : decode b_G_adoptFoundPlan 35 = .ok (.iconst 1, 1) := by decide +kernel
theorem d_G_adoptFoundPlan_36 : decode b_G_adoptFoundPlan 36 = .ok (.putfield 40, 3) := by decide +kernel
theorem d_G_adoptFoundPlan_39 : decode b_G_adoptFoundPlan 39 = .ok (.aload_n 0, 1) := by decide +kernel
theorem d_G_adoptFoundPlan_40 : decode b_G_adoptFoundPlan 40 = .ok (.iconst (-1), 1) := by decide +kernel
theorem d_G_adoptFoundPlan_41 : decode b_G_adoptFoundPlan 41 = .ok (.putfield 37, 3) := by decide +kernel
theorem d_G_adoptFoundPlan_44 : decode b_G_adoptFoundPlan 44 = .ok (.return_, 1) := by decide +kernel
theorem d_G_noteChanges_0 : decode b_G_noteChanges 0 = .ok (.aload_n 0, 1) := by decide +kernel
theorem d_G_noteChanges_1 : decode b_G_noteChanges 1 = .ok (.iconst 0, 1) := by decide +kernel
theorem d_G_noteChanges_2 : decode b_G_noteChanges 2 = .ok (.putfield 30, 3) := by decide +kernel
theorem d_G_noteChanges_5 : decode b_G_noteChanges 5 = .ok (.iconst 0, 1) := by decide +kernel
theorem d_G_noteChanges_6 : decode b_G_noteChanges 6 = .ok (.istore_n 1, 1) := by decide +kernel
theorem d_G_noteChanges_7 : decode b_G_noteChanges 7 = .ok (.iload_n 1, 1) := by decide +kernel
theorem d_G_noteChanges_8 : decode b_G_noteChanges 8 = .ok (.aload_n 0, 1) := by decide +kernel
theorem d_G_noteChanges_9 : decode b_G_noteChanges 9 = .ok (.getfield 10, 3) := by decide +kernel
theorem d_G_noteChanges_12 : decode b_G_noteChanges 12 = .ok (.getfield 86, 3) := by decide +kernel
theorem d_G_noteChanges_15 : decode b_G_noteChanges 15 = .ok (.if_icmp .ge (47), 3) := by decide +kernel
theorem d_G_noteChanges_18 : decode b_G_noteChanges 18 = .ok (.aload_n 0, 1) := by decide +kernel
theorem d_G_noteChanges_19 : decode b_G_noteChanges 19 = .ok (.getfield 23, 3) := by decide +kernel
theorem d_G_noteChanges_22 : decode b_G_noteChanges 22 = .ok (.iload_n 1, 1) := by decide +kernel
theorem d_G_noteChanges_23 : decode b_G_noteChanges 23 = .ok (.iaload, 1) := by decide +kernel
theorem d_G_noteChanges_24 : decode b_G_noteChanges 24 = .ok (.aload_n 0, 1) := by decide +kernel
theorem d_G_noteChanges_25 : decode b_G_noteChanges 25 = .ok (.getfield 19, 3) := by decide +kernel
theorem d_G_noteChanges_28 : decode b_G_noteChanges 28 = .ok (.getfield 186, 3) := by decide +kernel
theorem d_G_noteChanges_31 : decode b_G_noteChanges 31 = .ok (.iload_n 1, 1) := by decide +kernel
theorem d_G_noteChanges_32 : decode b_G_noteChanges 32 = .ok (.iaload, 1) := by decide +kernel
theorem d_G_noteChanges_33 : decode b_G_noteChanges 33 = .ok (.if_icmp .eq (23), 3) := by decide +kernel
theorem d_G_noteChanges_36 : decode b_G_noteChanges 36 = .ok (.aload_n 0, 1) := by decide +kernel
theorem d_G_noteChanges_37 : decode b_G_noteChanges 37 = .ok (.getfield 27, 3) := by decide +kernel
theorem d_G_noteChanges_40 : decode b_G_noteChanges 40 = .ok (.aload_n 0, 1) := by decide +kernel
theorem d_G_noteChanges_41 : decode b_G_noteChanges 41 = .ok (.getfield 30, 3) := by decide +kernel
theorem d_G_noteChanges_44 : decode b_G_noteChanges 44 = .ok (.iload_n 1, 1) := by decide +kernel
theorem d_G_noteChanges_45 : decode b_G_noteChanges 45 = .ok (.iastore, 1) := by decide +kernel
theorem d_G_noteChanges_46 : decode b_G_noteChanges 46 = .ok (.aload_n 0, 1) := by decide +kernel
theorem d_G_noteChanges_47 : decode b_G_noteChanges 47 = .ok (.dup, 1) := by decide +kernel
theorem d_G_noteChanges_48 : decode b_G_noteChanges 48 = .ok (.getfield 30, 3) := by decide +kernel
theorem d_G_noteChanges_51 : decode b_G_noteChanges 51 = .ok (.iconst 1, 1) := by decide +kernel
theorem d_G_noteChanges_52 : decode b_G_noteChanges 52 = .ok (.iadd, 1) := by decide +kernel
theorem d_G_noteChanges_53 : decode b_G_noteChanges 53 = .ok (.putfield 30, 3) := by decide +kernel
theorem d_G_noteChanges_56 : decode b_G_noteChanges 56 = .ok (.iinc 1 1, 3) := by decide +kernel
theorem d_G_noteChanges_59 : decode b_G_noteChanges 59 = .ok (.goto (-52), 3) := by decide +kernel
theorem d_G_noteChanges_62 : decode b_G_noteChanges 62 = .ok (.return_, 1) := by decide +kernel
theorem d_G_planCost_0 : decode b_G_planCost 0 = .ok (.iconst 0, 1) := by decide +kernel
theorem d_G_planCost_1 : decode b_G_planCost 1 = .ok (.istore_n 1, 1) := by decide +kernel
theorem d_G_planCost_2 : decode b_G_planCost 2 = .ok (.iconst 0, 1) := by decide +kernel
theorem d_G_planCost_3 : decode b_G_planCost 3 = .ok (.istore_n 2, 1) := by decide +kernel
theorem d_G_planCost_4 : decode b_G_planCost 4 = .ok (.iload_n 2, 1) := by decide +kernel
theorem d_G_planCost_5 : decode b_G_planCost 5 = .ok (.aload_n 0, 1) := by decide +kernel
theorem d_G_planCost_6 : decode b_G_planCost 6 = .ok (.getfield 10, 3) := by decide +kernel
theorem d_G_planCost_9 : decode b_G_planCost 9 = .ok (.getfield 86, 3) := by decide +kernel
theorem d_G_planCost_12 : decode b_G_planCost 12 = .ok (.if_icmp .ge (22), 3) := by decide +kernel
theorem d_G_planCost_15 : decode b_G_planCost 15 = .ok (.aload_n 0, 1) := by decide +kernel
theorem d_G_planCost_16 : decode b_G_planCost 16 = .ok (.getfield 23, 3) := by decide +kernel
theorem d_G_planCost_19 : decode b_G_planCost 19 = .ok (.iload_n 2, 1) := by decide +kernel
theorem d_G_planCost_20 : decode b_G_planCost 20 = .ok (.iaload, 1) := by decide +kernel
theorem d_G_planCost_21 : decode b_G_planCost 21 = .ok (.iconst (-1), 1) := by decide +kernel
theorem d_G_planCost_22 : decode b_G_planCost 22 = .ok (.if_icmp .ne (6), 3) := by decide +kernel
theorem d_G_planCost_25 : decode b_G_planCost 25 = .ok (.iinc 1 100, 3) := by decide +kernel
theorem d_G_planCost_28 : decode b_G_planCost 28 = .ok (.iinc 2 1, 3) := by decide +kernel
theorem d_G_planCost_31 : decode b_G_planCost 31 = .ok (.goto (-27), 3) := by decide +kernel
theorem d_G_planCost_34 : decode b_G_planCost 34 = .ok (.iconst 0, 1) := by decide +kernel
theorem d_G_planCost_35 : decode b_G_planCost 35 = .ok (.istore_n 2, 1) := by decide +kernel
theorem d_G_planCost_36 : decode b_G_planCost 36 = .ok (.iload_n 2, 1) := by decide +kernel
theorem d_G_planCost_37 : decode b_G_planCost 37 = .ok (.aload_n 0, 1) := by decide +kernel
theorem d_G_planCost_38 : decode b_G_planCost 38 = .ok (.getfield 10, 3) := by decide +kernel
theorem d_G_planCost_41 : decode b_G_planCost 41 = .ok (.getfield 51, 3) := by decide +kernel
theorem d_G_planCost_44 : decode b_G_planCost 44 = .ok (.if_icmp .ge (21), 3) := by decide +kernel
theorem d_G_planCost_47 : decode b_G_planCost 47 = .ok (.aload_n 0, 1) := by decide +kernel
theorem d_G_planCost_48 : decode b_G_planCost 48 = .ok (.iload_n 2, 1) := by decide +kernel
theorem d_G_planCost_49 : decode b_G_planCost 49 = .ok (.invokevirtual 154, 3) := by decide +kernel
theorem d_G_planCost_52 : decode b_G_planCost 52 = .ok (.istore_n 3, 1) := by decide +kernel
theorem d_G_planCost_53 : decode b_G_planCost 53 = .ok (.iload_n 1, 1) := by decide +kernel
theorem d_G_planCost_54 : decode b_G_planCost 54 = .ok (.iload_n 3, 1) := by decide +kernel
theorem d_G_planCost_55 : decode b_G_planCost 55 = .ok (.iload_n 3, 1) := by decide +kernel
theorem d_G_planCost_56 : decode b_G_planCost 56 = .ok (.imul, 1) := by decide +kernel
theorem d_G_planCost_57 : decode b_G_planCost 57 = .ok (.iadd, 1) := by decide +kernel
theorem d_G_planCost_58 : decode b_G_planCost 58 = .ok (.istore_n 1, 1) := by decide +kernel
theorem d_G_planCost_59 : decode b_G_planCost 59 = .ok (.iinc 2 1, 3) := by decide +kernel
theorem d_G_planCost_62 : decode b_G_planCost 62 = .ok (.goto (-26), 3) := by decide +kernel
theorem d_G_planCost_65 : decode b_G_planCost 65 = .ok (.iload_n 1, 1) := by decide +kernel
theorem d_G_planCost_66 : decode b_G_planCost 66 = .ok (.ireturn, 1) := by decide +kernel
theorem d_G_numberOfTasks_0 : decode b_G_numberOfTasks 0 = .ok (.iconst 0, 1) := by decide +kernel
theorem d_G_numberOfTasks_1 : decode b_G_numberOfTasks 1 = .ok (.istore_n 2, 1) := by decide +kernel
theorem d_G_numberOfTasks_2 : decode b_G_numberOfTasks 2 = .ok (.iconst 0, 1) := by decide +kernel
theorem d_G_numberOfTasks_3 : decode b_G_numberOfTasks 3 = .ok (.istore_n 3, 1) := by decide +kernel
theorem d_G_numberOfTasks_4 : decode b_G_numberOfTasks 4 = .ok (.iload_n 3, 1) := by decide +kernel
theorem d_G_numberOfTasks_5 : decode b_G_numberOfTasks 5 = .ok (.aload_n 0, 1) := by decide +kernel
theorem d_G_numberOfTasks_6 : decode b_G_numberOfTasks 6 = .ok (.getfield 10, 3) := by decide +kernel
theorem d_G_numberOfTasks_9 : decode b_G_numberOfTasks 9 = .ok (.getfield 86, 3) := by decide +kernel
theorem d_G_numberOfTasks_12 : decode b_G_numberOfTasks 12 = .ok (.if_icmp .ge (22), 3) := by decide +kernel
theorem d_G_numberOfTasks_15 : decode b_G_numberOfTasks 15 = .ok (.aload_n 0, 1) := by decide +kernel
theorem d_G_numberOfTasks_16 : decode b_G_numberOfTasks 16 = .ok (.getfield 23, 3) := by decide +kernel
theorem d_G_numberOfTasks_19 : decode b_G_numberOfTasks 19 = .ok (.iload_n 3, 1) := by decide +kernel
theorem d_G_numberOfTasks_20 : decode b_G_numberOfTasks 20 = .ok (.iaload, 1) := by decide +kernel
theorem d_G_numberOfTasks_21 : decode b_G_numberOfTasks 21 = .ok (.iload_n 1, 1) := by decide +kernel
theorem d_G_numberOfTasks_22 : decode b_G_numberOfTasks 22 = .ok (.if_icmp .ne (6), 3) := by decide +kernel
theorem d_G_numberOfTasks_25 : decode b_G_numberOfTasks 25 = .ok (.iinc 2 1, 3) := by decide +kernel
theorem d_G_numberOfTasks_28 : decode b_G_numberOfTasks 28 = .ok (.iinc 3 1, 3) := by decide +kernel
theorem d_G_numberOfTasks_31 : decode b_G_numberOfTasks 31 = .ok (.goto (-27), 3) := by decide +kernel
theorem d_G_numberOfTasks_34 : decode b_G_numberOfTasks 34 = .ok (.iload_n 2, 1) := by decide +kernel
theorem d_G_numberOfTasks_35 : decode b_G_numberOfTasks 35 = .ok (.ireturn, 1) := by decide +kernel
theorem d_G_quartersOf_0 : decode b_G_quartersOf 0 = .ok (.iconst 0, 1) := by decide +kernel
theorem d_G_quartersOf_1 : decode b_G_quartersOf 1 = .ok (.istore_n 2, 1) := by decide +kernel
theorem d_G_quartersOf_2 : decode b_G_quartersOf 2 = .ok (.iconst 0, 1) := by decide +kernel
theorem d_G_quartersOf_3 : decode b_G_quartersOf 3 = .ok (.istore_n 3, 1) := by decide +kernel
theorem d_G_quartersOf_4 : decode b_G_quartersOf 4 = .ok (.iload_n 3, 1) := by decide +kernel
theorem d_G_quartersOf_5 : decode b_G_quartersOf 5 = .ok (.aload_n 0, 1) := by decide +kernel
theorem d_G_quartersOf_6 : decode b_G_quartersOf 6 = .ok (.getfield 10, 3) := by decide +kernel
theorem d_G_quartersOf_9 : decode b_G_quartersOf 9 = .ok (.getfield 86, 3) := by decide +kernel
theorem d_G_quartersOf_12 : decode b_G_quartersOf 12 = .ok (.if_icmp .ge (30), 3) := by decide +kernel
theorem d_G_quartersOf_15 : decode b_G_quartersOf 15 = .ok (.aload_n 0, 1) := by decide +kernel
theorem d_G_quartersOf_16 : decode b_G_quartersOf 16 = .ok (.getfield 23, 3) := by decide +kernel
theorem d_G_quartersOf_19 : decode b_G_quartersOf 19 = .ok (.iload_n 3, 1) := by decide +kernel
theorem d_G_quartersOf_20 : decode b_G_quartersOf 20 = .ok (.iaload, 1) := by decide +kernel
theorem d_G_quartersOf_21 : decode b_G_quartersOf 21 = .ok (.iload_n 1, 1) := by decide +kernel
theorem d_G_quartersOf_22 : decode b_G_quartersOf 22 = .ok (.if_icmp .ne (14), 3) := by decide +kernel
theorem d_G_quartersOf_25 : decode b_G_quartersOf 25 = .ok (.iload_n 2, 1) := by decide +kernel
theorem d_G_quartersOf_26 : decode b_G_quartersOf 26 = .ok (.aload_n 0, 1) := by decide +kernel
theorem d_G_quartersOf_27 : decode b_G_quartersOf 27 = .ok (.getfield 10, 3) := by decide +kernel
theorem d_G_quartersOf_30 : decode b_G_quartersOf 30 = .ok (.iload_n 3, 1) := by decide +kernel
theorem d_G_quartersOf_31 : decode b_G_quartersOf 31 = .ok (.invokevirtual 189, 3) := by decide +kernel
theorem d_G_quartersOf_34 : decode b_G_quartersOf 34 = .ok (.iadd, 1) := by decide +kernel
theorem d_G_quartersOf_35 : decode b_G_quartersOf 35 = .ok (.istore_n 2, 1) := by decide +kernel
theorem d_G_quartersOf_36 : decode b_G_quartersOf 36 = .ok (.iinc 3 1, 3) := by decide +kernel
theorem d_G_quartersOf_39 : decode b_G_quartersOf 39 = .ok (.goto (-35), 3) := by decide +kernel
theorem d_G_quartersOf_42 : decode b_G_quartersOf 42 = .ok (.iload_n 2, 1) := by decide +kernel
theorem d_G_quartersOf_43 : decode b_G_quartersOf 43 = .ok (.ireturn, 1) := by decide +kernel
theorem d_G_empties_0 : decode b_G_empties 0 = .ok (.aload_n 0, 1) := by decide +kernel
theorem d_G_empties_1 : decode b_G_empties 1 = .ok (.getfield 10, 3) := by decide +kernel
theorem d_G_empties_4 : decode b_G_empties 4 = .ok (.getfield 192, 3) := by decide +kernel
theorem d_G_empties_7 : decode b_G_empties 7 = .ok (.iload_n 1, 1) := by decide +kernel
theorem d_G_empties_8 : decode b_G_empties 8 = .ok (.baload, 1) := by decide +kernel
theorem d_G_empties_9 : decode b_G_empties 9 = .ok (.ifCond .eq (12), 3) := by decide +kernel
theorem d_G_empties_12 : decode b_G_empties 12 = .ok (.iload_n 2, 1) := by decide +kernel
theorem d_G_empties_13 : decode b_G_empties 13 = .ok (.iconst (-1), 1) := by decide +kernel
theorem d_G_empties_14 : decode b_G_empties 14 = .ok (.if_icmp .ne (7), 3) := by decide +kernel
theorem d_G_empties_17 : decode b_G_empties 17 = .ok (.iconst 1, 1) := by decide +kernel
theorem d_G_empties_18 : decode b_G_empties 18 = .ok (.goto (4), 3) := by decide +kernel
theorem d_G_empties_21 : decode b_G_empties 21 = .ok (.iconst 0, 1) := by decide +kernel
theorem d_G_empties_22 : decode b_G_empties 22 = .ok (.ireturn, 1) := by decide +kernel
theorem d_G_isUnsuited_0 : decode b_G_isUnsuited 0 = .ok (.iload_n 2, 1) := by decide +kernel
theorem d_G_isUnsuited_1 : decode b_G_isUnsuited 1 = .ok (.iconst (-1), 1) := by decide +kernel
theorem d_G_isUnsuited_2 : decode b_G_isUnsuited 2 = .ok (.if_icmp .eq (19), 3) := by decide +kernel
theorem d_G_isUnsuited_5 : decode b_G_isUnsuited 5 = .ok (.aload_n 0, 1) := by decide +kernel
theorem d_G_isUnsuited_6 : decode b_G_isUnsuited 6 = .ok (.getfield 10, 3) := by decide +kernel
theorem d_G_isUnsuited_9 : decode b_G_isUnsuited 9 = .ok (.iload_n 2, 1) := by decide +kernel
theorem d_G_isUnsuited_10 : decode b_G_isUnsuited 10 = .ok (.iload_n 1, 1) := by decide +kernel
theorem d_G_isUnsuited_11 : decode b_G_isUnsuited 11 = .ok (.invokevirtual 196, 3) := by decide +kernel
theorem d_G_isUnsuited_14 : decode b_G_isUnsuited 14 = .ok (.ifCond .ne (7), 3) := by decide +kernel
theorem d_G_isUnsuited_17 : decode b_G_isUnsuited 17 = .ok (.iconst 1, 1) := by decide +kernel
theorem d_G_isUnsuited_18 : decode b_G_isUnsuited 18 = .ok (.goto (4), 3) := by decide +kernel
theorem d_G_isUnsuited_21 : decode b_G_isUnsuited 21 = .ok (.iconst 0, 1) := by decide +kernel
theorem d_G_isUnsuited_22 : decode b_G_isUnsuited 22 = .ok (.ireturn, 1) := by decide +kernel
theorem d_G_faultOfSets_0 : decode b_G_faultOfSets 0 = .ok (.aload_n 0, 1) := by decide +kernel
theorem d_G_faultOfSets_1 : decode b_G_faultOfSets 1 = .ok (.iload_n 1, 1) := by decide +kernel
theorem d_G_faultOfSets_2 : decode b_G_faultOfSets 2 = .ok (.invokevirtual 199, 3) := by decide +kernel
theorem d_G_faultOfSets_5 : decode b_G_faultOfSets 5 = .ok (.ifCond .ne (11), 3) := by decide +kernel
theorem d_G_faultOfSets_8 : decode b_G_faultOfSets 8 = .ok (.aload_n 0, 1) := by decide +kernel
theorem d_G_faultOfSets_9 : decode b_G_faultOfSets 9 = .ok (.iload_n 2, 1) := by decide +kernel
theorem d_G_faultOfSets_10 : decode b_G_faultOfSets 10 = .ok (.invokevirtual 199, 3) := by decide +kernel
theorem d_G_faultOfSets_13 : decode b_G_faultOfSets 13 = .ok (.ifCond .eq (5), 3) := by decide +kernel
theorem d_G_faultOfSets_16 : decode b_G_faultOfSets 16 = .ok (.iconst 4, 1) := by decide +kernel
theorem d_G_faultOfSets_17 : decode b_G_faultOfSets 17 = .ok (.ireturn, 1) := by decide +kernel
theorem d_G_faultOfSets_18 : decode b_G_faultOfSets 18 = .ok (.aload_n 0, 1) := by decide +kernel
theorem d_G_faultOfSets_19 : decode b_G_faultOfSets 19 = .ok (.iload_n 1, 1) := by decide +kernel
theorem d_G_faultOfSets_20 : decode b_G_faultOfSets 20 = .ok (.invokevirtual 202, 3) := by decide +kernel
theorem d_G_faultOfSets_23 : decode b_G_faultOfSets 23 = .ok (.ifCond .ne (11), 3) := by decide +kernel
theorem d_G_faultOfSets_26 : decode b_G_faultOfSets 26 = .ok (.aload_n 0, 1) := by decide +kernel
theorem d_G_faultOfSets_27 : decode b_G_faultOfSets 27 = .ok (.iload_n 2, 1) := by decide +kernel
theorem d_G_faultOfSets_28 : decode b_G_faultOfSets 28 = .ok (.invokevirtual 202, 3) := by decide +kernel
theorem d_G_faultOfSets_31 : decode b_G_faultOfSets 31 = .ok (.ifCond .eq (5), 3) := by decide +kernel
theorem d_G_faultOfSets_34 : decode b_G_faultOfSets 34 = .ok (.iconst 5, 1) := by decide +kernel
theorem d_G_faultOfSets_35 : decode b_G_faultOfSets 35 = .ok (.ireturn, 1) := by decide +kernel
theorem d_G_faultOfSets_36 : decode b_G_faultOfSets 36 = .ok (.iconst 0, 1) := by decide +kernel
theorem d_G_faultOfSets_37 : decode b_G_faultOfSets 37 = .ok (.ireturn, 1) := by decide +kernel
theorem d_G_hasTasksTooNear_0 : decode b_G_hasTasksTooNear 0 = .ok (.iload_n 1, 1) := by decide +kernel
theorem d_G_hasTasksTooNear_1 : decode b_G_hasTasksTooNear 1 = .ok (.iconst (-1), 1) := by decide +kernel
theorem d_G_hasTasksTooNear_2 : decode b_G_hasTasksTooNear 2 = .ok (.if_icmp .ne (5), 3) := by decide +kernel
theorem d_G_hasTasksTooNear_5 : decode b_G_hasTasksTooNear 5 = .ok (.iconst 0, 1) := by decide +kernel
theorem d_G_hasTasksTooNear_6 : decode b_G_hasTasksTooNear 6 = .ok (.ireturn, 1) := by decide +kernel
theorem d_G_hasTasksTooNear_7 : decode b_G_hasTasksTooNear 7 = .ok (.iconst 0, 1) := by decide +kernel
theorem d_G_hasTasksTooNear_8 : decode b_G_hasTasksTooNear 8 = .ok (.istore_n 2, 1) := by decide +kernel
theorem d_G_hasTasksTooNear_9 : decode b_G_hasTasksTooNear 9 = .ok (.iload_n 2, 1) := by decide +kernel
theorem d_G_hasTasksTooNear_10 : decode b_G_hasTasksTooNear 10 = .ok (.aload_n 0, 1) := by decide +kernel
theorem d_G_hasTasksTooNear_11 : decode b_G_hasTasksTooNear 11 = .ok (.getfield 10, 3) := by decide +kernel
theorem d_G_hasTasksTooNear_14 : decode b_G_hasTasksTooNear 14 = .ok (.getfield 86, 3) := by decide +kernel
theorem d_G_hasTasksTooNear_17 : decode b_G_hasTasksTooNear 17 = .ok (.if_icmp .ge (64), 3) := by decide +kernel
theorem d_G_hasTasksTooNear_20 : decode b_G_hasTasksTooNear 20 = .ok (.iload_n 2, 1) := by decide +kernel
theorem d_G_hasTasksTooNear_21 : decode b_G_hasTasksTooNear 21 = .ok (.iconst 1, 1) := by decide +kernel
theorem d_G_hasTasksTooNear_22 : decode b_G_hasTasksTooNear 22 = .ok (.iadd, 1) := by decide +kernel
theorem d_G_hasTasksTooNear_23 : decode b_G_hasTasksTooNear 23 = .ok (.istore_n 3, 1) := by decide +kernel
theorem d_G_hasTasksTooNear_24 : decode b_G_hasTasksTooNear 24 = .ok (.iload_n 3, 1) := by decide +kernel
theorem d_G_hasTasksTooNear_25 : decode b_G_hasTasksTooNear 25 = .ok (.aload_n 0, 1) := by decide +kernel
theorem d_G_hasTasksTooNear_26 : decode b_G_hasTasksTooNear 26 = .ok (.getfield 10, 3) := by decide +kernel
theorem d_G_hasTasksTooNear_29 : decode b_G_hasTasksTooNear 29 = .ok (.getfield 86, 3) := by decide +kernel
theorem d_G_hasTasksTooNear_32 : decode b_G_hasTasksTooNear 32 = .ok (.if_icmp .ge (43), 3) := by decide +kernel
theorem d_G_hasTasksTooNear_35 : decode b_G_hasTasksTooNear 35 = .ok (.aload_n 0, 1) := by decide +kernel
theorem d_G_hasTasksTooNear_36 : decode b_G_hasTasksTooNear 36 = .ok (.getfield 23, 3) := by decide +kernel
theorem d_G_hasTasksTooNear_39 : decode b_G_hasTasksTooNear 39 = .ok (.iload_n 2, 1) := by decide +kernel
theorem d_G_hasTasksTooNear_40 : decode b_G_hasTasksTooNear 40 = .ok (.iaload, 1) := by decide +kernel
theorem d_G_hasTasksTooNear_41 : decode b_G_hasTasksTooNear 41 = .ok (.iload_n 1, 1) := by decide +kernel
theorem d_G_hasTasksTooNear_42 : decode b_G_hasTasksTooNear 42 = .ok (.if_icmp .ne (27), 3) := by decide +kernel
theorem d_G_hasTasksTooNear_45 : decode b_G_hasTasksTooNear 45 = .ok (.aload_n 0, 1) := by decide +kernel
theorem d_G_hasTasksTooNear_46 : decode b_G_hasTasksTooNear 46 = .ok (.getfield 23, 3) := by decide +kernel
theorem d_G_hasTasksTooNear_49 : decode b_G_hasTasksTooNear 49 = .ok (.iload_n 3, 1) := by decide +kernel
theorem d_G_hasTasksTooNear_50 : decode b_G_hasTasksTooNear 50 = .ok (.iaload, 1) := by decide +kernel
theorem d_G_hasTasksTooNear_51 : decode b_G_hasTasksTooNear 51 = .ok (.iload_n 1, 1) := by decide +kernel
theorem d_G_hasTasksTooNear_52 : decode b_G_hasTasksTooNear 52 = .ok (.if_icmp .ne (17), 3) := by decide +kernel
theorem d_G_hasTasksTooNear_55 : decode b_G_hasTasksTooNear 55 = .ok (.aload_n 0, 1) := by decide +kernel
theorem d_G_hasTasksTooNear_56 : decode b_G_hasTasksTooNear 56 = .ok (.getfield 10, 3) := by decide +kernel
theorem d_G_hasTasksTooNear_59 : decode b_G_hasTasksTooNear 59 = .ok (.iload_n 2, 1) := by decide +kernel
theorem d_G_hasTasksTooNear_60 : decode b_G_hasTasksTooNear 60 = .ok (.iload_n 3, 1) := by decide +kernel
theorem d_G_hasTasksTooNear_61 : decode b_G_hasTasksTooNear 61 = .ok (.invokevirtual 205, 3) := by decide +kernel
theorem d_G_hasTasksTooNear_64 : decode b_G_hasTasksTooNear 64 = .ok (.ifCond .eq (5), 3) := by decide +kernel
theorem d_G_hasTasksTooNear_67 : decode b_G_hasTasksTooNear 67 = .ok (.iconst 1, 1) := by decide +kernel
theorem d_G_hasTasksTooNear_68 : decode b_G_hasTasksTooNear 68 = .ok (.ireturn, 1) := by decide +kernel
theorem d_G_hasTasksTooNear_69 : decode b_G_hasTasksTooNear 69 = .ok (.iinc 3 1, 3) := by decide +kernel
theorem d_G_hasTasksTooNear_72 : decode b_G_hasTasksTooNear 72 = .ok (.goto (-48), 3) := by decide +kernel
theorem d_G_hasTasksTooNear_75 : decode b_G_hasTasksTooNear 75 = .ok (.iinc 2 1, 3) := by decide +kernel
theorem d_G_hasTasksTooNear_78 : decode b_G_hasTasksTooNear 78 = .ok (.goto (-69), 3) := by decide +kernel
theorem d_G_hasTasksTooNear_81 : decode b_G_hasTasksTooNear 81 = .ok (.iconst 0, 1) := by decide +kernel
theorem d_G_hasTasksTooNear_82 : decode b_G_hasTasksTooNear 82 = .ok (.ireturn, 1) := by decide +kernel
theorem d_G_worksTooLong_0 : decode b_G_worksTooLong 0 = .ok (.iload_n 1, 1) := by decide +kernel
theorem d_G_worksTooLong_1 : decode b_G_worksTooLong 1 = .ok (.iconst (-1), 1) := by decide +kernel
theorem d_G_worksTooLong_2 : decode b_G_worksTooLong 2 = .ok (.if_icmp .eq (22), 3) := by decide +kernel
theorem d_G_worksTooLong_5 : decode b_G_worksTooLong 5 = .ok (.aload_n 0, 1) := by decide +kernel
theorem d_G_worksTooLong_6 : decode b_G_worksTooLong 6 = .ok (.iload_n 1, 1) := by decide +kernel
theorem d_G_worksTooLong_7 : decode b_G_worksTooLong 7 = .ok (.invokevirtual 151, 3) := by decide +kernel
theorem d_G_worksTooLong_10 : decode b_G_worksTooLong 10 = .ok (.aload_n 0, 1) := by decide +kernel
theorem d_G_worksTooLong_11 : decode b_G_worksTooLong 11 = .ok (.getfield 10, 3) := by decide +kernel
theorem d_G_worksTooLong_14 : decode b_G_worksTooLong 14 = .ok (.getfield 101, 3) := by decide +kernel
theorem d_G_worksTooLong_17 : decode b_G_worksTooLong 17 = .ok (.if_icmp .le (7), 3) := by decide +kernel
theorem d_G_worksTooLong_20 : decode b_G_worksTooLong 20 = .ok (.iconst 1, 1) := by decide +kernel
theorem d_G_worksTooLong_21 : decode b_G_worksTooLong 21 = .ok (.goto (4), 3) := by decide +kernel
theorem d_G_worksTooLong_24 : decode b_G_worksTooLong 24 = .ok (.iconst 0, 1) := by decide +kernel
theorem d_G_worksTooLong_25 : decode b_G_worksTooLong 25 = .ok (.ireturn, 1) := by decide +kernel
