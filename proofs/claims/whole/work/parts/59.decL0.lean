theorem d_L_person_0 : decode b_L_person 0 = .ok (.aload_n 2, 1) := by decide +kernel
theorem d_L_person_1 : decode b_L_person 1 = .ok (.iconst 0, 1) := by decide +kernel
theorem d_L_person_2 : decode b_L_person 2 = .ok (.aload_n 0, 1) := by decide +kernel
theorem d_L_person_3 : decode b_L_person 3 = .ok (.iload_n 1, 1) := by decide +kernel
theorem d_L_person_4 : decode b_L_person 4 = .ok (.invokevirtual 7, 3) := by decide +kernel
theorem d_L_person_7 : decode b_L_person 7 = .ok (.i2l, 1) := by decide +kernel
theorem d_L_person_8 : decode b_L_person 8 = .ok (.lastore, 1) := by decide +kernel
theorem d_L_person_9 : decode b_L_person 9 = .ok (.goto (9), 3) := by decide +kernel
theorem d_L_person_12 : decode b_L_person 12 = .ok (.astore_n 3, 1) := by decide +kernel
theorem d_L_person_13 : decode b_L_person 13 = .ok (.iconst 1, 1) := by decide +kernel
theorem d_L_person_14 : decode b_L_person 14 = .ok (.ireturn, 1) := by decide +kernel
theorem d_L_person_15 : decode b_L_person 15 = .ok (.astore_n 3, 1) := by decide +kernel
theorem d_L_person_16 : decode b_L_person 16 = .ok (.iconst 2, 1) := by decide +kernel
theorem d_L_person_17 : decode b_L_person 17 = .ok (.ireturn, 1) := by decide +kernel
theorem d_L_person_18 : decode b_L_person 18 = .ok (.iconst 0, 1) := by decide +kernel
theorem d_L_person_19 : decode b_L_person 19 = .ok (.ireturn, 1) := by decide +kernel
theorem d_L_off_0 : decode b_L_off 0 = .ok (.aload 4, 2) := by decide +kernel
theorem d_L_off_2 : decode b_L_off 2 = .ok (.iconst 0, 1) := by decide +kernel
theorem d_L_off_3 : decode b_L_off 3 = .ok (.aload_n 0, 1) := by decide +kernel
theorem d_L_off_4 : decode b_L_off 4 = .ok (.iload_n 1, 1) := by decide +kernel
theorem d_L_off_5 : decode b_L_off 5 = .ok (.iload_n 2, 1) := by decide +kernel
theorem d_L_off_6 : decode b_L_off 6 = .ok (.iload_n 3, 1) := by decide +kernel
theorem d_L_off_7 : decode b_L_off 7 = .ok (.invokevirtual 17, 3) := by decide +kernel
theorem d_L_off_10 : decode b_L_off 10 = .ok (.i2l, 1) := by decide +kernel
theorem d_L_off_11 : decode b_L_off 11 = .ok (.lastore, 1) := by decide +kernel
theorem d_L_off_12 : decode b_L_off 12 = .ok (.goto (15), 3) := by decide +kernel
theorem d_L_off_15 : decode b_L_off 15 = .ok (.astore 5, 2) := by decide +kernel
theorem d_L_off_17 : decode b_L_off 17 = .ok (.iconst 1, 1) := by decide +kernel
theorem d_L_off_18 : decode b_L_off 18 = .ok (.ireturn, 1) := by decide +kernel
theorem d_L_off_19 : decode b_L_off 19 = .ok (.astore 5, 2) := by decide +kernel
theorem d_L_off_21 : decode b_L_off 21 = .ok (.iconst 2, 1) := by decide +kernel
theorem d_L_off_22 : decode b_L_off 22 = .ok (.ireturn, 1) := by decide +kernel
theorem d_L_off_23 : decode b_L_off 23 = .ok (.astore 5, 2) := by decide +kernel
theorem d_L_off_25 : decode b_L_off 25 = .ok (.iconst 3, 1) := by decide +kernel
theorem d_L_off_26 : decode b_L_off 26 = .ok (.ireturn, 1) := by decide +kernel
theorem d_L_off_27 : decode b_L_off 27 = .ok (.iconst 0, 1) := by decide +kernel
theorem d_L_off_28 : decode b_L_off 28 = .ok (.ireturn, 1) := by decide +kernel
theorem d_L_task_0 : decode b_L_task 0 = .ok (.aload 5, 2) := by decide +kernel
theorem d_L_task_2 : decode b_L_task 2 = .ok (.iconst 0, 1) := by decide +kernel
theorem d_L_task_3 : decode b_L_task 3 = .ok (.aload_n 0, 1) := by decide +kernel
theorem d_L_task_4 : decode b_L_task 4 = .ok (.iload_n 1, 1) := by decide +kernel
theorem d_L_task_5 : decode b_L_task 5 = .ok (.iload_n 2, 1) := by decide +kernel
theorem d_L_task_6 : decode b_L_task 6 = .ok (.iload_n 3, 1) := by decide +kernel
theorem d_L_task_7 : decode b_L_task 7 = .ok (.iload 4, 2) := by decide +kernel
theorem d_L_task_9 : decode b_L_task 9 = .ok (.invokevirtual 23, 3) := by decide +kernel
theorem d_L_task_12 : decode b_L_task 12 = .ok (.i2l, 1) := by decide +kernel
theorem d_L_task_13 : decode b_L_task 13 = .ok (.lastore, 1) := by decide +kernel
theorem d_L_task_14 : decode b_L_task 14 = .ok (.goto (15), 3) := by decide +kernel
theorem d_L_task_17 : decode b_L_task 17 = .ok (.astore 6, 2) := by decide +kernel
theorem d_L_task_19 : decode b_L_task 19 = .ok (.iconst 1, 1) := by decide +kernel
theorem d_L_task_20 : decode b_L_task 20 = .ok (.ireturn, 1) := by decide +kernel
theorem d_L_task_21 : decode b_L_task 21 = .ok (.astore 6, 2) := by decide +kernel
theorem d_L_task_23 : decode b_L_task 23 = .ok (.iconst 2, 1) := by decide +kernel
theorem d_L_task_24 : decode b_L_task 24 = .ok (.ireturn, 1) := by decide +kernel
theorem d_L_task_25 : decode b_L_task 25 = .ok (.astore 6, 2) := by decide +kernel
theorem d_L_task_27 : decode b_L_task 27 = .ok (.iconst 3, 1) := by decide +kernel
theorem d_L_task_28 : decode b_L_task 28 = .ok (.ireturn, 1) := by decide +kernel
theorem d_L_task_29 : decode b_L_task 29 = .ok (.iconst 0, 1) := by decide +kernel
theorem d_L_task_30 : decode b_L_task 30 = .ok (.ireturn, 1) := by decide +kernel
theorem d_L_rest_0 : decode b_L_rest 0 = .ok (.aload_n 2, 1) := by decide +kernel
theorem d_L_rest_1 : decode b_L_rest 1 = .ok (.iconst 0, 1) := by decide +kernel
theorem d_L_rest_2 : decode b_L_rest 2 = .ok (.aload_n 0, 1) := by decide +kernel
theorem d_L_rest_3 : decode b_L_rest 3 = .ok (.iload_n 1, 1) := by decide +kernel
theorem d_L_rest_4 : decode b_L_rest 4 = .ok (.invokevirtual 27, 3) := by decide +kernel
theorem d_L_rest_7 : decode b_L_rest 7 = .ok (.i2l, 1) := by decide +kernel
theorem d_L_rest_8 : decode b_L_rest 8 = .ok (.lastore, 1) := by decide +kernel
theorem d_L_rest_9 : decode b_L_rest 9 = .ok (.goto (6), 3) := by decide +kernel
theorem d_L_rest_12 : decode b_L_rest 12 = .ok (.astore_n 3, 1) := by decide +kernel
theorem d_L_rest_13 : decode b_L_rest 13 = .ok (.iconst 1, 1) := by decide +kernel
theorem d_L_rest_14 : decode b_L_rest 14 = .ok (.ireturn, 1) := by decide +kernel
theorem d_L_rest_15 : decode b_L_rest 15 = .ok (.iconst 0, 1) := by decide +kernel
theorem d_L_rest_16 : decode b_L_rest 16 = .ok (.ireturn, 1) := by decide +kernel
theorem d_L_limit_0 : decode b_L_limit 0 = .ok (.aload_n 2, 1) := by decide +kernel
theorem d_L_limit_1 : decode b_L_limit 1 = .ok (.iconst 0, 1) := by decide +kernel
theorem d_L_limit_2 : decode b_L_limit 2 = .ok (.aload_n 0, 1) := by decide +kernel
theorem d_L_limit_3 : decode b_L_limit 3 = .ok (.iload_n 1, 1) := by decide +kernel
theorem d_L_limit_4 : decode b_L_limit 4 = .ok (.invokevirtual 30, 3) := by decide +kernel
theorem d_L_limit_7 : decode b_L_limit 7 = .ok (.i2l, 1) := by decide +kernel
theorem d_L_limit_8 : decode b_L_limit 8 = .ok (.lastore, 1) := by decide +kernel
theorem d_L_limit_9 : decode b_L_limit 9 = .ok (.goto (6), 3) := by decide +kernel
theorem d_L_limit_12 : decode b_L_limit 12 = .ok (.astore_n 3, 1) := by decide +kernel
theorem d_L_limit_13 : decode b_L_limit 13 = .ok (.iconst 1, 1) := by decide +kernel
theorem d_L_limit_14 : decode b_L_limit 14 = .ok (.ireturn, 1) := by decide +kernel
theorem d_L_limit_15 : decode b_L_limit 15 = .ok (.iconst 0, 1) := by decide +kernel
theorem d_L_limit_16 : decode b_L_limit 16 = .ok (.ireturn, 1) := by decide +kernel
theorem d_L_freeze_0 : decode b_L_freeze 0 = .ok (.aload_n 2, 1) := by decide +kernel
theorem d_L_freeze_1 : decode b_L_freeze 1 = .ok (.iconst 0, 1) := by decide +kernel
theorem d_L_freeze_2 : decode b_L_freeze 2 = .ok (.aload_n 0, 1) := by decide +kernel
theorem d_L_freeze_3 : decode b_L_freeze 3 = .ok (.iload_n 1, 1) := by decide +kernel
theorem d_L_freeze_4 : decode b_L_freeze 4 = .ok (.invokevirtual 33, 3) := by decide +kernel
theorem d_L_freeze_7 : decode b_L_freeze 7 = .ok (.i2l, 1) := by decide +kernel
theorem d_L_freeze_8 : decode b_L_freeze 8 = .ok (.lastore, 1) := by decide +kernel
theorem d_L_freeze_9 : decode b_L_freeze 9 = .ok (.goto (6), 3) := by decide +kernel
theorem d_L_freeze_12 : decode b_L_freeze 12 = .ok (.astore_n 3, 1) := by decide +kernel
theorem d_L_freeze_13 : decode b_L_freeze 13 = .ok (.iconst 1, 1) := by decide +kernel
theorem d_L_freeze_14 : decode b_L_freeze 14 = .ok (.ireturn, 1) := by decide +kernel
theorem d_L_freeze_15 : decode b_L_freeze 15 = .ok (.iconst 0, 1) := by decide +kernel
theorem d_L_freeze_16 : decode b_L_freeze 16 = .ok (.ireturn, 1) := by decide +kernel
theorem d_L_of_0 : decode b_L_of 0 = .ok (.aload_n 2, 1) := by decide +kernel
theorem d_L_of_1 : decode b_L_of 1 = .ok (.iconst 0, 1) := by decide +kernel
theorem d_L_of_2 : decode b_L_of 2 = .ok (.aload_n 0, 1) := by decide +kernel
theorem d_L_of_3 : decode b_L_of 3 = .ok (.iload_n 1, 1) := by decide +kernel
theorem d_L_of_4 : decode b_L_of 4 = .ok (.invokevirtual 36, 3) := by decide +kernel
theorem d_L_of_7 : decode b_L_of 7 = .ok (.i2l, 1) := by decide +kernel
theorem d_L_of_8 : decode b_L_of 8 = .ok (.lastore, 1) := by decide +kernel
theorem d_L_of_9 : decode b_L_of 9 = .ok (.goto (6), 3) := by decide +kernel
theorem d_L_of_12 : decode b_L_of 12 = .ok (.astore_n 3, 1) := by decide +kernel
theorem d_L_of_13 : decode b_L_of 13 = .ok (.iconst 1, 1) := by decide +kernel
theorem d_L_of_14 : decode b_L_of 14 = .ok (.ireturn, 1) := by decide +kernel
theorem d_L_of_15 : decode b_L_of 15 = .ok (.iconst 0, 1) := by decide +kernel
theorem d_L_of_16 : decode b_L_of 16 = .ok (.ireturn, 1) := by decide +kernel
theorem d_L_cost_0 : decode b_L_cost 0 = .ok (.aload_n 1, 1) := by decide +kernel
theorem d_L_cost_1 : decode b_L_cost 1 = .ok (.iconst 0, 1) := by decide +kernel
theorem d_L_cost_2 : decode b_L_cost 2 = .ok (.aload_n 0, 1) := by decide +kernel
theorem d_L_cost_3 : decode b_L_cost 3 = .ok (.invokevirtual 39, 3) := by decide +kernel
theorem d_L_cost_6 : decode b_L_cost 6 = .ok (.i2l, 1) := by decide +kernel
theorem d_L_cost_7 : decode b_L_cost 7 = .ok (.lastore, 1) := by decide +kernel
theorem d_L_cost_8 : decode b_L_cost 8 = .ok (.goto (6), 3) := by decide +kernel
theorem d_L_cost_11 : decode b_L_cost 11 = .ok (.astore_n 2, 1) := by decide +kernel
theorem d_L_cost_12 : decode b_L_cost 12 = .ok (.iconst 1, 1) := by decide +kernel
theorem d_L_cost_13 : decode b_L_cost 13 = .ok (.ireturn, 1) := by decide +kernel
theorem d_L_cost_14 : decode b_L_cost 14 = .ok (.iconst 0, 1) := by decide +kernel
theorem d_L_cost_15 : decode b_L_cost 15 = .ok (.ireturn, 1) := by decide +kernel
theorem d_L_absent_0 : decode b_L_absent 0 = .ok (.aload_n 3, 1) := by decide +kernel
theorem d_L_absent_1 : decode b_L_absent 1 = .ok (.iconst 0, 1) := by decide +kernel
theorem d_L_absent_2 : decode b_L_absent 2 = .ok (.aload_n 0, 1) := by decide +kernel
theorem d_L_absent_3 : decode b_L_absent 3 = .ok (.iload_n 1, 1) := by decide +kernel
theorem d_L_absent_4 : decode b_L_absent 4 = .ok (.iload_n 2, 1) := by decide +kernel
theorem d_L_absent_5 : decode b_L_absent 5 = .ok (.invokevirtual 43, 3) := by decide +kernel
theorem d_L_absent_8 : decode b_L_absent 8 = .ok (.i2l, 1) := by decide +kernel
theorem d_L_absent_9 : decode b_L_absent 9 = .ok (.lastore, 1) := by decide +kernel
theorem d_L_absent_10 : decode b_L_absent 10 = .ok (.goto (15), 3) := by decide +kernel
theorem d_L_absent_13 : decode b_L_absent 13 = .ok (.astore 4, 2) := by decide +kernel
theorem d_L_absent_15 : decode b_L_absent 15 = .ok (.iconst 1, 1) := by decide +kernel
theorem d_L_absent_16 : decode b_L_absent 16 = .ok (.ireturn, 1) := by decide +kernel
theorem d_L_absent_17 : decode b_L_absent 17 = .ok (.astore 4, 2) := by decide +kernel
theorem d_L_absent_19 : decode b_L_absent 19 = .ok (.iconst 2, 1) := by decide +kernel
theorem d_L_absent_20 : decode b_L_absent 20 = .ok (.ireturn, 1) := by decide +kernel
theorem d_L_absent_21 : decode b_L_absent 21 = .ok (.astore 4, 2) := by decide +kernel
theorem d_L_absent_23 : decode b_L_absent 23 = .ok (.iconst 3, 1) := by decide +kernel
theorem d_L_absent_24 : decode b_L_absent 24 = .ok (.ireturn, 1) := by decide +kernel
theorem d_L_absent_25 : decode b_L_absent 25 = .ok (.iconst 0, 1) := by decide +kernel
theorem d_L_absent_26 : decode b_L_absent 26 = .ok (.ireturn, 1) := by decide +kernel
theorem d_L_changed_0 : decode b_L_changed 0 = .ok (.aload_n 2, 1) := by decide +kernel
theorem d_L_changed_1 : decode b_L_changed 1 = .ok (.iconst 0, 1) := by decide +kernel
theorem d_L_changed_2 : decode b_L_changed 2 = .ok (.aload_n 0, 1) := by decide +kernel
theorem d_L_changed_3 : decode b_L_changed 3 = .ok (.iload_n 1, 1) := by decide +kernel
theorem d_L_changed_4 : decode b_L_changed 4 = .ok (.invokevirtual 47, 3) := by decide +kernel
theorem d_L_changed_7 : decode b_L_changed 7 = .ok (.i2l, 1) := by decide +kernel
theorem d_L_changed_8 : decode b_L_changed 8 = .ok (.lastore, 1) := by decide +kernel
theorem d_L_changed_9 : decode b_L_changed 9 = .ok (.goto (6), 3) := by decide +kernel
theorem d_L_changed_12 : decode b_L_changed 12 = .ok (.astore_n 3, 1) := by decide +kernel
theorem d_L_changed_13 : decode b_L_changed 13 = .ok (.iconst 1, 1) := by decide +kernel
theorem d_L_changed_14 : decode b_L_changed 14 = .ok (.ireturn, 1) := by decide +kernel
theorem d_L_changed_15 : decode b_L_changed 15 = .ok (.iconst 0, 1) := by decide +kernel
theorem d_L_changed_16 : decode b_L_changed 16 = .ok (.ireturn, 1) := by decide +kernel
theorem d_L_swap_0 : decode b_L_swap 0 = .ok (.aload_n 3, 1) := by decide +kernel
theorem d_L_swap_1 : decode b_L_swap 1 = .ok (.iconst 0, 1) := by decide +kernel
theorem d_L_swap_2 : decode b_L_swap 2 = .ok (.aload_n 0, 1) := by decide +kernel
theorem d_L_swap_3 : decode b_L_swap 3 = .ok (.iload_n 1, 1) := by decide +kernel
theorem d_L_swap_4 : decode b_L_swap 4 = .ok (.iload_n 2, 1) := by decide +kernel
theorem d_L_swap_5 : decode b_L_swap 5 = .ok (.invokevirtual 50, 3) := by decide +kernel
theorem d_L_swap_8 : decode b_L_swap 8 = .ok (.i2l, 1) := by decide +kernel
theorem d_L_swap_9 : decode b_L_swap 9 = .ok (.lastore, 1) := by decide +kernel
theorem d_L_swap_10 : decode b_L_swap 10 = .ok (.goto (11), 3) := by decide +kernel
theorem d_L_swap_13 : decode b_L_swap 13 = .ok (.astore 4, 2) := by decide +kernel
theorem d_L_swap_15 : decode b_L_swap 15 = .ok (.iconst 1, 1) := by decide +kernel
theorem d_L_swap_16 : decode b_L_swap 16 = .ok (.ireturn, 1) := by decide +kernel
theorem d_L_swap_17 : decode b_L_swap 17 = .ok (.astore 4, 2) := by decide +kernel
theorem d_L_swap_19 : decode b_L_swap 19 = .ok (.iconst 2, 1) := by decide +kernel
theorem d_L_swap_20 : decode b_L_swap 20 = .ok (.ireturn, 1) := by decide +kernel
theorem d_L_swap_21 : decode b_L_swap 21 = .ok (.iconst 0, 1) := by decide +kernel
theorem d_L_swap_22 : decode b_L_swap 22 = .ok (.ireturn, 1) := by decide +kernel
theorem d_L_work_0 : decode b_L_work 0 = .ok (.aload_n 2, 1) := by decide +kernel
theorem d_L_work_1 : decode b_L_work 1 = .ok (.iconst 0, 1) := by decide +kernel
theorem d_L_work_2 : decode b_L_work 2 = .ok (.aload_n 0, 1) := by decide +kernel
theorem d_L_work_3 : decode b_L_work 3 = .ok (.iload_n 1, 1) := by decide +kernel
theorem d_L_work_4 : decode b_L_work 4 = .ok (.invokevirtual 53, 3) := by decide +kernel
theorem d_L_work_7 : decode b_L_work 7 = .ok (.i2l, 1) := by decide +kernel
theorem d_L_work_8 : decode b_L_work 8 = .ok (.lastore, 1) := by decide +kernel
theorem d_L_work_9 : decode b_L_work 9 = .ok (.goto (6), 3) := by decide +kernel
theorem d_L_work_12 : decode b_L_work 12 = .ok (.astore_n 3, 1) := by decide +kernel
theorem d_L_work_13 : decode b_L_work 13 = .ok (.iconst 1, 1) := by decide +kernel
theorem d_L_work_14 : decode b_L_work 14 = .ok (.ireturn, 1) := by decide +kernel
theorem d_L_work_15 : decode b_L_work 15 = .ok (.iconst 0, 1) := by decide +kernel
theorem d_L_work_16 : decode b_L_work 16 = .ok (.ireturn, 1) := by decide +kernel
theorem d_L_count_0 : decode b_L_count 0 = .ok (.aload_n 2, 1) := by decide +kernel
theorem d_L_count_1 : decode b_L_count 1 = .ok (.iconst 0, 1) := by decide +kernel
theorem d_L_count_2 : decode b_L_count 2 = .ok (.aload_n 0, 1) := by decide +kernel
theorem d_L_count_3 : decode b_L_count 3 = .ok (.iload_n 1, 1) := by decide +kernel
theorem d_L_count_4 : decode b_L_count 4 = .ok (.invokevirtual 56, 3) := by decide +kernel
theorem d_L_count_7 : decode b_L_count 7 = .ok (.i2l, 1) := by decide +kernel
theorem d_L_count_8 : decode b_L_count 8 = .ok (.lastore, 1) := by decide +kernel
theorem d_L_count_9 : decode b_L_count 9 = .ok (.goto (6), 3) := by decide +kernel
theorem d_L_count_12 : decode b_L_count 12 = .ok (.astore_n 3, 1) := by decide +kernel
theorem d_L_count_13 : decode b_L_count 13 = .ok (.iconst 1, 1) := by decide +kernel
theorem d_L_count_14 : decode b_L_count 14 = .ok (.ireturn, 1) := by decide +kernel
theorem d_L_count_15 : decode b_L_count 15 = .ok (.iconst 0, 1) := by decide +kernel
theorem d_L_count_16 : decode b_L_count 16 = .ok (.ireturn, 1) := by decide +kernel
theorem d_L_law_0 : decode code 0 = .ok (.new 8, 3) := by decide +kernel
