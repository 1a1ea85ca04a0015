theorem d_M_init_0 : decode b_M_init 0 = .ok (.aload_n 0, 1) := by decide +kernel
theorem d_M_init_1 : decode b_M_init 1 = .ok (.invokespecial 1, 3) := by decide +kernel
theorem d_M_init_4 : decode b_M_init 4 = .ok (.aload_n 0, 1) := by decide +kernel
theorem d_M_init_5 : decode b_M_init 5 = .ok (.iconst 4, 1) := by decide +kernel
theorem d_M_init_6 : decode b_M_init 6 = .ok (.newarray .int, 2) := by decide +kernel
theorem d_M_init_8 : decode b_M_init 8 = .ok (.putfield 7, 3) := by decide +kernel
theorem d_M_init_11 : decode b_M_init 11 = .ok (.aload_n 0, 1) := by decide +kernel
theorem d_M_init_12 : decode b_M_init 12 = .ok (.bipush 20, 2) := by decide +kernel
theorem d_M_init_14 : decode b_M_init 14 = .ok (.newarray .int, 2) := by decide +kernel
theorem d_M_init_16 : decode b_M_init 16 = .ok (.putfield 13, 3) := by decide +kernel
theorem d_M_init_19 : decode b_M_init 19 = .ok (.aload_n 0, 1) := by decide +kernel
theorem d_M_init_20 : decode b_M_init 20 = .ok (.bipush 20, 2) := by decide +kernel
theorem d_M_init_22 : decode b_M_init 22 = .ok (.newarray .int, 2) := by decide +kernel
theorem d_M_init_24 : decode b_M_init 24 = .ok (.putfield 16, 3) := by decide +kernel
theorem d_M_init_27 : decode b_M_init 27 = .ok (.aload_n 0, 1) := by decide +kernel
theorem d_M_init_28 : decode b_M_init 28 = .ok (.bipush 20, 2) := by decide +kernel
theorem d_M_init_30 : decode b_M_init 30 = .ok (.newarray .int, 2) := by decide +kernel
theorem d_M_init_32 : decode b_M_init 32 = .ok (.putfield 19, 3) := by decide +kernel
theorem d_M_init_35 : decode b_M_init 35 = .ok (.aload_n 0, 1) := by decide +kernel
theorem d_M_init_36 : decode b_M_init 36 = .ok (.bipush 6, 2) := by decide +kernel
theorem d_M_init_38 : decode b_M_init 38 = .ok (.newarray .int, 2) := by decide +kernel
theorem d_M_init_40 : decode b_M_init 40 = .ok (.putfield 22, 3) := by decide +kernel
theorem d_M_init_43 : decode b_M_init 43 = .ok (.aload_n 0, 1) := by decide +kernel
theorem d_M_init_44 : decode b_M_init 44 = .ok (.bipush 6, 2) := by decide +kernel
theorem d_M_init_46 : decode b_M_init 46 = .ok (.newarray .int, 2) := by decide +kernel
theorem d_M_init_48 : decode b_M_init 48 = .ok (.putfield 25, 3) := by decide +kernel
theorem d_M_init_51 : decode b_M_init 51 = .ok (.aload_n 0, 1) := by decide +kernel
theorem d_M_init_52 : decode b_M_init 52 = .ok (.bipush 6, 2) := by decide +kernel
theorem d_M_init_54 : decode b_M_init 54 = .ok (.newarray .int, 2) := by decide +kernel
theorem d_M_init_56 : decode b_M_init 56 = .ok (.putfield 28, 3) := by decide +kernel
theorem d_M_init_59 : decode b_M_init 59 = .ok (.aload_n 0, 1) := by decide +kernel
theorem d_M_init_60 : decode b_M_init 60 = .ok (.bipush 6, 2) := by decide +kernel
theorem d_M_init_62 : decode b_M_init 62 = .ok (.newarray .boolean, 2) := by decide +kernel
theorem d_M_init_64 : decode b_M_init 64 = .ok (.putfield 31, 3) := by decide +kernel
theorem d_M_init_67 : decode b_M_init 67 = .ok (.aload_n 0, 1) := by decide +kernel
theorem d_M_init_68 : decode b_M_init 68 = .ok (.bipush 6, 2) := by decide +kernel
theorem d_M_init_70 : decode b_M_init 70 = .ok (.newarray .int, 2) := by decide +kernel
theorem d_M_init_72 : decode b_M_init 72 = .ok (.putfield 35, 3) := by decide +kernel
theorem d_M_init_75 : decode b_M_init 75 = .ok (.aload_n 0, 1) := by decide +kernel
theorem d_M_init_76 : decode b_M_init 76 = .ok (.bipush 6, 2) := by decide +kernel
theorem d_M_init_78 : decode b_M_init 78 = .ok (.newarray .int, 2) := by decide +kernel
theorem d_M_init_80 : decode b_M_init 80 = .ok (.putfield 38, 3) := by decide +kernel
theorem d_M_init_83 : decode b_M_init 83 = .ok (.aload_n 0, 1) := by decide +kernel
theorem d_M_init_84 : decode b_M_init 84 = .ok (.bipush 6, 2) := by decide +kernel
theorem d_M_init_86 : decode b_M_init 86 = .ok (.newarray .int, 2) := by decide +kernel
theorem d_M_init_88 : decode b_M_init 88 = .ok (.putfield 41, 3) := by decide +kernel
theorem d_M_init_91 : decode b_M_init 91 = .ok (.aload_n 0, 1) := by decide +kernel
theorem d_M_init_92 : decode b_M_init 92 = .ok (.bipush 6, 2) := by decide +kernel
theorem d_M_init_94 : decode b_M_init 94 = .ok (.newarray .boolean, 2) := by decide +kernel
theorem d_M_init_96 : decode b_M_init 96 = .ok (.putfield 44, 3) := by decide +kernel
theorem d_M_init_99 : decode b_M_init 99 = .ok (.aload_n 0, 1) := by decide +kernel
theorem d_M_init_100 : decode b_M_init 100 = .ok (.bipush 96, 2) := by decide +kernel
theorem d_M_init_102 : decode b_M_init 102 = .ok (.putfield 47, 3) := by decide +kernel
theorem d_M_init_105 : decode b_M_init 105 = .ok (.aload_n 0, 1) := by decide +kernel
theorem d_M_init_106 : decode b_M_init 106 = .ok (.iconst (-1), 1) := by decide +kernel
theorem d_M_init_107 : decode b_M_init 107 = .ok (.putfield 51, 3) := by decide +kernel
theorem d_M_init_110 : decode b_M_init 110 = .ok (.aload_n 0, 1) := by decide +kernel
theorem d_M_init_111 : decode b_M_init 111 = .ok (.bipush 6, 2) := by decide +kernel
theorem d_M_init_113 : decode b_M_init 113 = .ok (.newarray .int, 2) := by decide +kernel
theorem d_M_init_115 : decode b_M_init 115 = .ok (.putfield 54, 3) := by decide +kernel
theorem d_M_init_118 : decode b_M_init 118 = .ok (.iconst 0, 1) := by decide +kernel
theorem d_M_init_119 : decode b_M_init 119 = .ok (.istore_n 1, 1) := by decide +kernel
theorem d_M_init_120 : decode b_M_init 120 = .ok (.iload_n 1, 1) := by decide +kernel
theorem d_M_init_121 : decode b_M_init 121 = .ok (.bipush 6, 2) := by decide +kernel
theorem d_M_init_123 : decode b_M_init 123 = .ok (.if_icmp .ge (16), 3) := by decide +kernel
theorem d_M_init_126 : decode b_M_init 126 = .ok (.aload_n 0, 1) := by decide +kernel
theorem d_M_init_127 : decode b_M_init 127 = .ok (.getfield 35, 3) := by decide +kernel
theorem d_M_init_130 : decode b_M_init 130 = .ok (.iload_n 1, 1) := by decide +kernel
theorem d_M_init_131 : decode b_M_init 131 = .ok (.iconst (-1), 1) := by decide +kernel
theorem d_M_init_132 : decode b_M_init 132 = .ok (.iastore, 1) := by decide +kernel
theorem d_M_init_133 : decode b_M_init 133 = .ok (.iinc 1 1, 3) := by decide +kernel
theorem d_M_init_136 : decode b_M_init 136 = .ok (.goto (-16), 3) := by decide +kernel
theorem d_M_init_139 : decode b_M_init 139 = .ok (.return_, 1) := by decide +kernel
theorem d_M_thrown_0 : decode b_M_thrown 0 = .ok (.aload_n 0, 1) := by decide +kernel
theorem d_M_thrown_1 : decode b_M_thrown 1 = .ok (.getfield 57, 3) := by decide +kernel
theorem d_M_thrown_4 : decode b_M_thrown 4 = .ok (.ireturn, 1) := by decide +kernel
theorem d_M_goes_0 : decode b_M_goes 0 = .ok (.aload_n 0, 1) := by decide +kernel
theorem d_M_goes_1 : decode b_M_goes 1 = .ok (.iload_n 1, 1) := by decide +kernel
theorem d_M_goes_2 : decode b_M_goes 2 = .ok (.ifCond .ne (7), 3) := by decide +kernel
theorem d_M_goes_5 : decode b_M_goes 5 = .ok (.iconst 1, 1) := by decide +kernel
theorem d_M_goes_6 : decode b_M_goes 6 = .ok (.goto (20), 3) := by decide +kernel
theorem d_M_goes_9 : decode b_M_goes 9 = .ok (.iload_n 2, 1) := by decide +kernel
theorem d_M_goes_10 : decode b_M_goes 10 = .ok (.ifCond .ne (7), 3) := by decide +kernel
theorem d_M_goes_13 : decode b_M_goes 13 = .ok (.iconst 2, 1) := by decide +kernel
theorem d_M_goes_14 : decode b_M_goes 14 = .ok (.goto (12), 3) := by decide +kernel
theorem d_M_goes_17 : decode b_M_goes 17 = .ok (.iload_n 3, 1) := by decide +kernel
theorem d_M_goes_18 : decode b_M_goes 18 = .ok (.ifCond .ne (7), 3) := by decide +kernel
theorem d_M_goes_21 : decode b_M_goes 21 = .ok (.iconst 3, 1) := by decide +kernel
theorem d_M_goes_22 : decode b_M_goes 22 = .ok (.goto (4), 3) := by decide +kernel
theorem d_M_goes_25 : decode b_M_goes 25 = .ok (.iconst 0, 1) := by decide +kernel
theorem d_M_goes_26 : decode b_M_goes 26 = .ok (.putfield 57, 3) := by decide +kernel
theorem d_M_goes_29 : decode b_M_goes 29 = .ok (.aload_n 0, 1) := by decide +kernel
theorem d_M_goes_30 : decode b_M_goes 30 = .ok (.getfield 57, 3) := by decide +kernel
theorem d_M_goes_33 : decode b_M_goes 33 = .ok (.ifCond .ne (7), 3) := by decide +kernel
theorem d_M_goes_36 : decode b_M_goes 36 = .ok (.iconst 1, 1) := by decide +kernel
theorem d_M_goes_37 : decode b_M_goes 37 = .ok (.goto (4), 3) := by decide +kernel
theorem d_M_goes_40 : decode b_M_goes 40 = .ok (.iconst 0, 1) := by decide +kernel
theorem d_M_goes_41 : decode b_M_goes 41 = .ok (.ireturn, 1) := by decide +kernel
theorem d_M_within_0 : decode b_M_within 0 = .ok (.iload_n 0, 1) := by decide +kernel
theorem d_M_within_1 : decode b_M_within 1 = .ok (.iload_n 1, 1) := by decide +kernel
theorem d_M_within_2 : decode b_M_within 2 = .ok (.if_icmp .lt (12), 3) := by decide +kernel
theorem d_M_within_5 : decode b_M_within 5 = .ok (.iload_n 0, 1) := by decide +kernel
theorem d_M_within_6 : decode b_M_within 6 = .ok (.iload_n 2, 1) := by decide +kernel
theorem d_M_within_7 : decode b_M_within 7 = .ok (.if_icmp .gt (7), 3) := by decide +kernel
theorem d_M_within_10 : decode b_M_within 10 = .ok (.iconst 1, 1) := by decide +kernel
theorem d_M_within_11 : decode b_M_within 11 = .ok (.goto (4), 3) := by decide +kernel
theorem d_M_within_14 : decode b_M_within 14 = .ok (.iconst 0, 1) := by decide +kernel
theorem d_M_within_15 : decode b_M_within 15 = .ok (.ireturn, 1) := by decide +kernel
theorem d_M_isSpan_0 : decode b_M_isSpan 0 = .ok (.iload_n 0, 1) := by decide +kernel
theorem d_M_isSpan_1 : decode b_M_isSpan 1 = .ok (.ifCond .lt (18), 3) := by decide +kernel
theorem d_M_isSpan_4 : decode b_M_isSpan 4 = .ok (.iload_n 0, 1) := by decide +kernel
theorem d_M_isSpan_5 : decode b_M_isSpan 5 = .ok (.iload_n 1, 1) := by decide +kernel
theorem d_M_isSpan_6 : decode b_M_isSpan 6 = .ok (.if_icmp .ge (13), 3) := by decide +kernel
theorem d_M_isSpan_9 : decode b_M_isSpan 9 = .ok (.iload_n 1, 1) := by decide +kernel
theorem d_M_isSpan_10 : decode b_M_isSpan 10 = .ok (.bipush 96, 2) := by decide +kernel
theorem d_M_isSpan_12 : decode b_M_isSpan 12 = .ok (.if_icmp .gt (7), 3) := by decide +kernel
theorem d_M_isSpan_15 : decode b_M_isSpan 15 = .ok (.iconst 1, 1) := by decide +kernel
theorem d_M_isSpan_16 : decode b_M_isSpan 16 = .ok (.goto (4), 3) := by decide +kernel
theorem d_M_isSpan_19 : decode b_M_isSpan 19 = .ok (.iconst 0, 1) := by decide +kernel
theorem d_M_isSpan_20 : decode b_M_isSpan 20 = .ok (.ireturn, 1) := by decide +kernel
theorem d_M_isPerson_0 : decode b_M_isPerson 0 = .ok (.iload_n 1, 1) := by decide +kernel
theorem d_M_isPerson_1 : decode b_M_isPerson 1 = .ok (.ifCond .lt (15), 3) := by decide +kernel
theorem d_M_isPerson_4 : decode b_M_isPerson 4 = .ok (.iload_n 1, 1) := by decide +kernel
theorem d_M_isPerson_5 : decode b_M_isPerson 5 = .ok (.aload_n 0, 1) := by decide +kernel
theorem d_M_isPerson_6 : decode b_M_isPerson 6 = .ok (.getfield 60, 3) := by decide +kernel
theorem d_M_isPerson_9 : decode b_M_isPerson 9 = .ok (.if_icmp .ge (7), 3) := by decide +kernel
theorem d_M_isPerson_12 : decode b_M_isPerson 12 = .ok (.iconst 1, 1) := by decide +kernel
theorem d_M_isPerson_13 : decode b_M_isPerson 13 = .ok (.goto (4), 3) := by decide +kernel
theorem d_M_isPerson_16 : decode b_M_isPerson 16 = .ok (.iconst 0, 1) := by decide +kernel
theorem d_M_isPerson_17 : decode b_M_isPerson 17 = .ok (.ireturn, 1) := by decide +kernel
theorem d_M_isTask_0 : decode b_M_isTask 0 = .ok (.iload_n 1, 1) := by decide +kernel
theorem d_M_isTask_1 : decode b_M_isTask 1 = .ok (.ifCond .lt (15), 3) := by decide +kernel
theorem d_M_isTask_4 : decode b_M_isTask 4 = .ok (.iload_n 1, 1) := by decide +kernel
theorem d_M_isTask_5 : decode b_M_isTask 5 = .ok (.aload_n 0, 1) := by decide +kernel
theorem d_M_isTask_6 : decode b_M_isTask 6 = .ok (.getfield 63, 3) := by decide +kernel
theorem d_M_isTask_9 : decode b_M_isTask 9 = .ok (.if_icmp .ge (7), 3) := by decide +kernel
theorem d_M_isTask_12 : decode b_M_isTask 12 = .ok (.iconst 1, 1) := by decide +kernel
theorem d_M_isTask_13 : decode b_M_isTask 13 = .ok (.goto (4), 3) := by decide +kernel
theorem d_M_isTask_16 : decode b_M_isTask 16 = .ok (.iconst 0, 1) := by decide +kernel
theorem d_M_isTask_17 : decode b_M_isTask 17 = .ok (.ireturn, 1) := by decide +kernel
theorem d_M_person_0 : decode b_M_person 0 = .ok (.aload_n 0, 1) := by decide +kernel
theorem d_M_person_1 : decode b_M_person 1 = .ok (.iload_n 1, 1) := by decide +kernel
theorem d_M_person_2 : decode b_M_person 2 = .ok (.iconst 0, 1) := by decide +kernel
theorem d_M_person_3 : decode b_M_person 3 = .ok (.sipush 255, 3) := by decide +kernel
theorem d_M_person_6 : decode b_M_person 6 = .ok (.invokestatic 66, 3) := by decide +kernel
theorem d_M_person_9 : decode b_M_person 9 = .ok (.aload_n 0, 1) := by decide +kernel
theorem d_M_person_10 : decode b_M_person 10 = .ok (.getfield 60, 3) := by decide +kernel
theorem d_M_person_13 : decode b_M_person 13 = .ok (.iconst 4, 1) := by decide +kernel
theorem d_M_person_14 : decode b_M_person 14 = .ok (.if_icmp .ge (7), 3) := by decide +kernel
theorem d_M_person_17 : decode b_M_person 17 = .ok (.iconst 1, 1) := by decide +kernel
theorem d_M_person_18 : decode b_M_person 18 = .ok (.goto (4), 3) := by decide +kernel
theorem d_M_person_21 : decode b_M_person 21 = .ok (.iconst 0, 1) := by decide +kernel
theorem d_M_person_22 : decode b_M_person 22 = .ok (.iconst 1, 1) := by decide +kernel
theorem d_M_person_23 : decode b_M_person 23 = .ok (.invokevirtual 70, 3) := by decide +kernel
theorem d_M_person_26 : decode b_M_person 26 = .ok (.ifCond .ne (5), 3) := by decide +kernel
theorem d_M_person_29 : decode b_M_person 29 = .ok (.iconst 0, 1) := by decide +kernel
theorem d_M_person_30 : decode b_M_person 30 = .ok (.ireturn, 1) := by decide +kernel
theorem d_M_person_31 : decode b_M_person 31 = .ok (.aload_n 0, 1) := by decide +kernel
theorem d_M_person_32 : decode b_M_person 32 = .ok (.getfield 7, 3) := by decide +kernel
theorem d_M_person_35 : decode b_M_person 35 = .ok (.aload_n 0, 1) := by decide +kernel
theorem d_M_person_36 : decode b_M_person 36 = .ok (.getfield 60, 3) := by decide +kernel
theorem d_M_person_39 : decode b_M_person 39 = .ok (.iload_n 1, 1) := by decide +kernel
theorem d_M_person_40 : decode b_M_person 40 = .ok (.iastore, 1) := by decide +kernel
theorem d_M_person_41 : decode b_M_person 41 = .ok (.aload_n 0, 1) := by decide +kernel
theorem d_M_person_42 : decode b_M_person 42 = .ok (.dup, 1) := by decide +kernel
theorem d_M_person_43 : decode b_M_person 43 = .ok (.getfield 60, 3) := by decide +kernel
theorem d_M_person_46 : decode b_M_person 46 = .ok (.iconst 1, 1) := by decide +kernel
theorem d_M_person_47 : decode b_M_person 47 = .ok (.iadd, 1) := by decide +kernel
theorem d_M_person_48 : decode b_M_person 48 = .ok (.putfield 60, 3) := by decide +kernel
theorem d_M_person_51 : decode b_M_person 51 = .ok (.aload_n 0, 1) := by decide +kernel
theorem d_M_person_52 : decode b_M_person 52 = .ok (.getfield 60, 3) := by decide +kernel
theorem d_M_person_55 : decode b_M_person 55 = .ok (.iconst 1, 1) := by decide +kernel
theorem d_M_person_56 : decode b_M_person 56 = .ok (.isub, 1) := by decide +kernel
theorem d_M_person_57 : decode b_M_person 57 = .ok (.ireturn, 1) := by decide +kernel
theorem d_M_leave_0 : decode b_M_leave 0 = .ok (.aload_n 0, 1) := by decide +kernel
theorem d_M_leave_1 : decode b_M_leave 1 = .ok (.getfield 13, 3) := by decide +kernel
theorem d_M_leave_4 : decode b_M_leave 4 = .ok (.aload_n 0, 1) := by decide +kernel
theorem d_M_leave_5 : decode b_M_leave 5 = .ok (.getfield 74, 3) := by decide +kernel
theorem d_M_leave_8 : decode b_M_leave 8 = .ok (.iload_n 1, 1) := by decide +kernel
theorem d_M_leave_9 : decode b_M_leave 9 = .ok (.iastore, 1) := by decide +kernel
theorem d_M_leave_10 : decode b_M_leave 10 = .ok (.aload_n 0, 1) := by decide +kernel
theorem d_M_leave_11 : decode b_M_leave 11 = .ok (.getfield 16, 3) := by decide +kernel
theorem d_M_leave_14 : decode b_M_leave 14 = .ok (.aload_n 0, 1) := by decide +kernel
theorem d_M_leave_15 : decode b_M_leave 15 = .ok (.getfield 74, 3) := by decide +kernel
theorem d_M_leave_18 : decode b_M_leave 18 = .ok (.iload_n 2, 1) := by decide +kernel
theorem d_M_leave_19 : decode b_M_leave 19 = .ok (.iastore, 1) := by decide +kernel
theorem d_M_leave_20 : decode b_M_leave 20 = .ok (.aload_n 0, 1) := by decide +kernel
theorem d_M_leave_21 : decode b_M_leave 21 = .ok (.getfield 19, 3) := by decide +kernel
theorem d_M_leave_24 : decode b_M_leave 24 = .ok (.aload_n 0, 1) := by decide +kernel
theorem d_M_leave_25 : decode b_M_leave 25 = .ok (.getfield 74, 3) := by decide +kernel
theorem d_M_leave_28 : decode b_M_leave 28 = .ok (.iload_n 3, 1) := by decide +kernel
theorem d_M_leave_29 : decode b_M_leave 29 = .ok (.iastore, 1) := by decide +kernel
theorem d_M_leave_30 : decode b_M_leave 30 = .ok (.aload_n 0, 1) := by decide +kernel
theorem d_M_leave_31 : decode b_M_leave 31 = .ok (.dup, 1) := by decide +kernel
theorem d_M_leave_32 : decode b_M_leave 32 = .ok (.getfield 74, 3) := by decide +kernel
theorem d_M_leave_35 : decode b_M_leave 35 = .ok (.iconst 1, 1) := by decide +kernel
theorem d_M_leave_36 : decode b_M_leave 36 = .ok (.iadd, 1) := by decide +kernel
theorem d_M_leave_37 : decode b_M_leave 37 = .ok (.putfield 74, 3) := by decide +kernel
theorem d_M_leave_40 : decode b_M_leave 40 = .ok (.return_, 1) := by decide +kernel
theorem d_M_off_0 : decode b_M_off 0 = .ok (.aload_n 0, 1) := by decide +kernel
theorem d_M_off_1 : decode b_M_off 1 = .ok (.aload_n 0, 1) := by decide +kernel
theorem d_M_off_2 : decode b_M_off 2 = .ok (.iload_n 1, 1) := by decide +kernel
theorem d_M_off_3 : decode b_M_off 3 = .ok (.invokevirtual 77, 3) := by decide +kernel
theorem d_M_off_6 : decode b_M_off 6 = .ok (.iload_n 2, 1) := by decide +kernel
theorem d_M_off_7 : decode b_M_off 7 = .ok (.iload_n 3, 1) := by decide +kernel
theorem d_M_off_8 : decode b_M_off 8 = .ok (.invokestatic 81, 3) := by decide +kernel
theorem d_M_off_11 : decode b_M_off 11 = .ok (.aload_n 0, 1) := by decide +kernel
theorem d_M_off_12 : decode b_M_off 12 = .ok (.getfield 74, 3) := by decide +kernel
theorem d_M_off_15 : decode b_M_off 15 = .ok (.bipush 20, 2) := by decide +kernel
theorem d_M_off_17 : decode b_M_off 17 = .ok (.if_icmp .ge (7), 3) := by decide +kernel
theorem d_M_off_20 : decode b_M_off 20 = .ok (.iconst 1, 1) := by decide +kernel
theorem d_M_off_21 : decode b_M_off 21 = .ok (.goto (4), 3) := by decide +kernel
theorem d_M_off_24 : decode b_M_off 24 = .ok (.iconst 0, 1) := by decide +kernel
theorem d_M_off_25 : decode b_M_off 25 = .ok (.invokevirtual 70, 3) := by decide +kernel
theorem d_M_off_28 : decode b_M_off 28 = .ok (.ifCond .ne (5), 3) := by decide +kernel
theorem d_M_off_31 : decode b_M_off 31 = .ok (.iconst 0, 1) := by decide +kernel
theorem d_M_off_32 : decode b_M_off 32 = .ok (.ireturn, 1) := by decide +kernel
theorem d_M_off_33 : decode b_M_off 33 = .ok (.aload_n 0, 1) := by decide +kernel
theorem d_M_off_34 : decode b_M_off 34 = .ok (.iload_n 1, 1) := by decide +kernel
theorem d_M_off_35 : decode b_M_off 35 = .ok (.iload_n 2, 1) := by decide +kernel
theorem d_M_off_36 : decode b_M_off 36 = .ok (.iload_n 3, 1) := by decide +kernel
theorem d_M_off_37 : decode b_M_off 37 = .ok (.invokevirtual 85, 3) := by decide +kernel
theorem d_M_off_40 : decode b_M_off 40 = .ok (.aload_n 0, 1) := by decide +kernel
theorem d_M_off_41 : decode b_M_off 41 = .ok (.getfield 74, 3) := by decide +kernel
theorem d_M_off_44 : decode b_M_off 44 = .ok (.ireturn, 1) := by decide +kernel
theorem d_M_task_0 : decode b_M_task 0 = .ok (.aload_n 0, 1) := by decide +kernel
theorem d_M_task_1 : decode b_M_task 1 = .ok (.iload_n 1, 1) := by decide +kernel
theorem d_M_task_2 : decode b_M_task 2 = .ok (.iconst 0, 1) := by decide +kernel
theorem d_M_task_3 : decode b_M_task 3 = .ok (.bipush 7, 2) := by decide +kernel
theorem d_M_task_5 : decode b_M_task 5 = .ok (.invokestatic 66, 3) := by decide +kernel
theorem d_M_task_8 : decode b_M_task 8 = .ok (.iload_n 2, 1) := by decide +kernel
theorem d_M_task_9 : decode b_M_task 9 = .ok (.iload_n 3, 1) := by decide +kernel
theorem d_M_task_10 : decode b_M_task 10 = .ok (.invokestatic 81, 3) := by decide +kernel
theorem d_M_task_13 : decode b_M_task 13 = .ok (.aload_n 0, 1) := by decide +kernel
theorem d_M_task_14 : decode b_M_task 14 = .ok (.getfield 63, 3) := by decide +kernel
theorem d_M_task_17 : decode b_M_task 17 = .ok (.bipush 6, 2) := by decide +kernel
theorem d_M_task_19 : decode b_M_task 19 = .ok (.if_icmp .ge (7), 3) := by decide +kernel
theorem d_M_task_22 : decode b_M_task 22 = .ok (.iconst 1, 1) := by decide +kernel
theorem d_M_task_23 : decode b_M_task 23 = .ok (.goto (4), 3) := by decide +kernel
theorem d_M_task_26 : decode b_M_task 26 = .ok (.iconst 0, 1) := by decide +kernel
theorem d_M_task_27 : decode b_M_task 27 = .ok (.invokevirtual 70, 3) := by decide +kernel
theorem d_M_task_30 : decode b_M_task 30 = .ok (.ifCond .ne (5), 3) := by decide +kernel
theorem d_M_task_33 : decode b_M_task 33 = .ok (.iconst 0, 1) := by decide +kernel
theorem d_M_task_34 : decode b_M_task 34 = .ok (.ireturn, 1) := by decide +kernel
theorem d_M_task_35 : decode b_M_task 35 = .ok (.aload_n 0, 1) := by decide +kernel
theorem d_M_task_36 : decode b_M_task 36 = .ok (.getfield 22, 3) := by decide +kernel
theorem d_M_task_39 : decode b_M_task 39 = .ok (.aload_n 0, 1) := by decide +kernel
theorem d_M_task_40 : decode b_M_task 40 = .ok (.getfield 63, 3) := by decide +kernel
theorem d_M_task_43 : decode b_M_task 43 = .ok (.iload_n 1, 1) := by decide +kernel
theorem d_M_task_44 : decode b_M_task 44 = .ok (.iastore, 1) := by decide +kernel
theorem d_M_task_45 : decode b_M_task 45 = .ok (.aload_n 0, 1) := by decide +kernel
theorem d_M_task_46 : decode b_M_task 46 = .ok (.getfield 25, 3) := by decide +kernel
theorem d_M_task_49 : decode b_M_task 49 = .ok (.aload_n 0, 1) := by decide +kernel
theorem d_M_task_50 : decode b_M_task 50 = .ok (.getfield 63, 3) := by decide +kernel
theorem d_M_task_53 : decode b_M_task 53 = .ok (.iload_n 2, 1) := by decide +kernel
theorem d_M_task_54 : decode b_M_task 54 = .ok (.iastore, 1) := by decide +kernel
theorem d_M_task_55 : decode b_M_task 55 = .ok (.aload_n 0, 1) := by decide +kernel
theorem d_M_task_56 : decode b_M_task 56 = .ok (.getfield 28, 3) := by decide +kernel
theorem d_M_task_59 : decode b_M_task 59 = .ok (.aload_n 0, 1) := by decide +kernel
theorem d_M_task_60 : decode b_M_task 60 = .ok (.getfield 63, 3) := by decide +kernel
theorem d_M_task_63 : decode b_M_task 63 = .ok (.iload_n 3, 1) := by decide +kernel
theorem d_M_task_64 : decode b_M_task 64 = .ok (.iastore, 1) := by decide +kernel
theorem d_M_task_65 : decode b_M_task 65 = .ok (.aload_n 0, 1) := by decide +kernel
theorem d_M_task_66 : decode b_M_task 66 = .ok (.getfield 31, 3) := by decide +kernel
theorem d_M_task_69 : decode b_M_task 69 = .ok (.aload_n 0, 1) := by decide +kernel
theorem d_M_task_70 : decode b_M_task 70 = .ok (.getfield 63, 3) := by decide +kernel
theorem d_M_task_73 : decode b_M_task 73 = .ok (.iload 4, 2) := by decide +kernel
theorem d_M_task_75 : decode b_M_task 75 = .ok (.bastore, 1) := by decide +kernel
theorem d_M_task_76 : decode b_M_task 76 = .ok (.aload_n 0, 1) := by decide +kernel
theorem d_M_task_77 : decode b_M_task 77 = .ok (.getfield 35, 3) := by decide +kernel
theorem d_M_task_80 : decode b_M_task 80 = .ok (.aload_n 0, 1) := by decide +kernel
theorem d_M_task_81 : decode b_M_task 81 = .ok (.getfield 63, 3) := by decide +kernel
theorem d_M_task_84 : decode b_M_task 84 = .ok (.iconst (-1), 1) := by decide +kernel
theorem d_M_task_85 : decode b_M_task 85 = .ok (.iastore, 1) := by decide +kernel
theorem d_M_task_86 : decode b_M_task 86 = .ok (.aload_n 0, 1) := by decide +kernel
theorem d_M_task_87 : decode b_M_task 87 = .ok (.dup, 1) := by decide +kernel
theorem d_M_task_88 : decode b_M_task 88 = .ok (.getfield 63, 3) := by decide +kernel
theorem d_M_task_91 : decode b_M_task 91 = .ok (.iconst 1, 1) := by decide +kernel
theorem d_M_task_92 : decode b_M_task 92 = .ok (.iadd, 1) := by decide +kernel
theorem d_M_task_93 : decode b_M_task 93 = .ok (.putfield 63, 3) := by decide +kernel
theorem d_M_task_96 : decode b_M_task 96 = .ok (.aload_n 0, 1) := by decide +kernel
theorem d_M_task_97 : decode b_M_task 97 = .ok (.getfield 63, 3) := by decide +kernel
theorem d_M_task_100 : decode b_M_task 100 = .ok (.iconst 1, 1) := by decide +kernel
theorem d_M_task_101 : decode b_M_task 101 = .ok (.isub, 1) := by decide +kernel
theorem d_M_task_102 : decode b_M_task 102 = .ok (.ireturn, 1) := by decide +kernel
theorem d_M_rest_0 : decode b_M_rest 0 = .ok (.aload_n 0, 1) := by decide +kernel
theorem d_M_rest_1 : decode b_M_rest 1 = .ok (.iload_n 1, 1) := by decide +kernel
theorem d_M_rest_2 : decode b_M_rest 2 = .ok (.iconst 0, 1) := by decide +kernel
theorem d_M_rest_3 : decode b_M_rest 3 = .ok (.bipush 96, 2) := by decide +kernel
theorem d_M_rest_5 : decode b_M_rest 5 = .ok (.invokestatic 66, 3) := by decide +kernel
theorem d_M_rest_8 : decode b_M_rest 8 = .ok (.iconst 1, 1) := by decide +kernel
theorem d_M_rest_9 : decode b_M_rest 9 = .ok (.iconst 1, 1) := by decide +kernel
theorem d_M_rest_10 : decode b_M_rest 10 = .ok (.invokevirtual 70, 3) := by decide +kernel
theorem d_M_rest_13 : decode b_M_rest 13 = .ok (.ifCond .ne (5), 3) := by decide +kernel
theorem d_M_rest_16 : decode b_M_rest 16 = .ok (.iconst 0, 1) := by decide +kernel
theorem d_M_rest_17 : decode b_M_rest 17 = .ok (.ireturn, 1) := by decide +kernel
theorem d_M_rest_18 : decode b_M_rest 18 = .ok (.aload_n 0, 1) := by decide +kernel
theorem d_M_rest_19 : decode b_M_rest 19 = .ok (.getfield 89, 3) := by decide +kernel
theorem d_M_rest_22 : decode b_M_rest 22 = .ok (.istore_n 2, 1) := by decide +kernel
theorem d_M_rest_23 : decode b_M_rest 23 = .ok (.aload_n 0, 1) := by decide +kernel
theorem d_M_rest_24 : decode b_M_rest 24 = .ok (.iload_n 1, 1) := by decide +kernel
theorem d_M_rest_25 : decode b_M_rest 25 = .ok (.putfield 89, 3) := by decide +kernel
theorem d_M_rest_28 : decode b_M_rest 28 = .ok (.iload_n 2, 1) := by decide +kernel
theorem d_M_rest_29 : decode b_M_rest 29 = .ok (.ireturn, 1) := by decide +kernel
theorem d_M_limit_0 : decode b_M_limit 0 = .ok (.aload_n 0, 1) := by decide +kernel
theorem d_M_limit_1 : decode b_M_limit 1 = .ok (.iload_n 1, 1) := by decide +kernel
theorem d_M_limit_2 : decode b_M_limit 2 = .ok (.iconst 0, 1) := by decide +kernel
theorem d_M_limit_3 : decode b_M_limit 3 = .ok (.bipush 96, 2) := by decide +kernel
theorem d_M_limit_5 : decode b_M_limit 5 = .ok (.invokestatic 66, 3) := by decide +kernel
theorem d_M_limit_8 : decode b_M_limit 8 = .ok (.iconst 1, 1) := by decide +kernel
theorem d_M_limit_9 : decode b_M_limit 9 = .ok (.iconst 1, 1) := by decide +kernel
theorem d_M_limit_10 : decode b_M_limit 10 = .ok (.invokevirtual 70, 3) := by decide +kernel
theorem d_M_limit_13 : decode b_M_limit 13 = .ok (.ifCond .ne (5), 3) := by decide +kernel
theorem d_M_limit_16 : decode b_M_limit 16 = .ok (.iconst 0, 1) := by decide +kernel
theorem d_M_limit_17 : decode b_M_limit 17 = .ok (.ireturn, 1) := by decide +kernel
theorem d_M_limit_18 : decode b_M_limit 18 = .ok (.aload_n 0, 1) := by decide +kernel
theorem d_M_limit_19 : decode b_M_limit 19 = .ok (.getfield 47, 3) := by decide +kernel
theorem d_M_limit_22 : decode b_M_limit 22 = .ok (.istore_n 2, 1) := by decide +kernel
theorem d_M_limit_23 : decode b_M_limit 23 = .ok (.aload_n 0, 1) := by decide +kernel
theorem d_M_limit_24 : decode b_M_limit 24 = .ok (.iload_n 1, 1) := by decide +kernel
theorem d_M_limit_25 : decode b_M_limit 25 = .ok (.putfield 47, 3) := by decide +kernel
theorem d_M_limit_28 : decode b_M_limit 28 = .ok (.iload_n 2, 1) := by decide +kernel
theorem d_M_limit_29 : decode b_M_limit 29 = .ok (.ireturn, 1) := by decide +kernel
theorem d_M_freeze_0 : decode b_M_freeze 0 = .ok (.aload_n 0, 1) := by decide +kernel
theorem d_M_freeze_1 : decode b_M_freeze 1 = .ok (.iload_n 1, 1) := by decide +kernel
theorem d_M_freeze_2 : decode b_M_freeze 2 = .ok (.iconst 0, 1) := by decide +kernel
theorem d_M_freeze_3 : decode b_M_freeze 3 = .ok (.bipush 96, 2) := by decide +kernel
theorem d_M_freeze_5 : decode b_M_freeze 5 = .ok (.invokestatic 66, 3) := by decide +kernel
theorem d_M_freeze_8 : decode b_M_freeze 8 = .ok (.iconst 1, 1) := by decide +kernel
theorem d_M_freeze_9 : decode b_M_freeze 9 = .ok (.iconst 1, 1) := by decide +kernel
theorem d_M_freeze_10 : decode b_M_freeze 10 = .ok (.invokevirtual 70, 3) := by decide +kernel
theorem d_M_freeze_13 : decode b_M_freeze 13 = .ok (.ifCond .ne (5), 3) := by decide +kernel
theorem d_M_freeze_16 : decode b_M_freeze 16 = .ok (.iconst 0, 1) := by decide +kernel
theorem d_M_freeze_17 : decode b_M_freeze 17 = .ok (.ireturn, 1) := by decide +kernel
theorem d_M_freeze_18 : decode b_M_freeze 18 = .ok (.aload_n 0, 1) := by decide +kernel
theorem d_M_freeze_19 : decode b_M_freeze 19 = .ok (.getfield 92, 3) := by decide +kernel
theorem d_M_freeze_22 : decode b_M_freeze 22 = .ok (.istore_n 2, 1) := by decide +kernel
theorem d_M_freeze_23 : decode b_M_freeze 23 = .ok (.aload_n 0, 1) := by decide +kernel
theorem d_M_freeze_24 : decode b_M_freeze 24 = .ok (.iload_n 1, 1) := by decide +kernel
theorem d_M_freeze_25 : decode b_M_freeze 25 = .ok (.putfield 92, 3) := by decide +kernel
theorem d_M_freeze_28 : decode b_M_freeze 28 = .ok (.iload_n 2, 1) := by decide +kernel
theorem d_M_freeze_29 : decode b_M_freeze 29 = .ok (.ireturn, 1) := by decide +kernel
theorem d_M_suits_0 : decode b_M_suits 0 = .ok (.aload_n 0, 1) := by decide +kernel
theorem d_M_suits_1 : decode b_M_suits 1 = .ok (.getfield 7, 3) := by decide +kernel
theorem d_M_suits_4 : decode b_M_suits 4 = .ok (.iload_n 1, 1) := by decide +kernel
theorem d_M_suits_5 : decode b_M_suits 5 = .ok (.iaload, 1) := by decide +kernel
theorem d_M_suits_6 : decode b_M_suits 6 = .ok (.aload_n 0, 1) := by decide +kernel
theorem d_M_suits_7 : decode b_M_suits 7 = .ok (.getfield 22, 3) := by decide +kernel
theorem d_M_suits_10 : decode b_M_suits 10 = .ok (.iload_n 2, 1) := by decide +kernel
theorem d_M_suits_11 : decode b_M_suits 11 = .ok (.iaload, 1) := by decide +kernel
theorem d_M_suits_12 : decode b_M_suits 12 = .ok (.ishr, 1) := by decide +kernel
theorem d_M_suits_13 : decode b_M_suits 13 = .ok (.iconst 1, 1) := by decide +kernel
theorem d_M_suits_14 : decode b_M_suits 14 = .ok (.iand, 1) := by decide +kernel
theorem d_M_suits_15 : decode b_M_suits 15 = .ok (.iconst 1, 1) := by decide +kernel
theorem d_M_suits_16 : decode b_M_suits 16 = .ok (.if_icmp .ne (7), 3) := by decide +kernel
theorem d_M_suits_19 : decode b_M_suits 19 = .ok (.iconst 1, 1) := by decide +kernel
theorem d_M_suits_20 : decode b_M_suits 20 = .ok (.goto (4), 3) := by decide +kernel
theorem d_M_suits_23 : decode b_M_suits 23 = .ok (.iconst 0, 1) := by decide +kernel
theorem d_M_suits_24 : decode b_M_suits 24 = .ok (.istore_n 3, 1) := by decide +kernel
theorem d_M_suits_25 : decode b_M_suits 25 = .ok (.iconst 0, 1) := by decide +kernel
theorem d_M_suits_26 : decode b_M_suits 26 = .ok (.istore 4, 2) := by decide +kernel
theorem d_M_suits_28 : decode b_M_suits 28 = .ok (.iload 4, 2) := by decide +kernel
theorem d_M_suits_30 : decode b_M_suits 30 = .ok (.aload_n 0, 1) := by decide +kernel
theorem d_M_suits_31 : decode b_M_suits 31 = .ok (.getfield 74, 3) := by decide +kernel
theorem d_M_suits_34 : decode b_M_suits 34 = .ok (.if_icmp .ge (62), 3) := by decide +kernel
theorem d_M_suits_37 : decode b_M_suits 37 = .ok (.iload_n 3, 1) := by decide +kernel
theorem d_M_suits_38 : decode b_M_suits 38 = .ok (.ifCond .eq (50), 3) := by decide +kernel
theorem d_M_suits_41 : decode b_M_suits 41 = .ok (.aload_n 0, 1) := by decide +kernel
theorem d_M_suits_42 : decode b_M_suits 42 = .ok (.getfield 13, 3) := by decide +kernel
theorem d_M_suits_45 : decode b_M_suits 45 = .ok (.iload 4, 2) := by decide +kernel
theorem d_M_suits_47 : decode b_M_suits 47 = .ok (.iaload, 1) := by decide +kernel
theorem d_M_suits_48 : decode b_M_suits 48 = .ok (.iload_n 1, 1) := by decide +kernel
theorem d_M_suits_49 : decode b_M_suits 49 = .ok (.if_icmp .ne (35), 3) := by decide +kernel
theorem d_M_suits_52 : decode b_M_suits 52 = .ok (.aload_n 0, 1) := by decide +kernel
theorem d_M_suits_53 : decode b_M_suits 53 = .ok (.getfield 16, 3) := by decide +kernel
theorem d_M_suits_56 : decode b_M_suits 56 = .ok (.iload 4, 2) := by decide +kernel
theorem d_M_suits_58 : decode b_M_suits 58 = .ok (.iaload, 1) := by decide +kernel
theorem d_M_suits_59 : decode b_M_suits 59 = .ok (.aload_n 0, 1) := by decide +kernel
theorem d_M_suits_60 : decode b_M_suits 60 = .ok (.getfield 28, 3) := by decide +kernel
theorem d_M_suits_63 : decode b_M_suits 63 = .ok (.iload_n 2, 1) := by decide +kernel
theorem d_M_suits_64 : decode b_M_suits 64 = .ok (.iaload, 1) := by decide +kernel
theorem d_M_suits_65 : decode b_M_suits 65 = .ok (.if_icmp .ge (19), 3) := by decide +kernel
theorem d_M_suits_68 : decode b_M_suits 68 = .ok (.aload_n 0, 1) := by decide +kernel
theorem d_M_suits_69 : decode b_M_suits 69 = .ok (.getfield 25, 3) := by decide +kernel
theorem d_M_suits_72 : decode b_M_suits 72 = .ok (.iload_n 2, 1) := by decide +kernel
theorem d_M_suits_73 : decode b_M_suits 73 = .ok (.iaload, 1) := by decide +kernel
theorem d_M_suits_74 : decode b_M_suits 74 = .ok (.aload_n 0, 1) := by decide +kernel
theorem d_M_suits_75 : decode b_M_suits 75 = .ok (.getfield 19, 3) := by decide +kernel
theorem d_M_suits_78 : decode b_M_suits 78 = .ok (.iload 4, 2) := by decide +kernel
theorem d_M_suits_80 : decode b_M_suits 80 = .ok (.iaload, 1) := by decide +kernel
theorem d_M_suits_81 : decode b_M_suits 81 = .ok (.if_icmp .lt (7), 3) := by decide +kernel
theorem d_M_suits_84 : decode b_M_suits 84 = .ok (.iconst 1, 1) := by decide +kernel
theorem d_M_suits_85 : decode b_M_suits 85 = .ok (.goto (4), 3) := by decide +kernel
theorem d_M_suits_88 : decode b_M_suits 88 = .ok (.iconst 0, 1) := by decide +kernel
theorem d_M_suits_89 : decode b_M_suits 89 = .ok (.istore_n 3, 1) := by decide +kernel
theorem d_M_suits_90 : decode b_M_suits 90 = .ok (.iinc 4 1, 3) := by decide +kernel
theorem d_M_suits_93 : decode b_M_suits 93 = .ok (.goto (-65), 3) := by decide +kernel
theorem d_M_suits_96 : decode b_M_suits 96 = .ok (.iload_n 3, 1) := by decide +kernel
theorem d_M_suits_97 : decode b_M_suits 97 = .ok (.ireturn, 1) := by decide +kernel
theorem d_M_isNear_0 : decode b_M_isNear 0 = .ok (.aload_n 0, 1) := by decide +kernel
theorem d_M_isNear_1 : decode b_M_isNear 1 = .ok (.getfield 25, 3) := by decide +kernel
theorem d_M_isNear_4 : decode b_M_isNear 4 = .ok (.iload_n 2, 1) := by decide +kernel
theorem d_M_isNear_5 : decode b_M_isNear 5 = .ok (.iaload, 1) := by decide +kernel
theorem d_M_isNear_6 : decode b_M_isNear 6 = .ok (.aload_n 0, 1) := by decide +kernel
theorem d_M_isNear_7 : decode b_M_isNear 7 = .ok (.getfield 28, 3) := by decide +kernel
theorem d_M_isNear_10 : decode b_M_isNear 10 = .ok (.iload_n 1, 1) := by decide +kernel
theorem d_M_isNear_11 : decode b_M_isNear 11 = .ok (.iaload, 1) := by decide +kernel
theorem d_M_isNear_12 : decode b_M_isNear 12 = .ok (.aload_n 0, 1) := by decide +kernel
theorem d_M_isNear_13 : decode b_M_isNear 13 = .ok (.getfield 89, 3) := by decide +kernel
theorem d_M_isNear_16 : decode b_M_isNear 16 = .ok (.iadd, 1) := by decide +kernel
theorem d_M_isNear_17 : decode b_M_isNear 17 = .ok (.if_icmp .ge (27), 3) := by decide +kernel
theorem d_M_isNear_20 : decode b_M_isNear 20 = .ok (.aload_n 0, 1) := by decide +kernel
theorem d_M_isNear_21 : decode b_M_isNear 21 = .ok (.getfield 25, 3) := by decide +kernel
theorem d_M_isNear_24 : decode b_M_isNear 24 = .ok (.iload_n 1, 1) := by decide +kernel
theorem d_M_isNear_25 : decode b_M_isNear 25 = .ok (.iaload, 1) := by decide +kernel
theorem d_M_isNear_26 : decode b_M_isNear 26 = .ok (.aload_n 0, 1) := by decide +kernel
theorem d_M_isNear_27 : decode b_M_isNear 27 = .ok (.getfield 28, 3) := by decide +kernel
theorem d_M_isNear_30 : decode b_M_isNear 30 = .ok (.iload_n 2, 1) := by decide +kernel
theorem d_M_isNear_31 : decode b_M_isNear 31 = .ok (.iaload, 1) := by decide +kernel
theorem d_M_isNear_32 : decode b_M_isNear 32 = .ok (.aload_n 0, 1) := by decide +kernel
theorem d_M_isNear_33 : decode b_M_isNear 33 = .ok (.getfield 89, 3) := by decide +kernel
theorem d_M_isNear_36 : decode b_M_isNear 36 = .ok (.iadd, 1) := by decide +kernel
theorem d_M_isNear_37 : decode b_M_isNear 37 = .ok (.if_icmp .ge (7), 3) := by decide +kernel
theorem d_M_isNear_40 : decode b_M_isNear 40 = .ok (.iconst 1, 1) := by decide +kernel
theorem d_M_isNear_41 : decode b_M_isNear 41 = .ok (.goto (4), 3) := by decide +kernel
theorem d_M_isNear_44 : decode b_M_isNear 44 = .ok (.iconst 0, 1) := by decide +kernel
theorem d_M_isNear_45 : decode b_M_isNear 45 = .ok (.ireturn, 1) := by decide +kernel
theorem d_M_hasNear_0 : decode b_M_hasNear 0 = .ok (.iconst 0, 1) := by decide +kernel
theorem d_M_hasNear_1 : decode b_M_hasNear 1 = .ok (.istore_n 2, 1) := by decide +kernel
theorem d_M_hasNear_2 : decode b_M_hasNear 2 = .ok (.iconst 0, 1) := by decide +kernel
theorem d_M_hasNear_3 : decode b_M_hasNear 3 = .ok (.istore_n 3, 1) := by decide +kernel
theorem d_M_hasNear_4 : decode b_M_hasNear 4 = .ok (.iload_n 3, 1) := by decide +kernel
theorem d_M_hasNear_5 : decode b_M_hasNear 5 = .ok (.aload_n 0, 1) := by decide +kernel
theorem d_M_hasNear_6 : decode b_M_hasNear 6 = .ok (.getfield 63, 3) := by decide +kernel
theorem d_M_hasNear_9 : decode b_M_hasNear 9 = .ok (.if_icmp .ge (65), 3) := by decide +kernel
theorem d_M_hasNear_12 : decode b_M_hasNear 12 = .ok (.iconst 0, 1) := by decide +kernel
theorem d_M_hasNear_13 : decode b_M_hasNear 13 = .ok (.istore 4, 2) := by decide +kernel
theorem d_M_hasNear_15 : decode b_M_hasNear 15 = .ok (.iload 4, 2) := by decide +kernel
theorem d_M_hasNear_17 : decode b_M_hasNear 17 = .ok (.iload_n 3, 1) := by decide +kernel
theorem d_M_hasNear_18 : decode b_M_hasNear 18 = .ok (.if_icmp .ge (50), 3) := by decide +kernel
theorem d_M_hasNear_21 : decode b_M_hasNear 21 = .ok (.iload_n 2, 1) := by decide +kernel
theorem d_M_hasNear_22 : decode b_M_hasNear 22 = .ok (.ifCond .ne (34), 3) := by decide +kernel
theorem d_M_hasNear_25 : decode b_M_hasNear 25 = .ok (.aload_n 0, 1) := by decide +kernel
theorem d_M_hasNear_26 : decode b_M_hasNear 26 = .ok (.getfield 38, 3) := by decide +kernel
theorem d_M_hasNear_29 : decode b_M_hasNear 29 = .ok (.iload_n 3, 1) := by decide +kernel
theorem d_M_hasNear_30 : decode b_M_hasNear 30 = .ok (.iaload, 1) := by decide +kernel
theorem d_M_hasNear_31 : decode b_M_hasNear 31 = .ok (.iload_n 1, 1) := by decide +kernel
theorem d_M_hasNear_32 : decode b_M_hasNear 32 = .ok (.if_icmp .ne (28), 3) := by decide +kernel
theorem d_M_hasNear_35 : decode b_M_hasNear 35 = .ok (.aload_n 0, 1) := by decide +kernel
theorem d_M_hasNear_36 : decode b_M_hasNear 36 = .ok (.getfield 38, 3) := by decide +kernel
theorem d_M_hasNear_39 : decode b_M_hasNear 39 = .ok (.iload 4, 2) := by decide +kernel
theorem d_M_hasNear_41 : decode b_M_hasNear 41 = .ok (.iaload, 1) := by decide +kernel
theorem d_M_hasNear_42 : decode b_M_hasNear 42 = .ok (.iload_n 1, 1) := by decide +kernel
theorem d_M_hasNear_43 : decode b_M_hasNear 43 = .ok (.if_icmp .ne (17), 3) := by decide +kernel
theorem d_M_hasNear_46 : decode b_M_hasNear 46 = .ok (.aload_n 0, 1) := by decide +kernel
theorem d_M_hasNear_47 : decode b_M_hasNear 47 = .ok (.iload_n 3, 1) := by decide +kernel
theorem d_M_hasNear_48 : decode b_M_hasNear 48 = .ok (.iload 4, 2) := by decide +kernel
theorem d_M_hasNear_50 : decode b_M_hasNear 50 = .ok (.invokevirtual 95, 3) := by decide +kernel
theorem d_M_hasNear_53 : decode b_M_hasNear 53 = .ok (.ifCond .eq (7), 3) := by decide +kernel
theorem d_M_hasNear_56 : decode b_M_hasNear 56 = .ok (.iconst 1, 1) := by decide +kernel
theorem d_M_hasNear_57 : decode b_M_hasNear 57 = .ok (.goto (4), 3) := by decide +kernel
theorem d_M_hasNear_60 : decode b_M_hasNear 60 = .ok (.iconst 0, 1) := by decide +kernel
theorem d_M_hasNear_61 : decode b_M_hasNear 61 = .ok (.istore_n 2, 1) := by decide +kernel
theorem d_M_hasNear_62 : decode b_M_hasNear 62 = .ok (.iinc 4 1, 3) := by decide +kernel
theorem d_M_hasNear_65 : decode b_M_hasNear 65 = .ok (.goto (-50), 3) := by decide +kernel
theorem d_M_hasNear_68 : decode b_M_hasNear 68 = .ok (.iinc 3 1, 3) := by decide +kernel
theorem d_M_hasNear_71 : decode b_M_hasNear 71 = .ok (.goto (-67), 3) := by decide +kernel
theorem d_M_hasNear_74 : decode b_M_hasNear 74 = .ok (.iload_n 2, 1) := by decide +kernel
theorem d_M_hasNear_75 : decode b_M_hasNear 75 = .ok (.ireturn, 1) := by decide +kernel
theorem d_M_quarters_0 : decode b_M_quarters 0 = .ok (.iconst 0, 1) := by decide +kernel
theorem d_M_quarters_1 : decode b_M_quarters 1 = .ok (.istore_n 2, 1) := by decide +kernel
theorem d_M_quarters_2 : decode b_M_quarters 2 = .ok (.iconst 0, 1) := by decide +kernel
theorem d_M_quarters_3 : decode b_M_quarters 3 = .ok (.istore_n 3, 1) := by decide +kernel
theorem d_M_quarters_4 : decode b_M_quarters 4 = .ok (.iload_n 3, 1) := by decide +kernel
theorem d_M_quarters_5 : decode b_M_quarters 5 = .ok (.aload_n 0, 1) := by decide +kernel
theorem d_M_quarters_6 : decode b_M_quarters 6 = .ok (.getfield 63, 3) := by decide +kernel
theorem d_M_quarters_9 : decode b_M_quarters 9 = .ok (.if_icmp .ge (39), 3) := by decide +kernel
theorem d_M_quarters_12 : decode b_M_quarters 12 = .ok (.aload_n 0, 1) := by decide +kernel
theorem d_M_quarters_13 : decode b_M_quarters 13 = .ok (.getfield 38, 3) := by decide +kernel
theorem d_M_quarters_16 : decode b_M_quarters 16 = .ok (.iload_n 3, 1) := by decide +kernel
theorem d_M_quarters_17 : decode b_M_quarters 17 = .ok (.iaload, 1) := by decide +kernel
theorem d_M_quarters_18 : decode b_M_quarters 18 = .ok (.iload_n 1, 1) := by decide +kernel
theorem d_M_quarters_19 : decode b_M_quarters 19 = .ok (.if_icmp .ne (21), 3) := by decide +kernel
theorem d_M_quarters_22 : decode b_M_quarters 22 = .ok (.iload_n 2, 1) := by decide +kernel
theorem d_M_quarters_23 : decode b_M_quarters 23 = .ok (.aload_n 0, 1) := by decide +kernel
theorem d_M_quarters_24 : decode b_M_quarters 24 = .ok (.getfield 28, 3) := by decide +kernel
theorem d_M_quarters_27 : decode b_M_quarters 27 = .ok (.iload_n 3, 1) := by decide +kernel
theorem d_M_quarters_28 : decode b_M_quarters 28 = .ok (.iaload, 1) := by decide +kernel
theorem d_M_quarters_29 : decode b_M_quarters 29 = .ok (.iadd, 1) := by decide +kernel
theorem d_M_quarters_30 : decode b_M_quarters 30 = .ok (.aload_n 0, 1) := by decide +kernel
theorem d_M_quarters_31 : decode b_M_quarters 31 = .ok (.getfield 25, 3) := by decide +kernel
theorem d_M_quarters_34 : decode b_M_quarters 34 = .ok (.iload_n 3, 1) := by decide +kernel
theorem d_M_quarters_35 : decode b_M_quarters 35 = .ok (.iaload, 1) := by decide +kernel
theorem d_M_quarters_36 : decode b_M_quarters 36 = .ok (.isub, 1) := by decide +kernel
theorem d_M_quarters_37 : decode b_M_quarters 37 = .ok (.goto (4), 3) := by decide +kernel
theorem d_M_quarters_40 : decode b_M_quarters 40 = .ok (.iload_n 2, 1) := by decide +kernel
theorem d_M_quarters_41 : decode b_M_quarters 41 = .ok (.istore_n 2, 1) := by decide +kernel
theorem d_M_quarters_42 : decode b_M_quarters 42 = .ok (.iinc 3 1, 3) := by decide +kernel
theorem d_M_quarters_45 : decode b_M_quarters 45 = .ok (.goto (-41), 3) := by decide +kernel
theorem d_M_quarters_48 : decode b_M_quarters 48 = .ok (.iload_n 2, 1) := by decide +kernel
theorem d_M_quarters_49 : decode b_M_quarters 49 = .ok (.ireturn, 1) := by decide +kernel
theorem d_M_costOf_0 : decode b_M_costOf 0 = .ok (.iconst 0, 1) := by decide +kernel
theorem d_M_costOf_1 : decode b_M_costOf 1 = .ok (.istore_n 1, 1) := by decide +kernel
theorem d_M_costOf_2 : decode b_M_costOf 2 = .ok (.iconst (-1), 1) := by decide +kernel
theorem d_M_costOf_3 : decode b_M_costOf 3 = .ok (.istore_n 2, 1) := by decide +kernel
theorem d_M_costOf_4 : decode b_M_costOf 4 = .ok (.iload_n 2, 1) := by decide +kernel
theorem d_M_costOf_5 : decode b_M_costOf 5 = .ok (.aload_n 0, 1) := by decide +kernel
theorem d_M_costOf_6 : decode b_M_costOf 6 = .ok (.getfield 60, 3) := by decide +kernel
theorem d_M_costOf_9 : decode b_M_costOf 9 = .ok (.if_icmp .ge (66), 3) := by decide +kernel
theorem d_M_costOf_12 : decode b_M_costOf 12 = .ok (.iconst 0, 1) := by decide +kernel
theorem d_M_costOf_13 : decode b_M_costOf 13 = .ok (.istore_n 3, 1) := by decide +kernel
theorem d_M_costOf_14 : decode b_M_costOf 14 = .ok (.iconst 0, 1) := by decide +kernel
theorem d_M_costOf_15 : decode b_M_costOf 15 = .ok (.istore 4, 2) := by decide +kernel
theorem d_M_costOf_17 : decode b_M_costOf 17 = .ok (.iload 4, 2) := by decide +kernel
theorem d_M_costOf_19 : decode b_M_costOf 19 = .ok (.aload_n 0, 1) := by decide +kernel
theorem d_M_costOf_20 : decode b_M_costOf 20 = .ok (.getfield 63, 3) := by decide +kernel
theorem d_M_costOf_23 : decode b_M_costOf 23 = .ok (.if_icmp .ge (28), 3) := by decide +kernel
theorem d_M_costOf_26 : decode b_M_costOf 26 = .ok (.aload_n 0, 1) := by decide +kernel
theorem d_M_costOf_27 : decode b_M_costOf 27 = .ok (.getfield 38, 3) := by decide +kernel
theorem d_M_costOf_30 : decode b_M_costOf 30 = .ok (.iload 4, 2) := by decide +kernel
theorem d_M_costOf_32 : decode b_M_costOf 32 = .ok (.iaload, 1) := by decide +kernel
theorem d_M_costOf_33 : decode b_M_costOf 33 = .ok (.iload_n 2, 1) := by decide +kernel
theorem d_M_costOf_34 : decode b_M_costOf 34 = .ok (.if_icmp .ne (9), 3) := by decide +kernel
theorem d_M_costOf_37 : decode b_M_costOf 37 = .ok (.iload_n 3, 1) := by decide +kernel
theorem d_M_costOf_38 : decode b_M_costOf 38 = .ok (.iconst 1, 1) := by decide +kernel
theorem d_M_costOf_39 : decode b_M_costOf 39 = .ok (.iadd, 1) := by decide +kernel
theorem d_M_costOf_40 : decode b_M_costOf 40 = .ok (.goto (4), 3) := by decide +kernel
theorem d_M_costOf_43 : decode b_M_costOf 43 = .ok (.iload_n 3, 1) := by decide +kernel
theorem d_M_costOf_44 : decode b_M_costOf 44 = .ok (.istore_n 3, 1) := by decide +kernel
theorem d_M_costOf_45 : decode b_M_costOf 45 = .ok (.iinc 4 1, 3) := by decide +kernel
theorem d_M_costOf_48 : decode b_M_costOf 48 = .ok (.goto (-31), 3) := by decide +kernel
theorem d_M_costOf_51 : decode b_M_costOf 51 = .ok (.iload_n 1, 1) := by decide +kernel
theorem d_M_costOf_52 : decode b_M_costOf 52 = .ok (.iload_n 2, 1) := by decide +kernel
theorem d_M_costOf_53 : decode b_M_costOf 53 = .ok (.iconst (-1), 1) := by decide +kernel
theorem d_M_costOf_54 : decode b_M_costOf 54 = .ok (.if_icmp .ne (10), 3) := by decide +kernel
theorem d_M_costOf_57 : decode b_M_costOf 57 = .ok (.bipush 100, 2) := by decide +kernel
theorem d_M_costOf_59 : decode b_M_costOf 59 = .ok (.iload_n 3, 1) := by decide +kernel
theorem d_M_costOf_60 : decode b_M_costOf 60 = .ok (.imul, 1) := by decide +kernel
theorem d_M_costOf_61 : decode b_M_costOf 61 = .ok (.goto (6), 3) := by decide +kernel
theorem d_M_costOf_64 : decode b_M_costOf 64 = .ok (.iload_n 3, 1) := by decide +kernel
theorem d_M_costOf_65 : decode b_M_costOf 65 = .ok (.iload_n 3, 1) := by decide +kernel
theorem d_M_costOf_66 : decode b_M_costOf 66 = .ok (.imul, 1) := by decide +kernel
theorem d_M_costOf_67 : decode b_M_costOf 67 = .ok (.iadd, 1) := by decide +kernel
theorem d_M_costOf_68 : decode b_M_costOf 68 = .ok (.istore_n 1, 1) := by decide +kernel
theorem d_M_costOf_69 : decode b_M_costOf 69 = .ok (.iinc 2 1, 3) := by decide +kernel
theorem d_M_costOf_72 : decode b_M_costOf 72 = .ok (.goto (-68), 3) := by decide +kernel
theorem d_M_costOf_75 : decode b_M_costOf 75 = .ok (.iload_n 1, 1) := by decide +kernel
theorem d_M_costOf_76 : decode b_M_costOf 76 = .ok (.ireturn, 1) := by decide +kernel
theorem d_M_may_0 : decode b_M_may 0 = .ok (.iconst 1, 1) := by decide +kernel
theorem d_M_may_1 : decode b_M_may 1 = .ok (.istore_n 1, 1) := by decide +kernel
theorem d_M_may_2 : decode b_M_may 2 = .ok (.iconst 0, 1) := by decide +kernel
theorem d_M_may_3 : decode b_M_may 3 = .ok (.istore_n 2, 1) := by decide +kernel
theorem d_M_may_4 : decode b_M_may 4 = .ok (.iload_n 2, 1) := by decide +kernel
theorem d_M_may_5 : decode b_M_may 5 = .ok (.aload_n 0, 1) := by decide +kernel
theorem d_M_may_6 : decode b_M_may 6 = .ok (.getfield 63, 3) := by decide +kernel
theorem d_M_may_9 : decode b_M_may 9 = .ok (.if_icmp .ge (75), 3) := by decide +kernel
theorem d_M_may_12 : decode b_M_may 12 = .ok (.iload_n 1, 1) := by decide +kernel
theorem d_M_may_13 : decode b_M_may 13 = .ok (.ifCond .eq (71), 3) := by decide +kernel
theorem d_M_may_16 : decode b_M_may 16 = .ok (.aload_n 0, 1) := by decide +kernel
theorem d_M_may_17 : decode b_M_may 17 = .ok (.getfield 44, 3) := by decide +kernel
theorem d_M_may_20 : decode b_M_may 20 = .ok (.iload_n 2, 1) := by decide +kernel
theorem d_M_may_21 : decode b_M_may 21 = .ok (.baload, 1) := by decide +kernel
theorem d_M_may_22 : decode b_M_may 22 = .ok (.ifCond .eq (26), 3) := by decide +kernel
theorem d_M_may_25 : decode b_M_may 25 = .ok (.aload_n 0, 1) := by decide +kernel
theorem d_M_may_26 : decode b_M_may 26 = .ok (.getfield 38, 3) := by decide +kernel
theorem d_M_may_29 : decode b_M_may 29 = .ok (.iload_n 2, 1) := by decide +kernel
theorem d_M_may_30 : decode b_M_may 30 = .ok (.iaload, 1) := by decide +kernel
theorem d_M_may_31 : decode b_M_may 31 = .ok (.aload_n 0, 1) := by decide +kernel
theorem d_M_may_32 : decode b_M_may 32 = .ok (.getfield 35, 3) := by decide +kernel
theorem d_M_may_35 : decode b_M_may 35 = .ok (.iload_n 2, 1) := by decide +kernel
theorem d_M_may_36 : decode b_M_may 36 = .ok (.iaload, 1) := by decide +kernel
theorem d_M_may_37 : decode b_M_may 37 = .ok (.if_icmp .ne (7), 3) := by decide +kernel
theorem d_M_may_40 : decode b_M_may 40 = .ok (.iconst 1, 1) := by decide +kernel
theorem d_M_may_41 : decode b_M_may 41 = .ok (.goto (36), 3) := by decide +kernel
theorem d_M_may_44 : decode b_M_may 44 = .ok (.iconst 0, 1) := by decide +kernel
theorem d_M_may_45 : decode b_M_may 45 = .ok (.goto (32), 3) := by decide +kernel
theorem d_M_may_48 : decode b_M_may 48 = .ok (.aload_n 0, 1) := by decide +kernel
theorem d_M_may_49 : decode b_M_may 49 = .ok (.getfield 38, 3) := by decide +kernel
theorem d_M_may_52 : decode b_M_may 52 = .ok (.iload_n 2, 1) := by decide +kernel
theorem d_M_may_53 : decode b_M_may 53 = .ok (.iaload, 1) := by decide +kernel
theorem d_M_may_54 : decode b_M_may 54 = .ok (.iconst (-1), 1) := by decide +kernel
theorem d_M_may_55 : decode b_M_may 55 = .ok (.if_icmp .eq (17), 3) := by decide +kernel
theorem d_M_may_58 : decode b_M_may 58 = .ok (.aload_n 0, 1) := by decide +kernel
theorem d_M_may_59 : decode b_M_may 59 = .ok (.aload_n 0, 1) := by decide +kernel
theorem d_M_may_60 : decode b_M_may 60 = .ok (.getfield 38, 3) := by decide +kernel
theorem d_M_may_63 : decode b_M_may 63 = .ok (.iload_n 2, 1) := by decide +kernel
theorem d_M_may_64 : decode b_M_may 64 = .ok (.iaload, 1) := by decide +kernel
theorem d_M_may_65 : decode b_M_may 65 = .ok (.iload_n 2, 1) := by decide +kernel
theorem d_M_may_66 : decode b_M_may 66 = .ok (.invokevirtual 98, 3) := by decide +kernel
theorem d_M_may_69 : decode b_M_may 69 = .ok (.ifCond .eq (7), 3) := by decide +kernel
theorem d_M_may_72 : decode b_M_may 72 = .ok (.iconst 1, 1) := by decide +kernel
theorem d_M_may_73 : decode b_M_may 73 = .ok (.goto (4), 3) := by decide +kernel
theorem d_M_may_76 : decode b_M_may 76 = .ok (.iconst 0, 1) := by decide +kernel
theorem d_M_may_77 : decode b_M_may 77 = .ok (.istore_n 1, 1) := by decide +kernel
theorem d_M_may_78 : decode b_M_may 78 = .ok (.iinc 2 1, 3) := by decide +kernel
theorem d_M_may_81 : decode b_M_may 81 = .ok (.goto (-77), 3) := by decide +kernel
theorem d_M_may_84 : decode b_M_may 84 = .ok (.iconst 0, 1) := by decide +kernel
theorem d_M_may_85 : decode b_M_may 85 = .ok (.istore_n 2, 1) := by decide +kernel
theorem d_M_may_86 : decode b_M_may 86 = .ok (.iload_n 2, 1) := by decide +kernel
theorem d_M_may_87 : decode b_M_may 87 = .ok (.aload_n 0, 1) := by decide +kernel
theorem d_M_may_88 : decode b_M_may 88 = .ok (.getfield 60, 3) := by decide +kernel
theorem d_M_may_91 : decode b_M_may 91 = .ok (.if_icmp .ge (39), 3) := by decide +kernel
theorem d_M_may_94 : decode b_M_may 94 = .ok (.iload_n 1, 1) := by decide +kernel
theorem d_M_may_95 : decode b_M_may 95 = .ok (.ifCond .eq (35), 3) := by decide +kernel
theorem d_M_may_98 : decode b_M_may 98 = .ok (.aload_n 0, 1) := by decide +kernel
theorem d_M_may_99 : decode b_M_may 99 = .ok (.iload_n 2, 1) := by decide +kernel
theorem d_M_may_100 : decode b_M_may 100 = .ok (.invokevirtual 101, 3) := by decide +kernel
theorem d_M_may_103 : decode b_M_may 103 = .ok (.aload_n 0, 1) := by decide +kernel
theorem d_M_may_104 : decode b_M_may 104 = .ok (.getfield 47, 3) := by decide +kernel
theorem d_M_may_107 : decode b_M_may 107 = .ok (.if_icmp .gt (15), 3) := by decide +kernel
theorem d_M_may_110 : decode b_M_may 110 = .ok (.aload_n 0, 1) := by decide +kernel
theorem d_M_may_111 : decode b_M_may 111 = .ok (.iload_n 2, 1) := by decide +kernel
theorem d_M_may_112 : decode b_M_may 112 = .ok (.invokevirtual 105, 3) := by decide +kernel
theorem d_M_may_115 : decode b_M_may 115 = .ok (.ifCond .ne (7), 3) := by decide +kernel
theorem d_M_may_118 : decode b_M_may 118 = .ok (.iconst 1, 1) := by decide +kernel
theorem d_M_may_119 : decode b_M_may 119 = .ok (.goto (4), 3) := by decide +kernel
theorem d_M_may_122 : decode b_M_may 122 = .ok (.iconst 0, 1) := by decide +kernel
theorem d_M_may_123 : decode b_M_may 123 = .ok (.istore_n 1, 1) := by decide +kernel
theorem d_M_may_124 : decode b_M_may 124 = .ok (.iinc 2 1, 3) := by decide +kernel
theorem d_M_may_127 : decode b_M_may 127 = .ok (.goto (-41), 3) := by decide +kernel
theorem d_M_may_130 : decode b_M_may 130 = .ok (.iload_n 1, 1) := by decide +kernel
theorem d_M_may_131 : decode b_M_may 131 = .ok (.ireturn, 1) := by decide +kernel
theorem d_M_full_0 : decode b_M_full 0 = .ok (.iconst 0, 1) := by decide +kernel
theorem d_M_full_1 : decode b_M_full 1 = .ok (.istore_n 1, 1) := by decide +kernel
theorem d_M_full_2 : decode b_M_full 2 = .ok (.iload_n 1, 1) := by decide +kernel
theorem d_M_full_3 : decode b_M_full 3 = .ok (.aload_n 0, 1) := by decide +kernel
theorem d_M_full_4 : decode b_M_full 4 = .ok (.getfield 63, 3) := by decide +kernel
theorem d_M_full_7 : decode b_M_full 7 = .ok (.if_icmp .ge (28), 3) := by decide +kernel
theorem d_M_full_10 : decode b_M_full 10 = .ok (.aload_n 0, 1) := by decide +kernel
theorem d_M_full_11 : decode b_M_full 11 = .ok (.getfield 31, 3) := by decide +kernel
theorem d_M_full_14 : decode b_M_full 14 = .ok (.iload_n 1, 1) := by decide +kernel
theorem d_M_full_15 : decode b_M_full 15 = .ok (.baload, 1) := by decide +kernel
theorem d_M_full_16 : decode b_M_full 16 = .ok (.ifCond .eq (13), 3) := by decide +kernel
theorem d_M_full_19 : decode b_M_full 19 = .ok (.aload_n 0, 1) := by decide +kernel
theorem d_M_full_20 : decode b_M_full 20 = .ok (.getfield 38, 3) := by decide +kernel
theorem d_M_full_23 : decode b_M_full 23 = .ok (.iload_n 1, 1) := by decide +kernel
theorem d_M_full_24 : decode b_M_full 24 = .ok (.iaload, 1) := by decide +kernel
theorem d_M_full_25 : decode b_M_full 25 = .ok (.iconst (-1), 1) := by decide +kernel
theorem d_M_full_26 : decode b_M_full 26 = .ok (.if_icmp .eq (9), 3) := by decide +kernel
theorem d_M_full_29 : decode b_M_full 29 = .ok (.iinc 1 1, 3) := by decide +kernel
theorem d_M_full_32 : decode b_M_full 32 = .ok (.goto (-30), 3) := by decide +kernel
theorem d_M_full_35 : decode b_M_full 35 = .ok (.iload_n 1, 1) := by decide +kernel
theorem d_M_full_36 : decode b_M_full 36 = .ok (.ireturn, 1) := by decide +kernel
theorem d_M_differences_0 : decode b_M_differences 0 = .ok (.iconst 0, 1) := by decide +kernel
theorem d_M_differences_1 : decode b_M_differences 1 = .ok (.istore_n 1, 1) := by decide +kernel
theorem d_M_differences_2 : decode b_M_differences 2 = .ok (.iconst 0, 1) := by decide +kernel
theorem d_M_differences_3 : decode b_M_differences 3 = .ok (.istore_n 2, 1) := by decide +kernel
theorem d_M_differences_4 : decode b_M_differences 4 = .ok (.iload_n 2, 1) := by decide +kernel
theorem d_M_differences_5 : decode b_M_differences 5 = .ok (.aload_n 0, 1) := by decide +kernel
theorem d_M_differences_6 : decode b_M_differences 6 = .ok (.getfield 63, 3) := by decide +kernel
theorem d_M_differences_9 : decode b_M_differences 9 = .ok (.if_icmp .ge (32), 3) := by decide +kernel
theorem d_M_differences_12 : decode b_M_differences 12 = .ok (.aload_n 0, 1) := by decide +kernel
theorem d_M_differences_13 : decode b_M_differences 13 = .ok (.getfield 38, 3) := by decide +kernel
theorem d_M_differences_16 : decode b_M_differences 16 = .ok (.iload_n 2, 1) := by decide +kernel
theorem d_M_differences_17 : decode b_M_differences 17 = .ok (.iaload, 1) := by decide +kernel
theorem d_M_differences_18 : decode b_M_differences 18 = .ok (.aload_n 0, 1) := by decide +kernel
theorem d_M_differences_19 : decode b_M_differences 19 = .ok (.getfield 35, 3) := by decide +kernel
theorem d_M_differences_22 : decode b_M_differences 22 = .ok (.iload_n 2, 1) := by decide +kernel
theorem d_M_differences_23 : decode b_M_differences 23 = .ok (.iaload, 1) := by decide +kernel
theorem d_M_differences_24 : decode b_M_differences 24 = .ok (.if_icmp .eq (9), 3) := by decide +kernel
theorem d_M_differences_27 : decode b_M_differences 27 = .ok (.iload_n 1, 1) := by decide +kernel
theorem d_M_differences_28 : decode b_M_differences 28 = .ok (.iconst 1, 1) := by decide +kernel
theorem d_M_differences_29 : decode b_M_differences 29 = .ok (.iadd, 1) := by decide +kernel
theorem d_M_differences_30 : decode b_M_differences 30 = .ok (.goto (4), 3) := by decide +kernel
theorem d_M_differences_33 : decode b_M_differences 33 = .ok (.iload_n 1, 1) := by decide +kernel
theorem d_M_differences_34 : decode b_M_differences 34 = .ok (.istore_n 1, 1) := by decide +kernel
theorem d_M_differences_35 : decode b_M_differences 35 = .ok (.iinc 2 1, 3) := by decide +kernel
theorem d_M_differences_38 : decode b_M_differences 38 = .ok (.goto (-34), 3) := by decide +kernel
theorem d_M_differences_41 : decode b_M_differences 41 = .ok (.iload_n 1, 1) := by decide +kernel
theorem d_M_differences_42 : decode b_M_differences 42 = .ok (.ireturn, 1) := by decide +kernel
theorem d_M_seek_0 : decode b_M_seek 0 = .ok (.aload_n 0, 1) := by decide +kernel
theorem d_M_seek_1 : decode b_M_seek 1 = .ok (.getfield 60, 3) := by decide +kernel
theorem d_M_seek_4 : decode b_M_seek 4 = .ok (.iconst 1, 1) := by decide +kernel
theorem d_M_seek_5 : decode b_M_seek 5 = .ok (.iadd, 1) := by decide +kernel
theorem d_M_seek_6 : decode b_M_seek 6 = .ok (.istore_n 2, 1) := by decide +kernel
theorem d_M_seek_7 : decode b_M_seek 7 = .ok (.iconst 1, 1) := by decide +kernel
theorem d_M_seek_8 : decode b_M_seek 8 = .ok (.istore_n 3, 1) := by decide +kernel
theorem d_M_seek_9 : decode b_M_seek 9 = .ok (.iconst 0, 1) := by decide +kernel
theorem d_M_seek_10 : decode b_M_seek 10 = .ok (.istore 4, 2) := by decide +kernel
theorem d_M_seek_12 : decode b_M_seek 12 = .ok (.iload 4, 2) := by decide +kernel
theorem d_M_seek_14 : decode b_M_seek 14 = .ok (.aload_n 0, 1) := by decide +kernel
theorem d_M_seek_15 : decode b_M_seek 15 = .ok (.getfield 63, 3) := by decide +kernel
theorem d_M_seek_18 : decode b_M_seek 18 = .ok (.if_icmp .ge (13), 3) := by decide +kernel
theorem d_M_seek_21 : decode b_M_seek 21 = .ok (.iload_n 3, 1) := by decide +kernel
theorem d_M_seek_22 : decode b_M_seek 22 = .ok (.iload_n 2, 1) := by decide +kernel
theorem d_M_seek_23 : decode b_M_seek 23 = .ok (.imul, 1) := by decide +kernel
theorem d_M_seek_24 : decode b_M_seek 24 = .ok (.istore_n 3, 1) := by decide +kernel
theorem d_M_seek_25 : decode b_M_seek 25 = .ok (.iinc 4 1, 3) := by decide +kernel
theorem d_M_seek_28 : decode b_M_seek 28 = .ok (.goto (-16), 3) := by decide +kernel
theorem d_M_seek_31 : decode b_M_seek 31 = .ok (.aload_n 0, 1) := by decide +kernel
theorem d_M_seek_32 : decode b_M_seek 32 = .ok (.iconst 0, 1) := by decide +kernel
theorem d_M_seek_33 : decode b_M_seek 33 = .ok (.putfield 108, 3) := by decide +kernel
theorem d_M_seek_36 : decode b_M_seek 36 = .ok (.aload_n 0, 1) := by decide +kernel
theorem d_M_seek_37 : decode b_M_seek 37 = .ok (.iconst (-1), 1) := by decide +kernel
theorem d_M_seek_38 : decode b_M_seek 38 = .ok (.putfield 112, 3) := by decide +kernel
theorem d_M_seek_41 : decode b_M_seek 41 = .ok (.iconst 0, 1) := by decide +kernel
theorem d_M_seek_42 : decode b_M_seek 42 = .ok (.istore 4, 2) := by decide +kernel
theorem d_M_seek_44 : decode b_M_seek 44 = .ok (.iload 4, 2) := by decide +kernel
theorem d_M_seek_46 : decode b_M_seek 46 = .ok (.iload_n 3, 1) := by decide +kernel
theorem d_M_seek_47 : decode b_M_seek 47 = .ok (.if_icmp .ge (176), 3) := by decide +kernel
theorem d_M_seek_50 : decode b_M_seek 50 = .ok (.iload 4, 2) := by decide +kernel
theorem d_M_seek_52 : decode b_M_seek 52 = .ok (.istore 5, 2) := by decide +kernel
theorem d_M_seek_54 : decode b_M_seek 54 = .ok (.aload_n 0, 1) := by decide +kernel
theorem d_M_seek_55 : decode b_M_seek 55 = .ok (.getfield 63, 3) := by decide +kernel
theorem d_M_seek_58 : decode b_M_seek 58 = .ok (.iconst 1, 1) := by decide +kernel
theorem d_M_seek_59 : decode b_M_seek 59 = .ok (.isub, 1) := by decide +kernel
theorem d_M_seek_60 : decode b_M_seek 60 = .ok (.istore 6, 2) := by decide +kernel
theorem d_M_seek_62 : decode b_M_seek 62 = .ok (.iload 6, 2) := by decide +kernel
theorem d_M_seek_64 : decode b_M_seek 64 = .ok (.ifCond .lt (41), 3) := by decide +kernel
theorem d_M_seek_67 : decode b_M_seek 67 = .ok (.aload_n 0, 1) := by decide +kernel
theorem d_M_seek_68 : decode b_M_seek 68 = .ok (.getfield 38, 3) := by decide +kernel
theorem d_M_seek_71 : decode b_M_seek 71 = .ok (.iload 6, 2) := by decide +kernel
theorem d_M_seek_73 : decode b_M_seek 73 = .ok (.iload 5, 2) := by decide +kernel
theorem d_M_seek_75 : decode b_M_seek 75 = .ok (.iload_n 2, 1) := by decide +kernel
theorem d_M_seek_76 : decode b_M_seek 76 = .ok (.irem, 1) := by decide +kernel
theorem d_M_seek_77 : decode b_M_seek 77 = .ok (.aload_n 0, 1) := by decide +kernel
theorem d_M_seek_78 : decode b_M_seek 78 = .ok (.getfield 60, 3) := by decide +kernel
theorem d_M_seek_81 : decode b_M_seek 81 = .ok (.if_icmp .ne (7), 3) := by decide +kernel
theorem d_M_seek_84 : decode b_M_seek 84 = .ok (.iconst (-1), 1) := by decide +kernel
theorem d_M_seek_85 : decode b_M_seek 85 = .ok (.goto (7), 3) := by decide +kernel
theorem d_M_seek_88 : decode b_M_seek 88 = .ok (.iload 5, 2) := by decide +kernel
theorem d_M_seek_90 : decode b_M_seek 90 = .ok (.iload_n 2, 1) := by decide +kernel
theorem d_M_seek_91 : decode b_M_seek 91 = .ok (.irem, 1) := by decide +kernel
theorem d_M_seek_92 : decode b_M_seek 92 = .ok (.iastore, 1) := by decide +kernel
theorem d_M_seek_93 : decode b_M_seek 93 = .ok (.iload 5, 2) := by decide +kernel
theorem d_M_seek_95 : decode b_M_seek 95 = .ok (.iload_n 2, 1) := by decide +kernel
theorem d_M_seek_96 : decode b_M_seek 96 = .ok (.idiv, 1) := by decide +kernel
theorem d_M_seek_97 : decode b_M_seek 97 = .ok (.istore 5, 2) := by decide +kernel
theorem d_M_seek_99 : decode b_M_seek 99 = .ok (.iinc 6 (-1), 3) := by decide +kernel
theorem d_M_seek_102 : decode b_M_seek 102 = .ok (.goto (-40), 3) := by decide +kernel
theorem d_M_seek_105 : decode b_M_seek 105 = .ok (.aload_n 0, 1) := by decide +kernel
theorem d_M_seek_106 : decode b_M_seek 106 = .ok (.invokevirtual 115, 3) := by decide +kernel
theorem d_M_seek_109 : decode b_M_seek 109 = .ok (.ifCond .eq (108), 3) := by decide +kernel
theorem d_M_seek_112 : decode b_M_seek 112 = .ok (.aload_n 0, 1) := by decide +kernel
theorem d_M_seek_113 : decode b_M_seek 113 = .ok (.aload_n 0, 1) := by decide +kernel
theorem d_M_seek_114 : decode b_M_seek 114 = .ok (.invokevirtual 119, 3) := by decide +kernel
theorem d_M_seek_117 : decode b_M_seek 117 = .ok (.aload_n 0, 1) := by decide +kernel
theorem d_M_seek_118 : decode b_M_seek 118 = .ok (.getfield 112, 3) := by decide +kernel
theorem d_M_seek_121 : decode b_M_seek 121 = .ok (.if_icmp .le (10), 3) := by decide +kernel
theorem d_M_seek_124 : decode b_M_seek 124 = .ok (.aload_n 0, 1) := by decide +kernel
theorem d_M_seek_125 : decode b_M_seek 125 = .ok (.invokevirtual 119, 3) := by decide +kernel
theorem d_M_seek_128 : decode b_M_seek 128 = .ok (.goto (7), 3) := by decide +kernel
theorem d_M_seek_131 : decode b_M_seek 131 = .ok (.aload_n 0, 1) := by decide +kernel
theorem d_M_seek_132 : decode b_M_seek 132 = .ok (.getfield 112, 3) := by decide +kernel
theorem d_M_seek_135 : decode b_M_seek 135 = .ok (.putfield 112, 3) := by decide +kernel
theorem d_M_seek_138 : decode b_M_seek 138 = .ok (.iload_n 1, 1) := by decide +kernel
theorem d_M_seek_139 : decode b_M_seek 139 = .ok (.ifCond .eq (10), 3) := by decide +kernel
theorem d_M_seek_142 : decode b_M_seek 142 = .ok (.aload_n 0, 1) := by decide +kernel
theorem d_M_seek_143 : decode b_M_seek 143 = .ok (.invokevirtual 123, 3) := by decide +kernel
theorem d_M_seek_146 : decode b_M_seek 146 = .ok (.goto (4), 3) := by decide +kernel
theorem d_M_seek_149 : decode b_M_seek 149 = .ok (.iconst 0, 1) := by decide +kernel
theorem d_M_seek_150 : decode b_M_seek 150 = .ok (.istore 6, 2) := by decide +kernel
theorem d_M_seek_152 : decode b_M_seek 152 = .ok (.aload_n 0, 1) := by decide +kernel
theorem d_M_seek_153 : decode b_M_seek 153 = .ok (.invokevirtual 119, 3) := by decide +kernel
theorem d_M_seek_156 : decode b_M_seek 156 = .ok (.aload_n 0, 1) := by decide +kernel
theorem d_M_seek_157 : decode b_M_seek 157 = .ok (.getfield 63, 3) := by decide +kernel
theorem d_M_seek_160 : decode b_M_seek 160 = .ok (.if_icmp .ne (43), 3) := by decide +kernel
theorem d_M_seek_163 : decode b_M_seek 163 = .ok (.aload_n 0, 1) := by decide +kernel
theorem d_M_seek_164 : decode b_M_seek 164 = .ok (.getfield 108, 3) := by decide +kernel
theorem d_M_seek_167 : decode b_M_seek 167 = .ok (.ifCond .eq (32), 3) := by decide +kernel
theorem d_M_seek_170 : decode b_M_seek 170 = .ok (.iload 6, 2) := by decide +kernel
theorem d_M_seek_172 : decode b_M_seek 172 = .ok (.aload_n 0, 1) := by decide +kernel
theorem d_M_seek_173 : decode b_M_seek 173 = .ok (.getfield 126, 3) := by decide +kernel
theorem d_M_seek_176 : decode b_M_seek 176 = .ok (.if_icmp .lt (23), 3) := by decide +kernel
theorem d_M_seek_179 : decode b_M_seek 179 = .ok (.iload 6, 2) := by decide +kernel
theorem d_M_seek_181 : decode b_M_seek 181 = .ok (.aload_n 0, 1) := by decide +kernel
theorem d_M_seek_182 : decode b_M_seek 182 = .ok (.getfield 126, 3) := by decide +kernel
theorem d_M_seek_185 : decode b_M_seek 185 = .ok (.if_icmp .ne (18), 3) := by decide +kernel
theorem d_M_seek_188 : decode b_M_seek 188 = .ok (.aload_n 0, 1) := by decide +kernel
theorem d_M_seek_189 : decode b_M_seek 189 = .ok (.invokevirtual 129, 3) := by decide +kernel
theorem d_M_seek_192 : decode b_M_seek 192 = .ok (.aload_n 0, 1) := by decide +kernel
theorem d_M_seek_193 : decode b_M_seek 193 = .ok (.getfield 132, 3) := by decide +kernel
theorem d_M_seek_196 : decode b_M_seek 196 = .ok (.if_icmp .ge (7), 3) := by decide +kernel
theorem d_M_seek_199 : decode b_M_seek 199 = .ok (.iconst 1, 1) := by decide +kernel
theorem d_M_seek_200 : decode b_M_seek 200 = .ok (.goto (4), 3) := by decide +kernel
theorem d_M_seek_203 : decode b_M_seek 203 = .ok (.iconst 0, 1) := by decide +kernel
theorem d_M_seek_204 : decode b_M_seek 204 = .ok (.istore 7, 2) := by decide +kernel
theorem d_M_seek_206 : decode b_M_seek 206 = .ok (.iload 7, 2) := by decide +kernel
theorem d_M_seek_208 : decode b_M_seek 208 = .ok (.ifCond .eq (9), 3) := by decide +kernel
theorem d_M_seek_211 : decode b_M_seek 211 = .ok (.aload_n 0, 1) := by decide +kernel
theorem d_M_seek_212 : decode b_M_seek 212 = .ok (.iload 6, 2) := by decide +kernel
theorem d_M_seek_214 : decode b_M_seek 214 = .ok (.invokevirtual 135, 3) := by decide +kernel
theorem d_M_seek_217 : decode b_M_seek 217 = .ok (.iinc 4 1, 3) := by decide +kernel
theorem d_M_seek_220 : decode b_M_seek 220 = .ok (.goto (-176), 3) := by decide +kernel
theorem d_M_seek_223 : decode b_M_seek 223 = .ok (.return_, 1) := by decide +kernel
theorem d_M_keep_0 : decode b_M_keep 0 = .ok (.aload_n 0, 1) := by decide +kernel
theorem d_M_keep_1 : decode b_M_keep 1 = .ok (.iconst 1, 1) := by decide +kernel
theorem d_M_keep_2 : decode b_M_keep 2 = .ok (.putfield 108, 3) := by decide +kernel
theorem d_M_keep_5 : decode b_M_keep 5 = .ok (.aload_n 0, 1) := by decide +kernel
theorem d_M_keep_6 : decode b_M_keep 6 = .ok (.iload_n 1, 1) := by decide +kernel
theorem d_M_keep_7 : decode b_M_keep 7 = .ok (.putfield 126, 3) := by decide +kernel
theorem d_M_keep_10 : decode b_M_keep 10 = .ok (.aload_n 0, 1) := by decide +kernel
theorem d_M_keep_11 : decode b_M_keep 11 = .ok (.aload_n 0, 1) := by decide +kernel
theorem d_M_keep_12 : decode b_M_keep 12 = .ok (.invokevirtual 129, 3) := by decide +kernel
theorem d_M_keep_15 : decode b_M_keep 15 = .ok (.putfield 132, 3) := by decide +kernel
theorem d_M_keep_18 : decode b_M_keep 18 = .ok (.iconst 0, 1) := by decide +kernel
theorem d_M_keep_19 : decode b_M_keep 19 = .ok (.istore_n 2, 1) := by decide +kernel
theorem d_M_keep_20 : decode b_M_keep 20 = .ok (.iload_n 2, 1) := by decide +kernel
theorem d_M_keep_21 : decode b_M_keep 21 = .ok (.aload_n 0, 1) := by decide +kernel
theorem d_M_keep_22 : decode b_M_keep 22 = .ok (.getfield 63, 3) := by decide +kernel
theorem d_M_keep_25 : decode b_M_keep 25 = .ok (.if_icmp .ge (21), 3) := by decide +kernel
theorem d_M_keep_28 : decode b_M_keep 28 = .ok (.aload_n 0, 1) := by decide +kernel
theorem d_M_keep_29 : decode b_M_keep 29 = .ok (.getfield 41, 3) := by decide +kernel
theorem d_M_keep_32 : decode b_M_keep 32 = .ok (.iload_n 2, 1) := by decide +kernel
theorem d_M_keep_33 : decode b_M_keep 33 = .ok (.aload_n 0, 1) := by decide +kernel
theorem d_M_keep_34 : decode b_M_keep 34 = .ok (.getfield 38, 3) := by decide +kernel
theorem d_M_keep_37 : decode b_M_keep 37 = .ok (.iload_n 2, 1) := by decide +kernel
theorem d_M_keep_38 : decode b_M_keep 38 = .ok (.iaload, 1) := by decide +kernel
theorem d_M_keep_39 : decode b_M_keep 39 = .ok (.iastore, 1) := by decide +kernel
theorem d_M_keep_40 : decode b_M_keep 40 = .ok (.iinc 2 1, 3) := by decide +kernel
theorem d_M_keep_43 : decode b_M_keep 43 = .ok (.goto (-23), 3) := by decide +kernel
theorem d_M_keep_46 : decode b_M_keep 46 = .ok (.return_, 1) := by decide +kernel
theorem d_M_tell_0 : decode b_M_tell 0 = .ok (.aload_n 0, 1) := by decide +kernel
theorem d_M_tell_1 : decode b_M_tell 1 = .ok (.iconst (-1), 1) := by decide +kernel
theorem d_M_tell_2 : decode b_M_tell 2 = .ok (.putfield 51, 3) := by decide +kernel
theorem d_M_tell_5 : decode b_M_tell 5 = .ok (.aload_n 0, 1) := by decide +kernel
theorem d_M_tell_6 : decode b_M_tell 6 = .ok (.getfield 108, 3) := by decide +kernel
theorem d_M_tell_9 : decode b_M_tell 9 = .ok (.ifCond .eq (4), 3) := by decide +kernel
theorem d_M_tell_12 : decode b_M_tell 12 = .ok (.return_, 1) := by decide +kernel
theorem d_M_tell_13 : decode b_M_tell 13 = .ok (.aload_n 0, 1) := by decide +kernel
theorem d_M_tell_14 : decode b_M_tell 14 = .ok (.getfield 63, 3) := by decide +kernel
theorem d_M_tell_17 : decode b_M_tell 17 = .ok (.iconst 1, 1) := by decide +kernel
theorem d_M_tell_18 : decode b_M_tell 18 = .ok (.isub, 1) := by decide +kernel
theorem d_M_tell_19 : decode b_M_tell 19 = .ok (.istore_n 1, 1) := by decide +kernel
theorem d_M_tell_20 : decode b_M_tell 20 = .ok (.iload_n 1, 1) := by decide +kernel
theorem d_M_tell_21 : decode b_M_tell 21 = .ok (.ifCond .lt (43), 3) := by decide +kernel
theorem d_M_tell_24 : decode b_M_tell 24 = .ok (.iload_n 1, 1) := by decide +kernel
theorem d_M_tell_25 : decode b_M_tell 25 = .ok (.aload_n 0, 1) := by decide +kernel
theorem d_M_tell_26 : decode b_M_tell 26 = .ok (.getfield 112, 3) := by decide +kernel
theorem d_M_tell_29 : decode b_M_tell 29 = .ok (.if_icmp .lt (35), 3) := by decide +kernel
theorem d_M_tell_32 : decode b_M_tell 32 = .ok (.aload_n 0, 1) := by decide +kernel
theorem d_M_tell_33 : decode b_M_tell 33 = .ok (.aload_n 0, 1) := by decide +kernel
theorem d_M_tell_34 : decode b_M_tell 34 = .ok (.getfield 31, 3) := by decide +kernel
theorem d_M_tell_37 : decode b_M_tell 37 = .ok (.iload_n 1, 1) := by decide +kernel
theorem d_M_tell_38 : decode b_M_tell 38 = .ok (.baload, 1) := by decide +kernel
theorem d_M_tell_39 : decode b_M_tell 39 = .ok (.ifCond .eq (12), 3) := by decide +kernel
theorem d_M_tell_42 : decode b_M_tell 42 = .ok (.aload_n 0, 1) := by decide +kernel
theorem d_M_tell_43 : decode b_M_tell 43 = .ok (.getfield 25, 3) := by decide +kernel
theorem d_M_tell_46 : decode b_M_tell 46 = .ok (.iload_n 1, 1) := by decide +kernel
theorem d_M_tell_47 : decode b_M_tell 47 = .ok (.iaload, 1) := by decide +kernel
theorem d_M_tell_48 : decode b_M_tell 48 = .ok (.goto (7), 3) := by decide +kernel
theorem d_M_tell_51 : decode b_M_tell 51 = .ok (.aload_n 0, 1) := by decide +kernel
theorem d_M_tell_52 : decode b_M_tell 52 = .ok (.getfield 51, 3) := by decide +kernel
theorem d_M_tell_55 : decode b_M_tell 55 = .ok (.putfield 51, 3) := by decide +kernel
theorem d_M_tell_58 : decode b_M_tell 58 = .ok (.iinc 1 (-1), 3) := by decide +kernel
theorem d_M_tell_61 : decode b_M_tell 61 = .ok (.goto (-41), 3) := by decide +kernel
theorem d_M_tell_64 : decode b_M_tell 64 = .ok (.return_, 1) := by decide +kernel
theorem d_M_run_0 : decode b_M_run 0 = .ok (.aload_n 0, 1) := by decide +kernel
theorem d_M_run_1 : decode b_M_run 1 = .ok (.iconst 0, 1) := by decide +kernel
theorem d_M_run_2 : decode b_M_run 2 = .ok (.putfield 57, 3) := by decide +kernel
theorem d_M_run_5 : decode b_M_run 5 = .ok (.iconst 0, 1) := by decide +kernel
theorem d_M_run_6 : decode b_M_run 6 = .ok (.istore_n 1, 1) := by decide +kernel
theorem d_M_run_7 : decode b_M_run 7 = .ok (.iload_n 1, 1) := by decide +kernel
theorem d_M_run_8 : decode b_M_run 8 = .ok (.bipush 6, 2) := by decide +kernel
theorem d_M_run_10 : decode b_M_run 10 = .ok (.if_icmp .ge (16), 3) := by decide +kernel
theorem d_M_run_13 : decode b_M_run 13 = .ok (.aload_n 0, 1) := by decide +kernel
theorem d_M_run_14 : decode b_M_run 14 = .ok (.getfield 44, 3) := by decide +kernel
theorem d_M_run_17 : decode b_M_run 17 = .ok (.iload_n 1, 1) := by decide +kernel
theorem d_M_run_18 : decode b_M_run 18 = .ok (.iconst 0, 1) := by decide +kernel
theorem d_M_run_19 : decode b_M_run 19 = .ok (.bastore, 1) := by decide +kernel
theorem d_M_run_20 : decode b_M_run 20 = .ok (.iinc 1 1, 3) := by decide +kernel
theorem d_M_run_23 : decode b_M_run 23 = .ok (.goto (-16), 3) := by decide +kernel
theorem d_M_run_26 : decode b_M_run 26 = .ok (.aload_n 0, 1) := by decide +kernel
theorem d_M_run_27 : decode b_M_run 27 = .ok (.iconst 0, 1) := by decide +kernel
theorem d_M_run_28 : decode b_M_run 28 = .ok (.invokevirtual 139, 3) := by decide +kernel
theorem d_M_run_31 : decode b_M_run 31 = .ok (.aload_n 0, 1) := by decide +kernel
theorem d_M_run_32 : decode b_M_run 32 = .ok (.invokevirtual 143, 3) := by decide +kernel
theorem d_M_run_35 : decode b_M_run 35 = .ok (.aload_n 0, 1) := by decide +kernel
theorem d_M_run_36 : decode b_M_run 36 = .ok (.getfield 108, 3) := by decide +kernel
theorem d_M_run_39 : decode b_M_run 39 = .ok (.ifCond .ne (5), 3) := by decide +kernel
theorem d_M_run_42 : decode b_M_run 42 = .ok (.iconst (-1), 1) := by decide +kernel
theorem d_M_run_43 : decode b_M_run 43 = .ok (.ireturn, 1) := by decide +kernel
theorem d_M_run_44 : decode b_M_run 44 = .ok (.iconst 0, 1) := by decide +kernel
theorem d_M_run_45 : decode b_M_run 45 = .ok (.istore_n 1, 1) := by decide +kernel
theorem d_M_run_46 : decode b_M_run 46 = .ok (.iload_n 1, 1) := by decide +kernel
theorem d_M_run_47 : decode b_M_run 47 = .ok (.aload_n 0, 1) := by decide +kernel
theorem d_M_run_48 : decode b_M_run 48 = .ok (.getfield 63, 3) := by decide +kernel
theorem d_M_run_51 : decode b_M_run 51 = .ok (.if_icmp .ge (21), 3) := by decide +kernel
theorem d_M_run_54 : decode b_M_run 54 = .ok (.aload_n 0, 1) := by decide +kernel
theorem d_M_run_55 : decode b_M_run 55 = .ok (.getfield 35, 3) := by decide +kernel
theorem d_M_run_58 : decode b_M_run 58 = .ok (.iload_n 1, 1) := by decide +kernel
theorem d_M_run_59 : decode b_M_run 59 = .ok (.aload_n 0, 1) := by decide +kernel
theorem d_M_run_60 : decode b_M_run 60 = .ok (.getfield 41, 3) := by decide +kernel
theorem d_M_run_63 : decode b_M_run 63 = .ok (.iload_n 1, 1) := by decide +kernel
theorem d_M_run_64 : decode b_M_run 64 = .ok (.iaload, 1) := by decide +kernel
theorem d_M_run_65 : decode b_M_run 65 = .ok (.iastore, 1) := by decide +kernel
theorem d_M_run_66 : decode b_M_run 66 = .ok (.iinc 1 1, 3) := by decide +kernel
theorem d_M_run_69 : decode b_M_run 69 = .ok (.goto (-23), 3) := by decide +kernel
theorem d_M_run_72 : decode b_M_run 72 = .ok (.aload_n 0, 1) := by decide +kernel
theorem d_M_run_73 : decode b_M_run 73 = .ok (.iconst 1, 1) := by decide +kernel
theorem d_M_run_74 : decode b_M_run 74 = .ok (.putfield 146, 3) := by decide +kernel
theorem d_M_run_77 : decode b_M_run 77 = .ok (.aload_n 0, 1) := by decide +kernel
theorem d_M_run_78 : decode b_M_run 78 = .ok (.getfield 132, 3) := by decide +kernel
theorem d_M_run_81 : decode b_M_run 81 = .ok (.ireturn, 1) := by decide +kernel
theorem d_M_told_0 : decode b_M_told 0 = .ok (.aload_n 0, 1) := by decide +kernel
theorem d_M_told_1 : decode b_M_told 1 = .ok (.iconst 0, 1) := by decide +kernel
theorem d_M_told_2 : decode b_M_told 2 = .ok (.putfield 57, 3) := by decide +kernel
theorem d_M_told_5 : decode b_M_told 5 = .ok (.aload_n 0, 1) := by decide +kernel
theorem d_M_told_6 : decode b_M_told 6 = .ok (.getfield 51, 3) := by decide +kernel
theorem d_M_told_9 : decode b_M_told 9 = .ok (.ireturn, 1) := by decide +kernel
theorem d_M_of_0 : decode b_M_of 0 = .ok (.aload_n 0, 1) := by decide +kernel
theorem d_M_of_1 : decode b_M_of 1 = .ok (.aload_n 0, 1) := by decide +kernel
theorem d_M_of_2 : decode b_M_of 2 = .ok (.iload_n 1, 1) := by decide +kernel
theorem d_M_of_3 : decode b_M_of 3 = .ok (.invokevirtual 149, 3) := by decide +kernel
theorem d_M_of_6 : decode b_M_of 6 = .ok (.iconst 1, 1) := by decide +kernel
theorem d_M_of_7 : decode b_M_of 7 = .ok (.iconst 1, 1) := by decide +kernel
theorem d_M_of_8 : decode b_M_of 8 = .ok (.invokevirtual 70, 3) := by decide +kernel
theorem d_M_of_11 : decode b_M_of 11 = .ok (.ifCond .eq (12), 3) := by decide +kernel
theorem d_M_of_14 : decode b_M_of 14 = .ok (.aload_n 0, 1) := by decide +kernel
theorem d_M_of_15 : decode b_M_of 15 = .ok (.getfield 35, 3) := by decide +kernel
theorem d_M_of_18 : decode b_M_of 18 = .ok (.iload_n 1, 1) := by decide +kernel
theorem d_M_of_19 : decode b_M_of 19 = .ok (.iaload, 1) := by decide +kernel
theorem d_M_of_20 : decode b_M_of 20 = .ok (.goto (4), 3) := by decide +kernel
theorem d_M_of_23 : decode b_M_of 23 = .ok (.iconst 0, 1) := by decide +kernel
theorem d_M_of_24 : decode b_M_of 24 = .ok (.ireturn, 1) := by decide +kernel
theorem d_M_tryPlan_0 : decode b_M_tryPlan 0 = .ok (.iconst 0, 1) := by decide +kernel
theorem d_M_tryPlan_1 : decode b_M_tryPlan 1 = .ok (.istore_n 1, 1) := by decide +kernel
theorem d_M_tryPlan_2 : decode b_M_tryPlan 2 = .ok (.iload_n 1, 1) := by decide +kernel
theorem d_M_tryPlan_3 : decode b_M_tryPlan 3 = .ok (.aload_n 0, 1) := by decide +kernel
theorem d_M_tryPlan_4 : decode b_M_tryPlan 4 = .ok (.getfield 63, 3) := by decide +kernel
theorem d_M_tryPlan_7 : decode b_M_tryPlan 7 = .ok (.if_icmp .ge (21), 3) := by decide +kernel
theorem d_M_tryPlan_10 : decode b_M_tryPlan 10 = .ok (.aload_n 0, 1) := by decide +kernel
theorem d_M_tryPlan_11 : decode b_M_tryPlan 11 = .ok (.getfield 38, 3) := by decide +kernel
theorem d_M_tryPlan_14 : decode b_M_tryPlan 14 = .ok (.iload_n 1, 1) := by decide +kernel
theorem d_M_tryPlan_15 : decode b_M_tryPlan 15 = .ok (.aload_n 0, 1) := by decide +kernel
theorem d_M_tryPlan_16 : decode b_M_tryPlan 16 = .ok (.getfield 35, 3) := by decide +kernel
theorem d_M_tryPlan_19 : decode b_M_tryPlan 19 = .ok (.iload_n 1, 1) := by decide +kernel
theorem d_M_tryPlan_20 : decode b_M_tryPlan 20 = .ok (.iaload, 1) := by decide +kernel
theorem d_M_tryPlan_21 : decode b_M_tryPlan 21 = .ok (.iastore, 1) := by decide +kernel
theorem d_M_tryPlan_22 : decode b_M_tryPlan 22 = .ok (.iinc 1 1, 3) := by decide +kernel
theorem d_M_tryPlan_25 : decode b_M_tryPlan 25 = .ok (.goto (-23), 3) := by decide +kernel
theorem d_M_tryPlan_28 : decode b_M_tryPlan 28 = .ok (.return_, 1) := by decide +kernel
theorem d_M_cost_0 : decode b_M_cost 0 = .ok (.aload_n 0, 1) := by decide +kernel
theorem d_M_cost_1 : decode b_M_cost 1 = .ok (.aload_n 0, 1) := by decide +kernel
theorem d_M_cost_2 : decode b_M_cost 2 = .ok (.getfield 146, 3) := by decide +kernel
theorem d_M_cost_5 : decode b_M_cost 5 = .ok (.iconst 1, 1) := by decide +kernel
theorem d_M_cost_6 : decode b_M_cost 6 = .ok (.iconst 1, 1) := by decide +kernel
theorem d_M_cost_7 : decode b_M_cost 7 = .ok (.invokevirtual 70, 3) := by decide +kernel
theorem d_M_cost_10 : decode b_M_cost 10 = .ok (.ifCond .ne (5), 3) := by decide +kernel
theorem d_M_cost_13 : decode b_M_cost 13 = .ok (.iconst 0, 1) := by decide +kernel
theorem d_M_cost_14 : decode b_M_cost 14 = .ok (.ireturn, 1) := by decide +kernel
theorem d_M_cost_15 : decode b_M_cost 15 = .ok (.aload_n 0, 1) := by decide +kernel
theorem d_M_cost_16 : decode b_M_cost 16 = .ok (.invokevirtual 152, 3) := by decide +kernel
theorem d_M_cost_19 : decode b_M_cost 19 = .ok (.aload_n 0, 1) := by decide +kernel
theorem d_M_cost_20 : decode b_M_cost 20 = .ok (.invokevirtual 129, 3) := by decide +kernel
theorem d_M_cost_23 : decode b_M_cost 23 = .ok (.ireturn, 1) := by decide +kernel
theorem d_M_absent_0 : decode b_M_absent 0 = .ok (.aload_n 0, 1) := by decide +kernel
theorem d_M_absent_1 : decode b_M_absent 1 = .ok (.aload_n 0, 1) := by decide +kernel
theorem d_M_absent_2 : decode b_M_absent 2 = .ok (.iload_n 1, 1) := by decide +kernel
theorem d_M_absent_3 : decode b_M_absent 3 = .ok (.invokevirtual 77, 3) := by decide +kernel
theorem d_M_absent_6 : decode b_M_absent 6 = .ok (.iload_n 2, 1) := by decide +kernel
theorem d_M_absent_7 : decode b_M_absent 7 = .ok (.iconst 0, 1) := by decide +kernel
theorem d_M_absent_8 : decode b_M_absent 8 = .ok (.bipush 95, 2) := by decide +kernel
theorem d_M_absent_10 : decode b_M_absent 10 = .ok (.invokestatic 66, 3) := by decide +kernel
theorem d_M_absent_13 : decode b_M_absent 13 = .ok (.aload_n 0, 1) := by decide +kernel
theorem d_M_absent_14 : decode b_M_absent 14 = .ok (.getfield 146, 3) := by decide +kernel
theorem d_M_absent_17 : decode b_M_absent 17 = .ok (.ifCond .eq (16), 3) := by decide +kernel
theorem d_M_absent_20 : decode b_M_absent 20 = .ok (.aload_n 0, 1) := by decide +kernel
theorem d_M_absent_21 : decode b_M_absent 21 = .ok (.getfield 74, 3) := by decide +kernel
theorem d_M_absent_24 : decode b_M_absent 24 = .ok (.bipush 20, 2) := by decide +kernel
theorem d_M_absent_26 : decode b_M_absent 26 = .ok (.if_icmp .ge (7), 3) := by decide +kernel
theorem d_M_absent_29 : decode b_M_absent 29 = .ok (.iconst 1, 1) := by decide +kernel
theorem d_M_absent_30 : decode b_M_absent 30 = .ok (.goto (4), 3) := by decide +kernel
theorem d_M_absent_33 : decode b_M_absent 33 = .ok (.iconst 0, 1) := by decide +kernel
theorem d_M_absent_34 : decode b_M_absent 34 = .ok (.invokevirtual 70, 3) := by decide +kernel
theorem d_M_absent_37 : decode b_M_absent 37 = .ok (.ifCond .ne (5), 3) := by decide +kernel
theorem d_M_absent_40 : decode b_M_absent 40 = .ok (.iconst 0, 1) := by decide +kernel
theorem d_M_absent_41 : decode b_M_absent 41 = .ok (.ireturn, 1) := by decide +kernel
theorem d_M_absent_42 : decode b_M_absent 42 = .ok (.aload_n 0, 1) := by decide +kernel
theorem d_M_absent_43 : decode b_M_absent 43 = .ok (.iload_n 1, 1) := by decide +kernel
theorem d_M_absent_44 : decode b_M_absent 44 = .ok (.iload_n 2, 1) := by decide +kernel
theorem d_M_absent_45 : decode b_M_absent 45 = .ok (.bipush 96, 2) := by decide +kernel
theorem d_M_absent_47 : decode b_M_absent 47 = .ok (.invokevirtual 85, 3) := by decide +kernel
theorem d_M_absent_50 : decode b_M_absent 50 = .ok (.iconst 0, 1) := by decide +kernel
theorem d_M_absent_51 : decode b_M_absent 51 = .ok (.istore_n 3, 1) := by decide +kernel
theorem d_M_absent_52 : decode b_M_absent 52 = .ok (.iload_n 3, 1) := by decide +kernel
theorem d_M_absent_53 : decode b_M_absent 53 = .ok (.aload_n 0, 1) := by decide +kernel
theorem d_M_absent_54 : decode b_M_absent 54 = .ok (.getfield 63, 3) := by decide +kernel
theorem d_M_absent_57 : decode b_M_absent 57 = .ok (.if_icmp .ge (33), 3) := by decide +kernel
theorem d_M_absent_60 : decode b_M_absent 60 = .ok (.aload_n 0, 1) := by decide +kernel
theorem d_M_absent_61 : decode b_M_absent 61 = .ok (.getfield 44, 3) := by decide +kernel
theorem d_M_absent_64 : decode b_M_absent 64 = .ok (.iload_n 3, 1) := by decide +kernel
theorem d_M_absent_65 : decode b_M_absent 65 = .ok (.aload_n 0, 1) := by decide +kernel
theorem d_M_absent_66 : decode b_M_absent 66 = .ok (.getfield 25, 3) := by decide +kernel
theorem d_M_absent_69 : decode b_M_absent 69 = .ok (.iload_n 3, 1) := by decide +kernel
theorem d_M_absent_70 : decode b_M_absent 70 = .ok (.iaload, 1) := by decide +kernel
theorem d_M_absent_71 : decode b_M_absent 71 = .ok (.aload_n 0, 1) := by decide +kernel
theorem d_M_absent_72 : decode b_M_absent 72 = .ok (.getfield 92, 3) := by decide +kernel
theorem d_M_absent_75 : decode b_M_absent 75 = .ok (.if_icmp .ge (7), 3) := by decide +kernel
theorem d_M_absent_78 : decode b_M_absent 78 = .ok (.iconst 1, 1) := by decide +kernel
theorem d_M_absent_79 : decode b_M_absent 79 = .ok (.goto (4), 3) := by decide +kernel
theorem d_M_absent_82 : decode b_M_absent 82 = .ok (.iconst 0, 1) := by decide +kernel
theorem d_M_absent_83 : decode b_M_absent 83 = .ok (.bastore, 1) := by decide +kernel
theorem d_M_absent_84 : decode b_M_absent 84 = .ok (.iinc 3 1, 3) := by decide +kernel
theorem d_M_absent_87 : decode b_M_absent 87 = .ok (.goto (-35), 3) := by decide +kernel
theorem d_M_absent_90 : decode b_M_absent 90 = .ok (.aload_n 0, 1) := by decide +kernel
theorem d_M_absent_91 : decode b_M_absent 91 = .ok (.iconst 1, 1) := by decide +kernel
theorem d_M_absent_92 : decode b_M_absent 92 = .ok (.invokevirtual 139, 3) := by decide +kernel
theorem d_M_absent_95 : decode b_M_absent 95 = .ok (.aload_n 0, 1) := by decide +kernel
theorem d_M_absent_96 : decode b_M_absent 96 = .ok (.invokevirtual 143, 3) := by decide +kernel
theorem d_M_absent_99 : decode b_M_absent 99 = .ok (.aload_n 0, 1) := by decide +kernel
theorem d_M_absent_100 : decode b_M_absent 100 = .ok (.getfield 108, 3) := by decide +kernel
theorem d_M_absent_103 : decode b_M_absent 103 = .ok (.ifCond .ne (15), 3) := by decide +kernel
theorem d_M_absent_106 : decode b_M_absent 106 = .ok (.aload_n 0, 1) := by decide +kernel
theorem d_M_absent_107 : decode b_M_absent 107 = .ok (.dup, 1) := by decide +kernel
theorem d_M_absent_108 : decode b_M_absent 108 = .ok (.getfield 74, 3) := by decide +kernel
theorem d_M_absent_111 : decode b_M_absent 111 = .ok (.iconst 1, 1) := by decide +kernel
theorem d_M_absent_112 : decode b_M_absent 112 = .ok (.isub, 1) := by decide +kernel
theorem d_M_absent_113 : decode b_M_absent 113 = .ok (.putfield 74, 3) := by decide +kernel
theorem d_M_absent_116 : decode b_M_absent 116 = .ok (.iconst (-1), 1) := by decide +kernel
theorem d_M_absent_117 : decode b_M_absent 117 = .ok (.ireturn, 1) := by decide +kernel
theorem d_M_absent_118 : decode b_M_absent 118 = .ok (.aload_n 0, 1) := by decide +kernel
theorem d_M_absent_119 : decode b_M_absent 119 = .ok (.iconst 0, 1) := by decide +kernel
theorem d_M_absent_120 : decode b_M_absent 120 = .ok (.putfield 155, 3) := by decide +kernel
theorem d_M_absent_123 : decode b_M_absent 123 = .ok (.iconst 0, 1) := by decide +kernel
theorem d_M_absent_124 : decode b_M_absent 124 = .ok (.istore_n 3, 1) := by decide +kernel
theorem d_M_absent_125 : decode b_M_absent 125 = .ok (.iload_n 3, 1) := by decide +kernel
theorem d_M_absent_126 : decode b_M_absent 126 = .ok (.aload_n 0, 1) := by decide +kernel
theorem d_M_absent_127 : decode b_M_absent 127 = .ok (.getfield 63, 3) := by decide +kernel
theorem d_M_absent_130 : decode b_M_absent 130 = .ok (.if_icmp .ge (56), 3) := by decide +kernel
theorem d_M_absent_133 : decode b_M_absent 133 = .ok (.aload_n 0, 1) := by decide +kernel
theorem d_M_absent_134 : decode b_M_absent 134 = .ok (.getfield 41, 3) := by decide +kernel
theorem d_M_absent_137 : decode b_M_absent 137 = .ok (.iload_n 3, 1) := by decide +kernel
theorem d_M_absent_138 : decode b_M_absent 138 = .ok (.iaload, 1) := by decide +kernel
theorem d_M_absent_139 : decode b_M_absent 139 = .ok (.aload_n 0, 1) := by decide +kernel
theorem d_M_absent_140 : decode b_M_absent 140 = .ok (.getfield 35, 3) := by decide +kernel
theorem d_M_absent_143 : decode b_M_absent 143 = .ok (.iload_n 3, 1) := by decide +kernel
theorem d_M_absent_144 : decode b_M_absent 144 = .ok (.iaload, 1) := by decide +kernel
theorem d_M_absent_145 : decode b_M_absent 145 = .ok (.if_icmp .eq (23), 3) := by decide +kernel
theorem d_M_absent_148 : decode b_M_absent 148 = .ok (.aload_n 0, 1) := by decide +kernel
theorem d_M_absent_149 : decode b_M_absent 149 = .ok (.getfield 54, 3) := by decide +kernel
theorem d_M_absent_152 : decode b_M_absent 152 = .ok (.aload_n 0, 1) := by decide +kernel
theorem d_M_absent_153 : decode b_M_absent 153 = .ok (.getfield 155, 3) := by decide +kernel
theorem d_M_absent_156 : decode b_M_absent 156 = .ok (.iload_n 3, 1) := by decide +kernel
theorem d_M_absent_157 : decode b_M_absent 157 = .ok (.iastore, 1) := by decide +kernel
theorem d_M_absent_158 : decode b_M_absent 158 = .ok (.aload_n 0, 1) := by decide +kernel
theorem d_M_absent_159 : decode b_M_absent 159 = .ok (.dup, 1) := by decide +kernel
theorem d_M_absent_160 : decode b_M_absent 160 = .ok (.getfield 155, 3) := by decide +kernel
theorem d_M_absent_163 : decode b_M_absent 163 = .ok (.iconst 1, 1) := by decide +kernel
theorem d_M_absent_164 : decode b_M_absent 164 = .ok (.iadd, 1) := by decide +kernel
theorem d_M_absent_165 : decode b_M_absent 165 = .ok (.putfield 155, 3) := by decide +kernel
theorem d_M_absent_168 : decode b_M_absent 168 = .ok (.aload_n 0, 1) := by decide +kernel
theorem d_M_absent_169 : decode b_M_absent 169 = .ok (.getfield 35, 3) := by decide +kernel
theorem d_M_absent_172 : decode b_M_absent 172 = .ok (.iload_n 3, 1) := by decide +kernel
theorem d_M_absent_173 : decode b_M_absent 173 = .ok (.aload_n 0, 1) := by decide +kernel
theorem d_M_absent_174 : decode b_M_absent 174 = .ok (.getfield 41, 3) := by decide +kernel
theorem d_M_absent_177 : decode b_M_absent 177 = .ok (.iload_n 3, 1) := by decide +kernel
theorem d_M_absent_178 : decode b_M_absent 178 = .ok (.iaload, 1) := by decide +kernel
theorem d_M_absent_179 : decode b_M_absent 179 = .ok (.iastore, 1) := by decide +kernel
theorem d_M_absent_180 : decode b_M_absent 180 = .ok (.iinc 3 1, 3) := by decide +kernel
theorem d_M_absent_183 : decode b_M_absent 183 = .ok (.goto (-58), 3) := by decide +kernel
theorem d_M_absent_186 : decode b_M_absent 186 = .ok (.aload_n 0, 1) := by decide +kernel
theorem d_M_absent_187 : decode b_M_absent 187 = .ok (.getfield 155, 3) := by decide +kernel
theorem d_M_absent_190 : decode b_M_absent 190 = .ok (.ireturn, 1) := by decide +kernel
theorem d_M_changed_0 : decode b_M_changed 0 = .ok (.aload_n 0, 1) := by decide +kernel
theorem d_M_changed_1 : decode b_M_changed 1 = .ok (.iload_n 1, 1) := by decide +kernel
theorem d_M_changed_2 : decode b_M_changed 2 = .ok (.ifCond .lt (15), 3) := by decide +kernel
theorem d_M_changed_5 : decode b_M_changed 5 = .ok (.iload_n 1, 1) := by decide +kernel
theorem d_M_changed_6 : decode b_M_changed 6 = .ok (.aload_n 0, 1) := by decide +kernel
theorem d_M_changed_7 : decode b_M_changed 7 = .ok (.getfield 155, 3) := by decide +kernel
theorem d_M_changed_10 : decode b_M_changed 10 = .ok (.if_icmp .ge (7), 3) := by decide +kernel
theorem d_M_changed_13 : decode b_M_changed 13 = .ok (.iconst 1, 1) := by decide +kernel
theorem d_M_changed_14 : decode b_M_changed 14 = .ok (.goto (4), 3) := by decide +kernel
theorem d_M_changed_17 : decode b_M_changed 17 = .ok (.iconst 0, 1) := by decide +kernel
theorem d_M_changed_18 : decode b_M_changed 18 = .ok (.iconst 1, 1) := by decide +kernel
theorem d_M_changed_19 : decode b_M_changed 19 = .ok (.iconst 1, 1) := by decide +kernel
theorem d_M_changed_20 : decode b_M_changed 20 = .ok (.invokevirtual 70, 3) := by decide +kernel
theorem d_M_changed_23 : decode b_M_changed 23 = .ok (.ifCond .eq (12), 3) := by decide +kernel
theorem d_M_changed_26 : decode b_M_changed 26 = .ok (.aload_n 0, 1) := by decide +kernel
theorem d_M_changed_27 : decode b_M_changed 27 = .ok (.getfield 54, 3) := by decide +kernel
theorem d_M_changed_30 : decode b_M_changed 30 = .ok (.iload_n 1, 1) := by decide +kernel
theorem d_M_changed_31 : decode b_M_changed 31 = .ok (.iaload, 1) := by decide +kernel
theorem d_M_changed_32 : decode b_M_changed 32 = .ok (.goto (4), 3) := by decide +kernel
theorem d_M_changed_35 : decode b_M_changed 35 = .ok (.iconst 0, 1) := by decide +kernel
theorem d_M_changed_36 : decode b_M_changed 36 = .ok (.ireturn, 1) := by decide +kernel
theorem d_M_isEmptied_0 : decode b_M_isEmptied 0 = .ok (.aload_n 0, 1) := by decide +kernel
theorem d_M_isEmptied_1 : decode b_M_isEmptied 1 = .ok (.getfield 31, 3) := by decide +kernel
theorem d_M_isEmptied_4 : decode b_M_isEmptied 4 = .ok (.iload_n 1, 1) := by decide +kernel
theorem d_M_isEmptied_5 : decode b_M_isEmptied 5 = .ok (.baload, 1) := by decide +kernel
theorem d_M_isEmptied_6 : decode b_M_isEmptied 6 = .ok (.ifCond .eq (12), 3) := by decide +kernel
theorem d_M_isEmptied_9 : decode b_M_isEmptied 9 = .ok (.iload_n 2, 1) := by decide +kernel
theorem d_M_isEmptied_10 : decode b_M_isEmptied 10 = .ok (.iconst (-1), 1) := by decide +kernel
theorem d_M_isEmptied_11 : decode b_M_isEmptied 11 = .ok (.if_icmp .ne (7), 3) := by decide +kernel
theorem d_M_isEmptied_14 : decode b_M_isEmptied 14 = .ok (.iconst 1, 1) := by decide +kernel
theorem d_M_isEmptied_15 : decode b_M_isEmptied 15 = .ok (.goto (4), 3) := by decide +kernel
theorem d_M_isEmptied_18 : decode b_M_isEmptied 18 = .ok (.iconst 0, 1) := by decide +kernel
theorem d_M_isEmptied_19 : decode b_M_isEmptied 19 = .ok (.ireturn, 1) := by decide +kernel
theorem d_M_isUnfit_0 : decode b_M_isUnfit 0 = .ok (.iload_n 2, 1) := by decide +kernel
theorem d_M_isUnfit_1 : decode b_M_isUnfit 1 = .ok (.iconst (-1), 1) := by decide +kernel
theorem d_M_isUnfit_2 : decode b_M_isUnfit 2 = .ok (.if_icmp .eq (16), 3) := by decide +kernel
theorem d_M_isUnfit_5 : decode b_M_isUnfit 5 = .ok (.aload_n 0, 1) := by decide +kernel
theorem d_M_isUnfit_6 : decode b_M_isUnfit 6 = .ok (.iload_n 2, 1) := by decide +kernel
theorem d_M_isUnfit_7 : decode b_M_isUnfit 7 = .ok (.iload_n 1, 1) := by decide +kernel
theorem d_M_isUnfit_8 : decode b_M_isUnfit 8 = .ok (.invokevirtual 98, 3) := by decide +kernel
theorem d_M_isUnfit_11 : decode b_M_isUnfit 11 = .ok (.ifCond .ne (7), 3) := by decide +kernel
theorem d_M_isUnfit_14 : decode b_M_isUnfit 14 = .ok (.iconst 1, 1) := by decide +kernel
theorem d_M_isUnfit_15 : decode b_M_isUnfit 15 = .ok (.goto (4), 3) := by decide +kernel
theorem d_M_isUnfit_18 : decode b_M_isUnfit 18 = .ok (.iconst 0, 1) := by decide +kernel
theorem d_M_isUnfit_19 : decode b_M_isUnfit 19 = .ok (.ireturn, 1) := by decide +kernel
theorem d_M_swap_0 : decode b_M_swap 0 = .ok (.aload_n 0, 1) := by decide +kernel
theorem d_M_swap_1 : decode b_M_swap 1 = .ok (.aload_n 0, 1) := by decide +kernel
theorem d_M_swap_2 : decode b_M_swap 2 = .ok (.iload_n 1, 1) := by decide +kernel
theorem d_M_swap_3 : decode b_M_swap 3 = .ok (.invokevirtual 149, 3) := by decide +kernel
theorem d_M_swap_6 : decode b_M_swap 6 = .ok (.ifCond .eq (15), 3) := by decide +kernel
theorem d_M_swap_9 : decode b_M_swap 9 = .ok (.aload_n 0, 1) := by decide +kernel
theorem d_M_swap_10 : decode b_M_swap 10 = .ok (.iload_n 2, 1) := by decide +kernel
theorem d_M_swap_11 : decode b_M_swap 11 = .ok (.invokevirtual 149, 3) := by decide +kernel
theorem d_M_swap_14 : decode b_M_swap 14 = .ok (.ifCond .eq (7), 3) := by decide +kernel
theorem d_M_swap_17 : decode b_M_swap 17 = .ok (.iconst 1, 1) := by decide +kernel
theorem d_M_swap_18 : decode b_M_swap 18 = .ok (.goto (4), 3) := by decide +kernel
theorem d_M_swap_21 : decode b_M_swap 21 = .ok (.iconst 0, 1) := by decide +kernel
theorem d_M_swap_22 : decode b_M_swap 22 = .ok (.aload_n 0, 1) := by decide +kernel
theorem d_M_swap_23 : decode b_M_swap 23 = .ok (.getfield 146, 3) := by decide +kernel
theorem d_M_swap_26 : decode b_M_swap 26 = .ok (.iconst 1, 1) := by decide +kernel
theorem d_M_swap_27 : decode b_M_swap 27 = .ok (.invokevirtual 70, 3) := by decide +kernel
theorem d_M_swap_30 : decode b_M_swap 30 = .ok (.ifCond .ne (5), 3) := by decide +kernel
theorem d_M_swap_33 : decode b_M_swap 33 = .ok (.iconst 0, 1) := by decide +kernel
theorem d_M_swap_34 : decode b_M_swap 34 = .ok (.ireturn, 1) := by decide +kernel
theorem d_M_swap_35 : decode b_M_swap 35 = .ok (.aload_n 0, 1) := by decide +kernel
theorem d_M_swap_36 : decode b_M_swap 36 = .ok (.invokevirtual 152, 3) := by decide +kernel
theorem d_M_swap_39 : decode b_M_swap 39 = .ok (.aload_n 0, 1) := by decide +kernel
theorem d_M_swap_40 : decode b_M_swap 40 = .ok (.getfield 38, 3) := by decide +kernel
theorem d_M_swap_43 : decode b_M_swap 43 = .ok (.iload_n 1, 1) := by decide +kernel
theorem d_M_swap_44 : decode b_M_swap 44 = .ok (.aload_n 0, 1) := by decide +kernel
theorem d_M_swap_45 : decode b_M_swap 45 = .ok (.getfield 35, 3) := by decide +kernel
theorem d_M_swap_48 : decode b_M_swap 48 = .ok (.iload_n 2, 1) := by decide +kernel
theorem d_M_swap_49 : decode b_M_swap 49 = .ok (.iaload, 1) := by decide +kernel
theorem d_M_swap_50 : decode b_M_swap 50 = .ok (.iastore, 1) := by decide +kernel
theorem d_M_swap_51 : decode b_M_swap 51 = .ok (.aload_n 0, 1) := by decide +kernel
theorem d_M_swap_52 : decode b_M_swap 52 = .ok (.getfield 38, 3) := by decide +kernel
theorem d_M_swap_55 : decode b_M_swap 55 = .ok (.iload_n 2, 1) := by decide +kernel
theorem d_M_swap_56 : decode b_M_swap 56 = .ok (.aload_n 0, 1) := by decide +kernel
theorem d_M_swap_57 : decode b_M_swap 57 = .ok (.getfield 35, 3) := by decide +kernel
theorem d_M_swap_60 : decode b_M_swap 60 = .ok (.iload_n 1, 1) := by decide +kernel
theorem d_M_swap_61 : decode b_M_swap 61 = .ok (.iaload, 1) := by decide +kernel
theorem d_M_swap_62 : decode b_M_swap 62 = .ok (.iastore, 1) := by decide +kernel
theorem d_M_swap_63 : decode b_M_swap 63 = .ok (.aload_n 0, 1) := by decide +kernel
theorem d_M_swap_64 : decode b_M_swap 64 = .ok (.getfield 35, 3) := by decide +kernel
theorem d_M_swap_67 : decode b_M_swap 67 = .ok (.iload_n 1, 1) := by decide +kernel
theorem d_M_swap_68 : decode b_M_swap 68 = .ok (.iaload, 1) := by decide +kernel
theorem d_M_swap_69 : decode b_M_swap 69 = .ok (.istore_n 3, 1) := by decide +kernel
theorem d_M_swap_70 : decode b_M_swap 70 = .ok (.aload_n 0, 1) := by decide +kernel
theorem d_M_swap_71 : decode b_M_swap 71 = .ok (.getfield 35, 3) := by decide +kernel
theorem d_M_swap_74 : decode b_M_swap 74 = .ok (.iload_n 2, 1) := by decide +kernel
theorem d_M_swap_75 : decode b_M_swap 75 = .ok (.iaload, 1) := by decide +kernel
theorem d_M_swap_76 : decode b_M_swap 76 = .ok (.istore 4, 2) := by decide +kernel
theorem d_M_swap_78 : decode b_M_swap 78 = .ok (.aload_n 0, 1) := by decide +kernel
theorem d_M_swap_79 : decode b_M_swap 79 = .ok (.getfield 25, 3) := by decide +kernel
theorem d_M_swap_82 : decode b_M_swap 82 = .ok (.iload_n 1, 1) := by decide +kernel
theorem d_M_swap_83 : decode b_M_swap 83 = .ok (.iaload, 1) := by decide +kernel
theorem d_M_swap_84 : decode b_M_swap 84 = .ok (.aload_n 0, 1) := by decide +kernel
theorem d_M_swap_85 : decode b_M_swap 85 = .ok (.getfield 92, 3) := by decide +kernel
theorem d_M_swap_88 : decode b_M_swap 88 = .ok (.if_icmp .lt (16), 3) := by decide +kernel
theorem d_M_swap_91 : decode b_M_swap 91 = .ok (.aload_n 0, 1) := by decide +kernel
theorem d_M_swap_92 : decode b_M_swap 92 = .ok (.getfield 25, 3) := by decide +kernel
theorem d_M_swap_95 : decode b_M_swap 95 = .ok (.iload_n 2, 1) := by decide +kernel
theorem d_M_swap_96 : decode b_M_swap 96 = .ok (.iaload, 1) := by decide +kernel
theorem d_M_swap_97 : decode b_M_swap 97 = .ok (.aload_n 0, 1) := by decide +kernel
theorem d_M_swap_98 : decode b_M_swap 98 = .ok (.getfield 92, 3) := by decide +kernel
theorem d_M_swap_101 : decode b_M_swap 101 = .ok (.if_icmp .ge (5), 3) := by decide +kernel
theorem d_M_swap_104 : decode b_M_swap 104 = .ok (.iconst 1, 1) := by decide +kernel
theorem d_M_swap_105 : decode b_M_swap 105 = .ok (.ireturn, 1) := by decide +kernel
theorem d_M_swap_106 : decode b_M_swap 106 = .ok (.aload_n 0, 1) := by decide +kernel
theorem d_M_swap_107 : decode b_M_swap 107 = .ok (.iload_n 1, 1) := by decide +kernel
theorem d_M_swap_108 : decode b_M_swap 108 = .ok (.iload 4, 2) := by decide +kernel
theorem d_M_swap_110 : decode b_M_swap 110 = .ok (.invokevirtual 158, 3) := by decide +kernel
theorem d_M_swap_113 : decode b_M_swap 113 = .ok (.ifCond .ne (12), 3) := by decide +kernel
theorem d_M_swap_116 : decode b_M_swap 116 = .ok (.aload_n 0, 1) := by decide +kernel
theorem d_M_swap_117 : decode b_M_swap 117 = .ok (.iload_n 2, 1) := by decide +kernel
theorem d_M_swap_118 : decode b_M_swap 118 = .ok (.iload_n 3, 1) := by decide +kernel
theorem d_M_swap_119 : decode b_M_swap 119 = .ok (.invokevirtual 158, 3) := by decide +kernel
theorem d_M_swap_122 : decode b_M_swap 122 = .ok (.ifCond .eq (5), 3) := by decide +kernel
theorem d_M_swap_125 : decode b_M_swap 125 = .ok (.iconst 2, 1) := by decide +kernel
theorem d_M_swap_126 : decode b_M_swap 126 = .ok (.ireturn, 1) := by decide +kernel
theorem d_M_swap_127 : decode b_M_swap 127 = .ok (.aload_n 0, 1) := by decide +kernel
theorem d_M_swap_128 : decode b_M_swap 128 = .ok (.iload_n 1, 1) := by decide +kernel
theorem d_M_swap_129 : decode b_M_swap 129 = .ok (.iload 4, 2) := by decide +kernel
theorem d_M_swap_131 : decode b_M_swap 131 = .ok (.invokevirtual 161, 3) := by decide +kernel
theorem d_M_swap_134 : decode b_M_swap 134 = .ok (.ifCond .ne (12), 3) := by decide +kernel
theorem d_M_swap_137 : decode b_M_swap 137 = .ok (.aload_n 0, 1) := by decide +kernel
theorem d_M_swap_138 : decode b_M_swap 138 = .ok (.iload_n 2, 1) := by decide +kernel
theorem d_M_swap_139 : decode b_M_swap 139 = .ok (.iload_n 3, 1) := by decide +kernel
theorem d_M_swap_140 : decode b_M_swap 140 = .ok (.invokevirtual 161, 3) := by decide +kernel
theorem d_M_swap_143 : decode b_M_swap 143 = .ok (.ifCond .eq (5), 3) := by decide +kernel
theorem d_M_swap_146 : decode b_M_swap 146 = .ok (.iconst 3, 1) := by decide +kernel
theorem d_M_swap_147 : decode b_M_swap 147 = .ok (.ireturn, 1) := by decide +kernel
theorem d_M_swap_148 : decode b_M_swap 148 = .ok (.iload_n 3, 1) := by decide +kernel
theorem d_M_swap_149 : decode b_M_swap 149 = .ok (.iconst (-1), 1) := by decide +kernel
theorem d_M_swap_150 : decode b_M_swap 150 = .ok (.if_icmp .eq (11), 3) := by decide +kernel
theorem d_M_swap_153 : decode b_M_swap 153 = .ok (.aload_n 0, 1) := by decide +kernel
theorem d_M_swap_154 : decode b_M_swap 154 = .ok (.iload_n 3, 1) := by decide +kernel
theorem d_M_swap_155 : decode b_M_swap 155 = .ok (.invokevirtual 105, 3) := by decide +kernel
theorem d_M_swap_158 : decode b_M_swap 158 = .ok (.ifCond .ne (18), 3) := by decide +kernel
theorem d_M_swap_161 : decode b_M_swap 161 = .ok (.iload 4, 2) := by decide +kernel
theorem d_M_swap_163 : decode b_M_swap 163 = .ok (.iconst (-1), 1) := by decide +kernel
theorem d_M_swap_164 : decode b_M_swap 164 = .ok (.if_icmp .eq (14), 3) := by decide +kernel
theorem d_M_swap_167 : decode b_M_swap 167 = .ok (.aload_n 0, 1) := by decide +kernel
theorem d_M_swap_168 : decode b_M_swap 168 = .ok (.iload 4, 2) := by decide +kernel
theorem d_M_swap_170 : decode b_M_swap 170 = .ok (.invokevirtual 105, 3) := by decide +kernel
theorem d_M_swap_173 : decode b_M_swap 173 = .ok (.ifCond .eq (5), 3) := by decide +kernel
theorem d_M_swap_176 : decode b_M_swap 176 = .ok (.iconst 4, 1) := by decide +kernel
theorem d_M_swap_177 : decode b_M_swap 177 = .ok (.ireturn, 1) := by decide +kernel
theorem d_M_swap_178 : decode b_M_swap 178 = .ok (.iload_n 3, 1) := by decide +kernel
theorem d_M_swap_179 : decode b_M_swap 179 = .ok (.iconst (-1), 1) := by decide +kernel
theorem d_M_swap_180 : decode b_M_swap 180 = .ok (.if_icmp .eq (15), 3) := by decide +kernel
theorem d_M_swap_183 : decode b_M_swap 183 = .ok (.aload_n 0, 1) := by decide +kernel
theorem d_M_swap_184 : decode b_M_swap 184 = .ok (.iload_n 3, 1) := by decide +kernel
theorem d_M_swap_185 : decode b_M_swap 185 = .ok (.invokevirtual 101, 3) := by decide +kernel
theorem d_M_swap_188 : decode b_M_swap 188 = .ok (.aload_n 0, 1) := by decide +kernel
theorem d_M_swap_189 : decode b_M_swap 189 = .ok (.getfield 47, 3) := by decide +kernel
theorem d_M_swap_192 : decode b_M_swap 192 = .ok (.if_icmp .gt (22), 3) := by decide +kernel
theorem d_M_swap_195 : decode b_M_swap 195 = .ok (.iload 4, 2) := by decide +kernel
theorem d_M_swap_197 : decode b_M_swap 197 = .ok (.iconst (-1), 1) := by decide +kernel
theorem d_M_swap_198 : decode b_M_swap 198 = .ok (.if_icmp .eq (18), 3) := by decide +kernel
theorem d_M_swap_201 : decode b_M_swap 201 = .ok (.aload_n 0, 1) := by decide +kernel
theorem d_M_swap_202 : decode b_M_swap 202 = .ok (.iload 4, 2) := by decide +kernel
theorem d_M_swap_204 : decode b_M_swap 204 = .ok (.invokevirtual 101, 3) := by decide +kernel
theorem d_M_swap_207 : decode b_M_swap 207 = .ok (.aload_n 0, 1) := by decide +kernel
theorem d_M_swap_208 : decode b_M_swap 208 = .ok (.getfield 47, 3) := by decide +kernel
theorem d_M_swap_211 : decode b_M_swap 211 = .ok (.if_icmp .le (5), 3) := by decide +kernel
theorem d_M_swap_214 : decode b_M_swap 214 = .ok (.iconst 5, 1) := by decide +kernel
theorem d_M_swap_215 : decode b_M_swap 215 = .ok (.ireturn, 1) := by decide +kernel
theorem d_M_swap_216 : decode b_M_swap 216 = .ok (.aload_n 0, 1) := by decide +kernel
theorem d_M_swap_217 : decode b_M_swap 217 = .ok (.getfield 35, 3) := by decide +kernel
theorem d_M_swap_220 : decode b_M_swap 220 = .ok (.iload_n 1, 1) := by decide +kernel
theorem d_M_swap_221 : decode b_M_swap 221 = .ok (.iload 4, 2) := by decide +kernel
theorem d_M_swap_223 : decode b_M_swap 223 = .ok (.iastore, 1) := by decide +kernel
theorem d_M_swap_224 : decode b_M_swap 224 = .ok (.aload_n 0, 1) := by decide +kernel
theorem d_M_swap_225 : decode b_M_swap 225 = .ok (.getfield 35, 3) := by decide +kernel
theorem d_M_swap_228 : decode b_M_swap 228 = .ok (.iload_n 2, 1) := by decide +kernel
theorem d_M_swap_229 : decode b_M_swap 229 = .ok (.iload_n 3, 1) := by decide +kernel
theorem d_M_swap_230 : decode b_M_swap 230 = .ok (.iastore, 1) := by decide +kernel
theorem d_M_swap_231 : decode b_M_swap 231 = .ok (.iconst 0, 1) := by decide +kernel
theorem d_M_swap_232 : decode b_M_swap 232 = .ok (.ireturn, 1) := by decide +kernel
theorem d_M_work_0 : decode b_M_work 0 = .ok (.aload_n 0, 1) := by decide +kernel
theorem d_M_work_1 : decode b_M_work 1 = .ok (.aload_n 0, 1) := by decide +kernel
theorem d_M_work_2 : decode b_M_work 2 = .ok (.iload_n 1, 1) := by decide +kernel
theorem d_M_work_3 : decode b_M_work 3 = .ok (.invokevirtual 77, 3) := by decide +kernel
theorem d_M_work_6 : decode b_M_work 6 = .ok (.iconst 1, 1) := by decide +kernel
theorem d_M_work_7 : decode b_M_work 7 = .ok (.iconst 1, 1) := by decide +kernel
theorem d_M_work_8 : decode b_M_work 8 = .ok (.invokevirtual 70, 3) := by decide +kernel
theorem d_M_work_11 : decode b_M_work 11 = .ok (.ifCond .ne (5), 3) := by decide +kernel
theorem d_M_work_14 : decode b_M_work 14 = .ok (.iconst 0, 1) := by decide +kernel
theorem d_M_work_15 : decode b_M_work 15 = .ok (.ireturn, 1) := by decide +kernel
theorem d_M_work_16 : decode b_M_work 16 = .ok (.aload_n 0, 1) := by decide +kernel
theorem d_M_work_17 : decode b_M_work 17 = .ok (.invokevirtual 152, 3) := by decide +kernel
theorem d_M_work_20 : decode b_M_work 20 = .ok (.aload_n 0, 1) := by decide +kernel
theorem d_M_work_21 : decode b_M_work 21 = .ok (.iload_n 1, 1) := by decide +kernel
theorem d_M_work_22 : decode b_M_work 22 = .ok (.invokevirtual 101, 3) := by decide +kernel
theorem d_M_work_25 : decode b_M_work 25 = .ok (.ireturn, 1) := by decide +kernel
theorem d_M_fair_0 : decode b_M_fair 0 = .ok (.aload_n 0, 1) := by decide +kernel
theorem d_M_fair_1 : decode b_M_fair 1 = .ok (.iconst 0, 1) := by decide +kernel
theorem d_M_fair_2 : decode b_M_fair 2 = .ok (.putfield 57, 3) := by decide +kernel
theorem d_M_fair_5 : decode b_M_fair 5 = .ok (.iconst 0, 1) := by decide +kernel
theorem d_M_fair_6 : decode b_M_fair 6 = .ok (.istore_n 1, 1) := by decide +kernel
theorem d_M_fair_7 : decode b_M_fair 7 = .ok (.bipush 99, 2) := by decide +kernel
theorem d_M_fair_9 : decode b_M_fair 9 = .ok (.istore_n 2, 1) := by decide +kernel
theorem d_M_fair_10 : decode b_M_fair 10 = .ok (.iconst 0, 1) := by decide +kernel
theorem d_M_fair_11 : decode b_M_fair 11 = .ok (.istore_n 3, 1) := by decide +kernel
theorem d_M_fair_12 : decode b_M_fair 12 = .ok (.iload_n 3, 1) := by decide +kernel
theorem d_M_fair_13 : decode b_M_fair 13 = .ok (.aload_n 0, 1) := by decide +kernel
theorem d_M_fair_14 : decode b_M_fair 14 = .ok (.getfield 60, 3) := by decide +kernel
theorem d_M_fair_17 : decode b_M_fair 17 = .ok (.if_icmp .ge (78), 3) := by decide +kernel
theorem d_M_fair_20 : decode b_M_fair 20 = .ok (.iconst 0, 1) := by decide +kernel
theorem d_M_fair_21 : decode b_M_fair 21 = .ok (.istore 4, 2) := by decide +kernel
theorem d_M_fair_23 : decode b_M_fair 23 = .ok (.iconst 0, 1) := by decide +kernel
theorem d_M_fair_24 : decode b_M_fair 24 = .ok (.istore 5, 2) := by decide +kernel
theorem d_M_fair_26 : decode b_M_fair 26 = .ok (.iload 5, 2) := by decide +kernel
theorem d_M_fair_28 : decode b_M_fair 28 = .ok (.aload_n 0, 1) := by decide +kernel
theorem d_M_fair_29 : decode b_M_fair 29 = .ok (.getfield 63, 3) := by decide +kernel
theorem d_M_fair_32 : decode b_M_fair 32 = .ok (.if_icmp .ge (31), 3) := by decide +kernel
theorem d_M_fair_35 : decode b_M_fair 35 = .ok (.aload_n 0, 1) := by decide +kernel
theorem d_M_fair_36 : decode b_M_fair 36 = .ok (.getfield 35, 3) := by decide +kernel
theorem d_M_fair_39 : decode b_M_fair 39 = .ok (.iload 5, 2) := by decide +kernel
theorem d_M_fair_41 : decode b_M_fair 41 = .ok (.iaload, 1) := by decide +kernel
theorem d_M_fair_42 : decode b_M_fair 42 = .ok (.iload_n 3, 1) := by decide +kernel
theorem d_M_fair_43 : decode b_M_fair 43 = .ok (.if_icmp .ne (10), 3) := by decide +kernel
theorem d_M_fair_46 : decode b_M_fair 46 = .ok (.iload 4, 2) := by decide +kernel
theorem d_M_fair_48 : decode b_M_fair 48 = .ok (.iconst 1, 1) := by decide +kernel
theorem d_M_fair_49 : decode b_M_fair 49 = .ok (.iadd, 1) := by decide +kernel
theorem d_M_fair_50 : decode b_M_fair 50 = .ok (.goto (5), 3) := by decide +kernel
theorem d_M_fair_53 : decode b_M_fair 53 = .ok (.iload 4, 2) := by decide +kernel
theorem d_M_fair_55 : decode b_M_fair 55 = .ok (.istore 4, 2) := by decide +kernel
theorem d_M_fair_57 : decode b_M_fair 57 = .ok (.iinc 5 1, 3) := by decide +kernel
theorem d_M_fair_60 : decode b_M_fair 60 = .ok (.goto (-34), 3) := by decide +kernel
theorem d_M_fair_63 : decode b_M_fair 63 = .ok (.iload 4, 2) := by decide +kernel
theorem d_M_fair_65 : decode b_M_fair 65 = .ok (.iload_n 1, 1) := by decide +kernel
theorem d_M_fair_66 : decode b_M_fair 66 = .ok (.if_icmp .le (8), 3) := by decide +kernel
theorem d_M_fair_69 : decode b_M_fair 69 = .ok (.iload 4, 2) := by decide +kernel
theorem d_M_fair_71 : decode b_M_fair 71 = .ok (.goto (4), 3) := by decide +kernel
theorem d_M_fair_74 : decode b_M_fair 74 = .ok (.iload_n 1, 1) := by decide +kernel
theorem d_M_fair_75 : decode b_M_fair 75 = .ok (.istore_n 1, 1) := by decide +kernel
theorem d_M_fair_76 : decode b_M_fair 76 = .ok (.iload 4, 2) := by decide +kernel
theorem d_M_fair_78 : decode b_M_fair 78 = .ok (.iload_n 2, 1) := by decide +kernel
theorem d_M_fair_79 : decode b_M_fair 79 = .ok (.if_icmp .ge (8), 3) := by decide +kernel
theorem d_M_fair_82 : decode b_M_fair 82 = .ok (.iload 4, 2) := by decide +kernel
theorem d_M_fair_84 : decode b_M_fair 84 = .ok (.goto (4), 3) := by decide +kernel
theorem d_M_fair_87 : decode b_M_fair 87 = .ok (.iload_n 2, 1) := by decide +kernel
theorem d_M_fair_88 : decode b_M_fair 88 = .ok (.istore_n 2, 1) := by decide +kernel
theorem d_M_fair_89 : decode b_M_fair 89 = .ok (.iinc 3 1, 3) := by decide +kernel
theorem d_M_fair_92 : decode b_M_fair 92 = .ok (.goto (-80), 3) := by decide +kernel
theorem d_M_fair_95 : decode b_M_fair 95 = .ok (.aload_n 0, 1) := by decide +kernel
theorem d_M_fair_96 : decode b_M_fair 96 = .ok (.getfield 60, 3) := by decide +kernel
theorem d_M_fair_99 : decode b_M_fair 99 = .ok (.ifCond .ne (7), 3) := by decide +kernel
theorem d_M_fair_102 : decode b_M_fair 102 = .ok (.iconst 0, 1) := by decide +kernel
theorem d_M_fair_103 : decode b_M_fair 103 = .ok (.goto (6), 3) := by decide +kernel
theorem d_M_fair_106 : decode b_M_fair 106 = .ok (.iload_n 1, 1) := by decide +kernel
theorem d_M_fair_107 : decode b_M_fair 107 = .ok (.iload_n 2, 1) := by decide +kernel
theorem d_M_fair_108 : decode b_M_fair 108 = .ok (.isub, 1) := by decide +kernel
theorem d_M_fair_109 : decode b_M_fair 109 = .ok (.ireturn, 1) := by decide +kernel
theorem d_M_count_0 : decode b_M_count 0 = .ok (.aload_n 0, 1) := by decide +kernel
theorem d_M_count_1 : decode b_M_count 1 = .ok (.iload_n 1, 1) := by decide +kernel
theorem d_M_count_2 : decode b_M_count 2 = .ok (.iconst 0, 1) := by decide +kernel
theorem d_M_count_3 : decode b_M_count 3 = .ok (.iconst 3, 1) := by decide +kernel
theorem d_M_count_4 : decode b_M_count 4 = .ok (.invokestatic 66, 3) := by decide +kernel
theorem d_M_count_7 : decode b_M_count 7 = .ok (.iconst 1, 1) := by decide +kernel
theorem d_M_count_8 : decode b_M_count 8 = .ok (.iconst 1, 1) := by decide +kernel
theorem d_M_count_9 : decode b_M_count 9 = .ok (.invokevirtual 70, 3) := by decide +kernel
theorem d_M_count_12 : decode b_M_count 12 = .ok (.ifCond .ne (5), 3) := by decide +kernel
theorem d_M_count_15 : decode b_M_count 15 = .ok (.iconst 0, 1) := by decide +kernel
theorem d_M_count_16 : decode b_M_count 16 = .ok (.ireturn, 1) := by decide +kernel
theorem d_M_count_17 : decode b_M_count 17 = .ok (.iload_n 1, 1) := by decide +kernel
theorem d_M_count_18 : decode b_M_count 18 = .ok (.ifCond .ne (10), 3) := by decide +kernel
theorem d_M_count_21 : decode b_M_count 21 = .ok (.aload_n 0, 1) := by decide +kernel
theorem d_M_count_22 : decode b_M_count 22 = .ok (.getfield 60, 3) := by decide +kernel
theorem d_M_count_25 : decode b_M_count 25 = .ok (.goto (31), 3) := by decide +kernel
theorem d_M_count_28 : decode b_M_count 28 = .ok (.iload_n 1, 1) := by decide +kernel
theorem d_M_count_29 : decode b_M_count 29 = .ok (.iconst 1, 1) := by decide +kernel
theorem d_M_count_30 : decode b_M_count 30 = .ok (.if_icmp .ne (10), 3) := by decide +kernel
theorem d_M_count_33 : decode b_M_count 33 = .ok (.aload_n 0, 1) := by decide +kernel
theorem d_M_count_34 : decode b_M_count 34 = .ok (.getfield 63, 3) := by decide +kernel
theorem d_M_count_37 : decode b_M_count 37 = .ok (.goto (19), 3) := by decide +kernel
theorem d_M_count_40 : decode b_M_count 40 = .ok (.iload_n 1, 1) := by decide +kernel
theorem d_M_count_41 : decode b_M_count 41 = .ok (.iconst 2, 1) := by decide +kernel
theorem d_M_count_42 : decode b_M_count 42 = .ok (.if_icmp .ne (10), 3) := by decide +kernel
theorem d_M_count_45 : decode b_M_count 45 = .ok (.aload_n 0, 1) := by decide +kernel
theorem d_M_count_46 : decode b_M_count 46 = .ok (.getfield 74, 3) := by decide +kernel
theorem d_M_count_49 : decode b_M_count 49 = .ok (.goto (7), 3) := by decide +kernel
theorem d_M_count_52 : decode b_M_count 52 = .ok (.aload_n 0, 1) := by decide +kernel
theorem d_M_count_53 : decode b_M_count 53 = .ok (.getfield 155, 3) := by decide +kernel
theorem d_M_count_56 : decode b_M_count 56 = .ok (.ireturn, 1) := by decide +kernel
