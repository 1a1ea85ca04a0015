theorem d_S_init_0 : decode b_S_init 0 = .ok (.aload_n 0, 1) := by decide +kernel
theorem d_S_init_1 : decode b_S_init 1 = .ok (.invokespecial 3, 3) := by decide +kernel
theorem d_S_init_4 : decode b_S_init 4 = .ok (.aload_n 0, 1) := by decide +kernel
theorem d_S_init_5 : decode b_S_init 5 = .ok (.bipush 6, 2) := by decide +kernel
theorem d_S_init_7 : decode b_S_init 7 = .ok (.newarray .int, 2) := by decide +kernel
theorem d_S_init_9 : decode b_S_init 9 = .ok (.putfield 9, 3) := by decide +kernel
theorem d_S_init_12 : decode b_S_init 12 = .ok (.aload_n 0, 1) := by decide +kernel
theorem d_S_init_13 : decode b_S_init 13 = .ok (.bipush 6, 2) := by decide +kernel
theorem d_S_init_15 : decode b_S_init 15 = .ok (.newarray .int, 2) := by decide +kernel
theorem d_S_init_17 : decode b_S_init 17 = .ok (.putfield 15, 3) := by decide +kernel
theorem d_S_init_20 : decode b_S_init 20 = .ok (.aload_n 0, 1) := by decide +kernel
theorem d_S_init_21 : decode b_S_init 21 = .ok (.bipush 6, 2) := by decide +kernel
theorem d_S_init_23 : decode b_S_init 23 = .ok (.newarray .int, 2) := by decide +kernel
theorem d_S_init_25 : decode b_S_init 25 = .ok (.putfield 18, 3) := by decide +kernel
theorem d_S_init_28 : decode b_S_init 28 = .ok (.aload_n 0, 1) := by decide +kernel
theorem d_S_init_29 : decode b_S_init 29 = .ok (.bipush 6, 2) := by decide +kernel
theorem d_S_init_31 : decode b_S_init 31 = .ok (.newarray .int, 2) := by decide +kernel
theorem d_S_init_33 : decode b_S_init 33 = .ok (.putfield 21, 3) := by decide +kernel
theorem d_S_init_36 : decode b_S_init 36 = .ok (.aload_n 0, 1) := by decide +kernel
theorem d_S_init_37 : decode b_S_init 37 = .ok (.iconst 4, 1) := by decide +kernel
theorem d_S_init_38 : decode b_S_init 38 = .ok (.newarray .int, 2) := by decide +kernel
theorem d_S_init_40 : decode b_S_init 40 = .ok (.putfield 24, 3) := by decide +kernel
theorem d_S_init_43 : decode b_S_init 43 = .ok (.aload_n 0, 1) := by decide +kernel
theorem d_S_init_44 : decode b_S_init 44 = .ok (.iconst 4, 1) := by decide +kernel
theorem d_S_init_45 : decode b_S_init 45 = .ok (.newarray .int, 2) := by decide +kernel
theorem d_S_init_47 : decode b_S_init 47 = .ok (.putfield 27, 3) := by decide +kernel
theorem d_S_init_50 : decode b_S_init 50 = .ok (.aload_n 0, 1) := by decide +kernel
theorem d_S_init_51 : decode b_S_init 51 = .ok (.iconst 0, 1) := by decide +kernel
theorem d_S_init_52 : decode b_S_init 52 = .ok (.putfield 30, 3) := by decide +kernel
theorem d_S_init_55 : decode b_S_init 55 = .ok (.aload_n 0, 1) := by decide +kernel
theorem d_S_init_56 : decode b_S_init 56 = .ok (.iconst 0, 1) := by decide +kernel
theorem d_S_init_57 : decode b_S_init 57 = .ok (.putfield 34, 3) := by decide +kernel
theorem d_S_init_60 : decode b_S_init 60 = .ok (.aload_n 0, 1) := by decide +kernel
theorem d_S_init_61 : decode b_S_init 61 = .ok (.ldc 37, 2) := by decide +kernel
theorem d_S_init_63 : decode b_S_init 63 = .ok (.putfield 38, 3) := by decide +kernel
theorem d_S_init_66 : decode b_S_init 66 = .ok (.return_, 1) := by decide +kernel
theorem d_S_findAnew_0 : decode b_S_findAnew 0 = .ok (.aload_n 0, 1) := by decide +kernel
theorem d_S_findAnew_1 : decode b_S_findAnew 1 = .ok (.iconst 0, 1) := by decide +kernel
theorem d_S_findAnew_2 : decode b_S_findAnew 2 = .ok (.putfield 30, 3) := by decide +kernel
theorem d_S_findAnew_5 : decode b_S_findAnew 5 = .ok (.aload_n 0, 1) := by decide +kernel
theorem d_S_findAnew_6 : decode b_S_findAnew 6 = .ok (.iconst 1, 1) := by decide +kernel
theorem d_S_findAnew_7 : decode b_S_findAnew 7 = .ok (.putfield 34, 3) := by decide +kernel
theorem d_S_findAnew_10 : decode b_S_findAnew 10 = .ok (.aload_n 0, 1) := by decide +kernel
theorem d_S_findAnew_11 : decode b_S_findAnew 11 = .ok (.aload_n 1, 1) := by decide +kernel
theorem d_S_findAnew_12 : decode b_S_findAnew 12 = .ok (.aload_n 2, 1) := by decide +kernel
theorem d_S_findAnew_13 : decode b_S_findAnew 13 = .ok (.iconst 0, 1) := by decide +kernel
theorem d_S_findAnew_14 : decode b_S_findAnew 14 = .ok (.aload_n 1, 1) := by decide +kernel
theorem d_S_findAnew_15 : decode b_S_findAnew 15 = .ok (.getfield 41, 3) := by decide +kernel
theorem d_S_findAnew_18 : decode b_S_findAnew 18 = .ok (.invokevirtual 46, 3) := by decide +kernel
theorem d_S_findAnew_21 : decode b_S_findAnew 21 = .ok (.ireturn, 1) := by decide +kernel
theorem d_S_findNearest_0 : decode b_S_findNearest 0 = .ok (.aload_n 0, 1) := by decide +kernel
theorem d_S_findNearest_1 : decode b_S_findNearest 1 = .ok (.sipush 1000, 3) := by decide +kernel
theorem d_S_findNearest_4 : decode b_S_findNearest 4 = .ok (.putfield 30, 3) := by decide +kernel
theorem d_S_findNearest_7 : decode b_S_findNearest 7 = .ok (.aload_n 0, 1) := by decide +kernel
theorem d_S_findNearest_8 : decode b_S_findNearest 8 = .ok (.iconst 1, 1) := by decide +kernel
theorem d_S_findNearest_9 : decode b_S_findNearest 9 = .ok (.putfield 34, 3) := by decide +kernel
theorem d_S_findNearest_12 : decode b_S_findNearest 12 = .ok (.aload_n 0, 1) := by decide +kernel
theorem d_S_findNearest_13 : decode b_S_findNearest 13 = .ok (.aload_n 1, 1) := by decide +kernel
theorem d_S_findNearest_14 : decode b_S_findNearest 14 = .ok (.aload_n 2, 1) := by decide +kernel
theorem d_S_findNearest_15 : decode b_S_findNearest 15 = .ok (.iload_n 3, 1) := by decide +kernel
theorem d_S_findNearest_16 : decode b_S_findNearest 16 = .ok (.aload_n 1, 1) := by decide +kernel
theorem d_S_findNearest_17 : decode b_S_findNearest 17 = .ok (.getfield 41, 3) := by decide +kernel
theorem d_S_findNearest_20 : decode b_S_findNearest 20 = .ok (.invokevirtual 46, 3) := by decide +kernel
theorem d_S_findNearest_23 : decode b_S_findNearest 23 = .ok (.ireturn, 1) := by decide +kernel
theorem d_S_firstLacking_0 : decode b_S_firstLacking 0 = .ok (.aload_n 0, 1) := by decide +kernel
theorem d_S_firstLacking_1 : decode b_S_firstLacking 1 = .ok (.iconst 0, 1) := by decide +kernel
theorem d_S_firstLacking_2 : decode b_S_firstLacking 2 = .ok (.putfield 30, 3) := by decide +kernel
theorem d_S_firstLacking_5 : decode b_S_firstLacking 5 = .ok (.aload_n 0, 1) := by decide +kernel
theorem d_S_firstLacking_6 : decode b_S_firstLacking 6 = .ok (.iconst 0, 1) := by decide +kernel
theorem d_S_firstLacking_7 : decode b_S_firstLacking 7 = .ok (.putfield 34, 3) := by decide +kernel
theorem d_S_firstLacking_10 : decode b_S_firstLacking 10 = .ok (.iconst 0, 1) := by decide +kernel
theorem d_S_firstLacking_11 : decode b_S_firstLacking 11 = .ok (.istore 4, 2) := by decide +kernel
theorem d_S_firstLacking_13 : decode b_S_firstLacking 13 = .ok (.iload 4, 2) := by decide +kernel
theorem d_S_firstLacking_15 : decode b_S_firstLacking 15 = .ok (.aload_n 1, 1) := by decide +kernel
theorem d_S_firstLacking_16 : decode b_S_firstLacking 16 = .ok (.getfield 41, 3) := by decide +kernel
theorem d_S_firstLacking_19 : decode b_S_firstLacking 19 = .ok (.if_icmp .ge (41), 3) := by decide +kernel
theorem d_S_firstLacking_22 : decode b_S_firstLacking 22 = .ok (.aload_n 1, 1) := by decide +kernel
theorem d_S_firstLacking_23 : decode b_S_firstLacking 23 = .ok (.getfield 50, 3) := by decide +kernel
theorem d_S_firstLacking_26 : decode b_S_firstLacking 26 = .ok (.iload 4, 2) := by decide +kernel
theorem d_S_firstLacking_28 : decode b_S_firstLacking 28 = .ok (.baload, 1) := by decide +kernel
theorem d_S_firstLacking_29 : decode b_S_firstLacking 29 = .ok (.ifCond .eq (25), 3) := by decide +kernel
theorem d_S_firstLacking_32 : decode b_S_firstLacking 32 = .ok (.aload_n 0, 1) := by decide +kernel
theorem d_S_firstLacking_33 : decode b_S_firstLacking 33 = .ok (.aload_n 1, 1) := by decide +kernel
theorem d_S_firstLacking_34 : decode b_S_firstLacking 34 = .ok (.aload_n 2, 1) := by decide +kernel
theorem d_S_firstLacking_35 : decode b_S_firstLacking 35 = .ok (.iload_n 3, 1) := by decide +kernel
theorem d_S_firstLacking_36 : decode b_S_firstLacking 36 = .ok (.iload 4, 2) := by decide +kernel
theorem d_S_firstLacking_38 : decode b_S_firstLacking 38 = .ok (.iconst 1, 1) := by decide +kernel
theorem d_S_firstLacking_39 : decode b_S_firstLacking 39 = .ok (.iadd, 1) := by decide +kernel
theorem d_S_firstLacking_40 : decode b_S_firstLacking 40 = .ok (.invokevirtual 46, 3) := by decide +kernel
theorem d_S_firstLacking_43 : decode b_S_firstLacking 43 = .ok (.ifCond .ne (11), 3) := by decide +kernel
theorem d_S_firstLacking_46 : decode b_S_firstLacking 46 = .ok (.aload_n 1, 1) := by decide +kernel
theorem d_S_firstLacking_47 : decode b_S_firstLacking 47 = .ok (.getfield 54, 3) := by decide +kernel
theorem d_S_firstLacking_50 : decode b_S_firstLacking 50 = .ok (.iload 4, 2) := by decide +kernel
theorem d_S_firstLacking_52 : decode b_S_firstLacking 52 = .ok (.iaload, 1) := by decide +kernel
theorem d_S_firstLacking_53 : decode b_S_firstLacking 53 = .ok (.ireturn, 1) := by decide +kernel
theorem d_S_firstLacking_54 : decode b_S_firstLacking 54 = .ok (.iinc 4 1, 3) := by decide +kernel
theorem d_S_firstLacking_57 : decode b_S_firstLacking 57 = .ok (.goto (-44), 3) := by decide +kernel
theorem d_S_firstLacking_60 : decode b_S_firstLacking 60 = .ok (.iconst (-1), 1) := by decide +kernel
theorem d_S_firstLacking_61 : decode b_S_firstLacking 61 = .ok (.ireturn, 1) := by decide +kernel
theorem d_S_find_0 : decode b_S_find 0 = .ok (.iconst 0, 1) := by decide +kernel
theorem d_S_find_1 : decode b_S_find 1 = .ok (.istore 5, 2) := by decide +kernel
theorem d_S_find_3 : decode b_S_find 3 = .ok (.iload 5, 2) := by decide +kernel
theorem d_S_find_5 : decode b_S_find 5 = .ok (.aload_n 1, 1) := by decide +kernel
theorem d_S_find_6 : decode b_S_find 6 = .ok (.getfield 41, 3) := by decide +kernel
theorem d_S_find_9 : decode b_S_find 9 = .ok (.if_icmp .ge (123), 3) := by decide +kernel
theorem d_S_find_12 : decode b_S_find 12 = .ok (.aload_n 1, 1) := by decide +kernel
theorem d_S_find_13 : decode b_S_find 13 = .ok (.getfield 50, 3) := by decide +kernel
theorem d_S_find_16 : decode b_S_find 16 = .ok (.iload 5, 2) := by decide +kernel
theorem d_S_find_18 : decode b_S_find 18 = .ok (.baload, 1) := by decide +kernel
theorem d_S_find_19 : decode b_S_find 19 = .ok (.ifCond .eq (10), 3) := by decide +kernel
theorem d_S_find_22 : decode b_S_find 22 = .ok (.iload 5, 2) := by decide +kernel
theorem d_S_find_24 : decode b_S_find 24 = .ok (.iload 4, 2) := by decide +kernel
theorem d_S_find_26 : decode b_S_find 26 = .ok (.if_icmp .lt (7), 3) := by decide +kernel
theorem d_S_find_29 : decode b_S_find 29 = .ok (.iconst 1, 1) := by decide +kernel
theorem d_S_find_30 : decode b_S_find 30 = .ok (.goto (4), 3) := by decide +kernel
theorem d_S_find_33 : decode b_S_find 33 = .ok (.iconst 0, 1) := by decide +kernel
theorem d_S_find_34 : decode b_S_find 34 = .ok (.istore 6, 2) := by decide +kernel
theorem d_S_find_36 : decode b_S_find 36 = .ok (.aload_n 1, 1) := by decide +kernel
theorem d_S_find_37 : decode b_S_find 37 = .ok (.getfield 54, 3) := by decide +kernel
theorem d_S_find_40 : decode b_S_find 40 = .ok (.iload 5, 2) := by decide +kernel
theorem d_S_find_42 : decode b_S_find 42 = .ok (.iaload, 1) := by decide +kernel
theorem d_S_find_43 : decode b_S_find 43 = .ok (.iload_n 3, 1) := by decide +kernel
theorem d_S_find_44 : decode b_S_find 44 = .ok (.if_icmp .ge (7), 3) := by decide +kernel
theorem d_S_find_47 : decode b_S_find 47 = .ok (.iconst 1, 1) := by decide +kernel
theorem d_S_find_48 : decode b_S_find 48 = .ok (.goto (4), 3) := by decide +kernel
theorem d_S_find_51 : decode b_S_find 51 = .ok (.iconst 0, 1) := by decide +kernel
theorem d_S_find_52 : decode b_S_find 52 = .ok (.istore 7, 2) := by decide +kernel
theorem d_S_find_54 : decode b_S_find 54 = .ok (.aload_n 0, 1) := by decide +kernel
theorem d_S_find_55 : decode b_S_find 55 = .ok (.getfield 18, 3) := by decide +kernel
theorem d_S_find_58 : decode b_S_find 58 = .ok (.iload 5, 2) := by decide +kernel
theorem d_S_find_60 : decode b_S_find 60 = .ok (.iload 7, 2) := by decide +kernel
theorem d_S_find_62 : decode b_S_find 62 = .ok (.ifCond .eq (14), 3) := by decide +kernel
theorem d_S_find_65 : decode b_S_find 65 = .ok (.aload_n 0, 1) := by decide +kernel
theorem d_S_find_66 : decode b_S_find 66 = .ok (.aload_n 2, 1) := by decide +kernel
theorem d_S_find_67 : decode b_S_find 67 = .ok (.iload 5, 2) := by decide +kernel
theorem d_S_find_69 : decode b_S_find 69 = .ok (.iaload, 1) := by decide +kernel
theorem d_S_find_70 : decode b_S_find 70 = .ok (.invokevirtual 57, 3) := by decide +kernel
theorem d_S_find_73 : decode b_S_find 73 = .ok (.goto (16), 3) := by decide +kernel
theorem d_S_find_76 : decode b_S_find 76 = .ok (.aload_n 0, 1) := by decide +kernel
theorem d_S_find_77 : decode b_S_find 77 = .ok (.aload_n 1, 1) := by decide +kernel
theorem d_S_find_78 : decode b_S_find 78 = .ok (.iload 5, 2) := by decide +kernel
theorem d_S_find_80 : decode b_S_find 80 = .ok (.invokevirtual 61, 3) := by decide +kernel
theorem d_S_find_83 : decode b_S_find 83 = .ok (.aload_n 0, 1) := by decide +kernel
theorem d_S_find_84 : decode b_S_find 84 = .ok (.iconst (-1), 1) := by decide +kernel
theorem d_S_find_85 : decode b_S_find 85 = .ok (.invokevirtual 57, 3) := by decide +kernel
theorem d_S_find_88 : decode b_S_find 88 = .ok (.ior, 1) := by decide +kernel
theorem d_S_find_89 : decode b_S_find 89 = .ok (.iastore, 1) := by decide +kernel
theorem d_S_find_90 : decode b_S_find 90 = .ok (.iload 6, 2) := by decide +kernel
theorem d_S_find_92 : decode b_S_find 92 = .ok (.ifCond .ne (20), 3) := by decide +kernel
theorem d_S_find_95 : decode b_S_find 95 = .ok (.aload_n 0, 1) := by decide +kernel
theorem d_S_find_96 : decode b_S_find 96 = .ok (.getfield 18, 3) := by decide +kernel
theorem d_S_find_99 : decode b_S_find 99 = .ok (.iload 5, 2) := by decide +kernel
theorem d_S_find_101 : decode b_S_find 101 = .ok (.dup2, 1) := by decide +kernel
theorem d_S_find_102 : decode b_S_find 102 = .ok (.iaload, 1) := by decide +kernel
theorem d_S_find_103 : decode b_S_find 103 = .ok (.aload_n 0, 1) := by decide +kernel
theorem d_S_find_104 : decode b_S_find 104 = .ok (.iconst (-1), 1) := by decide +kernel
theorem d_S_find_105 : decode b_S_find 105 = .ok (.invokevirtual 57, 3) := by decide +kernel
theorem d_S_find_108 : decode b_S_find 108 = .ok (.iconst (-1), 1) := by decide +kernel
theorem d_S_find_109 : decode b_S_find 109 = .ok (.ixor, 1) := by decide +kernel
theorem d_S_find_110 : decode b_S_find 110 = .ok (.iand, 1) := by decide +kernel
theorem d_S_find_111 : decode b_S_find 111 = .ok (.iastore, 1) := by decide +kernel
theorem d_S_find_112 : decode b_S_find 112 = .ok (.aload_n 0, 1) := by decide +kernel
theorem d_S_find_113 : decode b_S_find 113 = .ok (.getfield 21, 3) := by decide +kernel
theorem d_S_find_116 : decode b_S_find 116 = .ok (.iload 5, 2) := by decide +kernel
theorem d_S_find_118 : decode b_S_find 118 = .ok (.aload_n 0, 1) := by decide +kernel
theorem d_S_find_119 : decode b_S_find 119 = .ok (.aload_n 1, 1) := by decide +kernel
theorem d_S_find_120 : decode b_S_find 120 = .ok (.iload 5, 2) := by decide +kernel
theorem d_S_find_122 : decode b_S_find 122 = .ok (.invokevirtual 65, 3) := by decide +kernel
theorem d_S_find_125 : decode b_S_find 125 = .ok (.iastore, 1) := by decide +kernel
theorem d_S_find_126 : decode b_S_find 126 = .ok (.iinc 5 1, 3) := by decide +kernel
theorem d_S_find_129 : decode b_S_find 129 = .ok (.goto (-126), 3) := by decide +kernel
theorem d_S_find_132 : decode b_S_find 132 = .ok (.iconst 0, 1) := by decide +kernel
theorem d_S_find_133 : decode b_S_find 133 = .ok (.istore 5, 2) := by decide +kernel
theorem d_S_find_135 : decode b_S_find 135 = .ok (.iload 5, 2) := by decide +kernel
theorem d_S_find_137 : decode b_S_find 137 = .ok (.iconst 4, 1) := by decide +kernel
theorem d_S_find_138 : decode b_S_find 138 = .ok (.if_icmp .ge (25), 3) := by decide +kernel
theorem d_S_find_141 : decode b_S_find 141 = .ok (.aload_n 0, 1) := by decide +kernel
theorem d_S_find_142 : decode b_S_find 142 = .ok (.getfield 24, 3) := by decide +kernel
theorem d_S_find_145 : decode b_S_find 145 = .ok (.iload 5, 2) := by decide +kernel
theorem d_S_find_147 : decode b_S_find 147 = .ok (.iconst 0, 1) := by decide +kernel
theorem d_S_find_148 : decode b_S_find 148 = .ok (.iastore, 1) := by decide +kernel
theorem d_S_find_149 : decode b_S_find 149 = .ok (.aload_n 0, 1) := by decide +kernel
theorem d_S_find_150 : decode b_S_find 150 = .ok (.getfield 27, 3) := by decide +kernel
theorem d_S_find_153 : decode b_S_find 153 = .ok (.iload 5, 2) := by decide +kernel
theorem d_S_find_155 : decode b_S_find 155 = .ok (.iconst 0, 1) := by decide +kernel
theorem d_S_find_156 : decode b_S_find 156 = .ok (.iastore, 1) := by decide +kernel
theorem d_S_find_157 : decode b_S_find 157 = .ok (.iinc 5 1, 3) := by decide +kernel
theorem d_S_find_160 : decode b_S_find 160 = .ok (.goto (-25), 3) := by decide +kernel
theorem d_S_find_163 : decode b_S_find 163 = .ok (.aload_n 0, 1) := by decide +kernel
theorem d_S_find_164 : decode b_S_find 164 = .ok (.ldc 37, 2) := by decide +kernel
theorem d_S_find_166 : decode b_S_find 166 = .ok (.putfield 38, 3) := by decide +kernel
theorem d_S_find_169 : decode b_S_find 169 = .ok (.aload_n 0, 1) := by decide +kernel
theorem d_S_find_170 : decode b_S_find 170 = .ok (.aload_n 1, 1) := by decide +kernel
theorem d_S_find_171 : decode b_S_find 171 = .ok (.aload_n 2, 1) := by decide +kernel
theorem d_S_find_172 : decode b_S_find 172 = .ok (.iconst 0, 1) := by decide +kernel
theorem d_S_find_173 : decode b_S_find 173 = .ok (.iconst 0, 1) := by decide +kernel
theorem d_S_find_174 : decode b_S_find 174 = .ok (.invokevirtual 68, 3) := by decide +kernel
theorem d_S_find_177 : decode b_S_find 177 = .ok (.aload_n 0, 1) := by decide +kernel
theorem d_S_find_178 : decode b_S_find 178 = .ok (.getfield 38, 3) := by decide +kernel
theorem d_S_find_181 : decode b_S_find 181 = .ok (.ldc 37, 2) := by decide +kernel
theorem d_S_find_183 : decode b_S_find 183 = .ok (.if_icmp .ge (7), 3) := by decide +kernel
theorem d_S_find_186 : decode b_S_find 186 = .ok (.iconst 1, 1) := by decide +kernel
theorem d_S_find_187 : decode b_S_find 187 = .ok (.goto (4), 3) := by decide +kernel
theorem d_S_find_190 : decode b_S_find 190 = .ok (.iconst 0, 1) := by decide +kernel
theorem d_S_find_191 : decode b_S_find 191 = .ok (.ireturn, 1) := by decide +kernel
theorem d_S_bitOf_0 : decode b_S_bitOf 0 = .ok (.iconst 1, 1) := by decide +kernel
theorem d_S_bitOf_1 : decode b_S_bitOf 1 = .ok (.iload_n 1, 1) := by decide +kernel
theorem d_S_bitOf_2 : decode b_S_bitOf 2 = .ok (.iconst (-1), 1) := by decide +kernel
theorem d_S_bitOf_3 : decode b_S_bitOf 3 = .ok (.if_icmp .ne (7), 3) := by decide +kernel
theorem d_S_bitOf_6 : decode b_S_bitOf 6 = .ok (.iconst 4, 1) := by decide +kernel
theorem d_S_bitOf_7 : decode b_S_bitOf 7 = .ok (.goto (4), 3) := by decide +kernel
theorem d_S_bitOf_10 : decode b_S_bitOf 10 = .ok (.iload_n 1, 1) := by decide +kernel
theorem d_S_bitOf_11 : decode b_S_bitOf 11 = .ok (.ishl, 1) := by decide +kernel
theorem d_S_bitOf_12 : decode b_S_bitOf 12 = .ok (.ireturn, 1) := by decide +kernel
theorem d_S_bitsOfSuiting_0 : decode b_S_bitsOfSuiting 0 = .ok (.iconst 0, 1) := by decide +kernel
theorem d_S_bitsOfSuiting_1 : decode b_S_bitsOfSuiting 1 = .ok (.istore_n 3, 1) := by decide +kernel
theorem d_S_bitsOfSuiting_2 : decode b_S_bitsOfSuiting 2 = .ok (.iconst 0, 1) := by decide +kernel
theorem d_S_bitsOfSuiting_3 : decode b_S_bitsOfSuiting 3 = .ok (.istore 4, 2) := by decide +kernel
theorem d_S_bitsOfSuiting_5 : decode b_S_bitsOfSuiting 5 = .ok (.iload 4, 2) := by decide +kernel
theorem d_S_bitsOfSuiting_7 : decode b_S_bitsOfSuiting 7 = .ok (.aload_n 1, 1) := by decide +kernel
theorem d_S_bitsOfSuiting_8 : decode b_S_bitsOfSuiting 8 = .ok (.getfield 72, 3) := by decide +kernel
theorem d_S_bitsOfSuiting_11 : decode b_S_bitsOfSuiting 11 = .ok (.if_icmp .ge (28), 3) := by decide +kernel
theorem d_S_bitsOfSuiting_14 : decode b_S_bitsOfSuiting 14 = .ok (.aload_n 1, 1) := by decide +kernel
theorem d_S_bitsOfSuiting_15 : decode b_S_bitsOfSuiting 15 = .ok (.iload 4, 2) := by decide +kernel
theorem d_S_bitsOfSuiting_17 : decode b_S_bitsOfSuiting 17 = .ok (.iload_n 2, 1) := by decide +kernel
theorem d_S_bitsOfSuiting_18 : decode b_S_bitsOfSuiting 18 = .ok (.invokevirtual 75, 3) := by decide +kernel
theorem d_S_bitsOfSuiting_21 : decode b_S_bitsOfSuiting 21 = .ok (.ifCond .eq (12), 3) := by decide +kernel
theorem d_S_bitsOfSuiting_24 : decode b_S_bitsOfSuiting 24 = .ok (.iload_n 3, 1) := by decide +kernel
theorem d_S_bitsOfSuiting_25 : decode b_S_bitsOfSuiting 25 = .ok (.aload_n 0, 1) := by decide +kernel
theorem d_S_bitsOfSuiting_26 : decode b_S_bitsOfSuiting 26 = .ok (.iload 4, 2) := by decide +kernel
theorem d_S_bitsOfSuiting_28 : decode b_S_bitsOfSuiting 28 = .ok (.invokevirtual 57, 3) := by decide +kernel
theorem d_S_bitsOfSuiting_31 : decode b_S_bitsOfSuiting 31 = .ok (.ior, 1) := by decide +kernel
theorem d_S_bitsOfSuiting_32 : decode b_S_bitsOfSuiting 32 = .ok (.istore_n 3, 1) := by decide +kernel
theorem d_S_bitsOfSuiting_33 : decode b_S_bitsOfSuiting 33 = .ok (.iinc 4 1, 3) := by decide +kernel
theorem d_S_bitsOfSuiting_36 : decode b_S_bitsOfSuiting 36 = .ok (.goto (-31), 3) := by decide +kernel
theorem d_S_bitsOfSuiting_39 : decode b_S_bitsOfSuiting 39 = .ok (.iload_n 3, 1) := by decide +kernel
theorem d_S_bitsOfSuiting_40 : decode b_S_bitsOfSuiting 40 = .ok (.ireturn, 1) := by decide +kernel
theorem d_S_bitsOfTooNear_0 : decode b_S_bitsOfTooNear 0 = .ok (.iconst 0, 1) := by decide +kernel
theorem d_S_bitsOfTooNear_1 : decode b_S_bitsOfTooNear 1 = .ok (.istore_n 3, 1) := by decide +kernel
theorem d_S_bitsOfTooNear_2 : decode b_S_bitsOfTooNear 2 = .ok (.iconst 0, 1) := by decide +kernel
theorem d_S_bitsOfTooNear_3 : decode b_S_bitsOfTooNear 3 = .ok (.istore 4, 2) := by decide +kernel
theorem d_S_bitsOfTooNear_5 : decode b_S_bitsOfTooNear 5 = .ok (.iload 4, 2) := by decide +kernel
theorem d_S_bitsOfTooNear_7 : decode b_S_bitsOfTooNear 7 = .ok (.aload_n 1, 1) := by decide +kernel
theorem d_S_bitsOfTooNear_8 : decode b_S_bitsOfTooNear 8 = .ok (.getfield 41, 3) := by decide +kernel
theorem d_S_bitsOfTooNear_11 : decode b_S_bitsOfTooNear 11 = .ok (.if_icmp .ge (32), 3) := by decide +kernel
theorem d_S_bitsOfTooNear_14 : decode b_S_bitsOfTooNear 14 = .ok (.iload 4, 2) := by decide +kernel
theorem d_S_bitsOfTooNear_16 : decode b_S_bitsOfTooNear 16 = .ok (.iload_n 2, 1) := by decide +kernel
theorem d_S_bitsOfTooNear_17 : decode b_S_bitsOfTooNear 17 = .ok (.if_icmp .eq (20), 3) := by decide +kernel
theorem d_S_bitsOfTooNear_20 : decode b_S_bitsOfTooNear 20 = .ok (.aload_n 1, 1) := by decide +kernel
theorem d_S_bitsOfTooNear_21 : decode b_S_bitsOfTooNear 21 = .ok (.iload 4, 2) := by decide +kernel
theorem d_S_bitsOfTooNear_23 : decode b_S_bitsOfTooNear 23 = .ok (.iload_n 2, 1) := by decide +kernel
theorem d_S_bitsOfTooNear_24 : decode b_S_bitsOfTooNear 24 = .ok (.invokevirtual 79, 3) := by decide +kernel
theorem d_S_bitsOfTooNear_27 : decode b_S_bitsOfTooNear 27 = .ok (.ifCond .eq (10), 3) := by decide +kernel
theorem d_S_bitsOfTooNear_30 : decode b_S_bitsOfTooNear 30 = .ok (.iload_n 3, 1) := by decide +kernel
theorem d_S_bitsOfTooNear_31 : decode b_S_bitsOfTooNear 31 = .ok (.iconst 1, 1) := by decide +kernel
theorem d_S_bitsOfTooNear_32 : decode b_S_bitsOfTooNear 32 = .ok (.iload 4, 2) := by decide +kernel
theorem d_S_bitsOfTooNear_34 : decode b_S_bitsOfTooNear 34 = .ok (.ishl, 1) := by decide +kernel
theorem d_S_bitsOfTooNear_35 : decode b_S_bitsOfTooNear 35 = .ok (.ior, 1) := by decide +kernel
theorem d_S_bitsOfTooNear_36 : decode b_S_bitsOfTooNear 36 = .ok (.istore_n 3, 1) := by decide +kernel
theorem d_S_bitsOfTooNear_37 : decode b_S_bitsOfTooNear 37 = .ok (.iinc 4 1, 3) := by decide +kernel
theorem d_S_bitsOfTooNear_40 : decode b_S_bitsOfTooNear 40 = .ok (.goto (-35), 3) := by decide +kernel
theorem d_S_bitsOfTooNear_43 : decode b_S_bitsOfTooNear 43 = .ok (.iload_n 3, 1) := by decide +kernel
theorem d_S_bitsOfTooNear_44 : decode b_S_bitsOfTooNear 44 = .ok (.ireturn, 1) := by decide +kernel
theorem d_S_place_0 : decode b_S_place 0 = .ok (.iload 4, 2) := by decide +kernel
theorem d_S_place_2 : decode b_S_place 2 = .ok (.aload_n 0, 1) := by decide +kernel
theorem d_S_place_3 : decode b_S_place 3 = .ok (.getfield 34, 3) := by decide +kernel
theorem d_S_place_6 : decode b_S_place 6 = .ok (.aload_n 1, 1) := by decide +kernel
theorem d_S_place_7 : decode b_S_place 7 = .ok (.getfield 41, 3) := by decide +kernel
theorem d_S_place_10 : decode b_S_place 10 = .ok (.iload_n 3, 1) := by decide +kernel
theorem d_S_place_11 : decode b_S_place 11 = .ok (.isub, 1) := by decide +kernel
theorem d_S_place_12 : decode b_S_place 12 = .ok (.imul, 1) := by decide +kernel
theorem d_S_place_13 : decode b_S_place 13 = .ok (.iadd, 1) := by decide +kernel
theorem d_S_place_14 : decode b_S_place 14 = .ok (.aload_n 0, 1) := by decide +kernel
theorem d_S_place_15 : decode b_S_place 15 = .ok (.getfield 38, 3) := by decide +kernel
theorem d_S_place_18 : decode b_S_place 18 = .ok (.if_icmp .lt (4), 3) := by decide +kernel
theorem d_S_place_21 : decode b_S_place 21 = .ok (.return_, 1) := by decide +kernel
theorem d_S_place_22 : decode b_S_place 22 = .ok (.iload_n 3, 1) := by decide +kernel
theorem d_S_place_23 : decode b_S_place 23 = .ok (.aload_n 1, 1) := by decide +kernel
theorem d_S_place_24 : decode b_S_place 24 = .ok (.getfield 41, 3) := by decide +kernel
theorem d_S_place_27 : decode b_S_place 27 = .ok (.if_icmp .lt (14), 3) := by decide +kernel
theorem d_S_place_30 : decode b_S_place 30 = .ok (.aload_n 0, 1) := by decide +kernel
theorem d_S_place_31 : decode b_S_place 31 = .ok (.aload_n 1, 1) := by decide +kernel
theorem d_S_place_32 : decode b_S_place 32 = .ok (.getfield 41, 3) := by decide +kernel
theorem d_S_place_35 : decode b_S_place 35 = .ok (.iload 4, 2) := by decide +kernel
theorem d_S_place_37 : decode b_S_place 37 = .ok (.invokevirtual 82, 3) := by decide +kernel
theorem d_S_place_40 : decode b_S_place 40 = .ok (.return_, 1) := by decide +kernel
theorem d_S_place_41 : decode b_S_place 41 = .ok (.iconst 0, 1) := by decide +kernel
theorem d_S_place_42 : decode b_S_place 42 = .ok (.istore 5, 2) := by decide +kernel
theorem d_S_place_44 : decode b_S_place 44 = .ok (.iload 5, 2) := by decide +kernel
theorem d_S_place_46 : decode b_S_place 46 = .ok (.aload_n 1, 1) := by decide +kernel
theorem d_S_place_47 : decode b_S_place 47 = .ok (.getfield 72, 3) := by decide +kernel
theorem d_S_place_50 : decode b_S_place 50 = .ok (.if_icmp .ge (31), 3) := by decide +kernel
theorem d_S_place_53 : decode b_S_place 53 = .ok (.aload_n 0, 1) := by decide +kernel
theorem d_S_place_54 : decode b_S_place 54 = .ok (.aload_n 1, 1) := by decide +kernel
theorem d_S_place_55 : decode b_S_place 55 = .ok (.iload 5, 2) := by decide +kernel
theorem d_S_place_57 : decode b_S_place 57 = .ok (.iload_n 3, 1) := by decide +kernel
theorem d_S_place_58 : decode b_S_place 58 = .ok (.invokevirtual 86, 3) := by decide +kernel
theorem d_S_place_61 : decode b_S_place 61 = .ok (.ifCond .eq (14), 3) := by decide +kernel
theorem d_S_place_64 : decode b_S_place 64 = .ok (.aload_n 0, 1) := by decide +kernel
theorem d_S_place_65 : decode b_S_place 65 = .ok (.aload_n 1, 1) := by decide +kernel
theorem d_S_place_66 : decode b_S_place 66 = .ok (.aload_n 2, 1) := by decide +kernel
theorem d_S_place_67 : decode b_S_place 67 = .ok (.iload_n 3, 1) := by decide +kernel
theorem d_S_place_68 : decode b_S_place 68 = .ok (.iload 4, 2) := by decide +kernel
theorem d_S_place_70 : decode b_S_place 70 = .ok (.iload 5, 2) := by decide +kernel
theorem d_S_place_72 : decode b_S_place 72 = .ok (.invokevirtual 90, 3) := by decide +kernel
theorem d_S_place_75 : decode b_S_place 75 = .ok (.iinc 5 1, 3) := by decide +kernel
theorem d_S_place_78 : decode b_S_place 78 = .ok (.goto (-34), 3) := by decide +kernel
theorem d_S_place_81 : decode b_S_place 81 = .ok (.aload_n 0, 1) := by decide +kernel
theorem d_S_place_82 : decode b_S_place 82 = .ok (.getfield 18, 3) := by decide +kernel
theorem d_S_place_85 : decode b_S_place 85 = .ok (.iload_n 3, 1) := by decide +kernel
theorem d_S_place_86 : decode b_S_place 86 = .ok (.iaload, 1) := by decide +kernel
theorem d_S_place_87 : decode b_S_place 87 = .ok (.aload_n 0, 1) := by decide +kernel
theorem d_S_place_88 : decode b_S_place 88 = .ok (.iconst (-1), 1) := by decide +kernel
theorem d_S_place_89 : decode b_S_place 89 = .ok (.invokevirtual 57, 3) := by decide +kernel
theorem d_S_place_92 : decode b_S_place 92 = .ok (.iand, 1) := by decide +kernel
theorem d_S_place_93 : decode b_S_place 93 = .ok (.ifCond .eq (32), 3) := by decide +kernel
theorem d_S_place_96 : decode b_S_place 96 = .ok (.aload_n 0, 1) := by decide +kernel
theorem d_S_place_97 : decode b_S_place 97 = .ok (.getfield 15, 3) := by decide +kernel
theorem d_S_place_100 : decode b_S_place 100 = .ok (.iload_n 3, 1) := by decide +kernel
theorem d_S_place_101 : decode b_S_place 101 = .ok (.iconst (-1), 1) := by decide +kernel
theorem d_S_place_102 : decode b_S_place 102 = .ok (.iastore, 1) := by decide +kernel
theorem d_S_place_103 : decode b_S_place 103 = .ok (.aload_n 0, 1) := by decide +kernel
theorem d_S_place_104 : decode b_S_place 104 = .ok (.aload_n 1, 1) := by decide +kernel
theorem d_S_place_105 : decode b_S_place 105 = .ok (.aload_n 2, 1) := by decide +kernel
theorem d_S_place_106 : decode b_S_place 106 = .ok (.iload_n 3, 1) := by decide +kernel
theorem d_S_place_107 : decode b_S_place 107 = .ok (.iconst 1, 1) := by decide +kernel
theorem d_S_place_108 : decode b_S_place 108 = .ok (.iadd, 1) := by decide +kernel
theorem d_S_place_109 : decode b_S_place 109 = .ok (.iload 4, 2) := by decide +kernel
theorem d_S_place_111 : decode b_S_place 111 = .ok (.aload_n 0, 1) := by decide +kernel
theorem d_S_place_112 : decode b_S_place 112 = .ok (.aload_n 2, 1) := by decide +kernel
theorem d_S_place_113 : decode b_S_place 113 = .ok (.iload_n 3, 1) := by decide +kernel
theorem d_S_place_114 : decode b_S_place 114 = .ok (.iaload, 1) := by decide +kernel
theorem d_S_place_115 : decode b_S_place 115 = .ok (.iconst (-1), 1) := by decide +kernel
theorem d_S_place_116 : decode b_S_place 116 = .ok (.bipush 100, 2) := by decide +kernel
theorem d_S_place_118 : decode b_S_place 118 = .ok (.invokevirtual 94, 3) := by decide +kernel
theorem d_S_place_121 : decode b_S_place 121 = .ok (.iadd, 1) := by decide +kernel
theorem d_S_place_122 : decode b_S_place 122 = .ok (.invokevirtual 68, 3) := by decide +kernel
theorem d_S_place_125 : decode b_S_place 125 = .ok (.return_, 1) := by decide +kernel
theorem d_S_mayTake_0 : decode b_S_mayTake 0 = .ok (.aload_n 0, 1) := by decide +kernel
theorem d_S_mayTake_1 : decode b_S_mayTake 1 = .ok (.getfield 18, 3) := by decide +kernel
theorem d_S_mayTake_4 : decode b_S_mayTake 4 = .ok (.iload_n 3, 1) := by decide +kernel
theorem d_S_mayTake_5 : decode b_S_mayTake 5 = .ok (.iaload, 1) := by decide +kernel
theorem d_S_mayTake_6 : decode b_S_mayTake 6 = .ok (.aload_n 0, 1) := by decide +kernel
theorem d_S_mayTake_7 : decode b_S_mayTake 7 = .ok (.iload_n 2, 1) := by decide +kernel
theorem d_S_mayTake_8 : decode b_S_mayTake 8 = .ok (.invokevirtual 57, 3) := by decide +kernel
theorem d_S_mayTake_11 : decode b_S_mayTake 11 = .ok (.iand, 1) := by decide +kernel
theorem d_S_mayTake_12 : decode b_S_mayTake 12 = .ok (.ifCond .eq (42), 3) := by decide +kernel
theorem d_S_mayTake_15 : decode b_S_mayTake 15 = .ok (.aload_n 0, 1) := by decide +kernel
theorem d_S_mayTake_16 : decode b_S_mayTake 16 = .ok (.getfield 21, 3) := by decide +kernel
theorem d_S_mayTake_19 : decode b_S_mayTake 19 = .ok (.iload_n 3, 1) := by decide +kernel
theorem d_S_mayTake_20 : decode b_S_mayTake 20 = .ok (.iaload, 1) := by decide +kernel
theorem d_S_mayTake_21 : decode b_S_mayTake 21 = .ok (.aload_n 0, 1) := by decide +kernel
theorem d_S_mayTake_22 : decode b_S_mayTake 22 = .ok (.getfield 24, 3) := by decide +kernel
theorem d_S_mayTake_25 : decode b_S_mayTake 25 = .ok (.iload_n 2, 1) := by decide +kernel
theorem d_S_mayTake_26 : decode b_S_mayTake 26 = .ok (.iaload, 1) := by decide +kernel
theorem d_S_mayTake_27 : decode b_S_mayTake 27 = .ok (.iand, 1) := by decide +kernel
theorem d_S_mayTake_28 : decode b_S_mayTake 28 = .ok (.ifCond .ne (26), 3) := by decide +kernel
theorem d_S_mayTake_31 : decode b_S_mayTake 31 = .ok (.aload_n 0, 1) := by decide +kernel
theorem d_S_mayTake_32 : decode b_S_mayTake 32 = .ok (.getfield 27, 3) := by decide +kernel
theorem d_S_mayTake_35 : decode b_S_mayTake 35 = .ok (.iload_n 2, 1) := by decide +kernel
theorem d_S_mayTake_36 : decode b_S_mayTake 36 = .ok (.iaload, 1) := by decide +kernel
theorem d_S_mayTake_37 : decode b_S_mayTake 37 = .ok (.aload_n 1, 1) := by decide +kernel
theorem d_S_mayTake_38 : decode b_S_mayTake 38 = .ok (.iload_n 3, 1) := by decide +kernel
theorem d_S_mayTake_39 : decode b_S_mayTake 39 = .ok (.invokevirtual 98, 3) := by decide +kernel
theorem d_S_mayTake_42 : decode b_S_mayTake 42 = .ok (.iadd, 1) := by decide +kernel
theorem d_S_mayTake_43 : decode b_S_mayTake 43 = .ok (.aload_n 1, 1) := by decide +kernel
theorem d_S_mayTake_44 : decode b_S_mayTake 44 = .ok (.getfield 101, 3) := by decide +kernel
theorem d_S_mayTake_47 : decode b_S_mayTake 47 = .ok (.if_icmp .gt (7), 3) := by decide +kernel
theorem d_S_mayTake_50 : decode b_S_mayTake 50 = .ok (.iconst 1, 1) := by decide +kernel
theorem d_S_mayTake_51 : decode b_S_mayTake 51 = .ok (.goto (4), 3) := by decide +kernel
theorem d_S_mayTake_54 : decode b_S_mayTake 54 = .ok (.iconst 0, 1) := by decide +kernel
theorem d_S_mayTake_55 : decode b_S_mayTake 55 = .ok (.ireturn, 1) := by decide +kernel
theorem d_S_placePerson_0 : decode b_S_placePerson 0 = .ok (.aload_n 0, 1) := by decide +kernel
theorem d_S_placePerson_1 : decode b_S_placePerson 1 = .ok (.getfield 24, 3) := by decide +kernel
theorem d_S_placePerson_4 : decode b_S_placePerson 4 = .ok (.iload 5, 2) := by decide +kernel
theorem d_S_placePerson_6 : decode b_S_placePerson 6 = .ok (.iaload, 1) := by decide +kernel
theorem d_S_placePerson_7 : decode b_S_placePerson 7 = .ok (.invokestatic 104, 3) := by decide +kernel
theorem d_S_placePerson_10 : decode b_S_placePerson 10 = .ok (.istore 6, 2) := by decide +kernel
theorem d_S_placePerson_12 : decode b_S_placePerson 12 = .ok (.iconst 2, 1) := by decide +kernel
theorem d_S_placePerson_13 : decode b_S_placePerson 13 = .ok (.iload 6, 2) := by decide +kernel
theorem d_S_placePerson_15 : decode b_S_placePerson 15 = .ok (.imul, 1) := by decide +kernel
theorem d_S_placePerson_16 : decode b_S_placePerson 16 = .ok (.iconst 1, 1) := by decide +kernel
theorem d_S_placePerson_17 : decode b_S_placePerson 17 = .ok (.iadd, 1) := by decide +kernel
theorem d_S_placePerson_18 : decode b_S_placePerson 18 = .ok (.istore 7, 2) := by decide +kernel
theorem d_S_placePerson_20 : decode b_S_placePerson 20 = .ok (.aload_n 0, 1) := by decide +kernel
theorem d_S_placePerson_21 : decode b_S_placePerson 21 = .ok (.getfield 15, 3) := by decide +kernel
theorem d_S_placePerson_24 : decode b_S_placePerson 24 = .ok (.iload_n 3, 1) := by decide +kernel
theorem d_S_placePerson_25 : decode b_S_placePerson 25 = .ok (.iload 5, 2) := by decide +kernel
theorem d_S_placePerson_27 : decode b_S_placePerson 27 = .ok (.iastore, 1) := by decide +kernel
theorem d_S_placePerson_28 : decode b_S_placePerson 28 = .ok (.aload_n 0, 1) := by decide +kernel
theorem d_S_placePerson_29 : decode b_S_placePerson 29 = .ok (.getfield 24, 3) := by decide +kernel
theorem d_S_placePerson_32 : decode b_S_placePerson 32 = .ok (.iload 5, 2) := by decide +kernel
theorem d_S_placePerson_34 : decode b_S_placePerson 34 = .ok (.dup2, 1) := by decide +kernel
theorem d_S_placePerson_35 : decode b_S_placePerson 35 = .ok (.iaload, 1) := by decide +kernel
theorem d_S_placePerson_36 : decode b_S_placePerson 36 = .ok (.iconst 1, 1) := by decide +kernel
theorem d_S_placePerson_37 : decode b_S_placePerson 37 = .ok (.iload_n 3, 1) := by decide +kernel
theorem d_S_placePerson_38 : decode b_S_placePerson 38 = .ok (.ishl, 1) := by decide +kernel
theorem d_S_placePerson_39 : decode b_S_placePerson 39 = .ok (.ior, 1) := by decide +kernel
theorem d_S_placePerson_40 : decode b_S_placePerson 40 = .ok (.iastore, 1) := by decide +kernel
theorem d_S_placePerson_41 : decode b_S_placePerson 41 = .ok (.aload_n 0, 1) := by decide +kernel
theorem d_S_placePerson_42 : decode b_S_placePerson 42 = .ok (.getfield 27, 3) := by decide +kernel
theorem d_S_placePerson_45 : decode b_S_placePerson 45 = .ok (.iload 5, 2) := by decide +kernel
theorem d_S_placePerson_47 : decode b_S_placePerson 47 = .ok (.dup2, 1) := by decide +kernel
theorem d_S_placePerson_48 : decode b_S_placePerson 48 = .ok (.iaload, 1) := by decide +kernel
theorem d_S_placePerson_49 : decode b_S_placePerson 49 = .ok (.aload_n 1, 1) := by decide +kernel
theorem d_S_placePerson_50 : decode b_S_placePerson 50 = .ok (.iload_n 3, 1) := by decide +kernel
theorem d_S_placePerson_51 : decode b_S_placePerson 51 = .ok (.invokevirtual 98, 3) := by decide +kernel
theorem d_S_placePerson_54 : decode b_S_placePerson 54 = .ok (.iadd, 1) := by decide +kernel
theorem d_S_placePerson_55 : decode b_S_placePerson 55 = .ok (.iastore, 1) := by decide +kernel
theorem d_S_placePerson_56 : decode b_S_placePerson 56 = .ok (.aload_n 0, 1) := by decide +kernel
theorem d_S_placePerson_57 : decode b_S_placePerson 57 = .ok (.aload_n 1, 1) := by decide +kernel
theorem d_S_placePerson_58 : decode b_S_placePerson 58 = .ok (.aload_n 2, 1) := by decide +kernel
theorem d_S_placePerson_59 : decode b_S_placePerson 59 = .ok (.iload_n 3, 1) := by decide +kernel
theorem d_S_placePerson_60 : decode b_S_placePerson 60 = .ok (.iconst 1, 1) := by decide +kernel
theorem d_S_placePerson_61 : decode b_S_placePerson 61 = .ok (.iadd, 1) := by decide +kernel
theorem d_S_placePerson_62 : decode b_S_placePerson 62 = .ok (.iload 4, 2) := by decide +kernel
theorem d_S_placePerson_64 : decode b_S_placePerson 64 = .ok (.aload_n 0, 1) := by decide +kernel
theorem d_S_placePerson_65 : decode b_S_placePerson 65 = .ok (.aload_n 2, 1) := by decide +kernel
theorem d_S_placePerson_66 : decode b_S_placePerson 66 = .ok (.iload_n 3, 1) := by decide +kernel
theorem d_S_placePerson_67 : decode b_S_placePerson 67 = .ok (.iaload, 1) := by decide +kernel
theorem d_S_placePerson_68 : decode b_S_placePerson 68 = .ok (.iload 5, 2) := by decide +kernel
theorem d_S_placePerson_70 : decode b_S_placePerson 70 = .ok (.iload 7, 2) := by decide +kernel
theorem d_S_placePerson_72 : decode b_S_placePerson 72 = .ok (.invokevirtual 94, 3) := by decide +kernel
theorem d_S_placePerson_75 : decode b_S_placePerson 75 = .ok (.iadd, 1) := by decide +kernel
theorem d_S_placePerson_76 : decode b_S_placePerson 76 = .ok (.invokevirtual 68, 3) := by decide +kernel
theorem d_S_placePerson_79 : decode b_S_placePerson 79 = .ok (.aload_n 0, 1) := by decide +kernel
theorem d_S_placePerson_80 : decode b_S_placePerson 80 = .ok (.getfield 24, 3) := by decide +kernel
theorem d_S_placePerson_83 : decode b_S_placePerson 83 = .ok (.iload 5, 2) := by decide +kernel
theorem d_S_placePerson_85 : decode b_S_placePerson 85 = .ok (.dup2, 1) := by decide +kernel
theorem d_S_placePerson_86 : decode b_S_placePerson 86 = .ok (.iaload, 1) := by decide +kernel
theorem d_S_placePerson_87 : decode b_S_placePerson 87 = .ok (.iconst 1, 1) := by decide +kernel
theorem d_S_placePerson_88 : decode b_S_placePerson 88 = .ok (.iload_n 3, 1) := by decide +kernel
theorem d_S_placePerson_89 : decode b_S_placePerson 89 = .ok (.ishl, 1) := by decide +kernel
theorem d_S_placePerson_90 : decode b_S_placePerson 90 = .ok (.iconst (-1), 1) := by decide +kernel
theorem d_S_placePerson_91 : decode b_S_placePerson 91 = .ok (.ixor, 1) := by decide +kernel
theorem d_S_placePerson_92 : decode b_S_placePerson 92 = .ok (.iand, 1) := by decide +kernel
theorem d_S_placePerson_93 : decode b_S_placePerson 93 = .ok (.iastore, 1) := by decide +kernel
theorem d_S_placePerson_94 : decode b_S_placePerson 94 = .ok (.aload_n 0, 1) := by decide +kernel
theorem d_S_placePerson_95 : decode b_S_placePerson 95 = .ok (.getfield 27, 3) := by decide +kernel
theorem d_S_placePerson_98 : decode b_S_placePerson 98 = .ok (.iload 5, 2) := by decide +kernel
theorem d_S_placePerson_100 : decode b_S_placePerson 100 = .ok (.dup2, 1) := by decide +kernel
theorem d_S_placePerson_101 : decode b_S_placePerson 101 = .ok (.iaload, 1) := by decide +kernel
theorem d_S_placePerson_102 : decode b_S_placePerson 102 = .ok (.aload_n 1, 1) := by decide +kernel
theorem d_S_placePerson_103 : decode b_S_placePerson 103 = .ok (.iload_n 3, 1) := by decide +kernel
theorem d_S_placePerson_104 : decode b_S_placePerson 104 = .ok (.invokevirtual 98, 3) := by decide +kernel
theorem d_S_placePerson_107 : decode b_S_placePerson 107 = .ok (.isub, 1) := by decide +kernel
theorem d_S_placePerson_108 : decode b_S_placePerson 108 = .ok (.iastore, 1) := by decide +kernel
theorem d_S_placePerson_109 : decode b_S_placePerson 109 = .ok (.return_, 1) := by decide +kernel
theorem d_S_weightOf_0 : decode b_S_weightOf 0 = .ok (.aload_n 0, 1) := by decide +kernel
theorem d_S_weightOf_1 : decode b_S_weightOf 1 = .ok (.getfield 34, 3) := by decide +kernel
theorem d_S_weightOf_4 : decode b_S_weightOf 4 = .ok (.iload_n 3, 1) := by decide +kernel
theorem d_S_weightOf_5 : decode b_S_weightOf 5 = .ok (.imul, 1) := by decide +kernel
theorem d_S_weightOf_6 : decode b_S_weightOf 6 = .ok (.istore 4, 2) := by decide +kernel
theorem d_S_weightOf_8 : decode b_S_weightOf 8 = .ok (.iload_n 1, 1) := by decide +kernel
theorem d_S_weightOf_9 : decode b_S_weightOf 9 = .ok (.iload_n 2, 1) := by decide +kernel
theorem d_S_weightOf_10 : decode b_S_weightOf 10 = .ok (.if_icmp .ne (8), 3) := by decide +kernel
theorem d_S_weightOf_13 : decode b_S_weightOf 13 = .ok (.iload 4, 2) := by decide +kernel
theorem d_S_weightOf_15 : decode b_S_weightOf 15 = .ok (.goto (10), 3) := by decide +kernel
theorem d_S_weightOf_18 : decode b_S_weightOf 18 = .ok (.iload 4, 2) := by decide +kernel
theorem d_S_weightOf_20 : decode b_S_weightOf 20 = .ok (.aload_n 0, 1) := by decide +kernel
theorem d_S_weightOf_21 : decode b_S_weightOf 21 = .ok (.getfield 30, 3) := by decide +kernel
theorem d_S_weightOf_24 : decode b_S_weightOf 24 = .ok (.iadd, 1) := by decide +kernel
theorem d_S_weightOf_25 : decode b_S_weightOf 25 = .ok (.ireturn, 1) := by decide +kernel
theorem d_S_keepTrial_0 : decode b_S_keepTrial 0 = .ok (.iconst 0, 1) := by decide +kernel
theorem d_S_keepTrial_1 : decode b_S_keepTrial 1 = .ok (.istore_n 3, 1) := by decide +kernel
theorem d_S_keepTrial_2 : decode b_S_keepTrial 2 = .ok (.iload_n 3, 1) := by decide +kernel
theorem d_S_keepTrial_3 : decode b_S_keepTrial 3 = .ok (.iload_n 1, 1) := by decide +kernel
theorem d_S_keepTrial_4 : decode b_S_keepTrial 4 = .ok (.if_icmp .ge (21), 3) := by decide +kernel
theorem d_S_keepTrial_7 : decode b_S_keepTrial 7 = .ok (.aload_n 0, 1) := by decide +kernel
theorem d_S_keepTrial_8 : decode b_S_keepTrial 8 = .ok (.getfield 9, 3) := by decide +kernel
theorem d_S_keepTrial_11 : decode b_S_keepTrial 11 = .ok (.iload_n 3, 1) := by decide +kernel
theorem d_S_keepTrial_12 : decode b_S_keepTrial 12 = .ok (.aload_n 0, 1) := by decide +kernel
theorem d_S_keepTrial_13 : decode b_S_keepTrial 13 = .ok (.getfield 15, 3) := by decide +kernel
theorem d_S_keepTrial_16 : decode b_S_keepTrial 16 = .ok (.iload_n 3, 1) := by decide +kernel
theorem d_S_keepTrial_17 : decode b_S_keepTrial 17 = .ok (.iaload, 1) := by decide +kernel
theorem d_S_keepTrial_18 : decode b_S_keepTrial 18 = .ok (.iastore, 1) := by decide +kernel
theorem d_S_keepTrial_19 : decode b_S_keepTrial 19 = .ok (.iinc 3 1, 3) := by decide +kernel
theorem d_S_keepTrial_22 : decode b_S_keepTrial 22 = .ok (.goto (-20), 3) := by decide +kernel
theorem d_S_keepTrial_25 : decode b_S_keepTrial 25 = .ok (.aload_n 0, 1) := by decide +kernel
theorem d_S_keepTrial_26 : decode b_S_keepTrial 26 = .ok (.iload_n 2, 1) := by decide +kernel
theorem d_S_keepTrial_27 : decode b_S_keepTrial 27 = .ok (.putfield 38, 3) := by decide +kernel
theorem d_S_keepTrial_30 : decode b_S_keepTrial 30 = .ok (.return_, 1) := by decide +kernel
