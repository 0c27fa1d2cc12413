theorem d_Mo_compare_75 : decode c_Mo_compare 75 = .ok (.aload_n 0, 1) := by decide +kernel
theorem d_Mo_compare_76 : decode c_Mo_compare 76 = .ok (.invokevirtual 117, 3) := by decide +kernel
theorem d_Mo_compare_79 : decode c_Mo_compare 79 = .ok (.aload_n 0, 1) := by decide +kernel
theorem d_Mo_compare_80 : decode c_Mo_compare 80 = .ok (.invokevirtual 153, 3) := by decide +kernel
theorem d_Mo_compare_83 : decode c_Mo_compare 83 = .ok (.ireturn, 1) := by decide +kernel
theorem d_Mo_whole_0 : decode c_Mo_whole 0 = .ok (.aload_n 0, 1) := by decide +kernel
theorem d_Mo_whole_1 : decode c_Mo_whole 1 = .ok (.iconst 0, 1) := by decide +kernel
theorem d_Mo_whole_2 : decode c_Mo_whole 2 = .ok (.invokevirtual 168, 3) := by decide +kernel
theorem d_Mo_whole_5 : decode c_Mo_whole 5 = .ok (.ifCond .ne 5, 3) := by decide +kernel
theorem d_Mo_whole_8 : decode c_Mo_whole 8 = .ok (.iconst 0, 1) := by decide +kernel
theorem d_Mo_whole_9 : decode c_Mo_whole 9 = .ok (.ireturn, 1) := by decide +kernel
theorem d_Mo_whole_10 : decode c_Mo_whole 10 = .ok (.aload_n 0, 1) := by decide +kernel
theorem d_Mo_whole_11 : decode c_Mo_whole 11 = .ok (.bipush 7, 2) := by decide +kernel
theorem d_Mo_whole_13 : decode c_Mo_whole 13 = .ok (.invokevirtual 138, 3) := by decide +kernel
theorem d_Mo_whole_16 : decode c_Mo_whole 16 = .ok (.iconst 1, 1) := by decide +kernel
theorem d_Mo_whole_17 : decode c_Mo_whole 17 = .ok (.ireturn, 1) := by decide +kernel
theorem d_Mo_sum_0 : decode c_Mo_sum 0 = .ok (.aload_n 0, 1) := by decide +kernel
theorem d_Mo_sum_1 : decode c_Mo_sum 1 = .ok (.iload_n 1, 1) := by decide +kernel
theorem d_Mo_sum_2 : decode c_Mo_sum 2 = .ok (.invokevirtual 171, 3) := by decide +kernel
theorem d_Mo_sum_5 : decode c_Mo_sum 5 = .ok (.ifCond .ne 5, 3) := by decide +kernel
theorem d_Mo_sum_8 : decode c_Mo_sum 8 = .ok (.iconst 0, 1) := by decide +kernel
theorem d_Mo_sum_9 : decode c_Mo_sum 9 = .ok (.ireturn, 1) := by decide +kernel
theorem d_Mo_sum_10 : decode c_Mo_sum 10 = .ok (.aload_n 0, 1) := by decide +kernel
theorem d_Mo_sum_11 : decode c_Mo_sum 11 = .ok (.ldc 174, 2) := by decide +kernel
theorem d_Mo_sum_13 : decode c_Mo_sum 13 = .ok (.invokevirtual 61, 3) := by decide +kernel
theorem d_Mo_sum_16 : decode c_Mo_sum 16 = .ok (.ifCond .ne 12, 3) := by decide +kernel
theorem d_Mo_sum_19 : decode c_Mo_sum 19 = .ok (.aload_n 0, 1) := by decide +kernel
theorem d_Mo_sum_20 : decode c_Mo_sum 20 = .ok (.ldc 176, 2) := by decide +kernel
theorem d_Mo_sum_22 : decode c_Mo_sum 22 = .ok (.invokevirtual 61, 3) := by decide +kernel
theorem d_Mo_sum_25 : decode c_Mo_sum 25 = .ok (.ifCond .eq 40, 3) := by decide +kernel
theorem d_Mo_sum_28 : decode c_Mo_sum 28 = .ok (.aload_n 0, 1) := by decide +kernel
theorem d_Mo_sum_29 : decode c_Mo_sum 29 = .ok (.ldc 174, 2) := by decide +kernel
theorem d_Mo_sum_31 : decode c_Mo_sum 31 = .ok (.invokevirtual 61, 3) := by decide +kernel
theorem d_Mo_sum_34 : decode c_Mo_sum 34 = .ok (.ifCond .eq 7, 3) := by decide +kernel
theorem d_Mo_sum_37 : decode c_Mo_sum 37 = .ok (.iconst 4, 1) := by decide +kernel
theorem d_Mo_sum_38 : decode c_Mo_sum 38 = .ok (.goto 4, 3) := by decide +kernel
theorem d_Mo_sum_41 : decode c_Mo_sum 41 = .ok (.iconst 5, 1) := by decide +kernel
theorem d_Mo_sum_42 : decode c_Mo_sum 42 = .ok (.istore_n 2, 1) := by decide +kernel
theorem d_Mo_sum_43 : decode c_Mo_sum 43 = .ok (.aload_n 0, 1) := by decide +kernel
theorem d_Mo_sum_44 : decode c_Mo_sum 44 = .ok (.invokevirtual 117, 3) := by decide +kernel
theorem d_Mo_sum_47 : decode c_Mo_sum 47 = .ok (.aload_n 0, 1) := by decide +kernel
theorem d_Mo_sum_48 : decode c_Mo_sum 48 = .ok (.iload_n 1, 1) := by decide +kernel
theorem d_Mo_sum_49 : decode c_Mo_sum 49 = .ok (.invokevirtual 171, 3) := by decide +kernel
theorem d_Mo_sum_52 : decode c_Mo_sum 52 = .ok (.ifCond .ne 5, 3) := by decide +kernel
theorem d_Mo_sum_55 : decode c_Mo_sum 55 = .ok (.iconst 0, 1) := by decide +kernel
theorem d_Mo_sum_56 : decode c_Mo_sum 56 = .ok (.ireturn, 1) := by decide +kernel
theorem d_Mo_sum_57 : decode c_Mo_sum 57 = .ok (.aload_n 0, 1) := by decide +kernel
theorem d_Mo_sum_58 : decode c_Mo_sum 58 = .ok (.iload_n 2, 1) := by decide +kernel
theorem d_Mo_sum_59 : decode c_Mo_sum 59 = .ok (.invokevirtual 138, 3) := by decide +kernel
theorem d_Mo_sum_62 : decode c_Mo_sum 62 = .ok (.goto (-52), 3) := by decide +kernel
theorem d_Mo_sum_65 : decode c_Mo_sum 65 = .ok (.iconst 1, 1) := by decide +kernel
theorem d_Mo_sum_66 : decode c_Mo_sum 66 = .ok (.ireturn, 1) := by decide +kernel
theorem d_Mo_term_0 : decode c_Mo_term 0 = .ok (.aload_n 0, 1) := by decide +kernel
theorem d_Mo_term_1 : decode c_Mo_term 1 = .ok (.iload_n 1, 1) := by decide +kernel
theorem d_Mo_term_2 : decode c_Mo_term 2 = .ok (.invokevirtual 178, 3) := by decide +kernel
theorem d_Mo_term_5 : decode c_Mo_term 5 = .ok (.ifCond .ne 5, 3) := by decide +kernel
theorem d_Mo_term_8 : decode c_Mo_term 8 = .ok (.iconst 0, 1) := by decide +kernel
theorem d_Mo_term_9 : decode c_Mo_term 9 = .ok (.ireturn, 1) := by decide +kernel
theorem d_Mo_term_10 : decode c_Mo_term 10 = .ok (.aload_n 0, 1) := by decide +kernel
theorem d_Mo_term_11 : decode c_Mo_term 11 = .ok (.ldc 181, 2) := by decide +kernel
theorem d_Mo_term_13 : decode c_Mo_term 13 = .ok (.invokevirtual 61, 3) := by decide +kernel
theorem d_Mo_term_16 : decode c_Mo_term 16 = .ok (.ifCond .eq 26, 3) := by decide +kernel
theorem d_Mo_term_19 : decode c_Mo_term 19 = .ok (.aload_n 0, 1) := by decide +kernel
theorem d_Mo_term_20 : decode c_Mo_term 20 = .ok (.invokevirtual 117, 3) := by decide +kernel
theorem d_Mo_term_23 : decode c_Mo_term 23 = .ok (.aload_n 0, 1) := by decide +kernel
theorem d_Mo_term_24 : decode c_Mo_term 24 = .ok (.iload_n 1, 1) := by decide +kernel
theorem d_Mo_term_25 : decode c_Mo_term 25 = .ok (.invokevirtual 178, 3) := by decide +kernel
theorem d_Mo_term_28 : decode c_Mo_term 28 = .ok (.ifCond .ne 5, 3) := by decide +kernel
theorem d_Mo_term_31 : decode c_Mo_term 31 = .ok (.iconst 0, 1) := by decide +kernel
theorem d_Mo_term_32 : decode c_Mo_term 32 = .ok (.ireturn, 1) := by decide +kernel
theorem d_Mo_term_33 : decode c_Mo_term 33 = .ok (.aload_n 0, 1) := by decide +kernel
theorem d_Mo_term_34 : decode c_Mo_term 34 = .ok (.bipush 6, 2) := by decide +kernel
theorem d_Mo_term_36 : decode c_Mo_term 36 = .ok (.invokevirtual 138, 3) := by decide +kernel
theorem d_Mo_term_39 : decode c_Mo_term 39 = .ok (.goto (-29), 3) := by decide +kernel
theorem d_Mo_term_42 : decode c_Mo_term 42 = .ok (.iconst 1, 1) := by decide +kernel
theorem d_Mo_term_43 : decode c_Mo_term 43 = .ok (.ireturn, 1) := by decide +kernel
theorem d_Mo_part_0 : decode c_Mo_part 0 = .ok (.aload_n 0, 1) := by decide +kernel
theorem d_Mo_part_1 : decode c_Mo_part 1 = .ok (.ldc 183, 2) := by decide +kernel
theorem d_Mo_part_3 : decode c_Mo_part 3 = .ok (.invokevirtual 61, 3) := by decide +kernel
theorem d_Mo_part_6 : decode c_Mo_part 6 = .ok (.ifCond .eq 43, 3) := by decide +kernel
theorem d_Mo_part_9 : decode c_Mo_part 9 = .ok (.iload_n 1, 1) := by decide +kernel
theorem d_Mo_part_10 : decode c_Mo_part 10 = .ok (.bipush 6, 2) := by decide +kernel
theorem d_Mo_part_12 : decode c_Mo_part 12 = .ok (.if_icmp .ne 8, 3) := by decide +kernel
theorem d_Mo_part_15 : decode c_Mo_part 15 = .ok (.aload_n 0, 1) := by decide +kernel
theorem d_Mo_part_16 : decode c_Mo_part 16 = .ok (.invokevirtual 113, 3) := by decide +kernel
theorem d_Mo_part_19 : decode c_Mo_part 19 = .ok (.ireturn, 1) := by decide +kernel
theorem d_Mo_part_20 : decode c_Mo_part 20 = .ok (.aload_n 0, 1) := by decide +kernel
theorem d_Mo_part_21 : decode c_Mo_part 21 = .ok (.invokevirtual 117, 3) := by decide +kernel
theorem d_Mo_part_24 : decode c_Mo_part 24 = .ok (.aload_n 0, 1) := by decide +kernel
theorem d_Mo_part_25 : decode c_Mo_part 25 = .ok (.iload_n 1, 1) := by decide +kernel
theorem d_Mo_part_26 : decode c_Mo_part 26 = .ok (.iconst 1, 1) := by decide +kernel
theorem d_Mo_part_27 : decode c_Mo_part 27 = .ok (.iadd, 1) := by decide +kernel
theorem d_Mo_part_28 : decode c_Mo_part 28 = .ok (.invokevirtual 168, 3) := by decide +kernel
theorem d_Mo_part_31 : decode c_Mo_part 31 = .ok (.ifCond .eq 16, 3) := by decide +kernel
theorem d_Mo_part_34 : decode c_Mo_part 34 = .ok (.aload_n 0, 1) := by decide +kernel
theorem d_Mo_part_35 : decode c_Mo_part 35 = .ok (.ldc 185, 2) := by decide +kernel
theorem d_Mo_part_37 : decode c_Mo_part 37 = .ok (.invokevirtual 145, 3) := by decide +kernel
theorem d_Mo_part_40 : decode c_Mo_part 40 = .ok (.ifCond .eq 7, 3) := by decide +kernel
theorem d_Mo_part_43 : decode c_Mo_part 43 = .ok (.iconst 1, 1) := by decide +kernel
theorem d_Mo_part_44 : decode c_Mo_part 44 = .ok (.goto 4, 3) := by decide +kernel
theorem d_Mo_part_47 : decode c_Mo_part 47 = .ok (.iconst 0, 1) := by decide +kernel
theorem d_Mo_part_48 : decode c_Mo_part 48 = .ok (.ireturn, 1) := by decide +kernel
theorem d_Mo_part_49 : decode c_Mo_part 49 = .ok (.aload_n 0, 1) := by decide +kernel
theorem d_Mo_part_50 : decode c_Mo_part 50 = .ok (.getfield 49, 3) := by decide +kernel
theorem d_Mo_part_53 : decode c_Mo_part 53 = .ok (.iconst 2, 1) := by decide +kernel
theorem d_Mo_part_54 : decode c_Mo_part 54 = .ok (.if_icmp .eq 30, 3) := by decide +kernel
theorem d_Mo_part_57 : decode c_Mo_part 57 = .ok (.aload_n 0, 1) := by decide +kernel
theorem d_Mo_part_58 : decode c_Mo_part 58 = .ok (.ldc 75, 2) := by decide +kernel
theorem d_Mo_part_60 : decode c_Mo_part 60 = .ok (.invokevirtual 61, 3) := by decide +kernel
theorem d_Mo_part_63 : decode c_Mo_part 63 = .ok (.ifCond .ne 21, 3) := by decide +kernel
theorem d_Mo_part_66 : decode c_Mo_part 66 = .ok (.aload_n 0, 1) := by decide +kernel
theorem d_Mo_part_67 : decode c_Mo_part 67 = .ok (.ldc 71, 2) := by decide +kernel
theorem d_Mo_part_69 : decode c_Mo_part 69 = .ok (.invokevirtual 61, 3) := by decide +kernel
theorem d_Mo_part_72 : decode c_Mo_part 72 = .ok (.ifCond .ne 12, 3) := by decide +kernel
theorem d_Mo_part_75 : decode c_Mo_part 75 = .ok (.aload_n 0, 1) := by decide +kernel
theorem d_Mo_part_76 : decode c_Mo_part 76 = .ok (.ldc 73, 2) := by decide +kernel
theorem d_Mo_part_78 : decode c_Mo_part 78 = .ok (.invokevirtual 61, 3) := by decide +kernel
theorem d_Mo_part_81 : decode c_Mo_part 81 = .ok (.ifCond .eq 12, 3) := by decide +kernel
theorem d_Mo_part_84 : decode c_Mo_part 84 = .ok (.aload_n 0, 1) := by decide +kernel
theorem d_Mo_part_85 : decode c_Mo_part 85 = .ok (.getfield 123, 3) := by decide +kernel
theorem d_Mo_part_88 : decode c_Mo_part 88 = .ok (.bipush 80, 2) := by decide +kernel
theorem d_Mo_part_90 : decode c_Mo_part 90 = .ok (.if_icmp .ne 8, 3) := by decide +kernel
theorem d_Mo_part_93 : decode c_Mo_part 93 = .ok (.aload_n 0, 1) := by decide +kernel
theorem d_Mo_part_94 : decode c_Mo_part 94 = .ok (.invokevirtual 113, 3) := by decide +kernel
theorem d_Mo_part_97 : decode c_Mo_part 97 = .ok (.ireturn, 1) := by decide +kernel
theorem d_Mo_part_98 : decode c_Mo_part 98 = .ok (.aload_n 0, 1) := by decide +kernel
theorem d_Mo_part_99 : decode c_Mo_part 99 = .ok (.dup, 1) := by decide +kernel
theorem d_Mo_part_100 : decode c_Mo_part 100 = .ok (.getfield 123, 3) := by decide +kernel
theorem d_Mo_part_103 : decode c_Mo_part 103 = .ok (.iconst 1, 1) := by decide +kernel
theorem d_Mo_part_104 : decode c_Mo_part 104 = .ok (.iadd, 1) := by decide +kernel
theorem d_Mo_part_105 : decode c_Mo_part 105 = .ok (.putfield 123, 3) := by decide +kernel
theorem d_Mo_part_108 : decode c_Mo_part 108 = .ok (.aload_n 0, 1) := by decide +kernel
theorem d_Mo_part_109 : decode c_Mo_part 109 = .ok (.ldc 75, 2) := by decide +kernel
theorem d_Mo_part_111 : decode c_Mo_part 111 = .ok (.invokevirtual 61, 3) := by decide +kernel
theorem d_Mo_part_114 : decode c_Mo_part 114 = .ok (.ifCond .eq 13, 3) := by decide +kernel
theorem d_Mo_part_117 : decode c_Mo_part 117 = .ok (.aload_n 0, 1) := by decide +kernel
theorem d_Mo_part_118 : decode c_Mo_part 118 = .ok (.iconst 1, 1) := by decide +kernel
theorem d_Mo_part_119 : decode c_Mo_part 119 = .ok (.invokevirtual 138, 3) := by decide +kernel
theorem d_Mo_part_122 : decode c_Mo_part 122 = .ok (.aload_n 0, 1) := by decide +kernel
theorem d_Mo_part_123 : decode c_Mo_part 123 = .ok (.invokevirtual 148, 3) := by decide +kernel
theorem d_Mo_part_126 : decode c_Mo_part 126 = .ok (.ireturn, 1) := by decide +kernel
theorem d_Mo_part_127 : decode c_Mo_part 127 = .ok (.aload_n 0, 1) := by decide +kernel
theorem d_Mo_part_128 : decode c_Mo_part 128 = .ok (.getfield 49, 3) := by decide +kernel
theorem d_Mo_part_131 : decode c_Mo_part 131 = .ok (.iconst 2, 1) := by decide +kernel
theorem d_Mo_part_132 : decode c_Mo_part 132 = .ok (.if_icmp .ne 20, 3) := by decide +kernel
theorem d_Mo_part_135 : decode c_Mo_part 135 = .ok (.aload_n 0, 1) := by decide +kernel
theorem d_Mo_part_136 : decode c_Mo_part 136 = .ok (.iconst 0, 1) := by decide +kernel
theorem d_Mo_part_137 : decode c_Mo_part 137 = .ok (.invokevirtual 138, 3) := by decide +kernel
theorem d_Mo_part_140 : decode c_Mo_part 140 = .ok (.aload_n 0, 1) := by decide +kernel
theorem d_Mo_part_141 : decode c_Mo_part 141 = .ok (.aload_n 0, 1) := by decide +kernel
theorem d_Mo_part_142 : decode c_Mo_part 142 = .ok (.getfield 80, 3) := by decide +kernel
theorem d_Mo_part_145 : decode c_Mo_part 145 = .ok (.l2i, 1) := by decide +kernel
theorem d_Mo_part_146 : decode c_Mo_part 146 = .ok (.invokevirtual 138, 3) := by decide +kernel
theorem d_Mo_part_149 : decode c_Mo_part 149 = .ok (.goto 21, 3) := by decide +kernel
theorem d_Mo_part_152 : decode c_Mo_part 152 = .ok (.aload_n 0, 1) := by decide +kernel
theorem d_Mo_part_153 : decode c_Mo_part 153 = .ok (.aload_n 0, 1) := by decide +kernel
theorem d_Mo_part_154 : decode c_Mo_part 154 = .ok (.ldc 71, 2) := by decide +kernel
theorem d_Mo_part_156 : decode c_Mo_part 156 = .ok (.invokevirtual 61, 3) := by decide +kernel
theorem d_Mo_part_159 : decode c_Mo_part 159 = .ok (.ifCond .eq 7, 3) := by decide +kernel
theorem d_Mo_part_162 : decode c_Mo_part 162 = .ok (.iconst 2, 1) := by decide +kernel
theorem d_Mo_part_163 : decode c_Mo_part 163 = .ok (.goto 4, 3) := by decide +kernel
theorem d_Mo_part_166 : decode c_Mo_part 166 = .ok (.iconst 3, 1) := by decide +kernel
theorem d_Mo_part_167 : decode c_Mo_part 167 = .ok (.invokevirtual 138, 3) := by decide +kernel
theorem d_Mo_part_170 : decode c_Mo_part 170 = .ok (.aload_n 0, 1) := by decide +kernel
theorem d_Mo_part_171 : decode c_Mo_part 171 = .ok (.invokevirtual 117, 3) := by decide +kernel
theorem d_Mo_part_174 : decode c_Mo_part 174 = .ok (.iconst 1, 1) := by decide +kernel
theorem d_Mo_part_175 : decode c_Mo_part 175 = .ok (.ireturn, 1) := by decide +kernel
theorem d_Mo_take_0 : decode c_Mo_take 0 = .ok (.aload_n 0, 1) := by decide +kernel
theorem d_Mo_take_1 : decode c_Mo_take 1 = .ok (.aload_n 1, 1) := by decide +kernel
theorem d_Mo_take_2 : decode c_Mo_take 2 = .ok (.invokevirtual 61, 3) := by decide +kernel
theorem d_Mo_take_5 : decode c_Mo_take 5 = .ok (.ifCond .ne 8, 3) := by decide +kernel
theorem d_Mo_take_8 : decode c_Mo_take 8 = .ok (.aload_n 0, 1) := by decide +kernel
theorem d_Mo_take_9 : decode c_Mo_take 9 = .ok (.invokevirtual 113, 3) := by decide +kernel
theorem d_Mo_take_12 : decode c_Mo_take 12 = .ok (.ireturn, 1) := by decide +kernel
theorem d_Mo_take_13 : decode c_Mo_take 13 = .ok (.aload_n 0, 1) := by decide +kernel
theorem d_Mo_take_14 : decode c_Mo_take 14 = .ok (.invokevirtual 117, 3) := by decide +kernel
theorem d_Mo_take_17 : decode c_Mo_take 17 = .ok (.iconst 1, 1) := by decide +kernel
theorem d_Mo_take_18 : decode c_Mo_take 18 = .ok (.ireturn, 1) := by decide +kernel
theorem d_Mo_cellZ_0 : decode c_Mo_cellZ 0 = .ok (.aload_n 0, 1) := by decide +kernel
theorem d_Mo_cellZ_1 : decode c_Mo_cellZ 1 = .ok (.ldc 75, 2) := by decide +kernel
theorem d_Mo_cellZ_3 : decode c_Mo_cellZ 3 = .ok (.invokevirtual 145, 3) := by decide +kernel
theorem d_Mo_cellZ_6 : decode c_Mo_cellZ 6 = .ok (.ifCond .ne 5, 3) := by decide +kernel
theorem d_Mo_cellZ_9 : decode c_Mo_cellZ 9 = .ok (.iconst 0, 1) := by decide +kernel
theorem d_Mo_cellZ_10 : decode c_Mo_cellZ 10 = .ok (.ireturn, 1) := by decide +kernel
theorem d_Mo_cellZ_11 : decode c_Mo_cellZ 11 = .ok (.aload_n 0, 1) := by decide +kernel
theorem d_Mo_cellZ_12 : decode c_Mo_cellZ 12 = .ok (.getfield 49, 3) := by decide +kernel
theorem d_Mo_cellZ_15 : decode c_Mo_cellZ 15 = .ok (.iconst 2, 1) := by decide +kernel
theorem d_Mo_cellZ_16 : decode c_Mo_cellZ 16 = .ok (.if_icmp .ne 14, 3) := by decide +kernel
theorem d_Mo_cellZ_19 : decode c_Mo_cellZ 19 = .ok (.aload_n 0, 1) := by decide +kernel
theorem d_Mo_cellZ_20 : decode c_Mo_cellZ 20 = .ok (.getfield 80, 3) := by decide +kernel
theorem d_Mo_cellZ_23 : decode c_Mo_cellZ 23 = .ok (.ldc2_w 158, 3) := by decide +kernel
theorem d_Mo_cellZ_26 : decode c_Mo_cellZ 26 = .ok (.lcmp, 1) := by decide +kernel
theorem d_Mo_cellZ_27 : decode c_Mo_cellZ 27 = .ok (.ifCond .lt 8, 3) := by decide +kernel
theorem d_Mo_cellZ_30 : decode c_Mo_cellZ 30 = .ok (.aload_n 0, 1) := by decide +kernel
theorem d_Mo_cellZ_31 : decode c_Mo_cellZ 31 = .ok (.invokevirtual 113, 3) := by decide +kernel
theorem d_Mo_cellZ_34 : decode c_Mo_cellZ 34 = .ok (.ireturn, 1) := by decide +kernel
theorem d_Mo_cellZ_35 : decode c_Mo_cellZ 35 = .ok (.aload_n 0, 1) := by decide +kernel
theorem d_Mo_cellZ_36 : decode c_Mo_cellZ 36 = .ok (.aload_n 0, 1) := by decide +kernel
theorem d_Mo_cellZ_37 : decode c_Mo_cellZ 37 = .ok (.getfield 80, 3) := by decide +kernel
theorem d_Mo_cellZ_40 : decode c_Mo_cellZ 40 = .ok (.l2i, 1) := by decide +kernel
theorem d_Mo_cellZ_41 : decode c_Mo_cellZ 41 = .ok (.invokevirtual 138, 3) := by decide +kernel
theorem d_Mo_cellZ_44 : decode c_Mo_cellZ 44 = .ok (.aload_n 0, 1) := by decide +kernel
theorem d_Mo_cellZ_45 : decode c_Mo_cellZ 45 = .ok (.invokevirtual 117, 3) := by decide +kernel
theorem d_Mo_cellZ_48 : decode c_Mo_cellZ 48 = .ok (.iconst 1, 1) := by decide +kernel
theorem d_Mo_cellZ_49 : decode c_Mo_cellZ 49 = .ok (.ireturn, 1) := by decide +kernel
theorem d_Ar_copyOf_0 : decode c_Ar_copyOf 0 = .ok (.iload_n 1, 1) := by decide +kernel
theorem d_Ar_copyOf_1 : decode c_Ar_copyOf 1 = .ok (.aload_n 0, 1) := by decide +kernel
theorem d_Ar_copyOf_2 : decode c_Ar_copyOf 2 = .ok (.arraylength, 1) := by decide +kernel
theorem d_Ar_copyOf_3 : decode c_Ar_copyOf 3 = .ok (.if_icmp .ne 11, 3) := by decide +kernel
theorem d_Ar_copyOf_6 : decode c_Ar_copyOf 6 = .ok (.aload_n 0, 1) := by decide +kernel
theorem d_Ar_copyOf_7 : decode c_Ar_copyOf 7 = .ok (.invokevirtual 316, 3) := by decide +kernel
theorem d_Ar_copyOf_10 : decode c_Ar_copyOf 10 = .ok (.checkcast 317, 3) := by decide +kernel
theorem d_Ar_copyOf_13 : decode c_Ar_copyOf 13 = .ok (.areturn, 1) := by decide +kernel
theorem d_Ar_copyOf_14 : decode c_Ar_copyOf 14 = .ok (.iload_n 1, 1) := by decide +kernel
theorem d_Ar_copyOf_15 : decode c_Ar_copyOf 15 = .ok (.newarray .int, 2) := by decide +kernel
theorem d_Ar_copyOf_17 : decode c_Ar_copyOf 17 = .ok (.astore_n 2, 1) := by decide +kernel
theorem d_Ar_copyOf_18 : decode c_Ar_copyOf 18 = .ok (.aload_n 0, 1) := by decide +kernel
theorem d_Ar_copyOf_19 : decode c_Ar_copyOf 19 = .ok (.iconst 0, 1) := by decide +kernel
theorem d_Ar_copyOf_20 : decode c_Ar_copyOf 20 = .ok (.aload_n 2, 1) := by decide +kernel
theorem d_Ar_copyOf_21 : decode c_Ar_copyOf 21 = .ok (.iconst 0, 1) := by decide +kernel
theorem d_Ar_copyOf_22 : decode c_Ar_copyOf 22 = .ok (.aload_n 0, 1) := by decide +kernel
theorem d_Ar_copyOf_23 : decode c_Ar_copyOf 23 = .ok (.arraylength, 1) := by decide +kernel
theorem d_Ar_copyOf_24 : decode c_Ar_copyOf 24 = .ok (.iload_n 1, 1) := by decide +kernel
theorem d_Ar_copyOf_25 : decode c_Ar_copyOf 25 = .ok (.invokestatic 304, 3) := by decide +kernel
theorem d_Ar_copyOf_28 : decode c_Ar_copyOf 28 = .ok (.invokestatic 150, 3) := by decide +kernel
theorem d_Ar_copyOf_31 : decode c_Ar_copyOf 31 = .ok (.aload_n 2, 1) := by decide +kernel
theorem d_Ar_copyOf_32 : decode c_Ar_copyOf 32 = .ok (.areturn, 1) := by decide +kernel
theorem d_Mt_min_0 : decode c_Mt_min 0 = .ok (.iload_n 0, 1) := by decide +kernel
theorem d_Mt_min_1 : decode c_Mt_min 1 = .ok (.iload_n 1, 1) := by decide +kernel
theorem d_Mt_min_2 : decode c_Mt_min 2 = .ok (.if_icmp .gt 7, 3) := by decide +kernel
theorem d_Mt_min_5 : decode c_Mt_min 5 = .ok (.iload_n 0, 1) := by decide +kernel
theorem d_Mt_min_6 : decode c_Mt_min 6 = .ok (.goto 4, 3) := by decide +kernel
theorem d_Mt_min_9 : decode c_Mt_min 9 = .ok (.iload_n 1, 1) := by decide +kernel
theorem d_Mt_min_10 : decode c_Mt_min 10 = .ok (.ireturn, 1) := by decide +kernel
theorem d_Mo_run_0 : decode c_Mo_run 0 = .ok (.aload_n 0, 1) := by decide +kernel
theorem d_Mo_run_1 : decode c_Mo_run 1 = .ok (.getfield 135, 3) := by decide +kernel
theorem d_Mo_run_4 : decode c_Mo_run 4 = .ok (.ifnonnull 6, 3) := by decide +kernel
theorem d_Mo_run_7 : decode c_Mo_run 7 = .ok (.bipush (-2), 2) := by decide +kernel
theorem d_Mo_run_9 : decode c_Mo_run 9 = .ok (.ireturn, 1) := by decide +kernel
theorem d_Mo_run_10 : decode c_Mo_run 10 = .ok (.aload_n 0, 1) := by decide +kernel
theorem d_Mo_run_11 : decode c_Mo_run 11 = .ok (.getfield 198, 3) := by decide +kernel
theorem d_Mo_run_14 : decode c_Mo_run 14 = .ok (.sipush 200, 3) := by decide +kernel
theorem d_Mo_run_17 : decode c_Mo_run 17 = .ok (.if_icmp .ne 6, 3) := by decide +kernel
theorem d_Mo_run_20 : decode c_Mo_run 20 = .ok (.bipush (-3), 2) := by decide +kernel
theorem d_Mo_run_22 : decode c_Mo_run 22 = .ok (.ireturn, 1) := by decide +kernel
theorem d_Mo_run_23 : decode c_Mo_run 23 = .ok (.aload_n 0, 1) := by decide +kernel
theorem d_Mo_run_24 : decode c_Mo_run 24 = .ok (.getfield 20, 3) := by decide +kernel
theorem d_Mo_run_27 : decode c_Mo_run 27 = .ok (.iconst 0, 1) := by decide +kernel
theorem d_Mo_run_28 : decode c_Mo_run 28 = .ok (.aload_n 0, 1) := by decide +kernel
theorem d_Mo_run_29 : decode c_Mo_run 29 = .ok (.getfield 13, 3) := by decide +kernel
theorem d_Mo_run_32 : decode c_Mo_run 32 = .ok (.bipush 32, 2) := by decide +kernel
theorem d_Mo_run_34 : decode c_Mo_run 34 = .ok (.aload_n 0, 1) := by decide +kernel
theorem d_Mo_run_35 : decode c_Mo_run 35 = .ok (.getfield 198, 3) := by decide +kernel
theorem d_Mo_run_38 : decode c_Mo_run 38 = .ok (.imul, 1) := by decide +kernel
theorem d_Mo_run_39 : decode c_Mo_run 39 = .ok (.bipush 32, 2) := by decide +kernel
theorem d_Mo_run_41 : decode c_Mo_run 41 = .ok (.invokestatic 201, 3) := by decide +kernel
theorem d_Mo_run_44 : decode c_Mo_run 44 = .ok (.aload_n 0, 1) := by decide +kernel
theorem d_Mo_run_45 : decode c_Mo_run 45 = .ok (.dup, 1) := by decide +kernel
theorem d_Mo_run_46 : decode c_Mo_run 46 = .ok (.getfield 198, 3) := by decide +kernel
theorem d_Mo_run_49 : decode c_Mo_run 49 = .ok (.iconst 1, 1) := by decide +kernel
theorem d_Mo_run_50 : decode c_Mo_run 50 = .ok (.iadd, 1) := by decide +kernel
theorem d_Mo_run_51 : decode c_Mo_run 51 = .ok (.putfield 198, 3) := by decide +kernel
theorem d_Mo_run_54 : decode c_Mo_run 54 = .ok (.aload_n 0, 1) := by decide +kernel
theorem d_Mo_run_55 : decode c_Mo_run 55 = .ok (.iload_n 1, 1) := by decide +kernel
theorem d_Mo_run_56 : decode c_Mo_run 56 = .ok (.iload_n 2, 1) := by decide +kernel
theorem d_Mo_run_57 : decode c_Mo_run 57 = .ok (.invokevirtual 207, 3) := by decide +kernel
theorem d_Mo_run_60 : decode c_Mo_run 60 = .ok (.ireturn, 1) := by decide +kernel
theorem d_Mo_perform_0 : decode c_Mo_perform 0 = .ok (.aload_n 0, 1) := by decide +kernel
theorem d_Mo_perform_1 : decode c_Mo_perform 1 = .ok (.getfield 135, 3) := by decide +kernel
theorem d_Mo_perform_4 : decode c_Mo_perform 4 = .ok (.astore_n 3, 1) := by decide +kernel
theorem d_Mo_perform_5 : decode c_Mo_perform 5 = .ok (.iconst 1, 1) := by decide +kernel
theorem d_Mo_perform_6 : decode c_Mo_perform 6 = .ok (.istore 4, 2) := by decide +kernel
theorem d_Mo_perform_8 : decode c_Mo_perform 8 = .ok (.iload 4, 2) := by decide +kernel
theorem d_Mo_perform_10 : decode c_Mo_perform 10 = .ok (.aload_n 3, 1) := by decide +kernel
theorem d_Mo_perform_11 : decode c_Mo_perform 11 = .ok (.iconst 0, 1) := by decide +kernel
theorem d_Mo_perform_12 : decode c_Mo_perform 12 = .ok (.iaload, 1) := by decide +kernel
theorem d_Mo_perform_13 : decode c_Mo_perform 13 = .ok (.if_icmp .gt 137, 3) := by decide +kernel
theorem d_Mo_perform_16 : decode c_Mo_perform 16 = .ok (.aload_n 0, 1) := by decide +kernel
theorem d_Mo_perform_17 : decode c_Mo_perform 17 = .ok (.aload_n 3, 1) := by decide +kernel
theorem d_Mo_perform_18 : decode c_Mo_perform 18 = .ok (.iload 4, 2) := by decide +kernel
theorem d_Mo_perform_20 : decode c_Mo_perform 20 = .ok (.iaload, 1) := by decide +kernel
theorem d_Mo_perform_21 : decode c_Mo_perform 21 = .ok (.putfield 187, 3) := by decide +kernel
theorem d_Mo_perform_24 : decode c_Mo_perform 24 = .ok (.aload_n 0, 1) := by decide +kernel
theorem d_Mo_perform_25 : decode c_Mo_perform 25 = .ok (.iload_n 1, 1) := by decide +kernel
theorem d_Mo_perform_26 : decode c_Mo_perform 26 = .ok (.iload_n 2, 1) := by decide +kernel
theorem d_Mo_perform_27 : decode c_Mo_perform 27 = .ok (.invokevirtual 194, 3) := by decide +kernel
theorem d_Mo_perform_30 : decode c_Mo_perform 30 = .ok (.ifCond .ne 6, 3) := by decide +kernel
theorem d_Mo_perform_33 : decode c_Mo_perform 33 = .ok (.goto 111, 3) := by decide +kernel
theorem d_Mo_perform_36 : decode c_Mo_perform 36 = .ok (.aload_n 3, 1) := by decide +kernel
theorem d_Mo_perform_37 : decode c_Mo_perform 37 = .ok (.aload_n 0, 1) := by decide +kernel
theorem d_Mo_perform_38 : decode c_Mo_perform 38 = .ok (.getfield 187, 3) := by decide +kernel
theorem d_Mo_perform_41 : decode c_Mo_perform 41 = .ok (.iaload, 1) := by decide +kernel
theorem d_Mo_perform_42 : decode c_Mo_perform 42 = .ok (.istore 5, 2) := by decide +kernel
theorem d_Mo_perform_44 : decode c_Mo_perform 44 = .ok (.aload_n 0, 1) := by decide +kernel
theorem d_Mo_perform_45 : decode c_Mo_perform 45 = .ok (.dup, 1) := by decide +kernel
theorem d_Mo_perform_46 : decode c_Mo_perform 46 = .ok (.getfield 187, 3) := by decide +kernel
theorem d_Mo_perform_49 : decode c_Mo_perform 49 = .ok (.iconst 1, 1) := by decide +kernel
theorem d_Mo_perform_50 : decode c_Mo_perform 50 = .ok (.iadd, 1) := by decide +kernel
theorem d_Mo_perform_51 : decode c_Mo_perform 51 = .ok (.putfield 187, 3) := by decide +kernel
theorem d_Mo_perform_54 : decode c_Mo_perform 54 = .ok (.iconst 0, 1) := by decide +kernel
theorem d_Mo_perform_55 : decode c_Mo_perform 55 = .ok (.istore 6, 2) := by decide +kernel
theorem d_Mo_perform_57 : decode c_Mo_perform 57 = .ok (.iload 6, 2) := by decide +kernel
theorem d_Mo_perform_59 : decode c_Mo_perform 59 = .ok (.iload 5, 2) := by decide +kernel
theorem d_Mo_perform_61 : decode c_Mo_perform 61 = .ok (.if_icmp .ge 45, 3) := by decide +kernel
theorem d_Mo_perform_64 : decode c_Mo_perform 64 = .ok (.aload_n 0, 1) := by decide +kernel
theorem d_Mo_perform_65 : decode c_Mo_perform 65 = .ok (.getfield 29, 3) := by decide +kernel
theorem d_Mo_perform_68 : decode c_Mo_perform 68 = .ok (.iload 6, 2) := by decide +kernel
theorem d_Mo_perform_70 : decode c_Mo_perform 70 = .ok (.aload_n 3, 1) := by decide +kernel
theorem d_Mo_perform_71 : decode c_Mo_perform 71 = .ok (.aload_n 0, 1) := by decide +kernel
theorem d_Mo_perform_72 : decode c_Mo_perform 72 = .ok (.getfield 187, 3) := by decide +kernel
theorem d_Mo_perform_75 : decode c_Mo_perform 75 = .ok (.iaload, 1) := by decide +kernel
theorem d_Mo_perform_76 : decode c_Mo_perform 76 = .ok (.iastore, 1) := by decide +kernel
theorem d_Mo_perform_77 : decode c_Mo_perform 77 = .ok (.aload_n 0, 1) := by decide +kernel
theorem d_Mo_perform_78 : decode c_Mo_perform 78 = .ok (.dup, 1) := by decide +kernel
theorem d_Mo_perform_79 : decode c_Mo_perform 79 = .ok (.getfield 187, 3) := by decide +kernel
theorem d_Mo_perform_82 : decode c_Mo_perform 82 = .ok (.iconst 1, 1) := by decide +kernel
theorem d_Mo_perform_83 : decode c_Mo_perform 83 = .ok (.iadd, 1) := by decide +kernel
theorem d_Mo_perform_84 : decode c_Mo_perform 84 = .ok (.putfield 187, 3) := by decide +kernel
theorem d_Mo_perform_87 : decode c_Mo_perform 87 = .ok (.aload_n 0, 1) := by decide +kernel
theorem d_Mo_perform_88 : decode c_Mo_perform 88 = .ok (.getfield 26, 3) := by decide +kernel
theorem d_Mo_perform_91 : decode c_Mo_perform 91 = .ok (.iload 6, 2) := by decide +kernel
theorem d_Mo_perform_93 : decode c_Mo_perform 93 = .ok (.aload_n 0, 1) := by decide +kernel
theorem d_Mo_perform_94 : decode c_Mo_perform 94 = .ok (.iload_n 1, 1) := by decide +kernel
theorem d_Mo_perform_95 : decode c_Mo_perform 95 = .ok (.iload_n 2, 1) := by decide +kernel
theorem d_Mo_perform_96 : decode c_Mo_perform 96 = .ok (.invokevirtual 190, 3) := by decide +kernel
theorem d_Mo_perform_99 : decode c_Mo_perform 99 = .ok (.iastore, 1) := by decide +kernel
theorem d_Mo_perform_100 : decode c_Mo_perform 100 = .ok (.iinc 6 1, 3) := by decide +kernel
theorem d_Mo_perform_103 : decode c_Mo_perform 103 = .ok (.goto (-46), 3) := by decide +kernel
theorem d_Mo_perform_106 : decode c_Mo_perform 106 = .ok (.iconst 0, 1) := by decide +kernel
theorem d_Mo_perform_107 : decode c_Mo_perform 107 = .ok (.istore 6, 2) := by decide +kernel
theorem d_Mo_perform_109 : decode c_Mo_perform 109 = .ok (.iload 6, 2) := by decide +kernel
theorem d_Mo_perform_111 : decode c_Mo_perform 111 = .ok (.iload 5, 2) := by decide +kernel
theorem d_Mo_perform_113 : decode c_Mo_perform 113 = .ok (.if_icmp .ge 28, 3) := by decide +kernel
theorem d_Mo_perform_116 : decode c_Mo_perform 116 = .ok (.aload_n 0, 1) := by decide +kernel
theorem d_Mo_perform_117 : decode c_Mo_perform 117 = .ok (.getfield 20, 3) := by decide +kernel
theorem d_Mo_perform_120 : decode c_Mo_perform 120 = .ok (.aload_n 0, 1) := by decide +kernel
theorem d_Mo_perform_121 : decode c_Mo_perform 121 = .ok (.getfield 29, 3) := by decide +kernel
theorem d_Mo_perform_124 : decode c_Mo_perform 124 = .ok (.iload 6, 2) := by decide +kernel
theorem d_Mo_perform_126 : decode c_Mo_perform 126 = .ok (.iaload, 1) := by decide +kernel
theorem d_Mo_perform_127 : decode c_Mo_perform 127 = .ok (.aload_n 0, 1) := by decide +kernel
theorem d_Mo_perform_128 : decode c_Mo_perform 128 = .ok (.getfield 26, 3) := by decide +kernel
theorem d_Mo_perform_131 : decode c_Mo_perform 131 = .ok (.iload 6, 2) := by decide +kernel
theorem d_Mo_perform_133 : decode c_Mo_perform 133 = .ok (.iaload, 1) := by decide +kernel
theorem d_Mo_perform_134 : decode c_Mo_perform 134 = .ok (.iastore, 1) := by decide +kernel
theorem d_Mo_perform_135 : decode c_Mo_perform 135 = .ok (.iinc 6 1, 3) := by decide +kernel
theorem d_Mo_perform_138 : decode c_Mo_perform 138 = .ok (.goto (-29), 3) := by decide +kernel
theorem d_Mo_perform_141 : decode c_Mo_perform 141 = .ok (.iload 4, 2) := by decide +kernel
theorem d_Mo_perform_143 : decode c_Mo_perform 143 = .ok (.ireturn, 1) := by decide +kernel
theorem d_Mo_perform_144 : decode c_Mo_perform 144 = .ok (.iinc 4 1, 3) := by decide +kernel
theorem d_Mo_perform_147 : decode c_Mo_perform 147 = .ok (.goto (-139), 3) := by decide +kernel
theorem d_Mo_perform_150 : decode c_Mo_perform 150 = .ok (.iconst 0, 1) := by decide +kernel
theorem d_Mo_perform_151 : decode c_Mo_perform 151 = .ok (.ireturn, 1) := by decide +kernel
theorem d_Mo_holds_0 : decode c_Mo_holds 0 = .ok (.aload_n 0, 1) := by decide +kernel
theorem d_Mo_holds_1 : decode c_Mo_holds 1 = .ok (.getfield 135, 3) := by decide +kernel
theorem d_Mo_holds_4 : decode c_Mo_holds 4 = .ok (.astore_n 3, 1) := by decide +kernel
theorem d_Mo_holds_5 : decode c_Mo_holds 5 = .ok (.aload_n 3, 1) := by decide +kernel
theorem d_Mo_holds_6 : decode c_Mo_holds 6 = .ok (.aload_n 0, 1) := by decide +kernel
theorem d_Mo_holds_7 : decode c_Mo_holds 7 = .ok (.getfield 187, 3) := by decide +kernel
theorem d_Mo_holds_10 : decode c_Mo_holds 10 = .ok (.iaload, 1) := by decide +kernel
theorem d_Mo_holds_11 : decode c_Mo_holds 11 = .ok (.istore 4, 2) := by decide +kernel
theorem d_Mo_holds_13 : decode c_Mo_holds 13 = .ok (.aload_n 0, 1) := by decide +kernel
theorem d_Mo_holds_14 : decode c_Mo_holds 14 = .ok (.dup, 1) := by decide +kernel
theorem d_Mo_holds_15 : decode c_Mo_holds 15 = .ok (.getfield 187, 3) := by decide +kernel
theorem d_Mo_holds_18 : decode c_Mo_holds 18 = .ok (.iconst 1, 1) := by decide +kernel
theorem d_Mo_holds_19 : decode c_Mo_holds 19 = .ok (.iadd, 1) := by decide +kernel
theorem d_Mo_holds_20 : decode c_Mo_holds 20 = .ok (.putfield 187, 3) := by decide +kernel
theorem d_Mo_holds_23 : decode c_Mo_holds 23 = .ok (.iconst 0, 1) := by decide +kernel
theorem d_Mo_holds_24 : decode c_Mo_holds 24 = .ok (.istore 5, 2) := by decide +kernel
theorem d_Mo_holds_26 : decode c_Mo_holds 26 = .ok (.iload 5, 2) := by decide +kernel
theorem d_Mo_holds_28 : decode c_Mo_holds 28 = .ok (.iload 4, 2) := by decide +kernel
theorem d_Mo_holds_30 : decode c_Mo_holds 30 = .ok (.if_icmp .ge 130, 3) := by decide +kernel
theorem d_Mo_holds_33 : decode c_Mo_holds 33 = .ok (.aload_n 3, 1) := by decide +kernel
theorem d_Mo_holds_34 : decode c_Mo_holds 34 = .ok (.aload_n 0, 1) := by decide +kernel
theorem d_Mo_holds_35 : decode c_Mo_holds 35 = .ok (.getfield 187, 3) := by decide +kernel
theorem d_Mo_holds_38 : decode c_Mo_holds 38 = .ok (.iaload, 1) := by decide +kernel
theorem d_Mo_holds_39 : decode c_Mo_holds 39 = .ok (.istore 6, 2) := by decide +kernel
theorem d_Mo_holds_41 : decode c_Mo_holds 41 = .ok (.aload_n 0, 1) := by decide +kernel
theorem d_Mo_holds_42 : decode c_Mo_holds 42 = .ok (.dup, 1) := by decide +kernel
theorem d_Mo_holds_43 : decode c_Mo_holds 43 = .ok (.getfield 187, 3) := by decide +kernel
theorem d_Mo_holds_46 : decode c_Mo_holds 46 = .ok (.iconst 1, 1) := by decide +kernel
theorem d_Mo_holds_47 : decode c_Mo_holds 47 = .ok (.iadd, 1) := by decide +kernel
theorem d_Mo_holds_48 : decode c_Mo_holds 48 = .ok (.putfield 187, 3) := by decide +kernel
theorem d_Mo_holds_51 : decode c_Mo_holds 51 = .ok (.aload_n 0, 1) := by decide +kernel
theorem d_Mo_holds_52 : decode c_Mo_holds 52 = .ok (.iload_n 1, 1) := by decide +kernel
theorem d_Mo_holds_53 : decode c_Mo_holds 53 = .ok (.iload_n 2, 1) := by decide +kernel
theorem d_Mo_holds_54 : decode c_Mo_holds 54 = .ok (.invokevirtual 190, 3) := by decide +kernel
theorem d_Mo_holds_57 : decode c_Mo_holds 57 = .ok (.istore 7, 2) := by decide +kernel
theorem d_Mo_holds_59 : decode c_Mo_holds 59 = .ok (.aload_n 0, 1) := by decide +kernel
theorem d_Mo_holds_60 : decode c_Mo_holds 60 = .ok (.iload_n 1, 1) := by decide +kernel
theorem d_Mo_holds_61 : decode c_Mo_holds 61 = .ok (.iload_n 2, 1) := by decide +kernel
theorem d_Mo_holds_62 : decode c_Mo_holds 62 = .ok (.invokevirtual 190, 3) := by decide +kernel
theorem d_Mo_holds_65 : decode c_Mo_holds 65 = .ok (.istore 8, 2) := by decide +kernel
theorem d_Mo_holds_67 : decode c_Mo_holds 67 = .ok (.iload 6, 2) := by decide +kernel
theorem d_Mo_holds_69 : decode c_Mo_holds 69 = .ok (.bipush 61, 2) := by decide +kernel
theorem d_Mo_holds_71 : decode c_Mo_holds 71 = .ok (.if_icmp .ne 18, 3) := by decide +kernel
theorem d_Mo_holds_74 : decode c_Mo_holds 74 = .ok (.iload 7, 2) := by decide +kernel
theorem d_Mo_holds_76 : decode c_Mo_holds 76 = .ok (.iload 8, 2) := by decide +kernel
theorem d_Mo_holds_78 : decode c_Mo_holds 78 = .ok (.if_icmp .ne 7, 3) := by decide +kernel
theorem d_Mo_holds_81 : decode c_Mo_holds 81 = .ok (.iconst 1, 1) := by decide +kernel
theorem d_Mo_holds_82 : decode c_Mo_holds 82 = .ok (.goto 63, 3) := by decide +kernel
theorem d_Mo_holds_85 : decode c_Mo_holds 85 = .ok (.iconst 0, 1) := by decide +kernel
theorem d_Mo_holds_86 : decode c_Mo_holds 86 = .ok (.goto 59, 3) := by decide +kernel
theorem d_Mo_holds_89 : decode c_Mo_holds 89 = .ok (.iload 6, 2) := by decide +kernel
theorem d_Mo_holds_91 : decode c_Mo_holds 91 = .ok (.bipush 35, 2) := by decide +kernel
theorem d_Mo_holds_93 : decode c_Mo_holds 93 = .ok (.if_icmp .ne 18, 3) := by decide +kernel
theorem d_Mo_holds_96 : decode c_Mo_holds 96 = .ok (.iload 7, 2) := by decide +kernel
theorem d_Mo_holds_98 : decode c_Mo_holds 98 = .ok (.iload 8, 2) := by decide +kernel
theorem d_Mo_holds_100 : decode c_Mo_holds 100 = .ok (.if_icmp .eq 7, 3) := by decide +kernel
theorem d_Mo_holds_103 : decode c_Mo_holds 103 = .ok (.iconst 1, 1) := by decide +kernel
theorem d_Mo_holds_104 : decode c_Mo_holds 104 = .ok (.goto 41, 3) := by decide +kernel
theorem d_Mo_holds_107 : decode c_Mo_holds 107 = .ok (.iconst 0, 1) := by decide +kernel
theorem d_Mo_holds_108 : decode c_Mo_holds 108 = .ok (.goto 37, 3) := by decide +kernel
theorem d_Mo_holds_111 : decode c_Mo_holds 111 = .ok (.iload 6, 2) := by decide +kernel
theorem d_Mo_holds_113 : decode c_Mo_holds 113 = .ok (.bipush 60, 2) := by decide +kernel
theorem d_Mo_holds_115 : decode c_Mo_holds 115 = .ok (.if_icmp .ne 18, 3) := by decide +kernel
theorem d_Mo_holds_118 : decode c_Mo_holds 118 = .ok (.iload 7, 2) := by decide +kernel
theorem d_Mo_holds_120 : decode c_Mo_holds 120 = .ok (.iload 8, 2) := by decide +kernel
theorem d_Mo_holds_122 : decode c_Mo_holds 122 = .ok (.if_icmp .ge 7, 3) := by decide +kernel
theorem d_Mo_holds_125 : decode c_Mo_holds 125 = .ok (.iconst 1, 1) := by decide +kernel
theorem d_Mo_holds_126 : decode c_Mo_holds 126 = .ok (.goto 19, 3) := by decide +kernel
theorem d_Mo_holds_129 : decode c_Mo_holds 129 = .ok (.iconst 0, 1) := by decide +kernel
theorem d_Mo_holds_130 : decode c_Mo_holds 130 = .ok (.goto 15, 3) := by decide +kernel
theorem d_Mo_holds_133 : decode c_Mo_holds 133 = .ok (.iload 7, 2) := by decide +kernel
theorem d_Mo_holds_135 : decode c_Mo_holds 135 = .ok (.iload 8, 2) := by decide +kernel
theorem d_Mo_holds_137 : decode c_Mo_holds 137 = .ok (.if_icmp .le 7, 3) := by decide +kernel
theorem d_Mo_holds_140 : decode c_Mo_holds 140 = .ok (.iconst 1, 1) := by decide +kernel
theorem d_Mo_holds_141 : decode c_Mo_holds 141 = .ok (.goto 4, 3) := by decide +kernel
theorem d_Mo_holds_144 : decode c_Mo_holds 144 = .ok (.iconst 0, 1) := by decide +kernel
theorem d_Mo_holds_145 : decode c_Mo_holds 145 = .ok (.istore 9, 2) := by decide +kernel
theorem d_Mo_holds_147 : decode c_Mo_holds 147 = .ok (.iload 9, 2) := by decide +kernel
theorem d_Mo_holds_149 : decode c_Mo_holds 149 = .ok (.ifCond .ne 5, 3) := by decide +kernel
theorem d_Mo_holds_152 : decode c_Mo_holds 152 = .ok (.iconst 0, 1) := by decide +kernel
theorem d_Mo_holds_153 : decode c_Mo_holds 153 = .ok (.ireturn, 1) := by decide +kernel
theorem d_Mo_holds_154 : decode c_Mo_holds 154 = .ok (.iinc 5 1, 3) := by decide +kernel
theorem d_Mo_holds_157 : decode c_Mo_holds 157 = .ok (.goto (-131), 3) := by decide +kernel
theorem d_Mo_holds_160 : decode c_Mo_holds 160 = .ok (.iconst 1, 1) := by decide +kernel
theorem d_Mo_holds_161 : decode c_Mo_holds 161 = .ok (.ireturn, 1) := by decide +kernel
theorem d_Mo_value_0 : decode c_Mo_value 0 = .ok (.aload_n 0, 1) := by decide +kernel
theorem d_Mo_value_1 : decode c_Mo_value 1 = .ok (.getfield 135, 3) := by decide +kernel
theorem d_Mo_value_4 : decode c_Mo_value 4 = .ok (.astore_n 3, 1) := by decide +kernel
theorem d_Mo_value_5 : decode c_Mo_value 5 = .ok (.iconst 0, 1) := by decide +kernel
theorem d_Mo_value_6 : decode c_Mo_value 6 = .ok (.istore 4, 2) := by decide +kernel
theorem d_Mo_value_8 : decode c_Mo_value 8 = .ok (.aload_n 3, 1) := by decide +kernel
theorem d_Mo_value_9 : decode c_Mo_value 9 = .ok (.aload_n 0, 1) := by decide +kernel
theorem d_Mo_value_10 : decode c_Mo_value 10 = .ok (.getfield 187, 3) := by decide +kernel
theorem d_Mo_value_13 : decode c_Mo_value 13 = .ok (.iaload, 1) := by decide +kernel
theorem d_Mo_value_14 : decode c_Mo_value 14 = .ok (.bipush 7, 2) := by decide +kernel
theorem d_Mo_value_16 : decode c_Mo_value 16 = .ok (.if_icmp .eq 185, 3) := by decide +kernel
theorem d_Mo_value_19 : decode c_Mo_value 19 = .ok (.aload_n 3, 1) := by decide +kernel
theorem d_Mo_value_20 : decode c_Mo_value 20 = .ok (.aload_n 0, 1) := by decide +kernel
theorem d_Mo_value_21 : decode c_Mo_value 21 = .ok (.getfield 187, 3) := by decide +kernel
theorem d_Mo_value_24 : decode c_Mo_value 24 = .ok (.iaload, 1) := by decide +kernel
theorem d_Mo_value_25 : decode c_Mo_value 25 = .ok (.istore 5, 2) := by decide +kernel
theorem d_Mo_value_27 : decode c_Mo_value 27 = .ok (.aload_n 0, 1) := by decide +kernel
theorem d_Mo_value_28 : decode c_Mo_value 28 = .ok (.dup, 1) := by decide +kernel
theorem d_Mo_value_29 : decode c_Mo_value 29 = .ok (.getfield 187, 3) := by decide +kernel
theorem d_Mo_value_32 : decode c_Mo_value 32 = .ok (.iconst 1, 1) := by decide +kernel
theorem d_Mo_value_33 : decode c_Mo_value 33 = .ok (.iadd, 1) := by decide +kernel
theorem d_Mo_value_34 : decode c_Mo_value 34 = .ok (.putfield 187, 3) := by decide +kernel
theorem d_Mo_value_37 : decode c_Mo_value 37 = .ok (.iload 5, 2) := by decide +kernel
theorem d_Mo_value_39 : decode c_Mo_value 39 = .ok (.iconst 3, 1) := by decide +kernel
theorem d_Mo_value_40 : decode c_Mo_value 40 = .ok (.if_icmp .gt 77, 3) := by decide +kernel
theorem d_Mo_value_43 : decode c_Mo_value 43 = .ok (.aload_n 0, 1) := by decide +kernel
theorem d_Mo_value_44 : decode c_Mo_value 44 = .ok (.getfield 23, 3) := by decide +kernel
theorem d_Mo_value_47 : decode c_Mo_value 47 = .ok (.iload 4, 2) := by decide +kernel
theorem d_Mo_value_49 : decode c_Mo_value 49 = .ok (.iload 5, 2) := by decide +kernel
theorem d_Mo_value_51 : decode c_Mo_value 51 = .ok (.ifCond .ne 12, 3) := by decide +kernel
theorem d_Mo_value_54 : decode c_Mo_value 54 = .ok (.aload_n 3, 1) := by decide +kernel
theorem d_Mo_value_55 : decode c_Mo_value 55 = .ok (.aload_n 0, 1) := by decide +kernel
theorem d_Mo_value_56 : decode c_Mo_value 56 = .ok (.getfield 187, 3) := by decide +kernel
theorem d_Mo_value_59 : decode c_Mo_value 59 = .ok (.iaload, 1) := by decide +kernel
theorem d_Mo_value_60 : decode c_Mo_value 60 = .ok (.goto 34, 3) := by decide +kernel
theorem d_Mo_value_63 : decode c_Mo_value 63 = .ok (.iload 5, 2) := by decide +kernel
theorem d_Mo_value_65 : decode c_Mo_value 65 = .ok (.iconst 1, 1) := by decide +kernel
theorem d_Mo_value_66 : decode c_Mo_value 66 = .ok (.if_icmp .ne 17, 3) := by decide +kernel
theorem d_Mo_value_69 : decode c_Mo_value 69 = .ok (.aload_n 0, 1) := by decide +kernel
theorem d_Mo_value_70 : decode c_Mo_value 70 = .ok (.getfield 20, 3) := by decide +kernel
theorem d_Mo_value_73 : decode c_Mo_value 73 = .ok (.aload_n 3, 1) := by decide +kernel
theorem d_Mo_value_74 : decode c_Mo_value 74 = .ok (.aload_n 0, 1) := by decide +kernel
theorem d_Mo_value_75 : decode c_Mo_value 75 = .ok (.getfield 187, 3) := by decide +kernel
theorem d_Mo_value_78 : decode c_Mo_value 78 = .ok (.iaload, 1) := by decide +kernel
theorem d_Mo_value_79 : decode c_Mo_value 79 = .ok (.iaload, 1) := by decide +kernel
theorem d_Mo_value_80 : decode c_Mo_value 80 = .ok (.goto 14, 3) := by decide +kernel
theorem d_Mo_value_83 : decode c_Mo_value 83 = .ok (.iload 5, 2) := by decide +kernel
theorem d_Mo_value_85 : decode c_Mo_value 85 = .ok (.iconst 2, 1) := by decide +kernel
theorem d_Mo_value_86 : decode c_Mo_value 86 = .ok (.if_icmp .ne 7, 3) := by decide +kernel
theorem d_Mo_value_89 : decode c_Mo_value 89 = .ok (.iload_n 1, 1) := by decide +kernel
theorem d_Mo_value_90 : decode c_Mo_value 90 = .ok (.goto 4, 3) := by decide +kernel
theorem d_Mo_value_93 : decode c_Mo_value 93 = .ok (.iload_n 2, 1) := by decide +kernel
theorem d_Mo_value_94 : decode c_Mo_value 94 = .ok (.iastore, 1) := by decide +kernel
theorem d_Mo_value_95 : decode c_Mo_value 95 = .ok (.iload 5, 2) := by decide +kernel
theorem d_Mo_value_97 : decode c_Mo_value 97 = .ok (.iconst 1, 1) := by decide +kernel
theorem d_Mo_value_98 : decode c_Mo_value 98 = .ok (.if_icmp .gt 13, 3) := by decide +kernel
theorem d_Mo_value_101 : decode c_Mo_value 101 = .ok (.aload_n 0, 1) := by decide +kernel
theorem d_Mo_value_102 : decode c_Mo_value 102 = .ok (.dup, 1) := by decide +kernel
theorem d_Mo_value_103 : decode c_Mo_value 103 = .ok (.getfield 187, 3) := by decide +kernel
theorem d_Mo_value_106 : decode c_Mo_value 106 = .ok (.iconst 1, 1) := by decide +kernel
theorem d_Mo_value_107 : decode c_Mo_value 107 = .ok (.iadd, 1) := by decide +kernel
theorem d_Mo_value_108 : decode c_Mo_value 108 = .ok (.putfield 187, 3) := by decide +kernel
theorem d_Mo_value_111 : decode c_Mo_value 111 = .ok (.iinc 4 1, 3) := by decide +kernel
theorem d_Mo_value_114 : decode c_Mo_value 114 = .ok (.goto 84, 3) := by decide +kernel
theorem d_Mo_value_117 : decode c_Mo_value 117 = .ok (.iinc 4 (-1), 3) := by decide +kernel
theorem d_Mo_value_120 : decode c_Mo_value 120 = .ok (.aload_n 0, 1) := by decide +kernel
theorem d_Mo_value_121 : decode c_Mo_value 121 = .ok (.getfield 23, 3) := by decide +kernel
theorem d_Mo_value_124 : decode c_Mo_value 124 = .ok (.iload 4, 2) := by decide +kernel
theorem d_Mo_value_126 : decode c_Mo_value 126 = .ok (.iconst 1, 1) := by decide +kernel
theorem d_Mo_value_127 : decode c_Mo_value 127 = .ok (.isub, 1) := by decide +kernel
theorem d_Mo_value_128 : decode c_Mo_value 128 = .ok (.iload 5, 2) := by decide +kernel
theorem d_Mo_value_130 : decode c_Mo_value 130 = .ok (.iconst 4, 1) := by decide +kernel
theorem d_Mo_value_131 : decode c_Mo_value 131 = .ok (.if_icmp .ne 23, 3) := by decide +kernel
theorem d_Mo_value_134 : decode c_Mo_value 134 = .ok (.aload_n 0, 1) := by decide +kernel
theorem d_Mo_value_135 : decode c_Mo_value 135 = .ok (.getfield 23, 3) := by decide +kernel
theorem d_Mo_value_138 : decode c_Mo_value 138 = .ok (.iload 4, 2) := by decide +kernel
theorem d_Mo_value_140 : decode c_Mo_value 140 = .ok (.iconst 1, 1) := by decide +kernel
theorem d_Mo_value_141 : decode c_Mo_value 141 = .ok (.isub, 1) := by decide +kernel
theorem d_Mo_value_142 : decode c_Mo_value 142 = .ok (.iaload, 1) := by decide +kernel
theorem d_Mo_value_143 : decode c_Mo_value 143 = .ok (.aload_n 0, 1) := by decide +kernel
theorem d_Mo_value_144 : decode c_Mo_value 144 = .ok (.getfield 23, 3) := by decide +kernel
theorem d_Mo_value_147 : decode c_Mo_value 147 = .ok (.iload 4, 2) := by decide +kernel
theorem d_Mo_value_149 : decode c_Mo_value 149 = .ok (.iaload, 1) := by decide +kernel
theorem d_Mo_value_150 : decode c_Mo_value 150 = .ok (.iadd, 1) := by decide +kernel
theorem d_Mo_value_151 : decode c_Mo_value 151 = .ok (.goto 46, 3) := by decide +kernel
theorem d_Mo_value_154 : decode c_Mo_value 154 = .ok (.iload 5, 2) := by decide +kernel
theorem d_Mo_value_156 : decode c_Mo_value 156 = .ok (.iconst 5, 1) := by decide +kernel
theorem d_Mo_value_157 : decode c_Mo_value 157 = .ok (.if_icmp .ne 23, 3) := by decide +kernel
theorem d_Mo_value_160 : decode c_Mo_value 160 = .ok (.aload_n 0, 1) := by decide +kernel
theorem d_Mo_value_161 : decode c_Mo_value 161 = .ok (.getfield 23, 3) := by decide +kernel
theorem d_Mo_value_164 : decode c_Mo_value 164 = .ok (.iload 4, 2) := by decide +kernel
theorem d_Mo_value_166 : decode c_Mo_value 166 = .ok (.iconst 1, 1) := by decide +kernel
theorem d_Mo_value_167 : decode c_Mo_value 167 = .ok (.isub, 1) := by decide +kernel
theorem d_Mo_value_168 : decode c_Mo_value 168 = .ok (.iaload, 1) := by decide +kernel
theorem d_Mo_value_169 : decode c_Mo_value 169 = .ok (.aload_n 0, 1) := by decide +kernel
theorem d_Mo_value_170 : decode c_Mo_value 170 = .ok (.getfield 23, 3) := by decide +kernel
theorem d_Mo_value_173 : decode c_Mo_value 173 = .ok (.iload 4, 2) := by decide +kernel
theorem d_Mo_value_175 : decode c_Mo_value 175 = .ok (.iaload, 1) := by decide +kernel
theorem d_Mo_value_176 : decode c_Mo_value 176 = .ok (.isub, 1) := by decide +kernel
theorem d_Mo_value_177 : decode c_Mo_value 177 = .ok (.goto 20, 3) := by decide +kernel
theorem d_Mo_value_180 : decode c_Mo_value 180 = .ok (.aload_n 0, 1) := by decide +kernel
theorem d_Mo_value_181 : decode c_Mo_value 181 = .ok (.getfield 23, 3) := by decide +kernel
theorem d_Mo_value_184 : decode c_Mo_value 184 = .ok (.iload 4, 2) := by decide +kernel
theorem d_Mo_value_186 : decode c_Mo_value 186 = .ok (.iconst 1, 1) := by decide +kernel
theorem d_Mo_value_187 : decode c_Mo_value 187 = .ok (.isub, 1) := by decide +kernel
theorem d_Mo_value_188 : decode c_Mo_value 188 = .ok (.iaload, 1) := by decide +kernel
theorem d_Mo_value_189 : decode c_Mo_value 189 = .ok (.aload_n 0, 1) := by decide +kernel
theorem d_Mo_value_190 : decode c_Mo_value 190 = .ok (.getfield 23, 3) := by decide +kernel
theorem d_Mo_value_193 : decode c_Mo_value 193 = .ok (.iload 4, 2) := by decide +kernel
theorem d_Mo_value_195 : decode c_Mo_value 195 = .ok (.iaload, 1) := by decide +kernel
theorem d_Mo_value_196 : decode c_Mo_value 196 = .ok (.imul, 1) := by decide +kernel
theorem d_Mo_value_197 : decode c_Mo_value 197 = .ok (.iastore, 1) := by decide +kernel
theorem d_Mo_value_198 : decode c_Mo_value 198 = .ok (.goto (-190), 3) := by decide +kernel
theorem d_Mo_value_201 : decode c_Mo_value 201 = .ok (.aload_n 0, 1) := by decide +kernel
theorem d_Mo_value_202 : decode c_Mo_value 202 = .ok (.dup, 1) := by decide +kernel
theorem d_Mo_value_203 : decode c_Mo_value 203 = .ok (.getfield 187, 3) := by decide +kernel
theorem d_Mo_value_206 : decode c_Mo_value 206 = .ok (.iconst 1, 1) := by decide +kernel
theorem d_Mo_value_207 : decode c_Mo_value 207 = .ok (.iadd, 1) := by decide +kernel
theorem d_Mo_value_208 : decode c_Mo_value 208 = .ok (.putfield 187, 3) := by decide +kernel
theorem d_Mo_value_211 : decode c_Mo_value 211 = .ok (.aload_n 0, 1) := by decide +kernel
theorem d_Mo_value_212 : decode c_Mo_value 212 = .ok (.getfield 23, 3) := by decide +kernel
theorem d_Mo_value_215 : decode c_Mo_value 215 = .ok (.iconst 0, 1) := by decide +kernel
theorem d_Mo_value_216 : decode c_Mo_value 216 = .ok (.iaload, 1) := by decide +kernel
theorem d_Mo_value_217 : decode c_Mo_value 217 = .ok (.ireturn, 1) := by decide +kernel
theorem d_Mo_undo_0 : decode c_Mo_undo 0 = .ok (.aload_n 0, 1) := by decide +kernel
theorem d_Mo_undo_1 : decode c_Mo_undo 1 = .ok (.getfield 198, 3) := by decide +kernel
theorem d_Mo_undo_4 : decode c_Mo_undo 4 = .ok (.ifCond .ne 6, 3) := by decide +kernel
theorem d_Mo_undo_7 : decode c_Mo_undo 7 = .ok (.bipush (-2), 2) := by decide +kernel
theorem d_Mo_undo_9 : decode c_Mo_undo 9 = .ok (.ireturn, 1) := by decide +kernel
theorem d_Mo_undo_10 : decode c_Mo_undo 10 = .ok (.aload_n 0, 1) := by decide +kernel
theorem d_Mo_undo_11 : decode c_Mo_undo 11 = .ok (.dup, 1) := by decide +kernel
theorem d_Mo_undo_12 : decode c_Mo_undo 12 = .ok (.getfield 198, 3) := by decide +kernel
theorem d_Mo_undo_15 : decode c_Mo_undo 15 = .ok (.iconst 1, 1) := by decide +kernel
theorem d_Mo_undo_16 : decode c_Mo_undo 16 = .ok (.isub, 1) := by decide +kernel
theorem d_Mo_undo_17 : decode c_Mo_undo 17 = .ok (.putfield 198, 3) := by decide +kernel
theorem d_Mo_undo_20 : decode c_Mo_undo 20 = .ok (.aload_n 0, 1) := by decide +kernel
theorem d_Mo_undo_21 : decode c_Mo_undo 21 = .ok (.getfield 13, 3) := by decide +kernel
theorem d_Mo_undo_24 : decode c_Mo_undo 24 = .ok (.bipush 32, 2) := by decide +kernel
theorem d_Mo_undo_26 : decode c_Mo_undo 26 = .ok (.aload_n 0, 1) := by decide +kernel
theorem d_Mo_undo_27 : decode c_Mo_undo 27 = .ok (.getfield 198, 3) := by decide +kernel
theorem d_Mo_undo_30 : decode c_Mo_undo 30 = .ok (.imul, 1) := by decide +kernel
theorem d_Mo_undo_31 : decode c_Mo_undo 31 = .ok (.aload_n 0, 1) := by decide +kernel
theorem d_Mo_undo_32 : decode c_Mo_undo 32 = .ok (.getfield 20, 3) := by decide +kernel
theorem d_Mo_undo_35 : decode c_Mo_undo 35 = .ok (.iconst 0, 1) := by decide +kernel
theorem d_Mo_undo_36 : decode c_Mo_undo 36 = .ok (.bipush 32, 2) := by decide +kernel
theorem d_Mo_undo_38 : decode c_Mo_undo 38 = .ok (.invokestatic 201, 3) := by decide +kernel
theorem d_Mo_undo_41 : decode c_Mo_undo 41 = .ok (.aload_n 0, 1) := by decide +kernel
theorem d_Mo_undo_42 : decode c_Mo_undo 42 = .ok (.getfield 198, 3) := by decide +kernel
theorem d_Mo_undo_45 : decode c_Mo_undo 45 = .ok (.ireturn, 1) := by decide +kernel
theorem d_Mo_cell_0 : decode c_Mo_cell 0 = .ok (.iload_n 1, 1) := by decide +kernel
theorem d_Mo_cell_1 : decode c_Mo_cell 1 = .ok (.iconst 0, 1) := by decide +kernel
theorem d_Mo_cell_2 : decode c_Mo_cell 2 = .ok (.bipush 31, 2) := by decide +kernel
theorem d_Mo_cell_4 : decode c_Mo_cell 4 = .ok (.invokestatic 36, 3) := by decide +kernel
theorem d_Mo_cell_7 : decode c_Mo_cell 7 = .ok (.ifCond .eq 13, 3) := by decide +kernel
theorem d_Mo_cell_10 : decode c_Mo_cell 10 = .ok (.aload_n 0, 1) := by decide +kernel
theorem d_Mo_cell_11 : decode c_Mo_cell 11 = .ok (.getfield 20, 3) := by decide +kernel
theorem d_Mo_cell_14 : decode c_Mo_cell 14 = .ok (.iload_n 1, 1) := by decide +kernel
theorem d_Mo_cell_15 : decode c_Mo_cell 15 = .ok (.iaload, 1) := by decide +kernel
theorem d_Mo_cell_16 : decode c_Mo_cell 16 = .ok (.i2l, 1) := by decide +kernel
theorem d_Mo_cell_17 : decode c_Mo_cell 17 = .ok (.goto 6, 3) := by decide +kernel
theorem d_Mo_cell_20 : decode c_Mo_cell 20 = .ok (.ldc2_w 84, 3) := by decide +kernel
theorem d_Mo_cell_23 : decode c_Mo_cell 23 = .ok (.lreturn, 1) := by decide +kernel
theorem d_Mo_set_0 : decode c_Mo_set 0 = .ok (.iload_n 1, 1) := by decide +kernel
theorem d_Mo_set_1 : decode c_Mo_set 1 = .ok (.iconst 0, 1) := by decide +kernel
theorem d_Mo_set_2 : decode c_Mo_set 2 = .ok (.bipush 31, 2) := by decide +kernel
theorem d_Mo_set_4 : decode c_Mo_set 4 = .ok (.invokestatic 36, 3) := by decide +kernel
theorem d_Mo_set_7 : decode c_Mo_set 7 = .ok (.ifCond .ne 5, 3) := by decide +kernel
theorem d_Mo_set_10 : decode c_Mo_set 10 = .ok (.iconst (-1), 1) := by decide +kernel
theorem d_Mo_set_11 : decode c_Mo_set 11 = .ok (.ireturn, 1) := by decide +kernel
theorem d_Mo_set_12 : decode c_Mo_set 12 = .ok (.aload_n 0, 1) := by decide +kernel
theorem d_Mo_set_13 : decode c_Mo_set 13 = .ok (.getfield 198, 3) := by decide +kernel
theorem d_Mo_set_16 : decode c_Mo_set 16 = .ok (.ifCond .le 6, 3) := by decide +kernel
theorem d_Mo_set_19 : decode c_Mo_set 19 = .ok (.bipush (-3), 2) := by decide +kernel
theorem d_Mo_set_21 : decode c_Mo_set 21 = .ok (.ireturn, 1) := by decide +kernel
theorem d_Mo_set_22 : decode c_Mo_set 22 = .ok (.aload_n 0, 1) := by decide +kernel
theorem d_Mo_set_23 : decode c_Mo_set 23 = .ok (.getfield 20, 3) := by decide +kernel
theorem d_Mo_set_26 : decode c_Mo_set 26 = .ok (.iload_n 1, 1) := by decide +kernel
theorem d_Mo_set_27 : decode c_Mo_set 27 = .ok (.iload_n 2, 1) := by decide +kernel
theorem d_Mo_set_28 : decode c_Mo_set 28 = .ok (.iastore, 1) := by decide +kernel
theorem d_Mo_set_29 : decode c_Mo_set 29 = .ok (.iconst 0, 1) := by decide +kernel
theorem d_Mo_set_30 : decode c_Mo_set 30 = .ok (.ireturn, 1) := by decide +kernel
theorem d_Mo_count_0 : decode c_Mo_count 0 = .ok (.iload_n 1, 1) := by decide +kernel
theorem d_Mo_count_1 : decode c_Mo_count 1 = .ok (.ifCond .ne 10, 3) := by decide +kernel
theorem d_Mo_count_4 : decode c_Mo_count 4 = .ok (.aload_n 0, 1) := by decide +kernel
theorem d_Mo_count_5 : decode c_Mo_count 5 = .ok (.getfield 198, 3) := by decide +kernel
theorem d_Mo_count_8 : decode c_Mo_count 8 = .ok (.goto 16, 3) := by decide +kernel
theorem d_Mo_count_11 : decode c_Mo_count 11 = .ok (.iload_n 1, 1) := by decide +kernel
theorem d_Mo_count_12 : decode c_Mo_count 12 = .ok (.iconst 1, 1) := by decide +kernel
theorem d_Mo_count_13 : decode c_Mo_count 13 = .ok (.if_icmp .ne 10, 3) := by decide +kernel
theorem d_Mo_count_16 : decode c_Mo_count 16 = .ok (.aload_n 0, 1) := by decide +kernel
theorem d_Mo_count_17 : decode c_Mo_count 17 = .ok (.getfield 32, 3) := by decide +kernel
theorem d_Mo_count_20 : decode c_Mo_count 20 = .ok (.goto 4, 3) := by decide +kernel
theorem d_Mo_count_23 : decode c_Mo_count 23 = .ok (.iconst (-1), 1) := by decide +kernel
theorem d_Mo_count_24 : decode c_Mo_count 24 = .ok (.ireturn, 1) := by decide +kernel
theorem d_La_law_0 : decode code 0 = .ok (.new 7, 3) := by decide +kernel
theorem d_La_law_3 : decode code 3 = .ok (.dup, 1) := by decide +kernel
theorem d_La_law_4 : decode code 4 = .ok (.invokespecial 9, 3) := by decide +kernel
theorem d_La_law_7 : decode code 7 = .ok (.astore_n 1, 1) := by decide +kernel
theorem d_La_law_8 : decode code 8 = .ok (.new 10, 3) := by decide +kernel
theorem d_La_law_11 : decode code 11 = .ok (.dup, 1) := by decide +kernel
theorem d_La_law_12 : decode code 12 = .ok (.invokespecial 12, 3) := by decide +kernel
theorem d_La_law_15 : decode code 15 = .ok (.astore_n 2, 1) := by decide +kernel
theorem d_La_law_16 : decode code 16 = .ok (.iconst 0, 1) := by decide +kernel
theorem d_La_law_17 : decode code 17 = .ok (.istore_n 3, 1) := by decide +kernel
theorem d_La_law_18 : decode code 18 = .ok (.iload_n 3, 1) := by decide +kernel
theorem d_La_law_19 : decode code 19 = .ok (.aload_n 0, 1) := by decide +kernel
theorem d_La_law_20 : decode code 20 = .ok (.arraylength, 1) := by decide +kernel
theorem d_La_law_21 : decode code 21 = .ok (.bipush 6, 2) := by decide +kernel
theorem d_La_law_23 : decode code 23 = .ok (.isub, 1) := by decide +kernel
theorem d_La_law_24 : decode code 24 = .ok (.if_icmp .gt 287, 3) := by decide +kernel
theorem d_La_law_27 : decode code 27 = .ok (.aload_n 0, 1) := by decide +kernel
theorem d_La_law_28 : decode code 28 = .ok (.iload_n 3, 1) := by decide +kernel
theorem d_La_law_29 : decode code 29 = .ok (.iaload, 1) := by decide +kernel
theorem d_La_law_30 : decode code 30 = .ok (.bipush 7, 2) := by decide +kernel
theorem d_La_law_32 : decode code 32 = .ok (.iand, 1) := by decide +kernel
theorem d_La_law_33 : decode code 33 = .ok (.tableswitch 272 0 7 #[47, 110, 133, 146, 179, 192, 216, 249], 47) := by decide +kernel
theorem d_La_law_80 : decode code 80 = .ok (.aload_n 1, 1) := by decide +kernel
theorem d_La_law_81 : decode code 81 = .ok (.aload_n 0, 1) := by decide +kernel
theorem d_La_law_82 : decode code 82 = .ok (.iload_n 3, 1) := by decide +kernel
theorem d_La_law_83 : decode code 83 = .ok (.iconst 1, 1) := by decide +kernel
theorem d_La_law_84 : decode code 84 = .ok (.iadd, 1) := by decide +kernel
theorem d_La_law_85 : decode code 85 = .ok (.iaload, 1) := by decide +kernel
theorem d_La_law_86 : decode code 86 = .ok (.aload_n 0, 1) := by decide +kernel
theorem d_La_law_87 : decode code 87 = .ok (.iload_n 3, 1) := by decide +kernel
theorem d_La_law_88 : decode code 88 = .ok (.iconst 2, 1) := by decide +kernel
theorem d_La_law_89 : decode code 89 = .ok (.iadd, 1) := by decide +kernel
theorem d_La_law_90 : decode code 90 = .ok (.iaload, 1) := by decide +kernel
theorem d_La_law_91 : decode code 91 = .ok (.aload_n 0, 1) := by decide +kernel
theorem d_La_law_92 : decode code 92 = .ok (.iload_n 3, 1) := by decide +kernel
theorem d_La_law_93 : decode code 93 = .ok (.iconst 3, 1) := by decide +kernel
theorem d_La_law_94 : decode code 94 = .ok (.iadd, 1) := by decide +kernel
theorem d_La_law_95 : decode code 95 = .ok (.iaload, 1) := by decide +kernel
theorem d_La_law_96 : decode code 96 = .ok (.aload_n 0, 1) := by decide +kernel
theorem d_La_law_97 : decode code 97 = .ok (.iload_n 3, 1) := by decide +kernel
theorem d_La_law_98 : decode code 98 = .ok (.iconst 4, 1) := by decide +kernel
theorem d_La_law_99 : decode code 99 = .ok (.iadd, 1) := by decide +kernel
theorem d_La_law_100 : decode code 100 = .ok (.iaload, 1) := by decide +kernel
theorem d_La_law_101 : decode code 101 = .ok (.aload_n 0, 1) := by decide +kernel
theorem d_La_law_102 : decode code 102 = .ok (.iload_n 3, 1) := by decide +kernel
theorem d_La_law_103 : decode code 103 = .ok (.iconst 5, 1) := by decide +kernel
theorem d_La_law_104 : decode code 104 = .ok (.iadd, 1) := by decide +kernel
theorem d_La_law_105 : decode code 105 = .ok (.iaload, 1) := by decide +kernel
theorem d_La_law_106 : decode code 106 = .ok (.invokevirtual 13, 3) := by decide +kernel
theorem d_La_law_109 : decode code 109 = .ok (.aload_n 2, 1) := by decide +kernel
theorem d_La_law_110 : decode code 110 = .ok (.aload_n 0, 1) := by decide +kernel
theorem d_La_law_111 : decode code 111 = .ok (.iload_n 3, 1) := by decide +kernel
theorem d_La_law_112 : decode code 112 = .ok (.iconst 1, 1) := by decide +kernel
theorem d_La_law_113 : decode code 113 = .ok (.iadd, 1) := by decide +kernel
theorem d_La_law_114 : decode code 114 = .ok (.iaload, 1) := by decide +kernel
theorem d_La_law_115 : decode code 115 = .ok (.aload_n 0, 1) := by decide +kernel
theorem d_La_law_116 : decode code 116 = .ok (.iload_n 3, 1) := by decide +kernel
theorem d_La_law_117 : decode code 117 = .ok (.iconst 2, 1) := by decide +kernel
theorem d_La_law_118 : decode code 118 = .ok (.iadd, 1) := by decide +kernel
theorem d_La_law_119 : decode code 119 = .ok (.iaload, 1) := by decide +kernel
theorem d_La_law_120 : decode code 120 = .ok (.aload_n 0, 1) := by decide +kernel
theorem d_La_law_121 : decode code 121 = .ok (.iload_n 3, 1) := by decide +kernel
theorem d_La_law_122 : decode code 122 = .ok (.iconst 3, 1) := by decide +kernel
theorem d_La_law_123 : decode code 123 = .ok (.iadd, 1) := by decide +kernel
theorem d_La_law_124 : decode code 124 = .ok (.iaload, 1) := by decide +kernel
theorem d_La_law_125 : decode code 125 = .ok (.aload_n 0, 1) := by decide +kernel
theorem d_La_law_126 : decode code 126 = .ok (.iload_n 3, 1) := by decide +kernel
theorem d_La_law_127 : decode code 127 = .ok (.iconst 4, 1) := by decide +kernel
theorem d_La_law_128 : decode code 128 = .ok (.iadd, 1) := by decide +kernel
