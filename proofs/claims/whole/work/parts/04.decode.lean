theorem d_Ru_cell_4 : decode c_Ru_cell 4 = .ok (.ifCond .eq 16, 3) := by decide +kernel
theorem d_Ru_cell_7 : decode c_Ru_cell 7 = .ok (.aload_n 0, 1) := by decide +kernel
theorem d_Ru_cell_8 : decode c_Ru_cell 8 = .ok (.getfield 26, 3) := by decide +kernel
theorem d_Ru_cell_11 : decode c_Ru_cell 11 = .ok (.getfield 68, 3) := by decide +kernel
theorem d_Ru_cell_14 : decode c_Ru_cell 14 = .ok (.iload_n 1, 1) := by decide +kernel
theorem d_Ru_cell_15 : decode c_Ru_cell 15 = .ok (.iaload, 1) := by decide +kernel
theorem d_Ru_cell_16 : decode c_Ru_cell 16 = .ok (.i2l, 1) := by decide +kernel
theorem d_Ru_cell_17 : decode c_Ru_cell 17 = .ok (.goto 6, 3) := by decide +kernel
theorem d_Ru_cell_20 : decode c_Ru_cell 20 = .ok (.ldc2_w 72, 3) := by decide +kernel
theorem d_Ru_cell_23 : decode c_Ru_cell 23 = .ok (.lreturn, 1) := by decide +kernel
theorem d_Ru_set_0 : decode c_Ru_set 0 = .ok (.iload_n 1, 1) := by decide +kernel
theorem d_Ru_set_1 : decode c_Ru_set 1 = .ok (.invokestatic 64, 3) := by decide +kernel
theorem d_Ru_set_4 : decode c_Ru_set 4 = .ok (.ifCond .ne 5, 3) := by decide +kernel
theorem d_Ru_set_7 : decode c_Ru_set 7 = .ok (.iconst (-1), 1) := by decide +kernel
theorem d_Ru_set_8 : decode c_Ru_set 8 = .ok (.ireturn, 1) := by decide +kernel
theorem d_Ru_set_9 : decode c_Ru_set 9 = .ok (.aload_n 0, 1) := by decide +kernel
theorem d_Ru_set_10 : decode c_Ru_set 10 = .ok (.getfield 26, 3) := by decide +kernel
theorem d_Ru_set_13 : decode c_Ru_set 13 = .ok (.getfield 74, 3) := by decide +kernel
theorem d_Ru_set_16 : decode c_Ru_set 16 = .ok (.ifCond .le 6, 3) := by decide +kernel
theorem d_Ru_set_19 : decode c_Ru_set 19 = .ok (.bipush (-3), 2) := by decide +kernel
theorem d_Ru_set_21 : decode c_Ru_set 21 = .ok (.ireturn, 1) := by decide +kernel
theorem d_Ru_set_22 : decode c_Ru_set 22 = .ok (.aload_n 0, 1) := by decide +kernel
theorem d_Ru_set_23 : decode c_Ru_set 23 = .ok (.getfield 26, 3) := by decide +kernel
theorem d_Ru_set_26 : decode c_Ru_set 26 = .ok (.getfield 68, 3) := by decide +kernel
theorem d_Ru_set_29 : decode c_Ru_set 29 = .ok (.iload_n 1, 1) := by decide +kernel
theorem d_Ru_set_30 : decode c_Ru_set 30 = .ok (.iload_n 2, 1) := by decide +kernel
theorem d_Ru_set_31 : decode c_Ru_set 31 = .ok (.iastore, 1) := by decide +kernel
theorem d_Ru_set_32 : decode c_Ru_set 32 = .ok (.iconst 0, 1) := by decide +kernel
theorem d_Ru_set_33 : decode c_Ru_set 33 = .ok (.ireturn, 1) := by decide +kernel
theorem d_Ru_count_0 : decode c_Ru_count 0 = .ok (.iload_n 1, 1) := by decide +kernel
theorem d_Ru_count_1 : decode c_Ru_count 1 = .ok (.lookupswitch 43 #[(0, 27), (1, 35)], 27) := by decide +kernel
theorem d_Ru_count_28 : decode c_Ru_count 28 = .ok (.aload_n 0, 1) := by decide +kernel
theorem d_Ru_count_29 : decode c_Ru_count 29 = .ok (.getfield 26, 3) := by decide +kernel
theorem d_Ru_count_32 : decode c_Ru_count 32 = .ok (.getfield 74, 3) := by decide +kernel
theorem d_Ru_count_35 : decode c_Ru_count 35 = .ok (.ireturn, 1) := by decide +kernel
theorem d_Ru_count_36 : decode c_Ru_count 36 = .ok (.aload_n 0, 1) := by decide +kernel
theorem d_Ru_count_37 : decode c_Ru_count 37 = .ok (.getfield 12, 3) := by decide +kernel
theorem d_Ru_count_40 : decode c_Ru_count 40 = .ok (.getfield 37, 3) := by decide +kernel
theorem d_Ru_count_43 : decode c_Ru_count 43 = .ok (.ireturn, 1) := by decide +kernel
theorem d_Ru_count_44 : decode c_Ru_count 44 = .ok (.iconst (-1), 1) := by decide +kernel
theorem d_Ru_count_45 : decode c_Ru_count 45 = .ok (.ireturn, 1) := by decide +kernel
theorem d_Mo_init_0 : decode c_Mo_init 0 = .ok (.aload_n 0, 1) := by decide +kernel
theorem d_Mo_init_1 : decode c_Mo_init 1 = .ok (.invokespecial 1, 3) := by decide +kernel
theorem d_Mo_init_4 : decode c_Mo_init 4 = .ok (.aload_n 0, 1) := by decide +kernel
theorem d_Mo_init_5 : decode c_Mo_init 5 = .ok (.sipush 400, 3) := by decide +kernel
theorem d_Mo_init_8 : decode c_Mo_init 8 = .ok (.newarray .byte, 2) := by decide +kernel
theorem d_Mo_init_10 : decode c_Mo_init 10 = .ok (.putfield 9, 3) := by decide +kernel
theorem d_Mo_init_13 : decode c_Mo_init 13 = .ok (.aload_n 0, 1) := by decide +kernel
theorem d_Mo_init_14 : decode c_Mo_init 14 = .ok (.sipush 6400, 3) := by decide +kernel
theorem d_Mo_init_17 : decode c_Mo_init 17 = .ok (.newarray .int, 2) := by decide +kernel
theorem d_Mo_init_19 : decode c_Mo_init 19 = .ok (.putfield 13, 3) := by decide +kernel
theorem d_Mo_init_22 : decode c_Mo_init 22 = .ok (.aload_n 0, 1) := by decide +kernel
theorem d_Mo_init_23 : decode c_Mo_init 23 = .ok (.sipush 1600, 3) := by decide +kernel
theorem d_Mo_init_26 : decode c_Mo_init 26 = .ok (.newarray .int, 2) := by decide +kernel
theorem d_Mo_init_28 : decode c_Mo_init 28 = .ok (.putfield 17, 3) := by decide +kernel
theorem d_Mo_init_31 : decode c_Mo_init 31 = .ok (.aload_n 0, 1) := by decide +kernel
theorem d_Mo_init_32 : decode c_Mo_init 32 = .ok (.bipush 32, 2) := by decide +kernel
theorem d_Mo_init_34 : decode c_Mo_init 34 = .ok (.newarray .int, 2) := by decide +kernel
theorem d_Mo_init_36 : decode c_Mo_init 36 = .ok (.putfield 20, 3) := by decide +kernel
theorem d_Mo_init_39 : decode c_Mo_init 39 = .ok (.aload_n 0, 1) := by decide +kernel
theorem d_Mo_init_40 : decode c_Mo_init 40 = .ok (.sipush 160, 3) := by decide +kernel
theorem d_Mo_init_43 : decode c_Mo_init 43 = .ok (.newarray .int, 2) := by decide +kernel
theorem d_Mo_init_45 : decode c_Mo_init 45 = .ok (.putfield 23, 3) := by decide +kernel
theorem d_Mo_init_48 : decode c_Mo_init 48 = .ok (.aload_n 0, 1) := by decide +kernel
theorem d_Mo_init_49 : decode c_Mo_init 49 = .ok (.bipush 8, 2) := by decide +kernel
theorem d_Mo_init_51 : decode c_Mo_init 51 = .ok (.newarray .int, 2) := by decide +kernel
theorem d_Mo_init_53 : decode c_Mo_init 53 = .ok (.putfield 26, 3) := by decide +kernel
theorem d_Mo_init_56 : decode c_Mo_init 56 = .ok (.aload_n 0, 1) := by decide +kernel
theorem d_Mo_init_57 : decode c_Mo_init 57 = .ok (.bipush 8, 2) := by decide +kernel
theorem d_Mo_init_59 : decode c_Mo_init 59 = .ok (.newarray .int, 2) := by decide +kernel
theorem d_Mo_init_61 : decode c_Mo_init 61 = .ok (.putfield 29, 3) := by decide +kernel
theorem d_Mo_init_64 : decode c_Mo_init 64 = .ok (.return_, 1) := by decide +kernel
theorem d_Mo_feed_0 : decode c_Mo_feed 0 = .ok (.aload_n 0, 1) := by decide +kernel
theorem d_Mo_feed_1 : decode c_Mo_feed 1 = .ok (.getfield 32, 3) := by decide +kernel
theorem d_Mo_feed_4 : decode c_Mo_feed 4 = .ok (.bipush 20, 2) := by decide +kernel
theorem d_Mo_feed_6 : decode c_Mo_feed 6 = .ok (.iadd, 1) := by decide +kernel
theorem d_Mo_feed_7 : decode c_Mo_feed 7 = .ok (.sipush 400, 3) := by decide +kernel
theorem d_Mo_feed_10 : decode c_Mo_feed 10 = .ok (.if_icmp .le 6, 3) := by decide +kernel
theorem d_Mo_feed_13 : decode c_Mo_feed 13 = .ok (.bipush (-3), 2) := by decide +kernel
theorem d_Mo_feed_15 : decode c_Mo_feed 15 = .ok (.ireturn, 1) := by decide +kernel
theorem d_Mo_feed_16 : decode c_Mo_feed 16 = .ok (.iconst 5, 1) := by decide +kernel
theorem d_Mo_feed_17 : decode c_Mo_feed 17 = .ok (.newarray .int, 2) := by decide +kernel
theorem d_Mo_feed_19 : decode c_Mo_feed 19 = .ok (.dup, 1) := by decide +kernel
theorem d_Mo_feed_20 : decode c_Mo_feed 20 = .ok (.iconst 0, 1) := by decide +kernel
theorem d_Mo_feed_21 : decode c_Mo_feed 21 = .ok (.iload_n 1, 1) := by decide +kernel
theorem d_Mo_feed_22 : decode c_Mo_feed 22 = .ok (.iastore, 1) := by decide +kernel
theorem d_Mo_feed_23 : decode c_Mo_feed 23 = .ok (.dup, 1) := by decide +kernel
theorem d_Mo_feed_24 : decode c_Mo_feed 24 = .ok (.iconst 1, 1) := by decide +kernel
theorem d_Mo_feed_25 : decode c_Mo_feed 25 = .ok (.iload_n 2, 1) := by decide +kernel
theorem d_Mo_feed_26 : decode c_Mo_feed 26 = .ok (.iastore, 1) := by decide +kernel
theorem d_Mo_feed_27 : decode c_Mo_feed 27 = .ok (.dup, 1) := by decide +kernel
theorem d_Mo_feed_28 : decode c_Mo_feed 28 = .ok (.iconst 2, 1) := by decide +kernel
theorem d_Mo_feed_29 : decode c_Mo_feed 29 = .ok (.iload_n 3, 1) := by decide +kernel
theorem d_Mo_feed_30 : decode c_Mo_feed 30 = .ok (.iastore, 1) := by decide +kernel
theorem d_Mo_feed_31 : decode c_Mo_feed 31 = .ok (.dup, 1) := by decide +kernel
theorem d_Mo_feed_32 : decode c_Mo_feed 32 = .ok (.iconst 3, 1) := by decide +kernel
theorem d_Mo_feed_33 : decode c_Mo_feed 33 = .ok (.iload 4, 2) := by decide +kernel
theorem d_Mo_feed_35 : decode c_Mo_feed 35 = .ok (.iastore, 1) := by decide +kernel
theorem d_Mo_feed_36 : decode c_Mo_feed 36 = .ok (.dup, 1) := by decide +kernel
theorem d_Mo_feed_37 : decode c_Mo_feed 37 = .ok (.iconst 4, 1) := by decide +kernel
theorem d_Mo_feed_38 : decode c_Mo_feed 38 = .ok (.iload 5, 2) := by decide +kernel
theorem d_Mo_feed_40 : decode c_Mo_feed 40 = .ok (.iastore, 1) := by decide +kernel
theorem d_Mo_feed_41 : decode c_Mo_feed 41 = .ok (.astore 6, 2) := by decide +kernel
theorem d_Mo_feed_43 : decode c_Mo_feed 43 = .ok (.iconst 0, 1) := by decide +kernel
theorem d_Mo_feed_44 : decode c_Mo_feed 44 = .ok (.istore 7, 2) := by decide +kernel
theorem d_Mo_feed_46 : decode c_Mo_feed 46 = .ok (.iload 7, 2) := by decide +kernel
theorem d_Mo_feed_48 : decode c_Mo_feed 48 = .ok (.bipush 20, 2) := by decide +kernel
theorem d_Mo_feed_50 : decode c_Mo_feed 50 = .ok (.if_icmp .ge 40, 3) := by decide +kernel
theorem d_Mo_feed_53 : decode c_Mo_feed 53 = .ok (.aload_n 0, 1) := by decide +kernel
theorem d_Mo_feed_54 : decode c_Mo_feed 54 = .ok (.getfield 9, 3) := by decide +kernel
theorem d_Mo_feed_57 : decode c_Mo_feed 57 = .ok (.aload_n 0, 1) := by decide +kernel
theorem d_Mo_feed_58 : decode c_Mo_feed 58 = .ok (.getfield 32, 3) := by decide +kernel
theorem d_Mo_feed_61 : decode c_Mo_feed 61 = .ok (.iload 7, 2) := by decide +kernel
theorem d_Mo_feed_63 : decode c_Mo_feed 63 = .ok (.iadd, 1) := by decide +kernel
theorem d_Mo_feed_64 : decode c_Mo_feed 64 = .ok (.aload 6, 2) := by decide +kernel
theorem d_Mo_feed_66 : decode c_Mo_feed 66 = .ok (.iload 7, 2) := by decide +kernel
theorem d_Mo_feed_68 : decode c_Mo_feed 68 = .ok (.iconst 4, 1) := by decide +kernel
theorem d_Mo_feed_69 : decode c_Mo_feed 69 = .ok (.idiv, 1) := by decide +kernel
theorem d_Mo_feed_70 : decode c_Mo_feed 70 = .ok (.iaload, 1) := by decide +kernel
theorem d_Mo_feed_71 : decode c_Mo_feed 71 = .ok (.bipush 24, 2) := by decide +kernel
theorem d_Mo_feed_73 : decode c_Mo_feed 73 = .ok (.bipush 8, 2) := by decide +kernel
theorem d_Mo_feed_75 : decode c_Mo_feed 75 = .ok (.iload 7, 2) := by decide +kernel
theorem d_Mo_feed_77 : decode c_Mo_feed 77 = .ok (.iconst 4, 1) := by decide +kernel
theorem d_Mo_feed_78 : decode c_Mo_feed 78 = .ok (.irem, 1) := by decide +kernel
theorem d_Mo_feed_79 : decode c_Mo_feed 79 = .ok (.imul, 1) := by decide +kernel
theorem d_Mo_feed_80 : decode c_Mo_feed 80 = .ok (.isub, 1) := by decide +kernel
theorem d_Mo_feed_81 : decode c_Mo_feed 81 = .ok (.ishr, 1) := by decide +kernel
theorem d_Mo_feed_82 : decode c_Mo_feed 82 = .ok (.i2b, 1) := by decide +kernel
theorem d_Mo_feed_83 : decode c_Mo_feed 83 = .ok (.bastore, 1) := by decide +kernel
theorem d_Mo_feed_84 : decode c_Mo_feed 84 = .ok (.iinc 7 1, 3) := by decide +kernel
theorem d_Mo_feed_87 : decode c_Mo_feed 87 = .ok (.goto (-41), 3) := by decide +kernel
theorem d_Mo_feed_90 : decode c_Mo_feed 90 = .ok (.aload_n 0, 1) := by decide +kernel
theorem d_Mo_feed_91 : decode c_Mo_feed 91 = .ok (.dup, 1) := by decide +kernel
theorem d_Mo_feed_92 : decode c_Mo_feed 92 = .ok (.getfield 32, 3) := by decide +kernel
theorem d_Mo_feed_95 : decode c_Mo_feed 95 = .ok (.bipush 20, 2) := by decide +kernel
theorem d_Mo_feed_97 : decode c_Mo_feed 97 = .ok (.iadd, 1) := by decide +kernel
theorem d_Mo_feed_98 : decode c_Mo_feed 98 = .ok (.putfield 32, 3) := by decide +kernel
theorem d_Mo_feed_101 : decode c_Mo_feed 101 = .ok (.aload_n 0, 1) := by decide +kernel
theorem d_Mo_feed_102 : decode c_Mo_feed 102 = .ok (.getfield 32, 3) := by decide +kernel
theorem d_Mo_feed_105 : decode c_Mo_feed 105 = .ok (.ireturn, 1) := by decide +kernel
theorem d_Mo_end_0 : decode c_Mo_end 0 = .ok (.iload_n 1, 1) := by decide +kernel
theorem d_Mo_end_1 : decode c_Mo_end 1 = .ok (.iconst 0, 1) := by decide +kernel
theorem d_Mo_end_2 : decode c_Mo_end 2 = .ok (.aload_n 0, 1) := by decide +kernel
theorem d_Mo_end_3 : decode c_Mo_end 3 = .ok (.getfield 32, 3) := by decide +kernel
theorem d_Mo_end_6 : decode c_Mo_end 6 = .ok (.invokestatic 36, 3) := by decide +kernel
theorem d_Mo_end_9 : decode c_Mo_end 9 = .ok (.ifCond .ne 5, 3) := by decide +kernel
theorem d_Mo_end_12 : decode c_Mo_end 12 = .ok (.iconst (-1), 1) := by decide +kernel
theorem d_Mo_end_13 : decode c_Mo_end 13 = .ok (.ireturn, 1) := by decide +kernel
theorem d_Mo_end_14 : decode c_Mo_end 14 = .ok (.aload_n 0, 1) := by decide +kernel
theorem d_Mo_end_15 : decode c_Mo_end 15 = .ok (.iload_n 1, 1) := by decide +kernel
theorem d_Mo_end_16 : decode c_Mo_end 16 = .ok (.putfield 32, 3) := by decide +kernel
theorem d_Mo_end_19 : decode c_Mo_end 19 = .ok (.iload_n 1, 1) := by decide +kernel
theorem d_Mo_end_20 : decode c_Mo_end 20 = .ok (.ireturn, 1) := by decide +kernel
theorem d_Mo_in_0 : decode c_Mo_in 0 = .ok (.iload_n 0, 1) := by decide +kernel
theorem d_Mo_in_1 : decode c_Mo_in 1 = .ok (.iload_n 1, 1) := by decide +kernel
theorem d_Mo_in_2 : decode c_Mo_in 2 = .ok (.if_icmp .lt 12, 3) := by decide +kernel
theorem d_Mo_in_5 : decode c_Mo_in 5 = .ok (.iload_n 0, 1) := by decide +kernel
theorem d_Mo_in_6 : decode c_Mo_in 6 = .ok (.iload_n 2, 1) := by decide +kernel
theorem d_Mo_in_7 : decode c_Mo_in 7 = .ok (.if_icmp .gt 7, 3) := by decide +kernel
theorem d_Mo_in_10 : decode c_Mo_in 10 = .ok (.iconst 1, 1) := by decide +kernel
theorem d_Mo_in_11 : decode c_Mo_in 11 = .ok (.goto 4, 3) := by decide +kernel
theorem d_Mo_in_14 : decode c_Mo_in 14 = .ok (.iconst 0, 1) := by decide +kernel
theorem d_Mo_in_15 : decode c_Mo_in 15 = .ok (.ireturn, 1) := by decide +kernel
theorem d_Mo_program_0 : decode c_Mo_program 0 = .ok (.aload_n 0, 1) := by decide +kernel
theorem d_Mo_program_1 : decode c_Mo_program 1 = .ok (.aload_n 0, 1) := by decide +kernel
theorem d_Mo_program_2 : decode c_Mo_program 2 = .ok (.getfield 32, 3) := by decide +kernel
theorem d_Mo_program_5 : decode c_Mo_program 5 = .ok (.putfield 43, 3) := by decide +kernel
theorem d_Mo_program_8 : decode c_Mo_program 8 = .ok (.aload_n 0, 1) := by decide +kernel
theorem d_Mo_program_9 : decode c_Mo_program 9 = .ok (.iconst 0, 1) := by decide +kernel
theorem d_Mo_program_10 : decode c_Mo_program 10 = .ok (.putfield 32, 3) := by decide +kernel
theorem d_Mo_program_13 : decode c_Mo_program 13 = .ok (.aload_n 0, 1) := by decide +kernel
theorem d_Mo_program_14 : decode c_Mo_program 14 = .ok (.iconst 0, 1) := by decide +kernel
theorem d_Mo_program_15 : decode c_Mo_program 15 = .ok (.putfield 40, 3) := by decide +kernel
theorem d_Mo_program_18 : decode c_Mo_program 18 = .ok (.aload_n 0, 1) := by decide +kernel
theorem d_Mo_program_19 : decode c_Mo_program 19 = .ok (.iconst (-1), 1) := by decide +kernel
theorem d_Mo_program_20 : decode c_Mo_program 20 = .ok (.putfield 110, 3) := by decide +kernel
theorem d_Mo_program_23 : decode c_Mo_program 23 = .ok (.aload_n 0, 1) := by decide +kernel
theorem d_Mo_program_24 : decode c_Mo_program 24 = .ok (.iconst 0, 1) := by decide +kernel
theorem d_Mo_program_25 : decode c_Mo_program 25 = .ok (.putfield 123, 3) := by decide +kernel
theorem d_Mo_program_28 : decode c_Mo_program 28 = .ok (.aload_n 0, 1) := by decide +kernel
theorem d_Mo_program_29 : decode c_Mo_program 29 = .ok (.bipush 7, 2) := by decide +kernel
theorem d_Mo_program_31 : decode c_Mo_program 31 = .ok (.putfield 120, 3) := by decide +kernel
theorem d_Mo_program_34 : decode c_Mo_program 34 = .ok (.aload_n 0, 1) := by decide +kernel
theorem d_Mo_program_35 : decode c_Mo_program 35 = .ok (.getfield 17, 3) := by decide +kernel
theorem d_Mo_program_38 : decode c_Mo_program 38 = .ok (.iconst 0, 1) := by decide +kernel
theorem d_Mo_program_39 : decode c_Mo_program 39 = .ok (.iconst 0, 1) := by decide +kernel
theorem d_Mo_program_40 : decode c_Mo_program 40 = .ok (.iastore, 1) := by decide +kernel
theorem d_Mo_program_41 : decode c_Mo_program 41 = .ok (.aload_n 0, 1) := by decide +kernel
theorem d_Mo_program_42 : decode c_Mo_program 42 = .ok (.invokevirtual 117, 3) := by decide +kernel
theorem d_Mo_program_45 : decode c_Mo_program 45 = .ok (.aload_n 0, 1) := by decide +kernel
theorem d_Mo_program_46 : decode c_Mo_program 46 = .ok (.invokevirtual 126, 3) := by decide +kernel
theorem d_Mo_program_49 : decode c_Mo_program 49 = .ok (.istore_n 1, 1) := by decide +kernel
theorem d_Mo_program_50 : decode c_Mo_program 50 = .ok (.iload_n 1, 1) := by decide +kernel
theorem d_Mo_program_51 : decode c_Mo_program 51 = .ok (.ifCond .eq 24, 3) := by decide +kernel
theorem d_Mo_program_54 : decode c_Mo_program 54 = .ok (.aload_n 0, 1) := by decide +kernel
theorem d_Mo_program_55 : decode c_Mo_program 55 = .ok (.ldc 67, 2) := by decide +kernel
theorem d_Mo_program_57 : decode c_Mo_program 57 = .ok (.invokevirtual 61, 3) := by decide +kernel
theorem d_Mo_program_60 : decode c_Mo_program 60 = .ok (.ifCond .eq 15, 3) := by decide +kernel
theorem d_Mo_program_63 : decode c_Mo_program 63 = .ok (.aload_n 0, 1) := by decide +kernel
theorem d_Mo_program_64 : decode c_Mo_program 64 = .ok (.invokevirtual 117, 3) := by decide +kernel
theorem d_Mo_program_67 : decode c_Mo_program 67 = .ok (.aload_n 0, 1) := by decide +kernel
theorem d_Mo_program_68 : decode c_Mo_program 68 = .ok (.invokevirtual 126, 3) := by decide +kernel
theorem d_Mo_program_71 : decode c_Mo_program 71 = .ok (.istore_n 1, 1) := by decide +kernel
theorem d_Mo_program_72 : decode c_Mo_program 72 = .ok (.goto (-22), 3) := by decide +kernel
theorem d_Mo_program_75 : decode c_Mo_program 75 = .ok (.iload_n 1, 1) := by decide +kernel
theorem d_Mo_program_76 : decode c_Mo_program 76 = .ok (.ifCond .eq 15, 3) := by decide +kernel
theorem d_Mo_program_79 : decode c_Mo_program 79 = .ok (.aload_n 0, 1) := by decide +kernel
theorem d_Mo_program_80 : decode c_Mo_program 80 = .ok (.getfield 49, 3) := by decide +kernel
theorem d_Mo_program_83 : decode c_Mo_program 83 = .ok (.ifCond .eq 8, 3) := by decide +kernel
theorem d_Mo_program_86 : decode c_Mo_program 86 = .ok (.aload_n 0, 1) := by decide +kernel
theorem d_Mo_program_87 : decode c_Mo_program 87 = .ok (.invokevirtual 113, 3) := by decide +kernel
theorem d_Mo_program_90 : decode c_Mo_program 90 = .ok (.pop, 1) := by decide +kernel
theorem d_Mo_program_91 : decode c_Mo_program 91 = .ok (.aload_n 0, 1) := by decide +kernel
theorem d_Mo_program_92 : decode c_Mo_program 92 = .ok (.getfield 110, 3) := by decide +kernel
theorem d_Mo_program_95 : decode c_Mo_program 95 = .ok (.ifCond .lt 8, 3) := by decide +kernel
theorem d_Mo_program_98 : decode c_Mo_program 98 = .ok (.aload_n 0, 1) := by decide +kernel
theorem d_Mo_program_99 : decode c_Mo_program 99 = .ok (.getfield 110, 3) := by decide +kernel
theorem d_Mo_program_102 : decode c_Mo_program 102 = .ok (.ireturn, 1) := by decide +kernel
theorem d_Mo_program_103 : decode c_Mo_program 103 = .ok (.aload_n 0, 1) := by decide +kernel
theorem d_Mo_program_104 : decode c_Mo_program 104 = .ok (.aload_n 0, 1) := by decide +kernel
theorem d_Mo_program_105 : decode c_Mo_program 105 = .ok (.getfield 17, 3) := by decide +kernel
theorem d_Mo_program_108 : decode c_Mo_program 108 = .ok (.aload_n 0, 1) := by decide +kernel
theorem d_Mo_program_109 : decode c_Mo_program 109 = .ok (.getfield 120, 3) := by decide +kernel
theorem d_Mo_program_112 : decode c_Mo_program 112 = .ok (.invokestatic 129, 3) := by decide +kernel
theorem d_Mo_program_115 : decode c_Mo_program 115 = .ok (.putfield 135, 3) := by decide +kernel
theorem d_Mo_program_118 : decode c_Mo_program 118 = .ok (.bipush (-2), 2) := by decide +kernel
theorem d_Mo_program_120 : decode c_Mo_program 120 = .ok (.ireturn, 1) := by decide +kernel
theorem d_Mo_step_0 : decode c_Mo_step 0 = .ok (.aload_n 0, 1) := by decide +kernel
theorem d_Mo_step_1 : decode c_Mo_step 1 = .ok (.getfield 40, 3) := by decide +kernel
theorem d_Mo_step_4 : decode c_Mo_step 4 = .ok (.aload_n 0, 1) := by decide +kernel
theorem d_Mo_step_5 : decode c_Mo_step 5 = .ok (.getfield 43, 3) := by decide +kernel
theorem d_Mo_step_8 : decode c_Mo_step 8 = .ok (.if_icmp .ge 30, 3) := by decide +kernel
theorem d_Mo_step_11 : decode c_Mo_step 11 = .ok (.aload_n 0, 1) := by decide +kernel
theorem d_Mo_step_12 : decode c_Mo_step 12 = .ok (.getfield 9, 3) := by decide +kernel
theorem d_Mo_step_15 : decode c_Mo_step 15 = .ok (.aload_n 0, 1) := by decide +kernel
theorem d_Mo_step_16 : decode c_Mo_step 16 = .ok (.getfield 40, 3) := by decide +kernel
theorem d_Mo_step_19 : decode c_Mo_step 19 = .ok (.baload, 1) := by decide +kernel
theorem d_Mo_step_20 : decode c_Mo_step 20 = .ok (.bipush 32, 2) := by decide +kernel
theorem d_Mo_step_22 : decode c_Mo_step 22 = .ok (.if_icmp .ne 16, 3) := by decide +kernel
theorem d_Mo_step_25 : decode c_Mo_step 25 = .ok (.aload_n 0, 1) := by decide +kernel
theorem d_Mo_step_26 : decode c_Mo_step 26 = .ok (.dup, 1) := by decide +kernel
theorem d_Mo_step_27 : decode c_Mo_step 27 = .ok (.getfield 40, 3) := by decide +kernel
theorem d_Mo_step_30 : decode c_Mo_step 30 = .ok (.iconst 1, 1) := by decide +kernel
theorem d_Mo_step_31 : decode c_Mo_step 31 = .ok (.iadd, 1) := by decide +kernel
theorem d_Mo_step_32 : decode c_Mo_step 32 = .ok (.putfield 40, 3) := by decide +kernel
theorem d_Mo_step_35 : decode c_Mo_step 35 = .ok (.goto (-35), 3) := by decide +kernel
theorem d_Mo_step_38 : decode c_Mo_step 38 = .ok (.aload_n 0, 1) := by decide +kernel
theorem d_Mo_step_39 : decode c_Mo_step 39 = .ok (.aload_n 0, 1) := by decide +kernel
theorem d_Mo_step_40 : decode c_Mo_step 40 = .ok (.getfield 40, 3) := by decide +kernel
theorem d_Mo_step_43 : decode c_Mo_step 43 = .ok (.putfield 46, 3) := by decide +kernel
theorem d_Mo_step_46 : decode c_Mo_step 46 = .ok (.aload_n 0, 1) := by decide +kernel
theorem d_Mo_step_47 : decode c_Mo_step 47 = .ok (.getfield 40, 3) := by decide +kernel
theorem d_Mo_step_50 : decode c_Mo_step 50 = .ok (.aload_n 0, 1) := by decide +kernel
theorem d_Mo_step_51 : decode c_Mo_step 51 = .ok (.getfield 43, 3) := by decide +kernel
theorem d_Mo_step_54 : decode c_Mo_step 54 = .ok (.if_icmp .ne 11, 3) := by decide +kernel
theorem d_Mo_step_57 : decode c_Mo_step 57 = .ok (.aload_n 0, 1) := by decide +kernel
theorem d_Mo_step_58 : decode c_Mo_step 58 = .ok (.iconst 0, 1) := by decide +kernel
theorem d_Mo_step_59 : decode c_Mo_step 59 = .ok (.putfield 49, 3) := by decide +kernel
theorem d_Mo_step_62 : decode c_Mo_step 62 = .ok (.goto 398, 3) := by decide +kernel
theorem d_Mo_step_65 : decode c_Mo_step 65 = .ok (.aload_n 0, 1) := by decide +kernel
theorem d_Mo_step_66 : decode c_Mo_step 66 = .ok (.getfield 9, 3) := by decide +kernel
theorem d_Mo_step_69 : decode c_Mo_step 69 = .ok (.aload_n 0, 1) := by decide +kernel
theorem d_Mo_step_70 : decode c_Mo_step 70 = .ok (.getfield 40, 3) := by decide +kernel
theorem d_Mo_step_73 : decode c_Mo_step 73 = .ok (.baload, 1) := by decide +kernel
theorem d_Mo_step_74 : decode c_Mo_step 74 = .ok (.invokestatic 52, 3) := by decide +kernel
theorem d_Mo_step_77 : decode c_Mo_step 77 = .ok (.ifCond .eq 126, 3) := by decide +kernel
theorem d_Mo_step_80 : decode c_Mo_step 80 = .ok (.aload_n 0, 1) := by decide +kernel
theorem d_Mo_step_81 : decode c_Mo_step 81 = .ok (.getfield 40, 3) := by decide +kernel
theorem d_Mo_step_84 : decode c_Mo_step 84 = .ok (.aload_n 0, 1) := by decide +kernel
theorem d_Mo_step_85 : decode c_Mo_step 85 = .ok (.getfield 43, 3) := by decide +kernel
theorem d_Mo_step_88 : decode c_Mo_step 88 = .ok (.if_icmp .ge 31, 3) := by decide +kernel
theorem d_Mo_step_91 : decode c_Mo_step 91 = .ok (.aload_n 0, 1) := by decide +kernel
theorem d_Mo_step_92 : decode c_Mo_step 92 = .ok (.getfield 9, 3) := by decide +kernel
theorem d_Mo_step_95 : decode c_Mo_step 95 = .ok (.aload_n 0, 1) := by decide +kernel
theorem d_Mo_step_96 : decode c_Mo_step 96 = .ok (.getfield 40, 3) := by decide +kernel
theorem d_Mo_step_99 : decode c_Mo_step 99 = .ok (.baload, 1) := by decide +kernel
theorem d_Mo_step_100 : decode c_Mo_step 100 = .ok (.invokestatic 52, 3) := by decide +kernel
theorem d_Mo_step_103 : decode c_Mo_step 103 = .ok (.ifCond .eq 16, 3) := by decide +kernel
theorem d_Mo_step_106 : decode c_Mo_step 106 = .ok (.aload_n 0, 1) := by decide +kernel
theorem d_Mo_step_107 : decode c_Mo_step 107 = .ok (.dup, 1) := by decide +kernel
theorem d_Mo_step_108 : decode c_Mo_step 108 = .ok (.getfield 40, 3) := by decide +kernel
theorem d_Mo_step_111 : decode c_Mo_step 111 = .ok (.iconst 1, 1) := by decide +kernel
theorem d_Mo_step_112 : decode c_Mo_step 112 = .ok (.iadd, 1) := by decide +kernel
theorem d_Mo_step_113 : decode c_Mo_step 113 = .ok (.putfield 40, 3) := by decide +kernel
theorem d_Mo_step_116 : decode c_Mo_step 116 = .ok (.goto (-36), 3) := by decide +kernel
theorem d_Mo_step_119 : decode c_Mo_step 119 = .ok (.aload_n 0, 1) := by decide +kernel
theorem d_Mo_step_120 : decode c_Mo_step 120 = .ok (.aload_n 0, 1) := by decide +kernel
theorem d_Mo_step_121 : decode c_Mo_step 121 = .ok (.getfield 40, 3) := by decide +kernel
theorem d_Mo_step_124 : decode c_Mo_step 124 = .ok (.putfield 56, 3) := by decide +kernel
theorem d_Mo_step_127 : decode c_Mo_step 127 = .ok (.aload_n 0, 1) := by decide +kernel
theorem d_Mo_step_128 : decode c_Mo_step 128 = .ok (.iconst 1, 1) := by decide +kernel
theorem d_Mo_step_129 : decode c_Mo_step 129 = .ok (.putfield 49, 3) := by decide +kernel
theorem d_Mo_step_132 : decode c_Mo_step 132 = .ok (.aload_n 0, 1) := by decide +kernel
theorem d_Mo_step_133 : decode c_Mo_step 133 = .ok (.ldc 59, 2) := by decide +kernel
theorem d_Mo_step_135 : decode c_Mo_step 135 = .ok (.invokevirtual 61, 3) := by decide +kernel
theorem d_Mo_step_138 : decode c_Mo_step 138 = .ok (.ifCond .ne 322, 3) := by decide +kernel
theorem d_Mo_step_141 : decode c_Mo_step 141 = .ok (.aload_n 0, 1) := by decide +kernel
theorem d_Mo_step_142 : decode c_Mo_step 142 = .ok (.ldc 65, 2) := by decide +kernel
theorem d_Mo_step_144 : decode c_Mo_step 144 = .ok (.invokevirtual 61, 3) := by decide +kernel
theorem d_Mo_step_147 : decode c_Mo_step 147 = .ok (.ifCond .ne 313, 3) := by decide +kernel
theorem d_Mo_step_150 : decode c_Mo_step 150 = .ok (.aload_n 0, 1) := by decide +kernel
theorem d_Mo_step_151 : decode c_Mo_step 151 = .ok (.ldc 67, 2) := by decide +kernel
theorem d_Mo_step_153 : decode c_Mo_step 153 = .ok (.invokevirtual 61, 3) := by decide +kernel
theorem d_Mo_step_156 : decode c_Mo_step 156 = .ok (.ifCond .ne 304, 3) := by decide +kernel
theorem d_Mo_step_159 : decode c_Mo_step 159 = .ok (.aload_n 0, 1) := by decide +kernel
theorem d_Mo_step_160 : decode c_Mo_step 160 = .ok (.ldc 69, 2) := by decide +kernel
theorem d_Mo_step_162 : decode c_Mo_step 162 = .ok (.invokevirtual 61, 3) := by decide +kernel
theorem d_Mo_step_165 : decode c_Mo_step 165 = .ok (.ifCond .ne 295, 3) := by decide +kernel
theorem d_Mo_step_168 : decode c_Mo_step 168 = .ok (.aload_n 0, 1) := by decide +kernel
theorem d_Mo_step_169 : decode c_Mo_step 169 = .ok (.ldc 71, 2) := by decide +kernel
theorem d_Mo_step_171 : decode c_Mo_step 171 = .ok (.invokevirtual 61, 3) := by decide +kernel
theorem d_Mo_step_174 : decode c_Mo_step 174 = .ok (.ifCond .ne 286, 3) := by decide +kernel
theorem d_Mo_step_177 : decode c_Mo_step 177 = .ok (.aload_n 0, 1) := by decide +kernel
theorem d_Mo_step_178 : decode c_Mo_step 178 = .ok (.ldc 73, 2) := by decide +kernel
theorem d_Mo_step_180 : decode c_Mo_step 180 = .ok (.invokevirtual 61, 3) := by decide +kernel
theorem d_Mo_step_183 : decode c_Mo_step 183 = .ok (.ifCond .ne 277, 3) := by decide +kernel
theorem d_Mo_step_186 : decode c_Mo_step 186 = .ok (.aload_n 0, 1) := by decide +kernel
theorem d_Mo_step_187 : decode c_Mo_step 187 = .ok (.ldc 75, 2) := by decide +kernel
theorem d_Mo_step_189 : decode c_Mo_step 189 = .ok (.invokevirtual 61, 3) := by decide +kernel
theorem d_Mo_step_192 : decode c_Mo_step 192 = .ok (.ifCond .ne 268, 3) := by decide +kernel
theorem d_Mo_step_195 : decode c_Mo_step 195 = .ok (.aload_n 0, 1) := by decide +kernel
theorem d_Mo_step_196 : decode c_Mo_step 196 = .ok (.iconst 4, 1) := by decide +kernel
theorem d_Mo_step_197 : decode c_Mo_step 197 = .ok (.putfield 49, 3) := by decide +kernel
theorem d_Mo_step_200 : decode c_Mo_step 200 = .ok (.goto 260, 3) := by decide +kernel
theorem d_Mo_step_203 : decode c_Mo_step 203 = .ok (.aload_n 0, 1) := by decide +kernel
theorem d_Mo_step_204 : decode c_Mo_step 204 = .ok (.getfield 9, 3) := by decide +kernel
theorem d_Mo_step_207 : decode c_Mo_step 207 = .ok (.aload_n 0, 1) := by decide +kernel
theorem d_Mo_step_208 : decode c_Mo_step 208 = .ok (.getfield 40, 3) := by decide +kernel
theorem d_Mo_step_211 : decode c_Mo_step 211 = .ok (.baload, 1) := by decide +kernel
theorem d_Mo_step_212 : decode c_Mo_step 212 = .ok (.invokestatic 77, 3) := by decide +kernel
theorem d_Mo_step_215 : decode c_Mo_step 215 = .ok (.ifCond .eq 103, 3) := by decide +kernel
theorem d_Mo_step_218 : decode c_Mo_step 218 = .ok (.aload_n 0, 1) := by decide +kernel
theorem d_Mo_step_219 : decode c_Mo_step 219 = .ok (.lconst 0, 1) := by decide +kernel
theorem d_Mo_step_220 : decode c_Mo_step 220 = .ok (.putfield 80, 3) := by decide +kernel
theorem d_Mo_step_223 : decode c_Mo_step 223 = .ok (.aload_n 0, 1) := by decide +kernel
theorem d_Mo_step_224 : decode c_Mo_step 224 = .ok (.getfield 40, 3) := by decide +kernel
theorem d_Mo_step_227 : decode c_Mo_step 227 = .ok (.aload_n 0, 1) := by decide +kernel
theorem d_Mo_step_228 : decode c_Mo_step 228 = .ok (.getfield 43, 3) := by decide +kernel
theorem d_Mo_step_231 : decode c_Mo_step 231 = .ok (.if_icmp .ge 64, 3) := by decide +kernel
theorem d_Mo_step_234 : decode c_Mo_step 234 = .ok (.aload_n 0, 1) := by decide +kernel
theorem d_Mo_step_235 : decode c_Mo_step 235 = .ok (.getfield 9, 3) := by decide +kernel
theorem d_Mo_step_238 : decode c_Mo_step 238 = .ok (.aload_n 0, 1) := by decide +kernel
theorem d_Mo_step_239 : decode c_Mo_step 239 = .ok (.getfield 40, 3) := by decide +kernel
theorem d_Mo_step_242 : decode c_Mo_step 242 = .ok (.baload, 1) := by decide +kernel
theorem d_Mo_step_243 : decode c_Mo_step 243 = .ok (.invokestatic 77, 3) := by decide +kernel
theorem d_Mo_step_246 : decode c_Mo_step 246 = .ok (.ifCond .eq 49, 3) := by decide +kernel
theorem d_Mo_step_249 : decode c_Mo_step 249 = .ok (.aload_n 0, 1) := by decide +kernel
theorem d_Mo_step_250 : decode c_Mo_step 250 = .ok (.ldc2_w 84, 3) := by decide +kernel
theorem d_Mo_step_253 : decode c_Mo_step 253 = .ok (.ldc2_w 86, 3) := by decide +kernel
theorem d_Mo_step_256 : decode c_Mo_step 256 = .ok (.aload_n 0, 1) := by decide +kernel
theorem d_Mo_step_257 : decode c_Mo_step 257 = .ok (.getfield 80, 3) := by decide +kernel
theorem d_Mo_step_260 : decode c_Mo_step 260 = .ok (.lmul, 1) := by decide +kernel
theorem d_Mo_step_261 : decode c_Mo_step 261 = .ok (.aload_n 0, 1) := by decide +kernel
theorem d_Mo_step_262 : decode c_Mo_step 262 = .ok (.getfield 9, 3) := by decide +kernel
theorem d_Mo_step_265 : decode c_Mo_step 265 = .ok (.aload_n 0, 1) := by decide +kernel
theorem d_Mo_step_266 : decode c_Mo_step 266 = .ok (.getfield 40, 3) := by decide +kernel
theorem d_Mo_step_269 : decode c_Mo_step 269 = .ok (.baload, 1) := by decide +kernel
theorem d_Mo_step_270 : decode c_Mo_step 270 = .ok (.i2l, 1) := by decide +kernel
theorem d_Mo_step_271 : decode c_Mo_step 271 = .ok (.ladd, 1) := by decide +kernel
theorem d_Mo_step_272 : decode c_Mo_step 272 = .ok (.ldc2_w 88, 3) := by decide +kernel
theorem d_Mo_step_275 : decode c_Mo_step 275 = .ok (.lsub, 1) := by decide +kernel
theorem d_Mo_step_276 : decode c_Mo_step 276 = .ok (.invokestatic 90, 3) := by decide +kernel
theorem d_Mo_step_279 : decode c_Mo_step 279 = .ok (.putfield 80, 3) := by decide +kernel
theorem d_Mo_step_282 : decode c_Mo_step 282 = .ok (.aload_n 0, 1) := by decide +kernel
theorem d_Mo_step_283 : decode c_Mo_step 283 = .ok (.dup, 1) := by decide +kernel
theorem d_Mo_step_284 : decode c_Mo_step 284 = .ok (.getfield 40, 3) := by decide +kernel
theorem d_Mo_step_287 : decode c_Mo_step 287 = .ok (.iconst 1, 1) := by decide +kernel
theorem d_Mo_step_288 : decode c_Mo_step 288 = .ok (.iadd, 1) := by decide +kernel
theorem d_Mo_step_289 : decode c_Mo_step 289 = .ok (.putfield 40, 3) := by decide +kernel
theorem d_Mo_step_292 : decode c_Mo_step 292 = .ok (.goto (-69), 3) := by decide +kernel
theorem d_Mo_step_295 : decode c_Mo_step 295 = .ok (.aload_n 0, 1) := by decide +kernel
theorem d_Mo_step_296 : decode c_Mo_step 296 = .ok (.aload_n 0, 1) := by decide +kernel
theorem d_Mo_step_297 : decode c_Mo_step 297 = .ok (.getfield 80, 3) := by decide +kernel
theorem d_Mo_step_300 : decode c_Mo_step 300 = .ok (.ldc2_w 98, 3) := by decide +kernel
theorem d_Mo_step_303 : decode c_Mo_step 303 = .ok (.lcmp, 1) := by decide +kernel
theorem d_Mo_step_304 : decode c_Mo_step 304 = .ok (.ifCond .gt 7, 3) := by decide +kernel
theorem d_Mo_step_307 : decode c_Mo_step 307 = .ok (.iconst 2, 1) := by decide +kernel
theorem d_Mo_step_308 : decode c_Mo_step 308 = .ok (.goto 4, 3) := by decide +kernel
theorem d_Mo_step_311 : decode c_Mo_step 311 = .ok (.iconst 4, 1) := by decide +kernel
theorem d_Mo_step_312 : decode c_Mo_step 312 = .ok (.putfield 49, 3) := by decide +kernel
theorem d_Mo_step_315 : decode c_Mo_step 315 = .ok (.goto 145, 3) := by decide +kernel
theorem d_Mo_step_318 : decode c_Mo_step 318 = .ok (.aload_n 0, 1) := by decide +kernel
theorem d_Mo_step_319 : decode c_Mo_step 319 = .ok (.getfield 9, 3) := by decide +kernel
theorem d_Mo_step_322 : decode c_Mo_step 322 = .ok (.aload_n 0, 1) := by decide +kernel
theorem d_Mo_step_323 : decode c_Mo_step 323 = .ok (.getfield 40, 3) := by decide +kernel
theorem d_Mo_step_326 : decode c_Mo_step 326 = .ok (.baload, 1) := by decide +kernel
theorem d_Mo_step_327 : decode c_Mo_step 327 = .ok (.istore_n 1, 1) := by decide +kernel
theorem d_Mo_step_328 : decode c_Mo_step 328 = .ok (.iload_n 1, 1) := by decide +kernel
theorem d_Mo_step_329 : decode c_Mo_step 329 = .ok (.bipush 58, 2) := by decide +kernel
theorem d_Mo_step_331 : decode c_Mo_step 331 = .ok (.if_icmp .ne 36, 3) := by decide +kernel
theorem d_Mo_step_334 : decode c_Mo_step 334 = .ok (.aload_n 0, 1) := by decide +kernel
theorem d_Mo_step_335 : decode c_Mo_step 335 = .ok (.getfield 40, 3) := by decide +kernel
theorem d_Mo_step_338 : decode c_Mo_step 338 = .ok (.iconst 1, 1) := by decide +kernel
theorem d_Mo_step_339 : decode c_Mo_step 339 = .ok (.iadd, 1) := by decide +kernel
theorem d_Mo_step_340 : decode c_Mo_step 340 = .ok (.aload_n 0, 1) := by decide +kernel
theorem d_Mo_step_341 : decode c_Mo_step 341 = .ok (.getfield 43, 3) := by decide +kernel
theorem d_Mo_step_344 : decode c_Mo_step 344 = .ok (.if_icmp .ge 23, 3) := by decide +kernel
theorem d_Mo_step_347 : decode c_Mo_step 347 = .ok (.aload_n 0, 1) := by decide +kernel
theorem d_Mo_step_348 : decode c_Mo_step 348 = .ok (.getfield 9, 3) := by decide +kernel
theorem d_Mo_step_351 : decode c_Mo_step 351 = .ok (.aload_n 0, 1) := by decide +kernel
theorem d_Mo_step_352 : decode c_Mo_step 352 = .ok (.getfield 40, 3) := by decide +kernel
theorem d_Mo_step_355 : decode c_Mo_step 355 = .ok (.iconst 1, 1) := by decide +kernel
theorem d_Mo_step_356 : decode c_Mo_step 356 = .ok (.iadd, 1) := by decide +kernel
theorem d_Mo_step_357 : decode c_Mo_step 357 = .ok (.baload, 1) := by decide +kernel
theorem d_Mo_step_358 : decode c_Mo_step 358 = .ok (.bipush 61, 2) := by decide +kernel
theorem d_Mo_step_360 : decode c_Mo_step 360 = .ok (.if_icmp .ne 7, 3) := by decide +kernel
theorem d_Mo_step_363 : decode c_Mo_step 363 = .ok (.iconst 1, 1) := by decide +kernel
theorem d_Mo_step_364 : decode c_Mo_step 364 = .ok (.goto 4, 3) := by decide +kernel
theorem d_Mo_step_367 : decode c_Mo_step 367 = .ok (.iconst 0, 1) := by decide +kernel
theorem d_Mo_step_368 : decode c_Mo_step 368 = .ok (.istore_n 2, 1) := by decide +kernel
theorem d_Mo_step_369 : decode c_Mo_step 369 = .ok (.aload_n 0, 1) := by decide +kernel
theorem d_Mo_step_370 : decode c_Mo_step 370 = .ok (.iload_n 2, 1) := by decide +kernel
theorem d_Mo_step_371 : decode c_Mo_step 371 = .ok (.ifCond .ne 63, 3) := by decide +kernel
theorem d_Mo_step_374 : decode c_Mo_step 374 = .ok (.iload_n 1, 1) := by decide +kernel
theorem d_Mo_step_375 : decode c_Mo_step 375 = .ok (.bipush 61, 2) := by decide +kernel
theorem d_Mo_step_377 : decode c_Mo_step 377 = .ok (.if_icmp .eq 57, 3) := by decide +kernel
theorem d_Mo_step_380 : decode c_Mo_step 380 = .ok (.iload_n 1, 1) := by decide +kernel
theorem d_Mo_step_381 : decode c_Mo_step 381 = .ok (.bipush 35, 2) := by decide +kernel
theorem d_Mo_step_383 : decode c_Mo_step 383 = .ok (.if_icmp .eq 51, 3) := by decide +kernel
theorem d_Mo_step_386 : decode c_Mo_step 386 = .ok (.iload_n 1, 1) := by decide +kernel
theorem d_Mo_step_387 : decode c_Mo_step 387 = .ok (.bipush 60, 2) := by decide +kernel
theorem d_Mo_step_389 : decode c_Mo_step 389 = .ok (.if_icmp .eq 45, 3) := by decide +kernel
theorem d_Mo_step_392 : decode c_Mo_step 392 = .ok (.iload_n 1, 1) := by decide +kernel
theorem d_Mo_step_393 : decode c_Mo_step 393 = .ok (.bipush 62, 2) := by decide +kernel
theorem d_Mo_step_395 : decode c_Mo_step 395 = .ok (.if_icmp .eq 39, 3) := by decide +kernel
theorem d_Mo_step_398 : decode c_Mo_step 398 = .ok (.iload_n 1, 1) := by decide +kernel
theorem d_Mo_step_399 : decode c_Mo_step 399 = .ok (.bipush 43, 2) := by decide +kernel
theorem d_Mo_step_401 : decode c_Mo_step 401 = .ok (.if_icmp .eq 33, 3) := by decide +kernel
theorem d_Mo_step_404 : decode c_Mo_step 404 = .ok (.iload_n 1, 1) := by decide +kernel
theorem d_Mo_step_405 : decode c_Mo_step 405 = .ok (.bipush 45, 2) := by decide +kernel
theorem d_Mo_step_407 : decode c_Mo_step 407 = .ok (.if_icmp .eq 27, 3) := by decide +kernel
theorem d_Mo_step_410 : decode c_Mo_step 410 = .ok (.iload_n 1, 1) := by decide +kernel
theorem d_Mo_step_411 : decode c_Mo_step 411 = .ok (.bipush 42, 2) := by decide +kernel
theorem d_Mo_step_413 : decode c_Mo_step 413 = .ok (.if_icmp .eq 21, 3) := by decide +kernel
theorem d_Mo_step_416 : decode c_Mo_step 416 = .ok (.iload_n 1, 1) := by decide +kernel
theorem d_Mo_step_417 : decode c_Mo_step 417 = .ok (.bipush 44, 2) := by decide +kernel
theorem d_Mo_step_419 : decode c_Mo_step 419 = .ok (.if_icmp .eq 15, 3) := by decide +kernel
theorem d_Mo_step_422 : decode c_Mo_step 422 = .ok (.iload_n 1, 1) := by decide +kernel
theorem d_Mo_step_423 : decode c_Mo_step 423 = .ok (.bipush 40, 2) := by decide +kernel
theorem d_Mo_step_425 : decode c_Mo_step 425 = .ok (.if_icmp .eq 9, 3) := by decide +kernel
theorem d_Mo_step_428 : decode c_Mo_step 428 = .ok (.iload_n 1, 1) := by decide +kernel
theorem d_Mo_step_429 : decode c_Mo_step 429 = .ok (.bipush 41, 2) := by decide +kernel
theorem d_Mo_step_431 : decode c_Mo_step 431 = .ok (.if_icmp .ne 7, 3) := by decide +kernel
theorem d_Mo_step_434 : decode c_Mo_step 434 = .ok (.iconst 3, 1) := by decide +kernel
theorem d_Mo_step_435 : decode c_Mo_step 435 = .ok (.goto 4, 3) := by decide +kernel
theorem d_Mo_step_438 : decode c_Mo_step 438 = .ok (.iconst 4, 1) := by decide +kernel
theorem d_Mo_step_439 : decode c_Mo_step 439 = .ok (.putfield 49, 3) := by decide +kernel
theorem d_Mo_step_442 : decode c_Mo_step 442 = .ok (.aload_n 0, 1) := by decide +kernel
theorem d_Mo_step_443 : decode c_Mo_step 443 = .ok (.dup, 1) := by decide +kernel
theorem d_Mo_step_444 : decode c_Mo_step 444 = .ok (.getfield 40, 3) := by decide +kernel
theorem d_Mo_step_447 : decode c_Mo_step 447 = .ok (.iload_n 2, 1) := by decide +kernel
theorem d_Mo_step_448 : decode c_Mo_step 448 = .ok (.ifCond .eq 7, 3) := by decide +kernel
theorem d_Mo_step_451 : decode c_Mo_step 451 = .ok (.iconst 2, 1) := by decide +kernel
theorem d_Mo_step_452 : decode c_Mo_step 452 = .ok (.goto 4, 3) := by decide +kernel
theorem d_Mo_step_455 : decode c_Mo_step 455 = .ok (.iconst 1, 1) := by decide +kernel
theorem d_Mo_step_456 : decode c_Mo_step 456 = .ok (.iadd, 1) := by decide +kernel
theorem d_Mo_step_457 : decode c_Mo_step 457 = .ok (.putfield 40, 3) := by decide +kernel
theorem d_Mo_step_460 : decode c_Mo_step 460 = .ok (.aload_n 0, 1) := by decide +kernel
theorem d_Mo_step_461 : decode c_Mo_step 461 = .ok (.aload_n 0, 1) := by decide +kernel
theorem d_Mo_step_462 : decode c_Mo_step 462 = .ok (.getfield 40, 3) := by decide +kernel
theorem d_Mo_step_465 : decode c_Mo_step 465 = .ok (.putfield 56, 3) := by decide +kernel
theorem d_Mo_step_468 : decode c_Mo_step 468 = .ok (.return_, 1) := by decide +kernel
theorem d_Mo_isLetter_0 : decode c_Mo_isLetter 0 = .ok (.iload_n 0, 1) := by decide +kernel
theorem d_Mo_isLetter_1 : decode c_Mo_isLetter 1 = .ok (.bipush 97, 2) := by decide +kernel
theorem d_Mo_isLetter_3 : decode c_Mo_isLetter 3 = .ok (.if_icmp .lt 13, 3) := by decide +kernel
theorem d_Mo_isLetter_6 : decode c_Mo_isLetter 6 = .ok (.iload_n 0, 1) := by decide +kernel
theorem d_Mo_isLetter_7 : decode c_Mo_isLetter 7 = .ok (.bipush 122, 2) := by decide +kernel
theorem d_Mo_isLetter_9 : decode c_Mo_isLetter 9 = .ok (.if_icmp .gt 7, 3) := by decide +kernel
theorem d_Mo_isLetter_12 : decode c_Mo_isLetter 12 = .ok (.iconst 1, 1) := by decide +kernel
theorem d_Mo_isLetter_13 : decode c_Mo_isLetter 13 = .ok (.goto 4, 3) := by decide +kernel
theorem d_Mo_isLetter_16 : decode c_Mo_isLetter 16 = .ok (.iconst 0, 1) := by decide +kernel
theorem d_Mo_isLetter_17 : decode c_Mo_isLetter 17 = .ok (.ireturn, 1) := by decide +kernel
theorem d_Mo_is_0 : decode c_Mo_is 0 = .ok (.aload_n 0, 1) := by decide +kernel
theorem d_Mo_is_1 : decode c_Mo_is 1 = .ok (.getfield 49, 3) := by decide +kernel
theorem d_Mo_is_4 : decode c_Mo_is 4 = .ok (.iconst 1, 1) := by decide +kernel
theorem d_Mo_is_5 : decode c_Mo_is 5 = .ok (.if_icmp .eq 11, 3) := by decide +kernel
theorem d_Mo_is_8 : decode c_Mo_is 8 = .ok (.aload_n 0, 1) := by decide +kernel
theorem d_Mo_is_9 : decode c_Mo_is 9 = .ok (.getfield 49, 3) := by decide +kernel
theorem d_Mo_is_12 : decode c_Mo_is 12 = .ok (.iconst 3, 1) := by decide +kernel
theorem d_Mo_is_13 : decode c_Mo_is 13 = .ok (.if_icmp .ne 19, 3) := by decide +kernel
theorem d_Mo_is_16 : decode c_Mo_is 16 = .ok (.aload_n 0, 1) := by decide +kernel
theorem d_Mo_is_17 : decode c_Mo_is 17 = .ok (.getfield 56, 3) := by decide +kernel
theorem d_Mo_is_20 : decode c_Mo_is 20 = .ok (.aload_n 0, 1) := by decide +kernel
theorem d_Mo_is_21 : decode c_Mo_is 21 = .ok (.getfield 46, 3) := by decide +kernel
theorem d_Mo_is_24 : decode c_Mo_is 24 = .ok (.isub, 1) := by decide +kernel
theorem d_Mo_is_25 : decode c_Mo_is 25 = .ok (.aload_n 1, 1) := by decide +kernel
theorem d_Mo_is_26 : decode c_Mo_is 26 = .ok (.invokevirtual 100, 3) := by decide +kernel
theorem d_Mo_is_29 : decode c_Mo_is 29 = .ok (.if_icmp .eq 5, 3) := by decide +kernel
theorem d_Mo_is_32 : decode c_Mo_is 32 = .ok (.iconst 0, 1) := by decide +kernel
theorem d_Mo_is_33 : decode c_Mo_is 33 = .ok (.ireturn, 1) := by decide +kernel
theorem d_Mo_is_34 : decode c_Mo_is 34 = .ok (.iconst 0, 1) := by decide +kernel
theorem d_Mo_is_35 : decode c_Mo_is 35 = .ok (.istore_n 2, 1) := by decide +kernel
theorem d_Mo_is_36 : decode c_Mo_is 36 = .ok (.iload_n 2, 1) := by decide +kernel
theorem d_Mo_is_37 : decode c_Mo_is 37 = .ok (.aload_n 1, 1) := by decide +kernel
theorem d_Mo_is_38 : decode c_Mo_is 38 = .ok (.invokevirtual 100, 3) := by decide +kernel
theorem d_Mo_is_41 : decode c_Mo_is 41 = .ok (.if_icmp .ge 30, 3) := by decide +kernel
theorem d_Mo_is_44 : decode c_Mo_is 44 = .ok (.aload_n 0, 1) := by decide +kernel
theorem d_Mo_is_45 : decode c_Mo_is 45 = .ok (.getfield 9, 3) := by decide +kernel
theorem d_Mo_is_48 : decode c_Mo_is 48 = .ok (.aload_n 0, 1) := by decide +kernel
theorem d_Mo_is_49 : decode c_Mo_is 49 = .ok (.getfield 46, 3) := by decide +kernel
theorem d_Mo_is_52 : decode c_Mo_is 52 = .ok (.iload_n 2, 1) := by decide +kernel
theorem d_Mo_is_53 : decode c_Mo_is 53 = .ok (.iadd, 1) := by decide +kernel
theorem d_Mo_is_54 : decode c_Mo_is 54 = .ok (.baload, 1) := by decide +kernel
theorem d_Mo_is_55 : decode c_Mo_is 55 = .ok (.aload_n 1, 1) := by decide +kernel
theorem d_Mo_is_56 : decode c_Mo_is 56 = .ok (.iload_n 2, 1) := by decide +kernel
theorem d_Mo_is_57 : decode c_Mo_is 57 = .ok (.invokevirtual 106, 3) := by decide +kernel
theorem d_Mo_is_60 : decode c_Mo_is 60 = .ok (.if_icmp .eq 5, 3) := by decide +kernel
theorem d_Mo_is_63 : decode c_Mo_is 63 = .ok (.iconst 0, 1) := by decide +kernel
theorem d_Mo_is_64 : decode c_Mo_is 64 = .ok (.ireturn, 1) := by decide +kernel
theorem d_Mo_is_65 : decode c_Mo_is 65 = .ok (.iinc 2 1, 3) := by decide +kernel
theorem d_Mo_is_68 : decode c_Mo_is 68 = .ok (.goto (-32), 3) := by decide +kernel
theorem d_Mo_is_71 : decode c_Mo_is 71 = .ok (.iconst 1, 1) := by decide +kernel
theorem d_Mo_is_72 : decode c_Mo_is 72 = .ok (.ireturn, 1) := by decide +kernel
theorem d_Mo_isDigit_0 : decode c_Mo_isDigit 0 = .ok (.iload_n 0, 1) := by decide +kernel
theorem d_Mo_isDigit_1 : decode c_Mo_isDigit 1 = .ok (.bipush 48, 2) := by decide +kernel
theorem d_Mo_isDigit_3 : decode c_Mo_isDigit 3 = .ok (.if_icmp .lt 13, 3) := by decide +kernel
theorem d_Mo_isDigit_6 : decode c_Mo_isDigit 6 = .ok (.iload_n 0, 1) := by decide +kernel
theorem d_Mo_isDigit_7 : decode c_Mo_isDigit 7 = .ok (.bipush 57, 2) := by decide +kernel
theorem d_Mo_isDigit_9 : decode c_Mo_isDigit 9 = .ok (.if_icmp .gt 7, 3) := by decide +kernel
theorem d_Mo_isDigit_12 : decode c_Mo_isDigit 12 = .ok (.iconst 1, 1) := by decide +kernel
theorem d_Mo_isDigit_13 : decode c_Mo_isDigit 13 = .ok (.goto 4, 3) := by decide +kernel
theorem d_Mo_isDigit_16 : decode c_Mo_isDigit 16 = .ok (.iconst 0, 1) := by decide +kernel
theorem d_Mo_isDigit_17 : decode c_Mo_isDigit 17 = .ok (.ireturn, 1) := by decide +kernel
theorem d_Mo_rule_0 : decode c_Mo_rule 0 = .ok (.aload_n 0, 1) := by decide +kernel
theorem d_Mo_rule_1 : decode c_Mo_rule 1 = .ok (.getfield 17, 3) := by decide +kernel
theorem d_Mo_rule_4 : decode c_Mo_rule 4 = .ok (.iconst 0, 1) := by decide +kernel
theorem d_Mo_rule_5 : decode c_Mo_rule 5 = .ok (.iaload, 1) := by decide +kernel
theorem d_Mo_rule_6 : decode c_Mo_rule 6 = .ok (.bipush 6, 2) := by decide +kernel
theorem d_Mo_rule_8 : decode c_Mo_rule 8 = .ok (.if_icmp .ne 8, 3) := by decide +kernel
theorem d_Mo_rule_11 : decode c_Mo_rule 11 = .ok (.aload_n 0, 1) := by decide +kernel
theorem d_Mo_rule_12 : decode c_Mo_rule 12 = .ok (.invokevirtual 113, 3) := by decide +kernel
theorem d_Mo_rule_15 : decode c_Mo_rule 15 = .ok (.ireturn, 1) := by decide +kernel
theorem d_Mo_rule_16 : decode c_Mo_rule 16 = .ok (.aload_n 0, 1) := by decide +kernel
theorem d_Mo_rule_17 : decode c_Mo_rule 17 = .ok (.getfield 17, 3) := by decide +kernel
theorem d_Mo_rule_20 : decode c_Mo_rule 20 = .ok (.iconst 0, 1) := by decide +kernel
theorem d_Mo_rule_21 : decode c_Mo_rule 21 = .ok (.dup2, 1) := by decide +kernel
theorem d_Mo_rule_22 : decode c_Mo_rule 22 = .ok (.iaload, 1) := by decide +kernel
theorem d_Mo_rule_23 : decode c_Mo_rule 23 = .ok (.iconst 1, 1) := by decide +kernel
theorem d_Mo_rule_24 : decode c_Mo_rule 24 = .ok (.iadd, 1) := by decide +kernel
theorem d_Mo_rule_25 : decode c_Mo_rule 25 = .ok (.iastore, 1) := by decide +kernel
theorem d_Mo_rule_26 : decode c_Mo_rule 26 = .ok (.aload_n 0, 1) := by decide +kernel
theorem d_Mo_rule_27 : decode c_Mo_rule 27 = .ok (.getfield 17, 3) := by decide +kernel
theorem d_Mo_rule_30 : decode c_Mo_rule 30 = .ok (.aload_n 0, 1) := by decide +kernel
theorem d_Mo_rule_31 : decode c_Mo_rule 31 = .ok (.getfield 17, 3) := by decide +kernel
theorem d_Mo_rule_34 : decode c_Mo_rule 34 = .ok (.iconst 0, 1) := by decide +kernel
theorem d_Mo_rule_35 : decode c_Mo_rule 35 = .ok (.iaload, 1) := by decide +kernel
theorem d_Mo_rule_36 : decode c_Mo_rule 36 = .ok (.aload_n 0, 1) := by decide +kernel
theorem d_Mo_rule_37 : decode c_Mo_rule 37 = .ok (.getfield 120, 3) := by decide +kernel
theorem d_Mo_rule_40 : decode c_Mo_rule 40 = .ok (.iastore, 1) := by decide +kernel
theorem d_Mo_rule_41 : decode c_Mo_rule 41 = .ok (.aload_n 0, 1) := by decide +kernel
theorem d_Mo_rule_42 : decode c_Mo_rule 42 = .ok (.getfield 120, 3) := by decide +kernel
theorem d_Mo_rule_45 : decode c_Mo_rule 45 = .ok (.istore_n 1, 1) := by decide +kernel
theorem d_Mo_rule_46 : decode c_Mo_rule 46 = .ok (.aload_n 0, 1) := by decide +kernel
theorem d_Mo_rule_47 : decode c_Mo_rule 47 = .ok (.iconst (-1), 1) := by decide +kernel
theorem d_Mo_rule_48 : decode c_Mo_rule 48 = .ok (.invokevirtual 138, 3) := by decide +kernel
theorem d_Mo_rule_51 : decode c_Mo_rule 51 = .ok (.aload_n 0, 1) := by decide +kernel
theorem d_Mo_rule_52 : decode c_Mo_rule 52 = .ok (.ldc 59, 2) := by decide +kernel
theorem d_Mo_rule_54 : decode c_Mo_rule 54 = .ok (.invokevirtual 61, 3) := by decide +kernel
theorem d_Mo_rule_57 : decode c_Mo_rule 57 = .ok (.ifCond .eq 53, 3) := by decide +kernel
theorem d_Mo_rule_60 : decode c_Mo_rule 60 = .ok (.aload_n 0, 1) := by decide +kernel
theorem d_Mo_rule_61 : decode c_Mo_rule 61 = .ok (.getfield 17, 3) := by decide +kernel
theorem d_Mo_rule_64 : decode c_Mo_rule 64 = .ok (.iload_n 1, 1) := by decide +kernel
theorem d_Mo_rule_65 : decode c_Mo_rule 65 = .ok (.iconst 0, 1) := by decide +kernel
theorem d_Mo_rule_66 : decode c_Mo_rule 66 = .ok (.iastore, 1) := by decide +kernel
theorem d_Mo_rule_67 : decode c_Mo_rule 67 = .ok (.aload_n 0, 1) := by decide +kernel
theorem d_Mo_rule_68 : decode c_Mo_rule 68 = .ok (.invokevirtual 117, 3) := by decide +kernel
theorem d_Mo_rule_71 : decode c_Mo_rule 71 = .ok (.aload_n 0, 1) := by decide +kernel
theorem d_Mo_rule_72 : decode c_Mo_rule 72 = .ok (.getfield 17, 3) := by decide +kernel
theorem d_Mo_rule_75 : decode c_Mo_rule 75 = .ok (.iload_n 1, 1) := by decide +kernel
theorem d_Mo_rule_76 : decode c_Mo_rule 76 = .ok (.dup2, 1) := by decide +kernel
theorem d_Mo_rule_77 : decode c_Mo_rule 77 = .ok (.iaload, 1) := by decide +kernel
theorem d_Mo_rule_78 : decode c_Mo_rule 78 = .ok (.iconst 1, 1) := by decide +kernel
theorem d_Mo_rule_79 : decode c_Mo_rule 79 = .ok (.iadd, 1) := by decide +kernel
theorem d_Mo_rule_80 : decode c_Mo_rule 80 = .ok (.iastore, 1) := by decide +kernel
theorem d_Mo_rule_81 : decode c_Mo_rule 81 = .ok (.aload_n 0, 1) := by decide +kernel
theorem d_Mo_rule_82 : decode c_Mo_rule 82 = .ok (.invokevirtual 142, 3) := by decide +kernel
theorem d_Mo_rule_85 : decode c_Mo_rule 85 = .ok (.ifCond .ne 5, 3) := by decide +kernel
theorem d_Mo_rule_88 : decode c_Mo_rule 88 = .ok (.iconst 0, 1) := by decide +kernel
theorem d_Mo_rule_89 : decode c_Mo_rule 89 = .ok (.ireturn, 1) := by decide +kernel
theorem d_Mo_rule_90 : decode c_Mo_rule 90 = .ok (.aload_n 0, 1) := by decide +kernel
theorem d_Mo_rule_91 : decode c_Mo_rule 91 = .ok (.ldc 69, 2) := by decide +kernel
theorem d_Mo_rule_93 : decode c_Mo_rule 93 = .ok (.invokevirtual 61, 3) := by decide +kernel
theorem d_Mo_rule_96 : decode c_Mo_rule 96 = .ok (.ifCond .ne (-29), 3) := by decide +kernel
theorem d_Mo_rule_99 : decode c_Mo_rule 99 = .ok (.aload_n 0, 1) := by decide +kernel
theorem d_Mo_rule_100 : decode c_Mo_rule 100 = .ok (.ldc 65, 2) := by decide +kernel
theorem d_Mo_rule_102 : decode c_Mo_rule 102 = .ok (.invokevirtual 145, 3) := by decide +kernel
theorem d_Mo_rule_105 : decode c_Mo_rule 105 = .ok (.ifCond .ne 5, 3) := by decide +kernel
theorem d_Mo_rule_108 : decode c_Mo_rule 108 = .ok (.iconst 0, 1) := by decide +kernel
theorem d_Mo_rule_109 : decode c_Mo_rule 109 = .ok (.ireturn, 1) := by decide +kernel
theorem d_Mo_rule_110 : decode c_Mo_rule 110 = .ok (.aload_n 0, 1) := by decide +kernel
theorem d_Mo_rule_111 : decode c_Mo_rule 111 = .ok (.getfield 120, 3) := by decide +kernel
theorem d_Mo_rule_114 : decode c_Mo_rule 114 = .ok (.istore_n 2, 1) := by decide +kernel
theorem d_Mo_rule_115 : decode c_Mo_rule 115 = .ok (.aload_n 0, 1) := by decide +kernel
theorem d_Mo_rule_116 : decode c_Mo_rule 116 = .ok (.iconst 0, 1) := by decide +kernel
theorem d_Mo_rule_117 : decode c_Mo_rule 117 = .ok (.invokevirtual 138, 3) := by decide +kernel
theorem d_Mo_rule_120 : decode c_Mo_rule 120 = .ok (.iconst 1, 1) := by decide +kernel
theorem d_Mo_rule_121 : decode c_Mo_rule 121 = .ok (.istore_n 3, 1) := by decide +kernel
theorem d_Mo_rule_122 : decode c_Mo_rule 122 = .ok (.iload_n 3, 1) := by decide +kernel
theorem d_Mo_rule_123 : decode c_Mo_rule 123 = .ok (.ifCond .eq 72, 3) := by decide +kernel
theorem d_Mo_rule_126 : decode c_Mo_rule 126 = .ok (.aload_n 0, 1) := by decide +kernel
theorem d_Mo_rule_127 : decode c_Mo_rule 127 = .ok (.getfield 17, 3) := by decide +kernel
theorem d_Mo_rule_130 : decode c_Mo_rule 130 = .ok (.iload_n 2, 1) := by decide +kernel
theorem d_Mo_rule_131 : decode c_Mo_rule 131 = .ok (.iaload, 1) := by decide +kernel
theorem d_Mo_rule_132 : decode c_Mo_rule 132 = .ok (.bipush 8, 2) := by decide +kernel
theorem d_Mo_rule_134 : decode c_Mo_rule 134 = .ok (.if_icmp .ne 8, 3) := by decide +kernel
theorem d_Mo_rule_137 : decode c_Mo_rule 137 = .ok (.aload_n 0, 1) := by decide +kernel
theorem d_Mo_rule_138 : decode c_Mo_rule 138 = .ok (.invokevirtual 113, 3) := by decide +kernel
theorem d_Mo_rule_141 : decode c_Mo_rule 141 = .ok (.ireturn, 1) := by decide +kernel
theorem d_Mo_rule_142 : decode c_Mo_rule 142 = .ok (.aload_n 0, 1) := by decide +kernel
theorem d_Mo_rule_143 : decode c_Mo_rule 143 = .ok (.getfield 17, 3) := by decide +kernel
theorem d_Mo_rule_146 : decode c_Mo_rule 146 = .ok (.iload_n 2, 1) := by decide +kernel
theorem d_Mo_rule_147 : decode c_Mo_rule 147 = .ok (.dup2, 1) := by decide +kernel
theorem d_Mo_rule_148 : decode c_Mo_rule 148 = .ok (.iaload, 1) := by decide +kernel
theorem d_Mo_rule_149 : decode c_Mo_rule 149 = .ok (.iconst 1, 1) := by decide +kernel
theorem d_Mo_rule_150 : decode c_Mo_rule 150 = .ok (.iadd, 1) := by decide +kernel
theorem d_Mo_rule_151 : decode c_Mo_rule 151 = .ok (.iastore, 1) := by decide +kernel
theorem d_Mo_rule_152 : decode c_Mo_rule 152 = .ok (.aload_n 0, 1) := by decide +kernel
theorem d_Mo_rule_153 : decode c_Mo_rule 153 = .ok (.invokevirtual 148, 3) := by decide +kernel
theorem d_Mo_rule_156 : decode c_Mo_rule 156 = .ok (.ifCond .eq 19, 3) := by decide +kernel
theorem d_Mo_rule_159 : decode c_Mo_rule 159 = .ok (.aload_n 0, 1) := by decide +kernel
theorem d_Mo_rule_160 : decode c_Mo_rule 160 = .ok (.ldc 151, 2) := by decide +kernel
theorem d_Mo_rule_162 : decode c_Mo_rule 162 = .ok (.invokevirtual 145, 3) := by decide +kernel
theorem d_Mo_rule_165 : decode c_Mo_rule 165 = .ok (.ifCond .eq 10, 3) := by decide +kernel
theorem d_Mo_rule_168 : decode c_Mo_rule 168 = .ok (.aload_n 0, 1) := by decide +kernel
theorem d_Mo_rule_169 : decode c_Mo_rule 169 = .ok (.invokevirtual 153, 3) := by decide +kernel
theorem d_Mo_rule_172 : decode c_Mo_rule 172 = .ok (.ifCond .ne 5, 3) := by decide +kernel
theorem d_Mo_rule_175 : decode c_Mo_rule 175 = .ok (.iconst 0, 1) := by decide +kernel
theorem d_Mo_rule_176 : decode c_Mo_rule 176 = .ok (.ireturn, 1) := by decide +kernel
theorem d_Mo_rule_177 : decode c_Mo_rule 177 = .ok (.aload_n 0, 1) := by decide +kernel
theorem d_Mo_rule_178 : decode c_Mo_rule 178 = .ok (.ldc 156, 2) := by decide +kernel
theorem d_Mo_rule_180 : decode c_Mo_rule 180 = .ok (.invokevirtual 61, 3) := by decide +kernel
theorem d_Mo_rule_183 : decode c_Mo_rule 183 = .ok (.istore_n 3, 1) := by decide +kernel
theorem d_Mo_rule_184 : decode c_Mo_rule 184 = .ok (.iload_n 3, 1) := by decide +kernel
theorem d_Mo_rule_185 : decode c_Mo_rule 185 = .ok (.ifCond .eq (-63), 3) := by decide +kernel
theorem d_Mo_rule_188 : decode c_Mo_rule 188 = .ok (.aload_n 0, 1) := by decide +kernel
theorem d_Mo_rule_189 : decode c_Mo_rule 189 = .ok (.invokevirtual 117, 3) := by decide +kernel
theorem d_Mo_rule_192 : decode c_Mo_rule 192 = .ok (.goto (-70), 3) := by decide +kernel
theorem d_Mo_rule_195 : decode c_Mo_rule 195 = .ok (.iconst 1, 1) := by decide +kernel
theorem d_Mo_rule_196 : decode c_Mo_rule 196 = .ok (.ireturn, 1) := by decide +kernel
theorem d_Mo_bad_0 : decode c_Mo_bad 0 = .ok (.aload_n 0, 1) := by decide +kernel
theorem d_Mo_bad_1 : decode c_Mo_bad 1 = .ok (.getfield 110, 3) := by decide +kernel
theorem d_Mo_bad_4 : decode c_Mo_bad 4 = .ok (.ifCond .ge 11, 3) := by decide +kernel
theorem d_Mo_bad_7 : decode c_Mo_bad 7 = .ok (.aload_n 0, 1) := by decide +kernel
theorem d_Mo_bad_8 : decode c_Mo_bad 8 = .ok (.aload_n 0, 1) := by decide +kernel
theorem d_Mo_bad_9 : decode c_Mo_bad 9 = .ok (.getfield 46, 3) := by decide +kernel
theorem d_Mo_bad_12 : decode c_Mo_bad 12 = .ok (.putfield 110, 3) := by decide +kernel
theorem d_Mo_bad_15 : decode c_Mo_bad 15 = .ok (.iconst 0, 1) := by decide +kernel
theorem d_Mo_bad_16 : decode c_Mo_bad 16 = .ok (.ireturn, 1) := by decide +kernel
theorem d_Mo_put_0 : decode c_Mo_put 0 = .ok (.aload_n 0, 1) := by decide +kernel
theorem d_Mo_put_1 : decode c_Mo_put 1 = .ok (.getfield 17, 3) := by decide +kernel
theorem d_Mo_put_4 : decode c_Mo_put 4 = .ok (.aload_n 0, 1) := by decide +kernel
theorem d_Mo_put_5 : decode c_Mo_put 5 = .ok (.getfield 120, 3) := by decide +kernel
theorem d_Mo_put_8 : decode c_Mo_put 8 = .ok (.iload_n 1, 1) := by decide +kernel
theorem d_Mo_put_9 : decode c_Mo_put 9 = .ok (.iastore, 1) := by decide +kernel
theorem d_Mo_put_10 : decode c_Mo_put 10 = .ok (.aload_n 0, 1) := by decide +kernel
theorem d_Mo_put_11 : decode c_Mo_put 11 = .ok (.dup, 1) := by decide +kernel
theorem d_Mo_put_12 : decode c_Mo_put 12 = .ok (.getfield 120, 3) := by decide +kernel
theorem d_Mo_put_15 : decode c_Mo_put 15 = .ok (.iconst 1, 1) := by decide +kernel
theorem d_Mo_put_16 : decode c_Mo_put 16 = .ok (.iadd, 1) := by decide +kernel
theorem d_Mo_put_17 : decode c_Mo_put 17 = .ok (.putfield 120, 3) := by decide +kernel
theorem d_Mo_put_20 : decode c_Mo_put 20 = .ok (.return_, 1) := by decide +kernel
theorem d_Mo_compare_0 : decode c_Mo_compare 0 = .ok (.aload_n 0, 1) := by decide +kernel
theorem d_Mo_compare_1 : decode c_Mo_compare 1 = .ok (.getfield 120, 3) := by decide +kernel
theorem d_Mo_compare_4 : decode c_Mo_compare 4 = .ok (.istore_n 1, 1) := by decide +kernel
theorem d_Mo_compare_5 : decode c_Mo_compare 5 = .ok (.aload_n 0, 1) := by decide +kernel
theorem d_Mo_compare_6 : decode c_Mo_compare 6 = .ok (.iconst 0, 1) := by decide +kernel
theorem d_Mo_compare_7 : decode c_Mo_compare 7 = .ok (.invokevirtual 138, 3) := by decide +kernel
theorem d_Mo_compare_10 : decode c_Mo_compare 10 = .ok (.aload_n 0, 1) := by decide +kernel
theorem d_Mo_compare_11 : decode c_Mo_compare 11 = .ok (.invokevirtual 153, 3) := by decide +kernel
theorem d_Mo_compare_14 : decode c_Mo_compare 14 = .ok (.ifCond .ne 5, 3) := by decide +kernel
theorem d_Mo_compare_17 : decode c_Mo_compare 17 = .ok (.iconst 0, 1) := by decide +kernel
theorem d_Mo_compare_18 : decode c_Mo_compare 18 = .ok (.ireturn, 1) := by decide +kernel
theorem d_Mo_compare_19 : decode c_Mo_compare 19 = .ok (.aload_n 0, 1) := by decide +kernel
theorem d_Mo_compare_20 : decode c_Mo_compare 20 = .ok (.ldc 160, 2) := by decide +kernel
theorem d_Mo_compare_22 : decode c_Mo_compare 22 = .ok (.invokevirtual 61, 3) := by decide +kernel
theorem d_Mo_compare_25 : decode c_Mo_compare 25 = .ok (.ifCond .ne 35, 3) := by decide +kernel
theorem d_Mo_compare_28 : decode c_Mo_compare 28 = .ok (.aload_n 0, 1) := by decide +kernel
theorem d_Mo_compare_29 : decode c_Mo_compare 29 = .ok (.ldc 162, 2) := by decide +kernel
theorem d_Mo_compare_31 : decode c_Mo_compare 31 = .ok (.invokevirtual 61, 3) := by decide +kernel
theorem d_Mo_compare_34 : decode c_Mo_compare 34 = .ok (.ifCond .ne 26, 3) := by decide +kernel
theorem d_Mo_compare_37 : decode c_Mo_compare 37 = .ok (.aload_n 0, 1) := by decide +kernel
theorem d_Mo_compare_38 : decode c_Mo_compare 38 = .ok (.ldc 164, 2) := by decide +kernel
theorem d_Mo_compare_40 : decode c_Mo_compare 40 = .ok (.invokevirtual 61, 3) := by decide +kernel
theorem d_Mo_compare_43 : decode c_Mo_compare 43 = .ok (.ifCond .ne 17, 3) := by decide +kernel
theorem d_Mo_compare_46 : decode c_Mo_compare 46 = .ok (.aload_n 0, 1) := by decide +kernel
theorem d_Mo_compare_47 : decode c_Mo_compare 47 = .ok (.ldc 166, 2) := by decide +kernel
theorem d_Mo_compare_49 : decode c_Mo_compare 49 = .ok (.invokevirtual 61, 3) := by decide +kernel
theorem d_Mo_compare_52 : decode c_Mo_compare 52 = .ok (.ifCond .ne 8, 3) := by decide +kernel
theorem d_Mo_compare_55 : decode c_Mo_compare 55 = .ok (.aload_n 0, 1) := by decide +kernel
theorem d_Mo_compare_56 : decode c_Mo_compare 56 = .ok (.invokevirtual 113, 3) := by decide +kernel
theorem d_Mo_compare_59 : decode c_Mo_compare 59 = .ok (.ireturn, 1) := by decide +kernel
theorem d_Mo_compare_60 : decode c_Mo_compare 60 = .ok (.aload_n 0, 1) := by decide +kernel
theorem d_Mo_compare_61 : decode c_Mo_compare 61 = .ok (.getfield 17, 3) := by decide +kernel
theorem d_Mo_compare_64 : decode c_Mo_compare 64 = .ok (.iload_n 1, 1) := by decide +kernel
theorem d_Mo_compare_65 : decode c_Mo_compare 65 = .ok (.aload_n 0, 1) := by decide +kernel
theorem d_Mo_compare_66 : decode c_Mo_compare 66 = .ok (.getfield 9, 3) := by decide +kernel
theorem d_Mo_compare_69 : decode c_Mo_compare 69 = .ok (.aload_n 0, 1) := by decide +kernel
theorem d_Mo_compare_70 : decode c_Mo_compare 70 = .ok (.getfield 46, 3) := by decide +kernel
theorem d_Mo_compare_73 : decode c_Mo_compare 73 = .ok (.baload, 1) := by decide +kernel
theorem d_Mo_compare_74 : decode c_Mo_compare 74 = .ok (.iastore, 1) := by decide +kernel
