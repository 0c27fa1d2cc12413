theorem d_Ru_init_0 : decode c_Ru_init 0 = .ok (.aload_n 0, 1) := by decide +kernel
theorem d_Ru_init_1 : decode c_Ru_init 1 = .ok (.invokespecial 3, 3) := by decide +kernel
theorem d_Ru_init_4 : decode c_Ru_init 4 = .ok (.aload_n 0, 1) := by decide +kernel
theorem d_Ru_init_5 : decode c_Ru_init 5 = .ok (.new 9, 3) := by decide +kernel
theorem d_Ru_init_8 : decode c_Ru_init 8 = .ok (.dup, 1) := by decide +kernel
theorem d_Ru_init_9 : decode c_Ru_init 9 = .ok (.invokespecial 11, 3) := by decide +kernel
theorem d_Ru_init_12 : decode c_Ru_init 12 = .ok (.putfield 12, 3) := by decide +kernel
theorem d_Ru_init_15 : decode c_Ru_init 15 = .ok (.aload_n 0, 1) := by decide +kernel
theorem d_Ru_init_16 : decode c_Ru_init 16 = .ok (.new 16, 3) := by decide +kernel
theorem d_Ru_init_19 : decode c_Ru_init 19 = .ok (.dup, 1) := by decide +kernel
theorem d_Ru_init_20 : decode c_Ru_init 20 = .ok (.invokespecial 18, 3) := by decide +kernel
theorem d_Ru_init_23 : decode c_Ru_init 23 = .ok (.putfield 19, 3) := by decide +kernel
theorem d_Ru_init_26 : decode c_Ru_init 26 = .ok (.aload_n 0, 1) := by decide +kernel
theorem d_Ru_init_27 : decode c_Ru_init 27 = .ok (.new 23, 3) := by decide +kernel
theorem d_Ru_init_30 : decode c_Ru_init 30 = .ok (.dup, 1) := by decide +kernel
theorem d_Ru_init_31 : decode c_Ru_init 31 = .ok (.invokespecial 25, 3) := by decide +kernel
theorem d_Ru_init_34 : decode c_Ru_init 34 = .ok (.putfield 26, 3) := by decide +kernel
theorem d_Ru_init_37 : decode c_Ru_init 37 = .ok (.aload_n 0, 1) := by decide +kernel
theorem d_Ru_init_38 : decode c_Ru_init 38 = .ok (.new 30, 3) := by decide +kernel
theorem d_Ru_init_41 : decode c_Ru_init 41 = .ok (.dup, 1) := by decide +kernel
theorem d_Ru_init_42 : decode c_Ru_init 42 = .ok (.invokespecial 32, 3) := by decide +kernel
theorem d_Ru_init_45 : decode c_Ru_init 45 = .ok (.putfield 33, 3) := by decide +kernel
theorem d_Ru_init_48 : decode c_Ru_init 48 = .ok (.return_, 1) := by decide +kernel
theorem d_Ta_init_0 : decode c_Ta_init 0 = .ok (.aload_n 0, 1) := by decide +kernel
theorem d_Ta_init_1 : decode c_Ta_init 1 = .ok (.invokespecial 3, 3) := by decide +kernel
theorem d_Ta_init_4 : decode c_Ta_init 4 = .ok (.aload_n 0, 1) := by decide +kernel
theorem d_Ta_init_5 : decode c_Ta_init 5 = .ok (.sipush 400, 3) := by decide +kernel
theorem d_Ta_init_8 : decode c_Ta_init 8 = .ok (.newarray .byte, 2) := by decide +kernel
theorem d_Ta_init_10 : decode c_Ta_init 10 = .ok (.putfield 9, 3) := by decide +kernel
theorem d_Ta_init_13 : decode c_Ta_init 13 = .ok (.return_, 1) := by decide +kernel
theorem d_Re_init_0 : decode c_Re_init 0 = .ok (.aload_n 0, 1) := by decide +kernel
theorem d_Re_init_1 : decode c_Re_init 1 = .ok (.invokespecial 3, 3) := by decide +kernel
theorem d_Re_init_4 : decode c_Re_init 4 = .ok (.aload_n 0, 1) := by decide +kernel
theorem d_Re_init_5 : decode c_Re_init 5 = .ok (.new 9, 3) := by decide +kernel
theorem d_Re_init_8 : decode c_Re_init 8 = .ok (.dup, 1) := by decide +kernel
theorem d_Re_init_9 : decode c_Re_init 9 = .ok (.invokespecial 11, 3) := by decide +kernel
theorem d_Re_init_12 : decode c_Re_init 12 = .ok (.putfield 12, 3) := by decide +kernel
theorem d_Re_init_15 : decode c_Re_init 15 = .ok (.aload_n 0, 1) := by decide +kernel
theorem d_Re_init_16 : decode c_Re_init 16 = .ok (.new 18, 3) := by decide +kernel
theorem d_Re_init_19 : decode c_Re_init 19 = .ok (.dup, 1) := by decide +kernel
theorem d_Re_init_20 : decode c_Re_init 20 = .ok (.invokespecial 20, 3) := by decide +kernel
theorem d_Re_init_23 : decode c_Re_init 23 = .ok (.putfield 21, 3) := by decide +kernel
theorem d_Re_init_26 : decode c_Re_init 26 = .ok (.return_, 1) := by decide +kernel
theorem d_To_init_0 : decode c_To_init 0 = .ok (.aload_n 0, 1) := by decide +kernel
theorem d_To_init_1 : decode c_To_init 1 = .ok (.invokespecial 3, 3) := by decide +kernel
theorem d_To_init_4 : decode c_To_init 4 = .ok (.aload_n 0, 1) := by decide +kernel
theorem d_To_init_5 : decode c_To_init 5 = .ok (.sipush 401, 3) := by decide +kernel
theorem d_To_init_8 : decode c_To_init 8 = .ok (.newarray .int, 2) := by decide +kernel
theorem d_To_init_10 : decode c_To_init 10 = .ok (.putfield 9, 3) := by decide +kernel
theorem d_To_init_13 : decode c_To_init 13 = .ok (.aload_n 0, 1) := by decide +kernel
theorem d_To_init_14 : decode c_To_init 14 = .ok (.sipush 401, 3) := by decide +kernel
theorem d_To_init_17 : decode c_To_init 17 = .ok (.newarray .int, 2) := by decide +kernel
theorem d_To_init_19 : decode c_To_init 19 = .ok (.putfield 15, 3) := by decide +kernel
theorem d_To_init_22 : decode c_To_init 22 = .ok (.aload_n 0, 1) := by decide +kernel
theorem d_To_init_23 : decode c_To_init 23 = .ok (.sipush 401, 3) := by decide +kernel
theorem d_To_init_26 : decode c_To_init 26 = .ok (.newarray .int, 2) := by decide +kernel
theorem d_To_init_28 : decode c_To_init 28 = .ok (.putfield 18, 3) := by decide +kernel
theorem d_To_init_31 : decode c_To_init 31 = .ok (.return_, 1) := by decide +kernel
theorem d_Co_init_0 : decode c_Co_init 0 = .ok (.aload_n 0, 1) := by decide +kernel
theorem d_Co_init_1 : decode c_Co_init 1 = .ok (.invokespecial 3, 3) := by decide +kernel
theorem d_Co_init_4 : decode c_Co_init 4 = .ok (.aload_n 0, 1) := by decide +kernel
theorem d_Co_init_5 : decode c_Co_init 5 = .ok (.sipush 160, 3) := by decide +kernel
theorem d_Co_init_8 : decode c_Co_init 8 = .ok (.newarray .int, 2) := by decide +kernel
theorem d_Co_init_10 : decode c_Co_init 10 = .ok (.putfield 9, 3) := by decide +kernel
theorem d_Co_init_13 : decode c_Co_init 13 = .ok (.aload_n 0, 1) := by decide +kernel
theorem d_Co_init_14 : decode c_Co_init 14 = .ok (.sipush 160, 3) := by decide +kernel
theorem d_Co_init_17 : decode c_Co_init 17 = .ok (.newarray .int, 2) := by decide +kernel
theorem d_Co_init_19 : decode c_Co_init 19 = .ok (.putfield 15, 3) := by decide +kernel
theorem d_Co_init_22 : decode c_Co_init 22 = .ok (.aload_n 0, 1) := by decide +kernel
theorem d_Co_init_23 : decode c_Co_init 23 = .ok (.bipush 6, 2) := by decide +kernel
theorem d_Co_init_25 : decode c_Co_init 25 = .ok (.newarray .int, 2) := by decide +kernel
theorem d_Co_init_27 : decode c_Co_init 27 = .ok (.putfield 18, 3) := by decide +kernel
theorem d_Co_init_30 : decode c_Co_init 30 = .ok (.return_, 1) := by decide +kernel
theorem d_Ma_init_0 : decode c_Ma_init 0 = .ok (.aload_n 0, 1) := by decide +kernel
theorem d_Ma_init_1 : decode c_Ma_init 1 = .ok (.invokespecial 3, 3) := by decide +kernel
theorem d_Ma_init_4 : decode c_Ma_init 4 = .ok (.aload_n 0, 1) := by decide +kernel
theorem d_Ma_init_5 : decode c_Ma_init 5 = .ok (.bipush 32, 2) := by decide +kernel
theorem d_Ma_init_7 : decode c_Ma_init 7 = .ok (.newarray .int, 2) := by decide +kernel
theorem d_Ma_init_9 : decode c_Ma_init 9 = .ok (.putfield 9, 3) := by decide +kernel
theorem d_Ma_init_12 : decode c_Ma_init 12 = .ok (.aload_n 0, 1) := by decide +kernel
theorem d_Ma_init_13 : decode c_Ma_init 13 = .ok (.bipush 80, 2) := by decide +kernel
theorem d_Ma_init_15 : decode c_Ma_init 15 = .ok (.newarray .int, 2) := by decide +kernel
theorem d_Ma_init_17 : decode c_Ma_init 17 = .ok (.putfield 15, 3) := by decide +kernel
theorem d_Ma_init_20 : decode c_Ma_init 20 = .ok (.aload_n 0, 1) := by decide +kernel
theorem d_Ma_init_21 : decode c_Ma_init 21 = .ok (.bipush 8, 2) := by decide +kernel
theorem d_Ma_init_23 : decode c_Ma_init 23 = .ok (.newarray .int, 2) := by decide +kernel
theorem d_Ma_init_25 : decode c_Ma_init 25 = .ok (.putfield 18, 3) := by decide +kernel
theorem d_Ma_init_28 : decode c_Ma_init 28 = .ok (.aload_n 0, 1) := by decide +kernel
theorem d_Ma_init_29 : decode c_Ma_init 29 = .ok (.bipush 8, 2) := by decide +kernel
theorem d_Ma_init_31 : decode c_Ma_init 31 = .ok (.newarray .int, 2) := by decide +kernel
theorem d_Ma_init_33 : decode c_Ma_init 33 = .ok (.putfield 21, 3) := by decide +kernel
theorem d_Ma_init_36 : decode c_Ma_init 36 = .ok (.aload_n 0, 1) := by decide +kernel
theorem d_Ma_init_37 : decode c_Ma_init 37 = .ok (.sipush 1600, 3) := by decide +kernel
theorem d_Ma_init_40 : decode c_Ma_init 40 = .ok (.newarray .int, 2) := by decide +kernel
theorem d_Ma_init_42 : decode c_Ma_init 42 = .ok (.putfield 24, 3) := by decide +kernel
theorem d_Ma_init_45 : decode c_Ma_init 45 = .ok (.aload_n 0, 1) := by decide +kernel
theorem d_Ma_init_46 : decode c_Ma_init 46 = .ok (.sipush 1600, 3) := by decide +kernel
theorem d_Ma_init_49 : decode c_Ma_init 49 = .ok (.newarray .int, 2) := by decide +kernel
theorem d_Ma_init_51 : decode c_Ma_init 51 = .ok (.putfield 27, 3) := by decide +kernel
theorem d_Ma_init_54 : decode c_Ma_init 54 = .ok (.aload_n 0, 1) := by decide +kernel
theorem d_Ma_init_55 : decode c_Ma_init 55 = .ok (.sipush 200, 3) := by decide +kernel
theorem d_Ma_init_58 : decode c_Ma_init 58 = .ok (.newarray .int, 2) := by decide +kernel
theorem d_Ma_init_60 : decode c_Ma_init 60 = .ok (.putfield 30, 3) := by decide +kernel
theorem d_Ma_init_63 : decode c_Ma_init 63 = .ok (.return_, 1) := by decide +kernel
theorem d_Ru_feed_0 : decode c_Ru_feed 0 = .ok (.aload_n 0, 1) := by decide +kernel
theorem d_Ru_feed_1 : decode c_Ru_feed 1 = .ok (.getfield 12, 3) := by decide +kernel
theorem d_Ru_feed_4 : decode c_Ru_feed 4 = .ok (.getfield 37, 3) := by decide +kernel
theorem d_Ru_feed_7 : decode c_Ru_feed 7 = .ok (.bipush 20, 2) := by decide +kernel
theorem d_Ru_feed_9 : decode c_Ru_feed 9 = .ok (.iadd, 1) := by decide +kernel
theorem d_Ru_feed_10 : decode c_Ru_feed 10 = .ok (.sipush 400, 3) := by decide +kernel
theorem d_Ru_feed_13 : decode c_Ru_feed 13 = .ok (.if_icmp .le 6, 3) := by decide +kernel
theorem d_Ru_feed_16 : decode c_Ru_feed 16 = .ok (.bipush (-3), 2) := by decide +kernel
theorem d_Ru_feed_18 : decode c_Ru_feed 18 = .ok (.ireturn, 1) := by decide +kernel
theorem d_Ru_feed_19 : decode c_Ru_feed 19 = .ok (.aload_n 0, 1) := by decide +kernel
theorem d_Ru_feed_20 : decode c_Ru_feed 20 = .ok (.getfield 12, 3) := by decide +kernel
theorem d_Ru_feed_23 : decode c_Ru_feed 23 = .ok (.iload_n 1, 1) := by decide +kernel
theorem d_Ru_feed_24 : decode c_Ru_feed 24 = .ok (.invokevirtual 41, 3) := by decide +kernel
theorem d_Ru_feed_27 : decode c_Ru_feed 27 = .ok (.aload_n 0, 1) := by decide +kernel
theorem d_Ru_feed_28 : decode c_Ru_feed 28 = .ok (.getfield 12, 3) := by decide +kernel
theorem d_Ru_feed_31 : decode c_Ru_feed 31 = .ok (.iload_n 2, 1) := by decide +kernel
theorem d_Ru_feed_32 : decode c_Ru_feed 32 = .ok (.invokevirtual 41, 3) := by decide +kernel
theorem d_Ru_feed_35 : decode c_Ru_feed 35 = .ok (.aload_n 0, 1) := by decide +kernel
theorem d_Ru_feed_36 : decode c_Ru_feed 36 = .ok (.getfield 12, 3) := by decide +kernel
theorem d_Ru_feed_39 : decode c_Ru_feed 39 = .ok (.iload_n 3, 1) := by decide +kernel
theorem d_Ru_feed_40 : decode c_Ru_feed 40 = .ok (.invokevirtual 41, 3) := by decide +kernel
theorem d_Ru_feed_43 : decode c_Ru_feed 43 = .ok (.aload_n 0, 1) := by decide +kernel
theorem d_Ru_feed_44 : decode c_Ru_feed 44 = .ok (.getfield 12, 3) := by decide +kernel
theorem d_Ru_feed_47 : decode c_Ru_feed 47 = .ok (.iload 4, 2) := by decide +kernel
theorem d_Ru_feed_49 : decode c_Ru_feed 49 = .ok (.invokevirtual 41, 3) := by decide +kernel
theorem d_Ru_feed_52 : decode c_Ru_feed 52 = .ok (.aload_n 0, 1) := by decide +kernel
theorem d_Ru_feed_53 : decode c_Ru_feed 53 = .ok (.getfield 12, 3) := by decide +kernel
theorem d_Ru_feed_56 : decode c_Ru_feed 56 = .ok (.iload 5, 2) := by decide +kernel
theorem d_Ru_feed_58 : decode c_Ru_feed 58 = .ok (.invokevirtual 41, 3) := by decide +kernel
theorem d_Ru_feed_61 : decode c_Ru_feed 61 = .ok (.aload_n 0, 1) := by decide +kernel
theorem d_Ru_feed_62 : decode c_Ru_feed 62 = .ok (.getfield 12, 3) := by decide +kernel
theorem d_Ru_feed_65 : decode c_Ru_feed 65 = .ok (.getfield 37, 3) := by decide +kernel
theorem d_Ru_feed_68 : decode c_Ru_feed 68 = .ok (.ireturn, 1) := by decide +kernel
theorem d_Ta_append_0 : decode c_Ta_append 0 = .ok (.bipush 24, 2) := by decide +kernel
theorem d_Ta_append_2 : decode c_Ta_append 2 = .ok (.istore_n 2, 1) := by decide +kernel
theorem d_Ta_append_3 : decode c_Ta_append 3 = .ok (.iload_n 2, 1) := by decide +kernel
theorem d_Ta_append_4 : decode c_Ta_append 4 = .ok (.ifCond .lt 42, 3) := by decide +kernel
theorem d_Ta_append_7 : decode c_Ta_append 7 = .ok (.aload_n 0, 1) := by decide +kernel
theorem d_Ta_append_8 : decode c_Ta_append 8 = .ok (.getfield 15, 3) := by decide +kernel
theorem d_Ta_append_11 : decode c_Ta_append 11 = .ok (.sipush 400, 3) := by decide +kernel
theorem d_Ta_append_14 : decode c_Ta_append 14 = .ok (.if_icmp .ge 26, 3) := by decide +kernel
theorem d_Ta_append_17 : decode c_Ta_append 17 = .ok (.aload_n 0, 1) := by decide +kernel
theorem d_Ta_append_18 : decode c_Ta_append 18 = .ok (.getfield 9, 3) := by decide +kernel
theorem d_Ta_append_21 : decode c_Ta_append 21 = .ok (.aload_n 0, 1) := by decide +kernel
theorem d_Ta_append_22 : decode c_Ta_append 22 = .ok (.getfield 15, 3) := by decide +kernel
theorem d_Ta_append_25 : decode c_Ta_append 25 = .ok (.iload_n 1, 1) := by decide +kernel
theorem d_Ta_append_26 : decode c_Ta_append 26 = .ok (.iload_n 2, 1) := by decide +kernel
theorem d_Ta_append_27 : decode c_Ta_append 27 = .ok (.ishr, 1) := by decide +kernel
theorem d_Ta_append_28 : decode c_Ta_append 28 = .ok (.i2b, 1) := by decide +kernel
theorem d_Ta_append_29 : decode c_Ta_append 29 = .ok (.bastore, 1) := by decide +kernel
theorem d_Ta_append_30 : decode c_Ta_append 30 = .ok (.aload_n 0, 1) := by decide +kernel
theorem d_Ta_append_31 : decode c_Ta_append 31 = .ok (.dup, 1) := by decide +kernel
theorem d_Ta_append_32 : decode c_Ta_append 32 = .ok (.getfield 15, 3) := by decide +kernel
theorem d_Ta_append_35 : decode c_Ta_append 35 = .ok (.iconst 1, 1) := by decide +kernel
theorem d_Ta_append_36 : decode c_Ta_append 36 = .ok (.iadd, 1) := by decide +kernel
theorem d_Ta_append_37 : decode c_Ta_append 37 = .ok (.putfield 15, 3) := by decide +kernel
theorem d_Ta_append_40 : decode c_Ta_append 40 = .ok (.iinc 2 (-8), 3) := by decide +kernel
theorem d_Ta_append_43 : decode c_Ta_append 43 = .ok (.goto (-40), 3) := by decide +kernel
theorem d_Ta_append_46 : decode c_Ta_append 46 = .ok (.return_, 1) := by decide +kernel
theorem d_Ru_end_0 : decode c_Ru_end 0 = .ok (.iload_n 1, 1) := by decide +kernel
theorem d_Ru_end_1 : decode c_Ru_end 1 = .ok (.ifCond .lt 14, 3) := by decide +kernel
theorem d_Ru_end_4 : decode c_Ru_end 4 = .ok (.iload_n 1, 1) := by decide +kernel
theorem d_Ru_end_5 : decode c_Ru_end 5 = .ok (.aload_n 0, 1) := by decide +kernel
theorem d_Ru_end_6 : decode c_Ru_end 6 = .ok (.getfield 12, 3) := by decide +kernel
theorem d_Ru_end_9 : decode c_Ru_end 9 = .ok (.getfield 37, 3) := by decide +kernel
theorem d_Ru_end_12 : decode c_Ru_end 12 = .ok (.if_icmp .le 5, 3) := by decide +kernel
theorem d_Ru_end_15 : decode c_Ru_end 15 = .ok (.iconst (-1), 1) := by decide +kernel
theorem d_Ru_end_16 : decode c_Ru_end 16 = .ok (.ireturn, 1) := by decide +kernel
theorem d_Ru_end_17 : decode c_Ru_end 17 = .ok (.aload_n 0, 1) := by decide +kernel
theorem d_Ru_end_18 : decode c_Ru_end 18 = .ok (.getfield 12, 3) := by decide +kernel
theorem d_Ru_end_21 : decode c_Ru_end 21 = .ok (.iload_n 1, 1) := by decide +kernel
theorem d_Ru_end_22 : decode c_Ru_end 22 = .ok (.putfield 37, 3) := by decide +kernel
theorem d_Ru_end_25 : decode c_Ru_end 25 = .ok (.iload_n 1, 1) := by decide +kernel
theorem d_Ru_end_26 : decode c_Ru_end 26 = .ok (.ireturn, 1) := by decide +kernel
theorem d_Ru_program_0 : decode c_Ru_program 0 = .ok (.aload_n 0, 1) := by decide +kernel
theorem d_Ru_program_1 : decode c_Ru_program 1 = .ok (.getfield 19, 3) := by decide +kernel
theorem d_Ru_program_4 : decode c_Ru_program 4 = .ok (.aload_n 0, 1) := by decide +kernel
theorem d_Ru_program_5 : decode c_Ru_program 5 = .ok (.getfield 12, 3) := by decide +kernel
theorem d_Ru_program_8 : decode c_Ru_program 8 = .ok (.invokevirtual 45, 3) := by decide +kernel
theorem d_Ru_program_11 : decode c_Ru_program 11 = .ok (.istore_n 1, 1) := by decide +kernel
theorem d_Ru_program_12 : decode c_Ru_program 12 = .ok (.aload_n 0, 1) := by decide +kernel
theorem d_Ru_program_13 : decode c_Ru_program 13 = .ok (.getfield 12, 3) := by decide +kernel
theorem d_Ru_program_16 : decode c_Ru_program 16 = .ok (.iconst 0, 1) := by decide +kernel
theorem d_Ru_program_17 : decode c_Ru_program 17 = .ok (.putfield 37, 3) := by decide +kernel
theorem d_Ru_program_20 : decode c_Ru_program 20 = .ok (.iload_n 1, 1) := by decide +kernel
theorem d_Ru_program_21 : decode c_Ru_program 21 = .ok (.bipush (-2), 2) := by decide +kernel
theorem d_Ru_program_23 : decode c_Ru_program 23 = .ok (.if_icmp .ne 18, 3) := by decide +kernel
theorem d_Ru_program_26 : decode c_Ru_program 26 = .ok (.aload_n 0, 1) := by decide +kernel
theorem d_Ru_program_27 : decode c_Ru_program 27 = .ok (.aload_n 0, 1) := by decide +kernel
theorem d_Ru_program_28 : decode c_Ru_program 28 = .ok (.getfield 19, 3) := by decide +kernel
theorem d_Ru_program_31 : decode c_Ru_program 31 = .ok (.aload_n 0, 1) := by decide +kernel
theorem d_Ru_program_32 : decode c_Ru_program 32 = .ok (.getfield 33, 3) := by decide +kernel
theorem d_Ru_program_35 : decode c_Ru_program 35 = .ok (.invokevirtual 49, 3) := by decide +kernel
theorem d_Ru_program_38 : decode c_Ru_program 38 = .ok (.putfield 33, 3) := by decide +kernel
theorem d_Ru_program_41 : decode c_Ru_program 41 = .ok (.iload_n 1, 1) := by decide +kernel
theorem d_Ru_program_42 : decode c_Ru_program 42 = .ok (.ireturn, 1) := by decide +kernel
theorem d_Re_read_0 : decode c_Re_read 0 = .ok (.aload_n 0, 1) := by decide +kernel
theorem d_Re_read_1 : decode c_Re_read 1 = .ok (.getfield 12, 3) := by decide +kernel
theorem d_Re_read_4 : decode c_Re_read 4 = .ok (.aload_n 1, 1) := by decide +kernel
theorem d_Re_read_5 : decode c_Re_read 5 = .ok (.invokevirtual 25, 3) := by decide +kernel
theorem d_Re_read_8 : decode c_Re_read 8 = .ok (.aload_n 0, 1) := by decide +kernel
theorem d_Re_read_9 : decode c_Re_read 9 = .ok (.getfield 21, 3) := by decide +kernel
theorem d_Re_read_12 : decode c_Re_read 12 = .ok (.invokevirtual 29, 3) := by decide +kernel
theorem d_Re_read_15 : decode c_Re_read 15 = .ok (.aload_n 0, 1) := by decide +kernel
theorem d_Re_read_16 : decode c_Re_read 16 = .ok (.iconst 0, 1) := by decide +kernel
theorem d_Re_read_17 : decode c_Re_read 17 = .ok (.putfield 32, 3) := by decide +kernel
theorem d_Re_read_20 : decode c_Re_read 20 = .ok (.aload_n 0, 1) := by decide +kernel
theorem d_Re_read_21 : decode c_Re_read 21 = .ok (.iconst 0, 1) := by decide +kernel
theorem d_Re_read_22 : decode c_Re_read 22 = .ok (.putfield 36, 3) := by decide +kernel
theorem d_Re_read_25 : decode c_Re_read 25 = .ok (.iconst 0, 1) := by decide +kernel
theorem d_Re_read_26 : decode c_Re_read 26 = .ok (.istore_n 2, 1) := by decide +kernel
theorem d_Re_read_27 : decode c_Re_read 27 = .ok (.iload_n 2, 1) := by decide +kernel
theorem d_Re_read_28 : decode c_Re_read 28 = .ok (.bipush 6, 2) := by decide +kernel
theorem d_Re_read_30 : decode c_Re_read 30 = .ok (.if_icmp .ge 48, 3) := by decide +kernel
theorem d_Re_read_33 : decode c_Re_read 33 = .ok (.aload_n 0, 1) := by decide +kernel
theorem d_Re_read_34 : decode c_Re_read 34 = .ok (.invokevirtual 39, 3) := by decide +kernel
theorem d_Re_read_37 : decode c_Re_read 37 = .ok (.ifCond .ne 6, 3) := by decide +kernel
theorem d_Re_read_40 : decode c_Re_read 40 = .ok (.goto 38, 3) := by decide +kernel
theorem d_Re_read_43 : decode c_Re_read 43 = .ok (.aload_n 0, 1) := by decide +kernel
theorem d_Re_read_44 : decode c_Re_read 44 = .ok (.getfield 21, 3) := by decide +kernel
theorem d_Re_read_47 : decode c_Re_read 47 = .ok (.invokevirtual 43, 3) := by decide +kernel
theorem d_Re_read_50 : decode c_Re_read 50 = .ok (.aload_n 0, 1) := by decide +kernel
theorem d_Re_read_51 : decode c_Re_read 51 = .ok (.iconst 0, 1) := by decide +kernel
theorem d_Re_read_52 : decode c_Re_read 52 = .ok (.invokevirtual 46, 3) := by decide +kernel
theorem d_Re_read_55 : decode c_Re_read 55 = .ok (.ifCond .eq 6, 3) := by decide +kernel
theorem d_Re_read_58 : decode c_Re_read 58 = .ok (.bipush (-2), 2) := by decide +kernel
theorem d_Re_read_60 : decode c_Re_read 60 = .ok (.ireturn, 1) := by decide +kernel
theorem d_Re_read_61 : decode c_Re_read 61 = .ok (.aload_n 0, 1) := by decide +kernel
theorem d_Re_read_62 : decode c_Re_read 62 = .ok (.iconst 4, 1) := by decide +kernel
theorem d_Re_read_63 : decode c_Re_read 63 = .ok (.invokevirtual 50, 3) := by decide +kernel
theorem d_Re_read_66 : decode c_Re_read 66 = .ok (.ifCond .ne 6, 3) := by decide +kernel
theorem d_Re_read_69 : decode c_Re_read 69 = .ok (.goto 9, 3) := by decide +kernel
theorem d_Re_read_72 : decode c_Re_read 72 = .ok (.iinc 2 1, 3) := by decide +kernel
theorem d_Re_read_75 : decode c_Re_read 75 = .ok (.goto (-48), 3) := by decide +kernel
theorem d_Re_read_78 : decode c_Re_read 78 = .ok (.aload_n 0, 1) := by decide +kernel
theorem d_Re_read_79 : decode c_Re_read 79 = .ok (.getfield 12, 3) := by decide +kernel
theorem d_Re_read_82 : decode c_Re_read 82 = .ok (.getfield 53, 3) := by decide +kernel
theorem d_Re_read_85 : decode c_Re_read 85 = .ok (.aload_n 0, 1) := by decide +kernel
theorem d_Re_read_86 : decode c_Re_read 86 = .ok (.getfield 32, 3) := by decide +kernel
theorem d_Re_read_89 : decode c_Re_read 89 = .ok (.iaload, 1) := by decide +kernel
theorem d_Re_read_90 : decode c_Re_read 90 = .ok (.ireturn, 1) := by decide +kernel
theorem d_To_split_0 : decode c_To_split 0 = .ok (.aload_n 0, 1) := by decide +kernel
theorem d_To_split_1 : decode c_To_split 1 = .ok (.iconst 0, 1) := by decide +kernel
theorem d_To_split_2 : decode c_To_split 2 = .ok (.putfield 21, 3) := by decide +kernel
theorem d_To_split_5 : decode c_To_split 5 = .ok (.iconst 0, 1) := by decide +kernel
theorem d_To_split_6 : decode c_To_split 6 = .ok (.istore_n 2, 1) := by decide +kernel
theorem d_To_split_7 : decode c_To_split 7 = .ok (.iconst 0, 1) := by decide +kernel
theorem d_To_split_8 : decode c_To_split 8 = .ok (.istore_n 3, 1) := by decide +kernel
theorem d_To_split_9 : decode c_To_split 9 = .ok (.iload_n 3, 1) := by decide +kernel
theorem d_To_split_10 : decode c_To_split 10 = .ok (.aload_n 1, 1) := by decide +kernel
theorem d_To_split_11 : decode c_To_split 11 = .ok (.getfield 25, 3) := by decide +kernel
theorem d_To_split_14 : decode c_To_split 14 = .ok (.if_icmp .ge 32, 3) := by decide +kernel
theorem d_To_split_17 : decode c_To_split 17 = .ok (.iload_n 3, 1) := by decide +kernel
theorem d_To_split_18 : decode c_To_split 18 = .ok (.iload_n 2, 1) := by decide +kernel
theorem d_To_split_19 : decode c_To_split 19 = .ok (.if_icmp .lt 21, 3) := by decide +kernel
theorem d_To_split_22 : decode c_To_split 22 = .ok (.aload_n 1, 1) := by decide +kernel
theorem d_To_split_23 : decode c_To_split 23 = .ok (.getfield 30, 3) := by decide +kernel
theorem d_To_split_26 : decode c_To_split 26 = .ok (.iload_n 3, 1) := by decide +kernel
theorem d_To_split_27 : decode c_To_split 27 = .ok (.baload, 1) := by decide +kernel
theorem d_To_split_28 : decode c_To_split 28 = .ok (.bipush 32, 2) := by decide +kernel
theorem d_To_split_30 : decode c_To_split 30 = .ok (.if_icmp .eq 10, 3) := by decide +kernel
theorem d_To_split_33 : decode c_To_split 33 = .ok (.aload_n 0, 1) := by decide +kernel
theorem d_To_split_34 : decode c_To_split 34 = .ok (.aload_n 1, 1) := by decide +kernel
theorem d_To_split_35 : decode c_To_split 35 = .ok (.iload_n 3, 1) := by decide +kernel
theorem d_To_split_36 : decode c_To_split 36 = .ok (.invokevirtual 34, 3) := by decide +kernel
theorem d_To_split_39 : decode c_To_split 39 = .ok (.istore_n 2, 1) := by decide +kernel
theorem d_To_split_40 : decode c_To_split 40 = .ok (.iinc 3 1, 3) := by decide +kernel
theorem d_To_split_43 : decode c_To_split 43 = .ok (.goto (-34), 3) := by decide +kernel
theorem d_To_split_46 : decode c_To_split 46 = .ok (.aload_n 0, 1) := by decide +kernel
theorem d_To_split_47 : decode c_To_split 47 = .ok (.iconst 0, 1) := by decide +kernel
theorem d_To_split_48 : decode c_To_split 48 = .ok (.iconst 0, 1) := by decide +kernel
theorem d_To_split_49 : decode c_To_split 49 = .ok (.aload_n 1, 1) := by decide +kernel
theorem d_To_split_50 : decode c_To_split 50 = .ok (.getfield 25, 3) := by decide +kernel
theorem d_To_split_53 : decode c_To_split 53 = .ok (.invokevirtual 38, 3) := by decide +kernel
theorem d_To_split_56 : decode c_To_split 56 = .ok (.return_, 1) := by decide +kernel
theorem d_To_splitOne_0 : decode c_To_splitOne 0 = .ok (.aload_n 1, 1) := by decide +kernel
theorem d_To_splitOne_1 : decode c_To_splitOne 1 = .ok (.getfield 30, 3) := by decide +kernel
theorem d_To_splitOne_4 : decode c_To_splitOne 4 = .ok (.iload_n 2, 1) := by decide +kernel
theorem d_To_splitOne_5 : decode c_To_splitOne 5 = .ok (.baload, 1) := by decide +kernel
theorem d_To_splitOne_6 : decode c_To_splitOne 6 = .ok (.istore_n 3, 1) := by decide +kernel
theorem d_To_splitOne_7 : decode c_To_splitOne 7 = .ok (.iload_n 3, 1) := by decide +kernel
theorem d_To_splitOne_8 : decode c_To_splitOne 8 = .ok (.invokestatic 42, 3) := by decide +kernel
theorem d_To_splitOne_11 : decode c_To_splitOne 11 = .ok (.ifCond .eq 10, 3) := by decide +kernel
theorem d_To_splitOne_14 : decode c_To_splitOne 14 = .ok (.aload_n 0, 1) := by decide +kernel
theorem d_To_splitOne_15 : decode c_To_splitOne 15 = .ok (.aload_n 1, 1) := by decide +kernel
theorem d_To_splitOne_16 : decode c_To_splitOne 16 = .ok (.iload_n 2, 1) := by decide +kernel
theorem d_To_splitOne_17 : decode c_To_splitOne 17 = .ok (.invokevirtual 46, 3) := by decide +kernel
theorem d_To_splitOne_20 : decode c_To_splitOne 20 = .ok (.ireturn, 1) := by decide +kernel
theorem d_To_splitOne_21 : decode c_To_splitOne 21 = .ok (.iload_n 3, 1) := by decide +kernel
theorem d_To_splitOne_22 : decode c_To_splitOne 22 = .ok (.invokestatic 49, 3) := by decide +kernel
theorem d_To_splitOne_25 : decode c_To_splitOne 25 = .ok (.ifCond .eq 10, 3) := by decide +kernel
theorem d_To_splitOne_28 : decode c_To_splitOne 28 = .ok (.aload_n 0, 1) := by decide +kernel
theorem d_To_splitOne_29 : decode c_To_splitOne 29 = .ok (.aload_n 1, 1) := by decide +kernel
theorem d_To_splitOne_30 : decode c_To_splitOne 30 = .ok (.iload_n 2, 1) := by decide +kernel
theorem d_To_splitOne_31 : decode c_To_splitOne 31 = .ok (.invokevirtual 52, 3) := by decide +kernel
theorem d_To_splitOne_34 : decode c_To_splitOne 34 = .ok (.ireturn, 1) := by decide +kernel
theorem d_To_splitOne_35 : decode c_To_splitOne 35 = .ok (.iload_n 3, 1) := by decide +kernel
theorem d_To_splitOne_36 : decode c_To_splitOne 36 = .ok (.bipush 58, 2) := by decide +kernel
theorem d_To_splitOne_38 : decode c_To_splitOne 38 = .ok (.if_icmp .ne 38, 3) := by decide +kernel
theorem d_To_splitOne_41 : decode c_To_splitOne 41 = .ok (.iload_n 2, 1) := by decide +kernel
theorem d_To_splitOne_42 : decode c_To_splitOne 42 = .ok (.iconst 1, 1) := by decide +kernel
theorem d_To_splitOne_43 : decode c_To_splitOne 43 = .ok (.iadd, 1) := by decide +kernel
theorem d_To_splitOne_44 : decode c_To_splitOne 44 = .ok (.aload_n 1, 1) := by decide +kernel
theorem d_To_splitOne_45 : decode c_To_splitOne 45 = .ok (.getfield 25, 3) := by decide +kernel
theorem d_To_splitOne_48 : decode c_To_splitOne 48 = .ok (.if_icmp .ge 28, 3) := by decide +kernel
theorem d_To_splitOne_51 : decode c_To_splitOne 51 = .ok (.aload_n 1, 1) := by decide +kernel
theorem d_To_splitOne_52 : decode c_To_splitOne 52 = .ok (.getfield 30, 3) := by decide +kernel
theorem d_To_splitOne_55 : decode c_To_splitOne 55 = .ok (.iload_n 2, 1) := by decide +kernel
theorem d_To_splitOne_56 : decode c_To_splitOne 56 = .ok (.iconst 1, 1) := by decide +kernel
theorem d_To_splitOne_57 : decode c_To_splitOne 57 = .ok (.iadd, 1) := by decide +kernel
theorem d_To_splitOne_58 : decode c_To_splitOne 58 = .ok (.baload, 1) := by decide +kernel
theorem d_To_splitOne_59 : decode c_To_splitOne 59 = .ok (.bipush 61, 2) := by decide +kernel
theorem d_To_splitOne_61 : decode c_To_splitOne 61 = .ok (.if_icmp .ne 15, 3) := by decide +kernel
theorem d_To_splitOne_64 : decode c_To_splitOne 64 = .ok (.aload_n 0, 1) := by decide +kernel
theorem d_To_splitOne_65 : decode c_To_splitOne 65 = .ok (.bipush 17, 2) := by decide +kernel
theorem d_To_splitOne_67 : decode c_To_splitOne 67 = .ok (.iconst 0, 1) := by decide +kernel
theorem d_To_splitOne_68 : decode c_To_splitOne 68 = .ok (.iload_n 2, 1) := by decide +kernel
theorem d_To_splitOne_69 : decode c_To_splitOne 69 = .ok (.invokevirtual 38, 3) := by decide +kernel
theorem d_To_splitOne_72 : decode c_To_splitOne 72 = .ok (.iload_n 2, 1) := by decide +kernel
theorem d_To_splitOne_73 : decode c_To_splitOne 73 = .ok (.iconst 2, 1) := by decide +kernel
theorem d_To_splitOne_74 : decode c_To_splitOne 74 = .ok (.iadd, 1) := by decide +kernel
theorem d_To_splitOne_75 : decode c_To_splitOne 75 = .ok (.ireturn, 1) := by decide +kernel
theorem d_To_splitOne_76 : decode c_To_splitOne 76 = .ok (.aload_n 0, 1) := by decide +kernel
theorem d_To_splitOne_77 : decode c_To_splitOne 77 = .ok (.iload_n 3, 1) := by decide +kernel
theorem d_To_splitOne_78 : decode c_To_splitOne 78 = .ok (.invokestatic 55, 3) := by decide +kernel
theorem d_To_splitOne_81 : decode c_To_splitOne 81 = .ok (.iconst 0, 1) := by decide +kernel
theorem d_To_splitOne_82 : decode c_To_splitOne 82 = .ok (.iload_n 2, 1) := by decide +kernel
theorem d_To_splitOne_83 : decode c_To_splitOne 83 = .ok (.invokevirtual 38, 3) := by decide +kernel
theorem d_To_splitOne_86 : decode c_To_splitOne 86 = .ok (.iload_n 2, 1) := by decide +kernel
theorem d_To_splitOne_87 : decode c_To_splitOne 87 = .ok (.iconst 1, 1) := by decide +kernel
theorem d_To_splitOne_88 : decode c_To_splitOne 88 = .ok (.iadd, 1) := by decide +kernel
theorem d_To_splitOne_89 : decode c_To_splitOne 89 = .ok (.ireturn, 1) := by decide +kernel
theorem d_To_isLetter_0 : decode c_To_isLetter 0 = .ok (.iload_n 0, 1) := by decide +kernel
theorem d_To_isLetter_1 : decode c_To_isLetter 1 = .ok (.bipush 97, 2) := by decide +kernel
theorem d_To_isLetter_3 : decode c_To_isLetter 3 = .ok (.if_icmp .lt 13, 3) := by decide +kernel
theorem d_To_isLetter_6 : decode c_To_isLetter 6 = .ok (.iload_n 0, 1) := by decide +kernel
theorem d_To_isLetter_7 : decode c_To_isLetter 7 = .ok (.bipush 122, 2) := by decide +kernel
theorem d_To_isLetter_9 : decode c_To_isLetter 9 = .ok (.if_icmp .gt 7, 3) := by decide +kernel
theorem d_To_isLetter_12 : decode c_To_isLetter 12 = .ok (.iconst 1, 1) := by decide +kernel
theorem d_To_isLetter_13 : decode c_To_isLetter 13 = .ok (.goto 4, 3) := by decide +kernel
theorem d_To_isLetter_16 : decode c_To_isLetter 16 = .ok (.iconst 0, 1) := by decide +kernel
theorem d_To_isLetter_17 : decode c_To_isLetter 17 = .ok (.ireturn, 1) := by decide +kernel
theorem d_To_splitWord_0 : decode c_To_splitWord 0 = .ok (.iload_n 2, 1) := by decide +kernel
theorem d_To_splitWord_1 : decode c_To_splitWord 1 = .ok (.istore_n 3, 1) := by decide +kernel
theorem d_To_splitWord_2 : decode c_To_splitWord 2 = .ok (.iload_n 3, 1) := by decide +kernel
theorem d_To_splitWord_3 : decode c_To_splitWord 3 = .ok (.aload_n 1, 1) := by decide +kernel
theorem d_To_splitWord_4 : decode c_To_splitWord 4 = .ok (.getfield 25, 3) := by decide +kernel
theorem d_To_splitWord_7 : decode c_To_splitWord 7 = .ok (.if_icmp .ge 21, 3) := by decide +kernel
theorem d_To_splitWord_10 : decode c_To_splitWord 10 = .ok (.aload_n 1, 1) := by decide +kernel
theorem d_To_splitWord_11 : decode c_To_splitWord 11 = .ok (.getfield 30, 3) := by decide +kernel
theorem d_To_splitWord_14 : decode c_To_splitWord 14 = .ok (.iload_n 3, 1) := by decide +kernel
theorem d_To_splitWord_15 : decode c_To_splitWord 15 = .ok (.baload, 1) := by decide +kernel
theorem d_To_splitWord_16 : decode c_To_splitWord 16 = .ok (.invokestatic 42, 3) := by decide +kernel
theorem d_To_splitWord_19 : decode c_To_splitWord 19 = .ok (.ifCond .eq 9, 3) := by decide +kernel
theorem d_To_splitWord_22 : decode c_To_splitWord 22 = .ok (.iinc 3 1, 3) := by decide +kernel
theorem d_To_splitWord_25 : decode c_To_splitWord 25 = .ok (.goto (-23), 3) := by decide +kernel
theorem d_To_splitWord_28 : decode c_To_splitWord 28 = .ok (.aload_n 0, 1) := by decide +kernel
theorem d_To_splitWord_29 : decode c_To_splitWord 29 = .ok (.aload_n 1, 1) := by decide +kernel
theorem d_To_splitWord_30 : decode c_To_splitWord 30 = .ok (.iload_n 2, 1) := by decide +kernel
theorem d_To_splitWord_31 : decode c_To_splitWord 31 = .ok (.iload_n 3, 1) := by decide +kernel
theorem d_To_splitWord_32 : decode c_To_splitWord 32 = .ok (.invokestatic 59, 3) := by decide +kernel
theorem d_To_splitWord_35 : decode c_To_splitWord 35 = .ok (.iconst 0, 1) := by decide +kernel
theorem d_To_splitWord_36 : decode c_To_splitWord 36 = .ok (.iload_n 2, 1) := by decide +kernel
theorem d_To_splitWord_37 : decode c_To_splitWord 37 = .ok (.invokevirtual 38, 3) := by decide +kernel
theorem d_To_splitWord_40 : decode c_To_splitWord 40 = .ok (.iload_n 3, 1) := by decide +kernel
theorem d_To_splitWord_41 : decode c_To_splitWord 41 = .ok (.ireturn, 1) := by decide +kernel
theorem d_To_wordKind_0 : decode c_To_wordKind 0 = .ok (.aload_n 0, 1) := by decide +kernel
theorem d_To_wordKind_1 : decode c_To_wordKind 1 = .ok (.ldc 75, 2) := by decide +kernel
theorem d_To_wordKind_3 : decode c_To_wordKind 3 = .ok (.iload_n 1, 1) := by decide +kernel
theorem d_To_wordKind_4 : decode c_To_wordKind 4 = .ok (.iload_n 2, 1) := by decide +kernel
theorem d_To_wordKind_5 : decode c_To_wordKind 5 = .ok (.invokevirtual 77, 3) := by decide +kernel
theorem d_To_wordKind_8 : decode c_To_wordKind 8 = .ok (.ifCond .eq 6, 3) := by decide +kernel
theorem d_To_wordKind_11 : decode c_To_wordKind 11 = .ok (.bipush 8, 2) := by decide +kernel
theorem d_To_wordKind_13 : decode c_To_wordKind 13 = .ok (.ireturn, 1) := by decide +kernel
theorem d_To_wordKind_14 : decode c_To_wordKind 14 = .ok (.aload_n 0, 1) := by decide +kernel
theorem d_To_wordKind_15 : decode c_To_wordKind 15 = .ok (.ldc 81, 2) := by decide +kernel
theorem d_To_wordKind_17 : decode c_To_wordKind 17 = .ok (.iload_n 1, 1) := by decide +kernel
theorem d_To_wordKind_18 : decode c_To_wordKind 18 = .ok (.iload_n 2, 1) := by decide +kernel
theorem d_To_wordKind_19 : decode c_To_wordKind 19 = .ok (.invokevirtual 77, 3) := by decide +kernel
theorem d_To_wordKind_22 : decode c_To_wordKind 22 = .ok (.ifCond .eq 5, 3) := by decide +kernel
theorem d_To_wordKind_25 : decode c_To_wordKind 25 = .ok (.iconst 2, 1) := by decide +kernel
theorem d_To_wordKind_26 : decode c_To_wordKind 26 = .ok (.ireturn, 1) := by decide +kernel
theorem d_To_wordKind_27 : decode c_To_wordKind 27 = .ok (.aload_n 0, 1) := by decide +kernel
theorem d_To_wordKind_28 : decode c_To_wordKind 28 = .ok (.ldc 83, 2) := by decide +kernel
theorem d_To_wordKind_30 : decode c_To_wordKind 30 = .ok (.iload_n 1, 1) := by decide +kernel
theorem d_To_wordKind_31 : decode c_To_wordKind 31 = .ok (.iload_n 2, 1) := by decide +kernel
theorem d_To_wordKind_32 : decode c_To_wordKind 32 = .ok (.invokevirtual 77, 3) := by decide +kernel
theorem d_To_wordKind_35 : decode c_To_wordKind 35 = .ok (.ifCond .eq 5, 3) := by decide +kernel
theorem d_To_wordKind_38 : decode c_To_wordKind 38 = .ok (.iconst 3, 1) := by decide +kernel
theorem d_To_wordKind_39 : decode c_To_wordKind 39 = .ok (.ireturn, 1) := by decide +kernel
theorem d_To_wordKind_40 : decode c_To_wordKind 40 = .ok (.aload_n 0, 1) := by decide +kernel
theorem d_To_wordKind_41 : decode c_To_wordKind 41 = .ok (.ldc 85, 2) := by decide +kernel
theorem d_To_wordKind_43 : decode c_To_wordKind 43 = .ok (.iload_n 1, 1) := by decide +kernel
theorem d_To_wordKind_44 : decode c_To_wordKind 44 = .ok (.iload_n 2, 1) := by decide +kernel
theorem d_To_wordKind_45 : decode c_To_wordKind 45 = .ok (.invokevirtual 77, 3) := by decide +kernel
theorem d_To_wordKind_48 : decode c_To_wordKind 48 = .ok (.ifCond .eq 5, 3) := by decide +kernel
theorem d_To_wordKind_51 : decode c_To_wordKind 51 = .ok (.iconst 4, 1) := by decide +kernel
theorem d_To_wordKind_52 : decode c_To_wordKind 52 = .ok (.ireturn, 1) := by decide +kernel
theorem d_To_wordKind_53 : decode c_To_wordKind 53 = .ok (.aload_n 0, 1) := by decide +kernel
theorem d_To_wordKind_54 : decode c_To_wordKind 54 = .ok (.ldc 87, 2) := by decide +kernel
theorem d_To_wordKind_56 : decode c_To_wordKind 56 = .ok (.iload_n 1, 1) := by decide +kernel
theorem d_To_wordKind_57 : decode c_To_wordKind 57 = .ok (.iload_n 2, 1) := by decide +kernel
theorem d_To_wordKind_58 : decode c_To_wordKind 58 = .ok (.invokevirtual 77, 3) := by decide +kernel
theorem d_To_wordKind_61 : decode c_To_wordKind 61 = .ok (.ifCond .eq 5, 3) := by decide +kernel
theorem d_To_wordKind_64 : decode c_To_wordKind 64 = .ok (.iconst 5, 1) := by decide +kernel
theorem d_To_wordKind_65 : decode c_To_wordKind 65 = .ok (.ireturn, 1) := by decide +kernel
theorem d_To_wordKind_66 : decode c_To_wordKind 66 = .ok (.aload_n 0, 1) := by decide +kernel
theorem d_To_wordKind_67 : decode c_To_wordKind 67 = .ok (.ldc 89, 2) := by decide +kernel
theorem d_To_wordKind_69 : decode c_To_wordKind 69 = .ok (.iload_n 1, 1) := by decide +kernel
theorem d_To_wordKind_70 : decode c_To_wordKind 70 = .ok (.iload_n 2, 1) := by decide +kernel
theorem d_To_wordKind_71 : decode c_To_wordKind 71 = .ok (.invokevirtual 77, 3) := by decide +kernel
theorem d_To_wordKind_74 : decode c_To_wordKind 74 = .ok (.ifCond .eq 6, 3) := by decide +kernel
theorem d_To_wordKind_77 : decode c_To_wordKind 77 = .ok (.bipush 6, 2) := by decide +kernel
theorem d_To_wordKind_79 : decode c_To_wordKind 79 = .ok (.ireturn, 1) := by decide +kernel
theorem d_To_wordKind_80 : decode c_To_wordKind 80 = .ok (.aload_n 0, 1) := by decide +kernel
theorem d_To_wordKind_81 : decode c_To_wordKind 81 = .ok (.ldc 91, 2) := by decide +kernel
theorem d_To_wordKind_83 : decode c_To_wordKind 83 = .ok (.iload_n 1, 1) := by decide +kernel
theorem d_To_wordKind_84 : decode c_To_wordKind 84 = .ok (.iload_n 2, 1) := by decide +kernel
theorem d_To_wordKind_85 : decode c_To_wordKind 85 = .ok (.invokevirtual 77, 3) := by decide +kernel
theorem d_To_wordKind_88 : decode c_To_wordKind 88 = .ok (.ifCond .eq 6, 3) := by decide +kernel
theorem d_To_wordKind_91 : decode c_To_wordKind 91 = .ok (.bipush 7, 2) := by decide +kernel
theorem d_To_wordKind_93 : decode c_To_wordKind 93 = .ok (.ireturn, 1) := by decide +kernel
theorem d_To_wordKind_94 : decode c_To_wordKind 94 = .ok (.iconst 1, 1) := by decide +kernel
theorem d_To_wordKind_95 : decode c_To_wordKind 95 = .ok (.ireturn, 1) := by decide +kernel
theorem d_Ta_spells_0 : decode c_Ta_spells 0 = .ok (.aload_n 1, 1) := by decide +kernel
theorem d_Ta_spells_1 : decode c_Ta_spells 1 = .ok (.invokevirtual 19, 3) := by decide +kernel
theorem d_Ta_spells_4 : decode c_Ta_spells 4 = .ok (.iload_n 3, 1) := by decide +kernel
theorem d_Ta_spells_5 : decode c_Ta_spells 5 = .ok (.iload_n 2, 1) := by decide +kernel
theorem d_Ta_spells_6 : decode c_Ta_spells 6 = .ok (.isub, 1) := by decide +kernel
theorem d_Ta_spells_7 : decode c_Ta_spells 7 = .ok (.if_icmp .eq 5, 3) := by decide +kernel
theorem d_Ta_spells_10 : decode c_Ta_spells 10 = .ok (.iconst 0, 1) := by decide +kernel
theorem d_Ta_spells_11 : decode c_Ta_spells 11 = .ok (.ireturn, 1) := by decide +kernel
theorem d_Ta_spells_12 : decode c_Ta_spells 12 = .ok (.iconst 0, 1) := by decide +kernel
theorem d_Ta_spells_13 : decode c_Ta_spells 13 = .ok (.istore 4, 2) := by decide +kernel
theorem d_Ta_spells_15 : decode c_Ta_spells 15 = .ok (.iload 4, 2) := by decide +kernel
theorem d_Ta_spells_17 : decode c_Ta_spells 17 = .ok (.aload_n 1, 1) := by decide +kernel
theorem d_Ta_spells_18 : decode c_Ta_spells 18 = .ok (.invokevirtual 19, 3) := by decide +kernel
theorem d_Ta_spells_21 : decode c_Ta_spells 21 = .ok (.if_icmp .ge 29, 3) := by decide +kernel
theorem d_Ta_spells_24 : decode c_Ta_spells 24 = .ok (.aload_n 0, 1) := by decide +kernel
theorem d_Ta_spells_25 : decode c_Ta_spells 25 = .ok (.getfield 9, 3) := by decide +kernel
theorem d_Ta_spells_28 : decode c_Ta_spells 28 = .ok (.iload_n 2, 1) := by decide +kernel
theorem d_Ta_spells_29 : decode c_Ta_spells 29 = .ok (.iload 4, 2) := by decide +kernel
theorem d_Ta_spells_31 : decode c_Ta_spells 31 = .ok (.iadd, 1) := by decide +kernel
theorem d_Ta_spells_32 : decode c_Ta_spells 32 = .ok (.baload, 1) := by decide +kernel
theorem d_Ta_spells_33 : decode c_Ta_spells 33 = .ok (.aload_n 1, 1) := by decide +kernel
theorem d_Ta_spells_34 : decode c_Ta_spells 34 = .ok (.iload 4, 2) := by decide +kernel
theorem d_Ta_spells_36 : decode c_Ta_spells 36 = .ok (.invokevirtual 24, 3) := by decide +kernel
theorem d_Ta_spells_39 : decode c_Ta_spells 39 = .ok (.if_icmp .eq 5, 3) := by decide +kernel
theorem d_Ta_spells_42 : decode c_Ta_spells 42 = .ok (.iconst 0, 1) := by decide +kernel
theorem d_Ta_spells_43 : decode c_Ta_spells 43 = .ok (.ireturn, 1) := by decide +kernel
theorem d_Ta_spells_44 : decode c_Ta_spells 44 = .ok (.iinc 4 1, 3) := by decide +kernel
theorem d_Ta_spells_47 : decode c_Ta_spells 47 = .ok (.goto (-32), 3) := by decide +kernel
theorem d_Ta_spells_50 : decode c_Ta_spells 50 = .ok (.iconst 1, 1) := by decide +kernel
theorem d_Ta_spells_51 : decode c_Ta_spells 51 = .ok (.ireturn, 1) := by decide +kernel
theorem d_St_length_0 : decode c_St_length 0 = .ok (.aload_n 0, 1) := by decide +kernel
theorem d_St_length_1 : decode c_St_length 1 = .ok (.getfield 9, 3) := by decide +kernel
theorem d_St_length_4 : decode c_St_length 4 = .ok (.arraylength, 1) := by decide +kernel
theorem d_St_length_5 : decode c_St_length 5 = .ok (.aload_n 0, 1) := by decide +kernel
theorem d_St_length_6 : decode c_St_length 6 = .ok (.invokevirtual 335, 3) := by decide +kernel
theorem d_St_length_9 : decode c_St_length 9 = .ok (.ishr, 1) := by decide +kernel
theorem d_St_length_10 : decode c_St_length 10 = .ok (.ireturn, 1) := by decide +kernel
theorem d_St_coder_0 : decode c_St_coder 0 = .ok (.getstatic 38, 3) := by decide +kernel
theorem d_St_coder_3 : decode c_St_coder 3 = .ok (.ifCond .eq 10, 3) := by decide +kernel
theorem d_St_coder_6 : decode c_St_coder 6 = .ok (.aload_n 0, 1) := by decide +kernel
theorem d_St_coder_7 : decode c_St_coder 7 = .ok (.getfield 15, 3) := by decide +kernel
theorem d_St_coder_10 : decode c_St_coder 10 = .ok (.goto 4, 3) := by decide +kernel
theorem d_St_coder_13 : decode c_St_coder 13 = .ok (.iconst 1, 1) := by decide +kernel
theorem d_St_coder_14 : decode c_St_coder 14 = .ok (.ireturn, 1) := by decide +kernel
theorem d_St_charAt_0 : decode c_St_charAt 0 = .ok (.aload_n 0, 1) := by decide +kernel
theorem d_St_charAt_1 : decode c_St_charAt 1 = .ok (.invokevirtual 492, 3) := by decide +kernel
theorem d_St_charAt_4 : decode c_St_charAt 4 = .ok (.ifCond .eq 12, 3) := by decide +kernel
theorem d_St_charAt_7 : decode c_St_charAt 7 = .ok (.aload_n 0, 1) := by decide +kernel
theorem d_St_charAt_8 : decode c_St_charAt 8 = .ok (.getfield 9, 3) := by decide +kernel
theorem d_St_charAt_11 : decode c_St_charAt 11 = .ok (.iload_n 1, 1) := by decide +kernel
theorem d_St_charAt_12 : decode c_St_charAt 12 = .ok (.invokestatic 495, 3) := by decide +kernel
theorem d_St_charAt_15 : decode c_St_charAt 15 = .ok (.ireturn, 1) := by decide +kernel
theorem d_St_charAt_16 : decode c_St_charAt 16 = .ok (.aload_n 0, 1) := by decide +kernel
theorem d_St_charAt_17 : decode c_St_charAt 17 = .ok (.getfield 9, 3) := by decide +kernel
theorem d_St_charAt_20 : decode c_St_charAt 20 = .ok (.iload_n 1, 1) := by decide +kernel
theorem d_St_charAt_21 : decode c_St_charAt 21 = .ok (.invokestatic 498, 3) := by decide +kernel
theorem d_St_charAt_24 : decode c_St_charAt 24 = .ok (.ireturn, 1) := by decide +kernel
theorem d_St_isLatin1_0 : decode c_St_isLatin1 0 = .ok (.getstatic 38, 3) := by decide +kernel
theorem d_St_isLatin1_3 : decode c_St_isLatin1 3 = .ok (.ifCond .eq 14, 3) := by decide +kernel
theorem d_St_isLatin1_6 : decode c_St_isLatin1 6 = .ok (.aload_n 0, 1) := by decide +kernel
theorem d_St_isLatin1_7 : decode c_St_isLatin1 7 = .ok (.getfield 15, 3) := by decide +kernel
theorem d_St_isLatin1_10 : decode c_St_isLatin1 10 = .ok (.ifCond .ne 7, 3) := by decide +kernel
theorem d_St_isLatin1_13 : decode c_St_isLatin1 13 = .ok (.iconst 1, 1) := by decide +kernel
theorem d_St_isLatin1_14 : decode c_St_isLatin1 14 = .ok (.goto 4, 3) := by decide +kernel
theorem d_St_isLatin1_17 : decode c_St_isLatin1 17 = .ok (.iconst 0, 1) := by decide +kernel
theorem d_St_isLatin1_18 : decode c_St_isLatin1 18 = .ok (.ireturn, 1) := by decide +kernel
theorem d_Sl_charAt_0 : decode c_Sl_charAt 0 = .ok (.iload_n 1, 1) := by decide +kernel
theorem d_Sl_charAt_1 : decode c_Sl_charAt 1 = .ok (.aload_n 0, 1) := by decide +kernel
theorem d_Sl_charAt_2 : decode c_Sl_charAt 2 = .ok (.arraylength, 1) := by decide +kernel
theorem d_Sl_charAt_3 : decode c_Sl_charAt 3 = .ok (.invokestatic 9, 3) := by decide +kernel
theorem d_Sl_charAt_6 : decode c_Sl_charAt 6 = .ok (.aload_n 0, 1) := by decide +kernel
theorem d_Sl_charAt_7 : decode c_Sl_charAt 7 = .ok (.iload_n 1, 1) := by decide +kernel
theorem d_Sl_charAt_8 : decode c_Sl_charAt 8 = .ok (.baload, 1) := by decide +kernel
theorem d_Sl_charAt_9 : decode c_Sl_charAt 9 = .ok (.sipush 255, 3) := by decide +kernel
theorem d_Sl_charAt_12 : decode c_Sl_charAt 12 = .ok (.iand, 1) := by decide +kernel
theorem d_Sl_charAt_13 : decode c_Sl_charAt 13 = .ok (.i2c, 1) := by decide +kernel
theorem d_Sl_charAt_14 : decode c_Sl_charAt 14 = .ok (.ireturn, 1) := by decide +kernel
theorem d_St_checkIndex_0 : decode c_St_checkIndex 0 = .ok (.iload_n 0, 1) := by decide +kernel
theorem d_St_checkIndex_1 : decode c_St_checkIndex 1 = .ok (.iload_n 1, 1) := by decide +kernel
theorem d_St_checkIndex_2 : decode c_St_checkIndex 2 = .ok (.getstatic 1053, 3) := by decide +kernel
theorem d_St_checkIndex_5 : decode c_St_checkIndex 5 = .ok (.invokestatic 1059, 3) := by decide +kernel
theorem d_St_checkIndex_8 : decode c_St_checkIndex 8 = .ok (.pop, 1) := by decide +kernel
theorem d_St_checkIndex_9 : decode c_St_checkIndex 9 = .ok (.return_, 1) := by decide +kernel
theorem d_Pr_checkIndex_0 : decode c_Pr_checkIndex 0 = .ok (.iload_n 0, 1) := by decide +kernel
theorem d_Pr_checkIndex_1 : decode c_Pr_checkIndex 1 = .ok (.ifCond .lt 8, 3) := by decide +kernel
theorem d_Pr_checkIndex_4 : decode c_Pr_checkIndex 4 = .ok (.iload_n 0, 1) := by decide +kernel
theorem d_Pr_checkIndex_5 : decode c_Pr_checkIndex 5 = .ok (.iload_n 1, 1) := by decide +kernel
theorem d_Pr_checkIndex_6 : decode c_Pr_checkIndex 6 = .ok (.if_icmp .lt 10, 3) := by decide +kernel
theorem d_Pr_checkIndex_9 : decode c_Pr_checkIndex 9 = .ok (.aload_n 2, 1) := by decide +kernel
theorem d_Pr_checkIndex_10 : decode c_Pr_checkIndex 10 = .ok (.iload_n 0, 1) := by decide +kernel
theorem d_Pr_checkIndex_11 : decode c_Pr_checkIndex 11 = .ok (.iload_n 1, 1) := by decide +kernel
theorem d_Pr_checkIndex_12 : decode c_Pr_checkIndex 12 = .ok (.invokestatic 95, 3) := by decide +kernel
theorem d_Pr_checkIndex_15 : decode c_Pr_checkIndex 15 = .ok (.athrow, 1) := by decide +kernel
theorem d_Pr_checkIndex_16 : decode c_Pr_checkIndex 16 = .ok (.iload_n 0, 1) := by decide +kernel
theorem d_Pr_checkIndex_17 : decode c_Pr_checkIndex 17 = .ok (.ireturn, 1) := by decide +kernel
theorem d_To_add_0 : decode c_To_add 0 = .ok (.aload_n 0, 1) := by decide +kernel
theorem d_To_add_1 : decode c_To_add 1 = .ok (.getfield 21, 3) := by decide +kernel
theorem d_To_add_4 : decode c_To_add 4 = .ok (.sipush 400, 3) := by decide +kernel
theorem d_To_add_7 : decode c_To_add 7 = .ok (.if_icmp .gt 43, 3) := by decide +kernel
theorem d_To_add_10 : decode c_To_add 10 = .ok (.aload_n 0, 1) := by decide +kernel
theorem d_To_add_11 : decode c_To_add 11 = .ok (.getfield 9, 3) := by decide +kernel
theorem d_To_add_14 : decode c_To_add 14 = .ok (.aload_n 0, 1) := by decide +kernel
theorem d_To_add_15 : decode c_To_add 15 = .ok (.getfield 21, 3) := by decide +kernel
theorem d_To_add_18 : decode c_To_add 18 = .ok (.iload_n 1, 1) := by decide +kernel
theorem d_To_add_19 : decode c_To_add 19 = .ok (.iastore, 1) := by decide +kernel
theorem d_To_add_20 : decode c_To_add 20 = .ok (.aload_n 0, 1) := by decide +kernel
theorem d_To_add_21 : decode c_To_add 21 = .ok (.getfield 15, 3) := by decide +kernel
theorem d_To_add_24 : decode c_To_add 24 = .ok (.aload_n 0, 1) := by decide +kernel
theorem d_To_add_25 : decode c_To_add 25 = .ok (.getfield 21, 3) := by decide +kernel
theorem d_To_add_28 : decode c_To_add 28 = .ok (.iload_n 2, 1) := by decide +kernel
theorem d_To_add_29 : decode c_To_add 29 = .ok (.iastore, 1) := by decide +kernel
theorem d_To_add_30 : decode c_To_add 30 = .ok (.aload_n 0, 1) := by decide +kernel
theorem d_To_add_31 : decode c_To_add 31 = .ok (.getfield 18, 3) := by decide +kernel
theorem d_To_add_34 : decode c_To_add 34 = .ok (.aload_n 0, 1) := by decide +kernel
theorem d_To_add_35 : decode c_To_add 35 = .ok (.getfield 21, 3) := by decide +kernel
theorem d_To_add_38 : decode c_To_add 38 = .ok (.iload_n 3, 1) := by decide +kernel
theorem d_To_add_39 : decode c_To_add 39 = .ok (.iastore, 1) := by decide +kernel
theorem d_To_add_40 : decode c_To_add 40 = .ok (.aload_n 0, 1) := by decide +kernel
theorem d_To_add_41 : decode c_To_add 41 = .ok (.dup, 1) := by decide +kernel
theorem d_To_add_42 : decode c_To_add 42 = .ok (.getfield 21, 3) := by decide +kernel
theorem d_To_add_45 : decode c_To_add 45 = .ok (.iconst 1, 1) := by decide +kernel
theorem d_To_add_46 : decode c_To_add 46 = .ok (.iadd, 1) := by decide +kernel
theorem d_To_add_47 : decode c_To_add 47 = .ok (.putfield 21, 3) := by decide +kernel
theorem d_To_add_50 : decode c_To_add 50 = .ok (.return_, 1) := by decide +kernel
theorem d_To_isDigit_0 : decode c_To_isDigit 0 = .ok (.iload_n 0, 1) := by decide +kernel
theorem d_To_isDigit_1 : decode c_To_isDigit 1 = .ok (.bipush 48, 2) := by decide +kernel
theorem d_To_isDigit_3 : decode c_To_isDigit 3 = .ok (.if_icmp .lt 13, 3) := by decide +kernel
theorem d_To_isDigit_6 : decode c_To_isDigit 6 = .ok (.iload_n 0, 1) := by decide +kernel
theorem d_To_isDigit_7 : decode c_To_isDigit 7 = .ok (.bipush 57, 2) := by decide +kernel
theorem d_To_isDigit_9 : decode c_To_isDigit 9 = .ok (.if_icmp .gt 7, 3) := by decide +kernel
theorem d_To_isDigit_12 : decode c_To_isDigit 12 = .ok (.iconst 1, 1) := by decide +kernel
theorem d_To_isDigit_13 : decode c_To_isDigit 13 = .ok (.goto 4, 3) := by decide +kernel
theorem d_To_isDigit_16 : decode c_To_isDigit 16 = .ok (.iconst 0, 1) := by decide +kernel
theorem d_To_isDigit_17 : decode c_To_isDigit 17 = .ok (.ireturn, 1) := by decide +kernel
theorem d_To_splitNumber_0 : decode c_To_splitNumber 0 = .ok (.lconst 0, 1) := by decide +kernel
theorem d_To_splitNumber_1 : decode c_To_splitNumber 1 = .ok (.lstore_n 3, 1) := by decide +kernel
theorem d_To_splitNumber_2 : decode c_To_splitNumber 2 = .ok (.iload_n 2, 1) := by decide +kernel
theorem d_To_splitNumber_3 : decode c_To_splitNumber 3 = .ok (.istore 5, 2) := by decide +kernel
theorem d_To_splitNumber_5 : decode c_To_splitNumber 5 = .ok (.iload 5, 2) := by decide +kernel
theorem d_To_splitNumber_7 : decode c_To_splitNumber 7 = .ok (.aload_n 1, 1) := by decide +kernel
theorem d_To_splitNumber_8 : decode c_To_splitNumber 8 = .ok (.getfield 25, 3) := by decide +kernel
theorem d_To_splitNumber_11 : decode c_To_splitNumber 11 = .ok (.if_icmp .ge 46, 3) := by decide +kernel
theorem d_To_splitNumber_14 : decode c_To_splitNumber 14 = .ok (.aload_n 1, 1) := by decide +kernel
theorem d_To_splitNumber_15 : decode c_To_splitNumber 15 = .ok (.getfield 30, 3) := by decide +kernel
theorem d_To_splitNumber_18 : decode c_To_splitNumber 18 = .ok (.iload 5, 2) := by decide +kernel
theorem d_To_splitNumber_20 : decode c_To_splitNumber 20 = .ok (.baload, 1) := by decide +kernel
theorem d_To_splitNumber_21 : decode c_To_splitNumber 21 = .ok (.invokestatic 49, 3) := by decide +kernel
theorem d_To_splitNumber_24 : decode c_To_splitNumber 24 = .ok (.ifCond .eq 33, 3) := by decide +kernel
theorem d_To_splitNumber_27 : decode c_To_splitNumber 27 = .ok (.lload_n 3, 1) := by decide +kernel
theorem d_To_splitNumber_28 : decode c_To_splitNumber 28 = .ok (.ldc2_w 63, 3) := by decide +kernel
theorem d_To_splitNumber_31 : decode c_To_splitNumber 31 = .ok (.lmul, 1) := by decide +kernel
theorem d_To_splitNumber_32 : decode c_To_splitNumber 32 = .ok (.aload_n 1, 1) := by decide +kernel
theorem d_To_splitNumber_33 : decode c_To_splitNumber 33 = .ok (.getfield 30, 3) := by decide +kernel
theorem d_To_splitNumber_36 : decode c_To_splitNumber 36 = .ok (.iload 5, 2) := by decide +kernel
theorem d_To_splitNumber_38 : decode c_To_splitNumber 38 = .ok (.baload, 1) := by decide +kernel
theorem d_To_splitNumber_39 : decode c_To_splitNumber 39 = .ok (.bipush 48, 2) := by decide +kernel
theorem d_To_splitNumber_41 : decode c_To_splitNumber 41 = .ok (.isub, 1) := by decide +kernel
theorem d_To_splitNumber_42 : decode c_To_splitNumber 42 = .ok (.i2l, 1) := by decide +kernel
theorem d_To_splitNumber_43 : decode c_To_splitNumber 43 = .ok (.ladd, 1) := by decide +kernel
theorem d_To_splitNumber_44 : decode c_To_splitNumber 44 = .ok (.ldc2_w 65, 3) := by decide +kernel
theorem d_To_splitNumber_47 : decode c_To_splitNumber 47 = .ok (.invokestatic 67, 3) := by decide +kernel
theorem d_To_splitNumber_50 : decode c_To_splitNumber 50 = .ok (.lstore_n 3, 1) := by decide +kernel
theorem d_To_splitNumber_51 : decode c_To_splitNumber 51 = .ok (.iinc 5 1, 3) := by decide +kernel
theorem d_To_splitNumber_54 : decode c_To_splitNumber 54 = .ok (.goto (-49), 3) := by decide +kernel
theorem d_To_splitNumber_57 : decode c_To_splitNumber 57 = .ok (.lload_n 3, 1) := by decide +kernel
theorem d_To_splitNumber_58 : decode c_To_splitNumber 58 = .ok (.ldc2_w 73, 3) := by decide +kernel
theorem d_To_splitNumber_61 : decode c_To_splitNumber 61 = .ok (.lcmp, 1) := by decide +kernel
theorem d_To_splitNumber_62 : decode c_To_splitNumber 62 = .ok (.ifCond .le 13, 3) := by decide +kernel
theorem d_To_splitNumber_65 : decode c_To_splitNumber 65 = .ok (.aload_n 0, 1) := by decide +kernel
theorem d_To_splitNumber_66 : decode c_To_splitNumber 66 = .ok (.iconst 1, 1) := by decide +kernel
theorem d_To_splitNumber_67 : decode c_To_splitNumber 67 = .ok (.iconst 0, 1) := by decide +kernel
theorem d_To_splitNumber_68 : decode c_To_splitNumber 68 = .ok (.iload_n 2, 1) := by decide +kernel
theorem d_To_splitNumber_69 : decode c_To_splitNumber 69 = .ok (.invokevirtual 38, 3) := by decide +kernel
theorem d_To_splitNumber_72 : decode c_To_splitNumber 72 = .ok (.goto 12, 3) := by decide +kernel
theorem d_To_splitNumber_75 : decode c_To_splitNumber 75 = .ok (.aload_n 0, 1) := by decide +kernel
theorem d_To_splitNumber_76 : decode c_To_splitNumber 76 = .ok (.bipush 9, 2) := by decide +kernel
theorem d_To_splitNumber_78 : decode c_To_splitNumber 78 = .ok (.lload_n 3, 1) := by decide +kernel
theorem d_To_splitNumber_79 : decode c_To_splitNumber 79 = .ok (.l2i, 1) := by decide +kernel
theorem d_To_splitNumber_80 : decode c_To_splitNumber 80 = .ok (.iload_n 2, 1) := by decide +kernel
theorem d_To_splitNumber_81 : decode c_To_splitNumber 81 = .ok (.invokevirtual 38, 3) := by decide +kernel
theorem d_To_splitNumber_84 : decode c_To_splitNumber 84 = .ok (.iload 5, 2) := by decide +kernel
theorem d_To_splitNumber_86 : decode c_To_splitNumber 86 = .ok (.ireturn, 1) := by decide +kernel
theorem d_Mt_minJ_0 : decode c_Mt_minJ 0 = .ok (.lload_n 0, 1) := by decide +kernel
theorem d_Mt_minJ_1 : decode c_Mt_minJ 1 = .ok (.lload_n 2, 1) := by decide +kernel
theorem d_Mt_minJ_2 : decode c_Mt_minJ 2 = .ok (.lcmp, 1) := by decide +kernel
theorem d_Mt_minJ_3 : decode c_Mt_minJ 3 = .ok (.ifCond .gt 7, 3) := by decide +kernel
theorem d_Mt_minJ_6 : decode c_Mt_minJ 6 = .ok (.lload_n 0, 1) := by decide +kernel
theorem d_Mt_minJ_7 : decode c_Mt_minJ 7 = .ok (.goto 4, 3) := by decide +kernel
theorem d_Mt_minJ_10 : decode c_Mt_minJ 10 = .ok (.lload_n 2, 1) := by decide +kernel
theorem d_Mt_minJ_11 : decode c_Mt_minJ 11 = .ok (.lreturn, 1) := by decide +kernel
theorem d_To_signKind_0 : decode c_To_signKind 0 = .ok (.iload_n 0, 1) := by decide +kernel
theorem d_To_signKind_1 : decode c_To_signKind 1 = .ok (.tableswitch 157 35 62 #[130, 157, 157, 157, 157, 151, 154, 145, 139, 148, 142, 157, 157, 157, 157, 157, 157, 157, 157, 157, 157, 157, 157, 157, 157, 133, 127, 136], 127) := by decide +kernel
theorem d_To_signKind_128 : decode c_To_signKind 128 = .ok (.bipush 10, 2) := by decide +kernel
theorem d_To_signKind_130 : decode c_To_signKind 130 = .ok (.ireturn, 1) := by decide +kernel
theorem d_To_signKind_131 : decode c_To_signKind 131 = .ok (.bipush 11, 2) := by decide +kernel
theorem d_To_signKind_133 : decode c_To_signKind 133 = .ok (.ireturn, 1) := by decide +kernel
theorem d_To_signKind_134 : decode c_To_signKind 134 = .ok (.bipush 12, 2) := by decide +kernel
theorem d_To_signKind_136 : decode c_To_signKind 136 = .ok (.ireturn, 1) := by decide +kernel
theorem d_To_signKind_137 : decode c_To_signKind 137 = .ok (.bipush 13, 2) := by decide +kernel
theorem d_To_signKind_139 : decode c_To_signKind 139 = .ok (.ireturn, 1) := by decide +kernel
theorem d_To_signKind_140 : decode c_To_signKind 140 = .ok (.bipush 14, 2) := by decide +kernel
theorem d_To_signKind_142 : decode c_To_signKind 142 = .ok (.ireturn, 1) := by decide +kernel
theorem d_To_signKind_143 : decode c_To_signKind 143 = .ok (.bipush 15, 2) := by decide +kernel
theorem d_To_signKind_145 : decode c_To_signKind 145 = .ok (.ireturn, 1) := by decide +kernel
theorem d_To_signKind_146 : decode c_To_signKind 146 = .ok (.bipush 16, 2) := by decide +kernel
theorem d_To_signKind_148 : decode c_To_signKind 148 = .ok (.ireturn, 1) := by decide +kernel
theorem d_To_signKind_149 : decode c_To_signKind 149 = .ok (.bipush 18, 2) := by decide +kernel
theorem d_To_signKind_151 : decode c_To_signKind 151 = .ok (.ireturn, 1) := by decide +kernel
theorem d_To_signKind_152 : decode c_To_signKind 152 = .ok (.bipush 19, 2) := by decide +kernel
theorem d_To_signKind_154 : decode c_To_signKind 154 = .ok (.ireturn, 1) := by decide +kernel
theorem d_To_signKind_155 : decode c_To_signKind 155 = .ok (.bipush 20, 2) := by decide +kernel
theorem d_To_signKind_157 : decode c_To_signKind 157 = .ok (.ireturn, 1) := by decide +kernel
theorem d_To_signKind_158 : decode c_To_signKind 158 = .ok (.iconst 1, 1) := by decide +kernel
theorem d_To_signKind_159 : decode c_To_signKind 159 = .ok (.ireturn, 1) := by decide +kernel
theorem d_Co_clear_0 : decode c_Co_clear 0 = .ok (.aload_n 0, 1) := by decide +kernel
theorem d_Co_clear_1 : decode c_Co_clear 1 = .ok (.iconst 0, 1) := by decide +kernel
theorem d_Co_clear_2 : decode c_Co_clear 2 = .ok (.putfield 21, 3) := by decide +kernel
theorem d_Co_clear_5 : decode c_Co_clear 5 = .ok (.aload_n 0, 1) := by decide +kernel
theorem d_Co_clear_6 : decode c_Co_clear 6 = .ok (.iconst 0, 1) := by decide +kernel
theorem d_Co_clear_7 : decode c_Co_clear 7 = .ok (.putfield 25, 3) := by decide +kernel
theorem d_Co_clear_10 : decode c_Co_clear 10 = .ok (.return_, 1) := by decide +kernel
theorem d_Re_readRule_0 : decode c_Re_readRule 0 = .ok (.aload_n 0, 1) := by decide +kernel
theorem d_Re_readRule_1 : decode c_Re_readRule 1 = .ok (.iconst 2, 1) := by decide +kernel
theorem d_Re_readRule_2 : decode c_Re_readRule 2 = .ok (.invokevirtual 50, 3) := by decide +kernel
theorem d_Re_readRule_5 : decode c_Re_readRule 5 = .ok (.ifCond .eq 12, 3) := by decide +kernel
theorem d_Re_readRule_8 : decode c_Re_readRule 8 = .ok (.aload_n 0, 1) := by decide +kernel
theorem d_Re_readRule_9 : decode c_Re_readRule 9 = .ok (.invokevirtual 57, 3) := by decide +kernel
theorem d_Re_readRule_12 : decode c_Re_readRule 12 = .ok (.ifCond .ne 5, 3) := by decide +kernel
theorem d_Re_readRule_15 : decode c_Re_readRule 15 = .ok (.iconst 0, 1) := by decide +kernel
theorem d_Re_readRule_16 : decode c_Re_readRule 16 = .ok (.ireturn, 1) := by decide +kernel
theorem d_Re_readRule_17 : decode c_Re_readRule 17 = .ok (.iconst 0, 1) := by decide +kernel
theorem d_Re_readRule_18 : decode c_Re_readRule 18 = .ok (.istore_n 1, 1) := by decide +kernel
theorem d_Re_readRule_19 : decode c_Re_readRule 19 = .ok (.iload_n 1, 1) := by decide +kernel
theorem d_Re_readRule_20 : decode c_Re_readRule 20 = .ok (.bipush 8, 2) := by decide +kernel
theorem d_Re_readRule_22 : decode c_Re_readRule 22 = .ok (.if_icmp .ge 29, 3) := by decide +kernel
theorem d_Re_readRule_25 : decode c_Re_readRule 25 = .ok (.aload_n 0, 1) := by decide +kernel
theorem d_Re_readRule_26 : decode c_Re_readRule 26 = .ok (.invokevirtual 60, 3) := by decide +kernel
theorem d_Re_readRule_29 : decode c_Re_readRule 29 = .ok (.ifCond .ne 5, 3) := by decide +kernel
theorem d_Re_readRule_32 : decode c_Re_readRule 32 = .ok (.iconst 0, 1) := by decide +kernel
theorem d_Re_readRule_33 : decode c_Re_readRule 33 = .ok (.ireturn, 1) := by decide +kernel
theorem d_Re_readRule_34 : decode c_Re_readRule 34 = .ok (.aload_n 0, 1) := by decide +kernel
theorem d_Re_readRule_35 : decode c_Re_readRule 35 = .ok (.bipush 18, 2) := by decide +kernel
theorem d_Re_readRule_37 : decode c_Re_readRule 37 = .ok (.invokevirtual 50, 3) := by decide +kernel
theorem d_Re_readRule_40 : decode c_Re_readRule 40 = .ok (.ifCond .ne 5, 3) := by decide +kernel
theorem d_Re_readRule_43 : decode c_Re_readRule 43 = .ok (.iconst 1, 1) := by decide +kernel
theorem d_Re_readRule_44 : decode c_Re_readRule 44 = .ok (.ireturn, 1) := by decide +kernel
theorem d_Re_readRule_45 : decode c_Re_readRule 45 = .ok (.iinc 1 1, 3) := by decide +kernel
theorem d_Re_readRule_48 : decode c_Re_readRule 48 = .ok (.goto (-29), 3) := by decide +kernel
theorem d_Re_readRule_51 : decode c_Re_readRule 51 = .ok (.iconst 0, 1) := by decide +kernel
theorem d_Re_readRule_52 : decode c_Re_readRule 52 = .ok (.ireturn, 1) := by decide +kernel
theorem d_Re_pass_0 : decode c_Re_pass 0 = .ok (.aload_n 0, 1) := by decide +kernel
theorem d_Re_pass_1 : decode c_Re_pass 1 = .ok (.getfield 12, 3) := by decide +kernel
theorem d_Re_pass_4 : decode c_Re_pass 4 = .ok (.getfield 66, 3) := by decide +kernel
theorem d_Re_pass_7 : decode c_Re_pass 7 = .ok (.aload_n 0, 1) := by decide +kernel
theorem d_Re_pass_8 : decode c_Re_pass 8 = .ok (.getfield 32, 3) := by decide +kernel
theorem d_Re_pass_11 : decode c_Re_pass 11 = .ok (.iaload, 1) := by decide +kernel
theorem d_Re_pass_12 : decode c_Re_pass 12 = .ok (.iload_n 1, 1) := by decide +kernel
theorem d_Re_pass_13 : decode c_Re_pass 13 = .ok (.if_icmp .eq 5, 3) := by decide +kernel
theorem d_Re_pass_16 : decode c_Re_pass 16 = .ok (.iconst 0, 1) := by decide +kernel
theorem d_Re_pass_17 : decode c_Re_pass 17 = .ok (.ireturn, 1) := by decide +kernel
theorem d_Re_pass_18 : decode c_Re_pass 18 = .ok (.aload_n 0, 1) := by decide +kernel
theorem d_Re_pass_19 : decode c_Re_pass 19 = .ok (.dup, 1) := by decide +kernel
theorem d_Re_pass_20 : decode c_Re_pass 20 = .ok (.getfield 32, 3) := by decide +kernel
theorem d_Re_pass_23 : decode c_Re_pass 23 = .ok (.iconst 1, 1) := by decide +kernel
theorem d_Re_pass_24 : decode c_Re_pass 24 = .ok (.iadd, 1) := by decide +kernel
theorem d_Re_pass_25 : decode c_Re_pass 25 = .ok (.putfield 32, 3) := by decide +kernel
theorem d_Re_pass_28 : decode c_Re_pass 28 = .ok (.iconst 1, 1) := by decide +kernel
theorem d_Re_pass_29 : decode c_Re_pass 29 = .ok (.ireturn, 1) := by decide +kernel
theorem d_Re_readTest_0 : decode c_Re_readTest 0 = .ok (.iconst 0, 1) := by decide +kernel
theorem d_Re_readTest_1 : decode c_Re_readTest 1 = .ok (.istore_n 1, 1) := by decide +kernel
theorem d_Re_readTest_2 : decode c_Re_readTest 2 = .ok (.iload_n 1, 1) := by decide +kernel
theorem d_Re_readTest_3 : decode c_Re_readTest 3 = .ok (.bipush 80, 2) := by decide +kernel
