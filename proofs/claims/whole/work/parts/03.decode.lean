theorem d_Re_readTest_5 : decode c_Re_readTest 5 = .ok (.if_icmp .ge 103, 3) := by decide +kernel
theorem d_Re_readTest_8 : decode c_Re_readTest 8 = .ok (.aload_n 0, 1) := by decide +kernel
theorem d_Re_readTest_9 : decode c_Re_readTest 9 = .ok (.iconst 0, 1) := by decide +kernel
theorem d_Re_readTest_10 : decode c_Re_readTest 10 = .ok (.invokevirtual 63, 3) := by decide +kernel
theorem d_Re_readTest_13 : decode c_Re_readTest 13 = .ok (.ifCond .ne 5, 3) := by decide +kernel
theorem d_Re_readTest_16 : decode c_Re_readTest 16 = .ok (.iconst 0, 1) := by decide +kernel
theorem d_Re_readTest_17 : decode c_Re_readTest 17 = .ok (.ireturn, 1) := by decide +kernel
theorem d_Re_readTest_18 : decode c_Re_readTest 18 = .ok (.aload_n 0, 1) := by decide +kernel
theorem d_Re_readTest_19 : decode c_Re_readTest 19 = .ok (.getfield 12, 3) := by decide +kernel
theorem d_Re_readTest_22 : decode c_Re_readTest 22 = .ok (.getfield 66, 3) := by decide +kernel
theorem d_Re_readTest_25 : decode c_Re_readTest 25 = .ok (.aload_n 0, 1) := by decide +kernel
theorem d_Re_readTest_26 : decode c_Re_readTest 26 = .ok (.getfield 32, 3) := by decide +kernel
theorem d_Re_readTest_29 : decode c_Re_readTest 29 = .ok (.iaload, 1) := by decide +kernel
theorem d_Re_readTest_30 : decode c_Re_readTest 30 = .ok (.istore_n 2, 1) := by decide +kernel
theorem d_Re_readTest_31 : decode c_Re_readTest 31 = .ok (.aload_n 0, 1) := by decide +kernel
theorem d_Re_readTest_32 : decode c_Re_readTest 32 = .ok (.bipush 10, 2) := by decide +kernel
theorem d_Re_readTest_34 : decode c_Re_readTest 34 = .ok (.invokevirtual 50, 3) := by decide +kernel
theorem d_Re_readTest_37 : decode c_Re_readTest 37 = .ok (.ifCond .ne 32, 3) := by decide +kernel
theorem d_Re_readTest_40 : decode c_Re_readTest 40 = .ok (.aload_n 0, 1) := by decide +kernel
theorem d_Re_readTest_41 : decode c_Re_readTest 41 = .ok (.bipush 11, 2) := by decide +kernel
theorem d_Re_readTest_43 : decode c_Re_readTest 43 = .ok (.invokevirtual 50, 3) := by decide +kernel
theorem d_Re_readTest_46 : decode c_Re_readTest 46 = .ok (.ifCond .ne 23, 3) := by decide +kernel
theorem d_Re_readTest_49 : decode c_Re_readTest 49 = .ok (.aload_n 0, 1) := by decide +kernel
theorem d_Re_readTest_50 : decode c_Re_readTest 50 = .ok (.bipush 12, 2) := by decide +kernel
theorem d_Re_readTest_52 : decode c_Re_readTest 52 = .ok (.invokevirtual 50, 3) := by decide +kernel
theorem d_Re_readTest_55 : decode c_Re_readTest 55 = .ok (.ifCond .ne 14, 3) := by decide +kernel
theorem d_Re_readTest_58 : decode c_Re_readTest 58 = .ok (.aload_n 0, 1) := by decide +kernel
theorem d_Re_readTest_59 : decode c_Re_readTest 59 = .ok (.bipush 13, 2) := by decide +kernel
theorem d_Re_readTest_61 : decode c_Re_readTest 61 = .ok (.invokevirtual 50, 3) := by decide +kernel
theorem d_Re_readTest_64 : decode c_Re_readTest 64 = .ok (.ifCond .ne 5, 3) := by decide +kernel
theorem d_Re_readTest_67 : decode c_Re_readTest 67 = .ok (.iconst 0, 1) := by decide +kernel
theorem d_Re_readTest_68 : decode c_Re_readTest 68 = .ok (.ireturn, 1) := by decide +kernel
theorem d_Re_readTest_69 : decode c_Re_readTest 69 = .ok (.aload_n 0, 1) := by decide +kernel
theorem d_Re_readTest_70 : decode c_Re_readTest 70 = .ok (.iconst 0, 1) := by decide +kernel
theorem d_Re_readTest_71 : decode c_Re_readTest 71 = .ok (.invokevirtual 63, 3) := by decide +kernel
theorem d_Re_readTest_74 : decode c_Re_readTest 74 = .ok (.ifCond .ne 5, 3) := by decide +kernel
theorem d_Re_readTest_77 : decode c_Re_readTest 77 = .ok (.iconst 0, 1) := by decide +kernel
theorem d_Re_readTest_78 : decode c_Re_readTest 78 = .ok (.ireturn, 1) := by decide +kernel
theorem d_Re_readTest_79 : decode c_Re_readTest 79 = .ok (.aload_n 0, 1) := by decide +kernel
theorem d_Re_readTest_80 : decode c_Re_readTest 80 = .ok (.getfield 21, 3) := by decide +kernel
theorem d_Re_readTest_83 : decode c_Re_readTest 83 = .ok (.iload_n 2, 1) := by decide +kernel
theorem d_Re_readTest_84 : decode c_Re_readTest 84 = .ok (.iconst 0, 1) := by decide +kernel
theorem d_Re_readTest_85 : decode c_Re_readTest 85 = .ok (.invokevirtual 69, 3) := by decide +kernel
theorem d_Re_readTest_88 : decode c_Re_readTest 88 = .ok (.aload_n 0, 1) := by decide +kernel
theorem d_Re_readTest_89 : decode c_Re_readTest 89 = .ok (.iconst 5, 1) := by decide +kernel
theorem d_Re_readTest_90 : decode c_Re_readTest 90 = .ok (.invokevirtual 50, 3) := by decide +kernel
theorem d_Re_readTest_93 : decode c_Re_readTest 93 = .ok (.ifCond .ne 9, 3) := by decide +kernel
theorem d_Re_readTest_96 : decode c_Re_readTest 96 = .ok (.aload_n 0, 1) := by decide +kernel
theorem d_Re_readTest_97 : decode c_Re_readTest 97 = .ok (.iconst 3, 1) := by decide +kernel
theorem d_Re_readTest_98 : decode c_Re_readTest 98 = .ok (.invokevirtual 50, 3) := by decide +kernel
theorem d_Re_readTest_101 : decode c_Re_readTest 101 = .ok (.ireturn, 1) := by decide +kernel
theorem d_Re_readTest_102 : decode c_Re_readTest 102 = .ok (.iinc 1 1, 3) := by decide +kernel
theorem d_Re_readTest_105 : decode c_Re_readTest 105 = .ok (.goto (-103), 3) := by decide +kernel
theorem d_Re_readTest_108 : decode c_Re_readTest 108 = .ok (.iconst 0, 1) := by decide +kernel
theorem d_Re_readTest_109 : decode c_Re_readTest 109 = .ok (.ireturn, 1) := by decide +kernel
theorem d_Re_readSum_0 : decode c_Re_readSum 0 = .ok (.aload_n 0, 1) := by decide +kernel
theorem d_Re_readSum_1 : decode c_Re_readSum 1 = .ok (.iload_n 1, 1) := by decide +kernel
theorem d_Re_readSum_2 : decode c_Re_readSum 2 = .ok (.invokevirtual 79, 3) := by decide +kernel
theorem d_Re_readSum_5 : decode c_Re_readSum 5 = .ok (.ifCond .ne 5, 3) := by decide +kernel
theorem d_Re_readSum_8 : decode c_Re_readSum 8 = .ok (.iconst 0, 1) := by decide +kernel
theorem d_Re_readSum_9 : decode c_Re_readSum 9 = .ok (.ireturn, 1) := by decide +kernel
theorem d_Re_readSum_10 : decode c_Re_readSum 10 = .ok (.iconst 1, 1) := by decide +kernel
theorem d_Re_readSum_11 : decode c_Re_readSum 11 = .ok (.istore_n 2, 1) := by decide +kernel
theorem d_Re_readSum_12 : decode c_Re_readSum 12 = .ok (.iload_n 2, 1) := by decide +kernel
theorem d_Re_readSum_13 : decode c_Re_readSum 13 = .ok (.bipush 80, 2) := by decide +kernel
theorem d_Re_readSum_15 : decode c_Re_readSum 15 = .ok (.if_icmp .gt 61, 3) := by decide +kernel
theorem d_Re_readSum_18 : decode c_Re_readSum 18 = .ok (.aload_n 0, 1) := by decide +kernel
theorem d_Re_readSum_19 : decode c_Re_readSum 19 = .ok (.getfield 12, 3) := by decide +kernel
theorem d_Re_readSum_22 : decode c_Re_readSum 22 = .ok (.getfield 66, 3) := by decide +kernel
theorem d_Re_readSum_25 : decode c_Re_readSum 25 = .ok (.aload_n 0, 1) := by decide +kernel
theorem d_Re_readSum_26 : decode c_Re_readSum 26 = .ok (.getfield 32, 3) := by decide +kernel
theorem d_Re_readSum_29 : decode c_Re_readSum 29 = .ok (.iaload, 1) := by decide +kernel
theorem d_Re_readSum_30 : decode c_Re_readSum 30 = .ok (.istore_n 3, 1) := by decide +kernel
theorem d_Re_readSum_31 : decode c_Re_readSum 31 = .ok (.aload_n 0, 1) := by decide +kernel
theorem d_Re_readSum_32 : decode c_Re_readSum 32 = .ok (.bipush 14, 2) := by decide +kernel
theorem d_Re_readSum_34 : decode c_Re_readSum 34 = .ok (.invokevirtual 50, 3) := by decide +kernel
theorem d_Re_readSum_37 : decode c_Re_readSum 37 = .ok (.ifCond .ne 14, 3) := by decide +kernel
theorem d_Re_readSum_40 : decode c_Re_readSum 40 = .ok (.aload_n 0, 1) := by decide +kernel
theorem d_Re_readSum_41 : decode c_Re_readSum 41 = .ok (.bipush 15, 2) := by decide +kernel
theorem d_Re_readSum_43 : decode c_Re_readSum 43 = .ok (.invokevirtual 50, 3) := by decide +kernel
theorem d_Re_readSum_46 : decode c_Re_readSum 46 = .ok (.ifCond .ne 5, 3) := by decide +kernel
theorem d_Re_readSum_49 : decode c_Re_readSum 49 = .ok (.iconst 1, 1) := by decide +kernel
theorem d_Re_readSum_50 : decode c_Re_readSum 50 = .ok (.ireturn, 1) := by decide +kernel
theorem d_Re_readSum_51 : decode c_Re_readSum 51 = .ok (.aload_n 0, 1) := by decide +kernel
theorem d_Re_readSum_52 : decode c_Re_readSum 52 = .ok (.iload_n 1, 1) := by decide +kernel
theorem d_Re_readSum_53 : decode c_Re_readSum 53 = .ok (.invokevirtual 79, 3) := by decide +kernel
theorem d_Re_readSum_56 : decode c_Re_readSum 56 = .ok (.ifCond .ne 5, 3) := by decide +kernel
theorem d_Re_readSum_59 : decode c_Re_readSum 59 = .ok (.iconst 0, 1) := by decide +kernel
theorem d_Re_readSum_60 : decode c_Re_readSum 60 = .ok (.ireturn, 1) := by decide +kernel
theorem d_Re_readSum_61 : decode c_Re_readSum 61 = .ok (.aload_n 0, 1) := by decide +kernel
theorem d_Re_readSum_62 : decode c_Re_readSum 62 = .ok (.getfield 21, 3) := by decide +kernel
theorem d_Re_readSum_65 : decode c_Re_readSum 65 = .ok (.iload_n 3, 1) := by decide +kernel
theorem d_Re_readSum_66 : decode c_Re_readSum 66 = .ok (.iconst 0, 1) := by decide +kernel
theorem d_Re_readSum_67 : decode c_Re_readSum 67 = .ok (.invokevirtual 69, 3) := by decide +kernel
theorem d_Re_readSum_70 : decode c_Re_readSum 70 = .ok (.iinc 2 1, 3) := by decide +kernel
theorem d_Re_readSum_73 : decode c_Re_readSum 73 = .ok (.goto (-61), 3) := by decide +kernel
theorem d_Re_readSum_76 : decode c_Re_readSum 76 = .ok (.iconst 0, 1) := by decide +kernel
theorem d_Re_readSum_77 : decode c_Re_readSum 77 = .ok (.ireturn, 1) := by decide +kernel
theorem d_Re_readTerm_0 : decode c_Re_readTerm 0 = .ok (.aload_n 0, 1) := by decide +kernel
theorem d_Re_readTerm_1 : decode c_Re_readTerm 1 = .ok (.iload_n 1, 1) := by decide +kernel
theorem d_Re_readTerm_2 : decode c_Re_readTerm 2 = .ok (.invokevirtual 82, 3) := by decide +kernel
theorem d_Re_readTerm_5 : decode c_Re_readTerm 5 = .ok (.ifCond .ne 5, 3) := by decide +kernel
theorem d_Re_readTerm_8 : decode c_Re_readTerm 8 = .ok (.iconst 0, 1) := by decide +kernel
theorem d_Re_readTerm_9 : decode c_Re_readTerm 9 = .ok (.ireturn, 1) := by decide +kernel
theorem d_Re_readTerm_10 : decode c_Re_readTerm 10 = .ok (.iconst 1, 1) := by decide +kernel
theorem d_Re_readTerm_11 : decode c_Re_readTerm 11 = .ok (.istore_n 2, 1) := by decide +kernel
theorem d_Re_readTerm_12 : decode c_Re_readTerm 12 = .ok (.iload_n 2, 1) := by decide +kernel
theorem d_Re_readTerm_13 : decode c_Re_readTerm 13 = .ok (.bipush 80, 2) := by decide +kernel
theorem d_Re_readTerm_15 : decode c_Re_readTerm 15 = .ok (.if_icmp .gt 40, 3) := by decide +kernel
theorem d_Re_readTerm_18 : decode c_Re_readTerm 18 = .ok (.aload_n 0, 1) := by decide +kernel
theorem d_Re_readTerm_19 : decode c_Re_readTerm 19 = .ok (.bipush 16, 2) := by decide +kernel
theorem d_Re_readTerm_21 : decode c_Re_readTerm 21 = .ok (.invokevirtual 50, 3) := by decide +kernel
theorem d_Re_readTerm_24 : decode c_Re_readTerm 24 = .ok (.ifCond .ne 5, 3) := by decide +kernel
theorem d_Re_readTerm_27 : decode c_Re_readTerm 27 = .ok (.iconst 1, 1) := by decide +kernel
theorem d_Re_readTerm_28 : decode c_Re_readTerm 28 = .ok (.ireturn, 1) := by decide +kernel
theorem d_Re_readTerm_29 : decode c_Re_readTerm 29 = .ok (.aload_n 0, 1) := by decide +kernel
theorem d_Re_readTerm_30 : decode c_Re_readTerm 30 = .ok (.iload_n 1, 1) := by decide +kernel
theorem d_Re_readTerm_31 : decode c_Re_readTerm 31 = .ok (.invokevirtual 82, 3) := by decide +kernel
theorem d_Re_readTerm_34 : decode c_Re_readTerm 34 = .ok (.ifCond .ne 5, 3) := by decide +kernel
theorem d_Re_readTerm_37 : decode c_Re_readTerm 37 = .ok (.iconst 0, 1) := by decide +kernel
theorem d_Re_readTerm_38 : decode c_Re_readTerm 38 = .ok (.ireturn, 1) := by decide +kernel
theorem d_Re_readTerm_39 : decode c_Re_readTerm 39 = .ok (.aload_n 0, 1) := by decide +kernel
theorem d_Re_readTerm_40 : decode c_Re_readTerm 40 = .ok (.getfield 21, 3) := by decide +kernel
theorem d_Re_readTerm_43 : decode c_Re_readTerm 43 = .ok (.bipush 16, 2) := by decide +kernel
theorem d_Re_readTerm_45 : decode c_Re_readTerm 45 = .ok (.iconst 0, 1) := by decide +kernel
theorem d_Re_readTerm_46 : decode c_Re_readTerm 46 = .ok (.invokevirtual 69, 3) := by decide +kernel
theorem d_Re_readTerm_49 : decode c_Re_readTerm 49 = .ok (.iinc 2 1, 3) := by decide +kernel
theorem d_Re_readTerm_52 : decode c_Re_readTerm 52 = .ok (.goto (-40), 3) := by decide +kernel
theorem d_Re_readTerm_55 : decode c_Re_readTerm 55 = .ok (.iconst 0, 1) := by decide +kernel
theorem d_Re_readTerm_56 : decode c_Re_readTerm 56 = .ok (.ireturn, 1) := by decide +kernel
theorem d_Re_readPart_0 : decode c_Re_readPart 0 = .ok (.aload_n 0, 1) := by decide +kernel
theorem d_Re_readPart_1 : decode c_Re_readPart 1 = .ok (.bipush 19, 2) := by decide +kernel
theorem d_Re_readPart_3 : decode c_Re_readPart 3 = .ok (.invokevirtual 46, 3) := by decide +kernel
theorem d_Re_readPart_6 : decode c_Re_readPart 6 = .ok (.ifCond .eq 43, 3) := by decide +kernel
theorem d_Re_readPart_9 : decode c_Re_readPart 9 = .ok (.iload_n 1, 1) := by decide +kernel
theorem d_Re_readPart_10 : decode c_Re_readPart 10 = .ok (.bipush 6, 2) := by decide +kernel
theorem d_Re_readPart_12 : decode c_Re_readPart 12 = .ok (.if_icmp .ge 35, 3) := by decide +kernel
theorem d_Re_readPart_15 : decode c_Re_readPart 15 = .ok (.aload_n 0, 1) := by decide +kernel
theorem d_Re_readPart_16 : decode c_Re_readPart 16 = .ok (.bipush 19, 2) := by decide +kernel
theorem d_Re_readPart_18 : decode c_Re_readPart 18 = .ok (.invokevirtual 50, 3) := by decide +kernel
theorem d_Re_readPart_21 : decode c_Re_readPart 21 = .ok (.ifCond .eq 26, 3) := by decide +kernel
theorem d_Re_readPart_24 : decode c_Re_readPart 24 = .ok (.aload_n 0, 1) := by decide +kernel
theorem d_Re_readPart_25 : decode c_Re_readPart 25 = .ok (.iload_n 1, 1) := by decide +kernel
theorem d_Re_readPart_26 : decode c_Re_readPart 26 = .ok (.iconst 1, 1) := by decide +kernel
theorem d_Re_readPart_27 : decode c_Re_readPart 27 = .ok (.iadd, 1) := by decide +kernel
theorem d_Re_readPart_28 : decode c_Re_readPart 28 = .ok (.invokevirtual 63, 3) := by decide +kernel
theorem d_Re_readPart_31 : decode c_Re_readPart 31 = .ok (.ifCond .eq 16, 3) := by decide +kernel
theorem d_Re_readPart_34 : decode c_Re_readPart 34 = .ok (.aload_n 0, 1) := by decide +kernel
theorem d_Re_readPart_35 : decode c_Re_readPart 35 = .ok (.bipush 20, 2) := by decide +kernel
theorem d_Re_readPart_37 : decode c_Re_readPart 37 = .ok (.invokevirtual 50, 3) := by decide +kernel
theorem d_Re_readPart_40 : decode c_Re_readPart 40 = .ok (.ifCond .eq 7, 3) := by decide +kernel
theorem d_Re_readPart_43 : decode c_Re_readPart 43 = .ok (.iconst 1, 1) := by decide +kernel
theorem d_Re_readPart_44 : decode c_Re_readPart 44 = .ok (.goto 4, 3) := by decide +kernel
theorem d_Re_readPart_47 : decode c_Re_readPart 47 = .ok (.iconst 0, 1) := by decide +kernel
theorem d_Re_readPart_48 : decode c_Re_readPart 48 = .ok (.ireturn, 1) := by decide +kernel
theorem d_Re_readPart_49 : decode c_Re_readPart 49 = .ok (.aload_n 0, 1) := by decide +kernel
theorem d_Re_readPart_50 : decode c_Re_readPart 50 = .ok (.getfield 36, 3) := by decide +kernel
theorem d_Re_readPart_53 : decode c_Re_readPart 53 = .ok (.bipush 80, 2) := by decide +kernel
theorem d_Re_readPart_55 : decode c_Re_readPart 55 = .ok (.if_icmp .lt 5, 3) := by decide +kernel
theorem d_Re_readPart_58 : decode c_Re_readPart 58 = .ok (.iconst 0, 1) := by decide +kernel
theorem d_Re_readPart_59 : decode c_Re_readPart 59 = .ok (.ireturn, 1) := by decide +kernel
theorem d_Re_readPart_60 : decode c_Re_readPart 60 = .ok (.aload_n 0, 1) := by decide +kernel
theorem d_Re_readPart_61 : decode c_Re_readPart 61 = .ok (.dup, 1) := by decide +kernel
theorem d_Re_readPart_62 : decode c_Re_readPart 62 = .ok (.getfield 36, 3) := by decide +kernel
theorem d_Re_readPart_65 : decode c_Re_readPart 65 = .ok (.iconst 1, 1) := by decide +kernel
theorem d_Re_readPart_66 : decode c_Re_readPart 66 = .ok (.iadd, 1) := by decide +kernel
theorem d_Re_readPart_67 : decode c_Re_readPart 67 = .ok (.putfield 36, 3) := by decide +kernel
theorem d_Re_readPart_70 : decode c_Re_readPart 70 = .ok (.aload_n 0, 1) := by decide +kernel
theorem d_Re_readPart_71 : decode c_Re_readPart 71 = .ok (.getfield 12, 3) := by decide +kernel
theorem d_Re_readPart_74 : decode c_Re_readPart 74 = .ok (.getfield 66, 3) := by decide +kernel
theorem d_Re_readPart_77 : decode c_Re_readPart 77 = .ok (.aload_n 0, 1) := by decide +kernel
theorem d_Re_readPart_78 : decode c_Re_readPart 78 = .ok (.getfield 32, 3) := by decide +kernel
theorem d_Re_readPart_81 : decode c_Re_readPart 81 = .ok (.iaload, 1) := by decide +kernel
theorem d_Re_readPart_82 : decode c_Re_readPart 82 = .ok (.istore_n 2, 1) := by decide +kernel
theorem d_Re_readPart_83 : decode c_Re_readPart 83 = .ok (.aload_n 0, 1) := by decide +kernel
theorem d_Re_readPart_84 : decode c_Re_readPart 84 = .ok (.bipush 8, 2) := by decide +kernel
theorem d_Re_readPart_86 : decode c_Re_readPart 86 = .ok (.invokevirtual 50, 3) := by decide +kernel
theorem d_Re_readPart_89 : decode c_Re_readPart 89 = .ok (.ifCond .eq 12, 3) := by decide +kernel
theorem d_Re_readPart_92 : decode c_Re_readPart 92 = .ok (.aload_n 0, 1) := by decide +kernel
theorem d_Re_readPart_93 : decode c_Re_readPart 93 = .ok (.invokevirtual 73, 3) := by decide +kernel
theorem d_Re_readPart_96 : decode c_Re_readPart 96 = .ok (.ifCond .ne 25, 3) := by decide +kernel
theorem d_Re_readPart_99 : decode c_Re_readPart 99 = .ok (.iconst 0, 1) := by decide +kernel
theorem d_Re_readPart_100 : decode c_Re_readPart 100 = .ok (.ireturn, 1) := by decide +kernel
theorem d_Re_readPart_101 : decode c_Re_readPart 101 = .ok (.iload_n 2, 1) := by decide +kernel
theorem d_Re_readPart_102 : decode c_Re_readPart 102 = .ok (.bipush 9, 2) := by decide +kernel
theorem d_Re_readPart_104 : decode c_Re_readPart 104 = .ok (.if_icmp .eq 17, 3) := by decide +kernel
theorem d_Re_readPart_107 : decode c_Re_readPart 107 = .ok (.iload_n 2, 1) := by decide +kernel
theorem d_Re_readPart_108 : decode c_Re_readPart 108 = .ok (.bipush 6, 2) := by decide +kernel
theorem d_Re_readPart_110 : decode c_Re_readPart 110 = .ok (.if_icmp .eq 11, 3) := by decide +kernel
theorem d_Re_readPart_113 : decode c_Re_readPart 113 = .ok (.iload_n 2, 1) := by decide +kernel
theorem d_Re_readPart_114 : decode c_Re_readPart 114 = .ok (.bipush 7, 2) := by decide +kernel
theorem d_Re_readPart_116 : decode c_Re_readPart 116 = .ok (.if_icmp .eq 5, 3) := by decide +kernel
theorem d_Re_readPart_119 : decode c_Re_readPart 119 = .ok (.iconst 0, 1) := by decide +kernel
theorem d_Re_readPart_120 : decode c_Re_readPart 120 = .ok (.ireturn, 1) := by decide +kernel
theorem d_Re_readPart_121 : decode c_Re_readPart 121 = .ok (.aload_n 0, 1) := by decide +kernel
theorem d_Re_readPart_122 : decode c_Re_readPart 122 = .ok (.getfield 21, 3) := by decide +kernel
theorem d_Re_readPart_125 : decode c_Re_readPart 125 = .ok (.iload_n 2, 1) := by decide +kernel
theorem d_Re_readPart_126 : decode c_Re_readPart 126 = .ok (.aload_n 0, 1) := by decide +kernel
theorem d_Re_readPart_127 : decode c_Re_readPart 127 = .ok (.getfield 12, 3) := by decide +kernel
theorem d_Re_readPart_130 : decode c_Re_readPart 130 = .ok (.getfield 76, 3) := by decide +kernel
theorem d_Re_readPart_133 : decode c_Re_readPart 133 = .ok (.aload_n 0, 1) := by decide +kernel
theorem d_Re_readPart_134 : decode c_Re_readPart 134 = .ok (.getfield 32, 3) := by decide +kernel
theorem d_Re_readPart_137 : decode c_Re_readPart 137 = .ok (.iaload, 1) := by decide +kernel
theorem d_Re_readPart_138 : decode c_Re_readPart 138 = .ok (.invokevirtual 69, 3) := by decide +kernel
theorem d_Re_readPart_141 : decode c_Re_readPart 141 = .ok (.aload_n 0, 1) := by decide +kernel
theorem d_Re_readPart_142 : decode c_Re_readPart 142 = .ok (.dup, 1) := by decide +kernel
theorem d_Re_readPart_143 : decode c_Re_readPart 143 = .ok (.getfield 32, 3) := by decide +kernel
theorem d_Re_readPart_146 : decode c_Re_readPart 146 = .ok (.iconst 1, 1) := by decide +kernel
theorem d_Re_readPart_147 : decode c_Re_readPart 147 = .ok (.iadd, 1) := by decide +kernel
theorem d_Re_readPart_148 : decode c_Re_readPart 148 = .ok (.putfield 32, 3) := by decide +kernel
theorem d_Re_readPart_151 : decode c_Re_readPart 151 = .ok (.iconst 1, 1) := by decide +kernel
theorem d_Re_readPart_152 : decode c_Re_readPart 152 = .ok (.ireturn, 1) := by decide +kernel
theorem d_Re_looksAt_0 : decode c_Re_looksAt 0 = .ok (.aload_n 0, 1) := by decide +kernel
theorem d_Re_looksAt_1 : decode c_Re_looksAt 1 = .ok (.getfield 12, 3) := by decide +kernel
theorem d_Re_looksAt_4 : decode c_Re_looksAt 4 = .ok (.getfield 66, 3) := by decide +kernel
theorem d_Re_looksAt_7 : decode c_Re_looksAt 7 = .ok (.aload_n 0, 1) := by decide +kernel
theorem d_Re_looksAt_8 : decode c_Re_looksAt 8 = .ok (.getfield 32, 3) := by decide +kernel
theorem d_Re_looksAt_11 : decode c_Re_looksAt 11 = .ok (.iaload, 1) := by decide +kernel
theorem d_Re_looksAt_12 : decode c_Re_looksAt 12 = .ok (.iload_n 1, 1) := by decide +kernel
theorem d_Re_looksAt_13 : decode c_Re_looksAt 13 = .ok (.if_icmp .ne 7, 3) := by decide +kernel
theorem d_Re_looksAt_16 : decode c_Re_looksAt 16 = .ok (.iconst 1, 1) := by decide +kernel
theorem d_Re_looksAt_17 : decode c_Re_looksAt 17 = .ok (.goto 4, 3) := by decide +kernel
theorem d_Re_looksAt_20 : decode c_Re_looksAt 20 = .ok (.iconst 0, 1) := by decide +kernel
theorem d_Re_looksAt_21 : decode c_Re_looksAt 21 = .ok (.ireturn, 1) := by decide +kernel
theorem d_Re_looksAtCellNumber_0 : decode c_Re_looksAtCellNumber 0 = .ok (.aload_n 0, 1) := by decide +kernel
theorem d_Re_looksAtCellNumber_1 : decode c_Re_looksAtCellNumber 1 = .ok (.getfield 12, 3) := by decide +kernel
theorem d_Re_looksAtCellNumber_4 : decode c_Re_looksAtCellNumber 4 = .ok (.getfield 66, 3) := by decide +kernel
theorem d_Re_looksAtCellNumber_7 : decode c_Re_looksAtCellNumber 7 = .ok (.aload_n 0, 1) := by decide +kernel
theorem d_Re_looksAtCellNumber_8 : decode c_Re_looksAtCellNumber 8 = .ok (.getfield 32, 3) := by decide +kernel
theorem d_Re_looksAtCellNumber_11 : decode c_Re_looksAtCellNumber 11 = .ok (.iaload, 1) := by decide +kernel
theorem d_Re_looksAtCellNumber_12 : decode c_Re_looksAtCellNumber 12 = .ok (.bipush 9, 2) := by decide +kernel
theorem d_Re_looksAtCellNumber_14 : decode c_Re_looksAtCellNumber 14 = .ok (.if_icmp .ne 24, 3) := by decide +kernel
theorem d_Re_looksAtCellNumber_17 : decode c_Re_looksAtCellNumber 17 = .ok (.aload_n 0, 1) := by decide +kernel
theorem d_Re_looksAtCellNumber_18 : decode c_Re_looksAtCellNumber 18 = .ok (.getfield 12, 3) := by decide +kernel
theorem d_Re_looksAtCellNumber_21 : decode c_Re_looksAtCellNumber 21 = .ok (.getfield 76, 3) := by decide +kernel
theorem d_Re_looksAtCellNumber_24 : decode c_Re_looksAtCellNumber 24 = .ok (.aload_n 0, 1) := by decide +kernel
theorem d_Re_looksAtCellNumber_25 : decode c_Re_looksAtCellNumber 25 = .ok (.getfield 32, 3) := by decide +kernel
theorem d_Re_looksAtCellNumber_28 : decode c_Re_looksAtCellNumber 28 = .ok (.iaload, 1) := by decide +kernel
theorem d_Re_looksAtCellNumber_29 : decode c_Re_looksAtCellNumber 29 = .ok (.bipush 32, 2) := by decide +kernel
theorem d_Re_looksAtCellNumber_31 : decode c_Re_looksAtCellNumber 31 = .ok (.if_icmp .ge 7, 3) := by decide +kernel
theorem d_Re_looksAtCellNumber_34 : decode c_Re_looksAtCellNumber 34 = .ok (.iconst 1, 1) := by decide +kernel
theorem d_Re_looksAtCellNumber_35 : decode c_Re_looksAtCellNumber 35 = .ok (.goto 4, 3) := by decide +kernel
theorem d_Re_looksAtCellNumber_38 : decode c_Re_looksAtCellNumber 38 = .ok (.iconst 0, 1) := by decide +kernel
theorem d_Re_looksAtCellNumber_39 : decode c_Re_looksAtCellNumber 39 = .ok (.ireturn, 1) := by decide +kernel
theorem d_Co_add_0 : decode c_Co_add 0 = .ok (.aload_n 0, 1) := by decide +kernel
theorem d_Co_add_1 : decode c_Co_add 1 = .ok (.getfield 21, 3) := by decide +kernel
theorem d_Co_add_4 : decode c_Co_add 4 = .ok (.sipush 160, 3) := by decide +kernel
theorem d_Co_add_7 : decode c_Co_add 7 = .ok (.if_icmp .ge 33, 3) := by decide +kernel
theorem d_Co_add_10 : decode c_Co_add 10 = .ok (.aload_n 0, 1) := by decide +kernel
theorem d_Co_add_11 : decode c_Co_add 11 = .ok (.getfield 9, 3) := by decide +kernel
theorem d_Co_add_14 : decode c_Co_add 14 = .ok (.aload_n 0, 1) := by decide +kernel
theorem d_Co_add_15 : decode c_Co_add 15 = .ok (.getfield 21, 3) := by decide +kernel
theorem d_Co_add_18 : decode c_Co_add 18 = .ok (.iload_n 1, 1) := by decide +kernel
theorem d_Co_add_19 : decode c_Co_add 19 = .ok (.iastore, 1) := by decide +kernel
theorem d_Co_add_20 : decode c_Co_add 20 = .ok (.aload_n 0, 1) := by decide +kernel
theorem d_Co_add_21 : decode c_Co_add 21 = .ok (.getfield 15, 3) := by decide +kernel
theorem d_Co_add_24 : decode c_Co_add 24 = .ok (.aload_n 0, 1) := by decide +kernel
theorem d_Co_add_25 : decode c_Co_add 25 = .ok (.getfield 21, 3) := by decide +kernel
theorem d_Co_add_28 : decode c_Co_add 28 = .ok (.iload_n 2, 1) := by decide +kernel
theorem d_Co_add_29 : decode c_Co_add 29 = .ok (.iastore, 1) := by decide +kernel
theorem d_Co_add_30 : decode c_Co_add 30 = .ok (.aload_n 0, 1) := by decide +kernel
theorem d_Co_add_31 : decode c_Co_add 31 = .ok (.dup, 1) := by decide +kernel
theorem d_Co_add_32 : decode c_Co_add 32 = .ok (.getfield 21, 3) := by decide +kernel
theorem d_Co_add_35 : decode c_Co_add 35 = .ok (.iconst 1, 1) := by decide +kernel
theorem d_Co_add_36 : decode c_Co_add 36 = .ok (.iadd, 1) := by decide +kernel
theorem d_Co_add_37 : decode c_Co_add 37 = .ok (.putfield 21, 3) := by decide +kernel
theorem d_Co_add_40 : decode c_Co_add 40 = .ok (.return_, 1) := by decide +kernel
theorem d_Re_readEffect_0 : decode c_Re_readEffect 0 = .ok (.aload_n 0, 1) := by decide +kernel
theorem d_Re_readEffect_1 : decode c_Re_readEffect 1 = .ok (.bipush 8, 2) := by decide +kernel
theorem d_Re_readEffect_3 : decode c_Re_readEffect 3 = .ok (.invokevirtual 50, 3) := by decide +kernel
theorem d_Re_readEffect_6 : decode c_Re_readEffect 6 = .ok (.ifCond .eq 10, 3) := by decide +kernel
theorem d_Re_readEffect_9 : decode c_Re_readEffect 9 = .ok (.aload_n 0, 1) := by decide +kernel
theorem d_Re_readEffect_10 : decode c_Re_readEffect 10 = .ok (.invokevirtual 73, 3) := by decide +kernel
theorem d_Re_readEffect_13 : decode c_Re_readEffect 13 = .ok (.ifCond .ne 5, 3) := by decide +kernel
theorem d_Re_readEffect_16 : decode c_Re_readEffect 16 = .ok (.iconst 0, 1) := by decide +kernel
theorem d_Re_readEffect_17 : decode c_Re_readEffect 17 = .ok (.ireturn, 1) := by decide +kernel
theorem d_Re_readEffect_18 : decode c_Re_readEffect 18 = .ok (.aload_n 0, 1) := by decide +kernel
theorem d_Re_readEffect_19 : decode c_Re_readEffect 19 = .ok (.getfield 12, 3) := by decide +kernel
theorem d_Re_readEffect_22 : decode c_Re_readEffect 22 = .ok (.getfield 76, 3) := by decide +kernel
theorem d_Re_readEffect_25 : decode c_Re_readEffect 25 = .ok (.aload_n 0, 1) := by decide +kernel
theorem d_Re_readEffect_26 : decode c_Re_readEffect 26 = .ok (.getfield 32, 3) := by decide +kernel
theorem d_Re_readEffect_29 : decode c_Re_readEffect 29 = .ok (.iaload, 1) := by decide +kernel
theorem d_Re_readEffect_30 : decode c_Re_readEffect 30 = .ok (.istore_n 1, 1) := by decide +kernel
theorem d_Re_readEffect_31 : decode c_Re_readEffect 31 = .ok (.aload_n 0, 1) := by decide +kernel
theorem d_Re_readEffect_32 : decode c_Re_readEffect 32 = .ok (.dup, 1) := by decide +kernel
theorem d_Re_readEffect_33 : decode c_Re_readEffect 33 = .ok (.getfield 32, 3) := by decide +kernel
theorem d_Re_readEffect_36 : decode c_Re_readEffect 36 = .ok (.iconst 1, 1) := by decide +kernel
theorem d_Re_readEffect_37 : decode c_Re_readEffect 37 = .ok (.iadd, 1) := by decide +kernel
theorem d_Re_readEffect_38 : decode c_Re_readEffect 38 = .ok (.putfield 32, 3) := by decide +kernel
theorem d_Re_readEffect_41 : decode c_Re_readEffect 41 = .ok (.aload_n 0, 1) := by decide +kernel
theorem d_Re_readEffect_42 : decode c_Re_readEffect 42 = .ok (.bipush 17, 2) := by decide +kernel
theorem d_Re_readEffect_44 : decode c_Re_readEffect 44 = .ok (.invokevirtual 50, 3) := by decide +kernel
theorem d_Re_readEffect_47 : decode c_Re_readEffect 47 = .ok (.ifCond .eq 11, 3) := by decide +kernel
theorem d_Re_readEffect_50 : decode c_Re_readEffect 50 = .ok (.aload_n 0, 1) := by decide +kernel
theorem d_Re_readEffect_51 : decode c_Re_readEffect 51 = .ok (.iconst 0, 1) := by decide +kernel
theorem d_Re_readEffect_52 : decode c_Re_readEffect 52 = .ok (.invokevirtual 63, 3) := by decide +kernel
theorem d_Re_readEffect_55 : decode c_Re_readEffect 55 = .ok (.ifCond .ne 5, 3) := by decide +kernel
theorem d_Re_readEffect_58 : decode c_Re_readEffect 58 = .ok (.iconst 0, 1) := by decide +kernel
theorem d_Re_readEffect_59 : decode c_Re_readEffect 59 = .ok (.ireturn, 1) := by decide +kernel
theorem d_Re_readEffect_60 : decode c_Re_readEffect 60 = .ok (.aload_n 0, 1) := by decide +kernel
theorem d_Re_readEffect_61 : decode c_Re_readEffect 61 = .ok (.getfield 21, 3) := by decide +kernel
theorem d_Re_readEffect_64 : decode c_Re_readEffect 64 = .ok (.bipush 17, 2) := by decide +kernel
theorem d_Re_readEffect_66 : decode c_Re_readEffect 66 = .ok (.iload_n 1, 1) := by decide +kernel
theorem d_Re_readEffect_67 : decode c_Re_readEffect 67 = .ok (.invokevirtual 69, 3) := by decide +kernel
theorem d_Re_readEffect_70 : decode c_Re_readEffect 70 = .ok (.iconst 1, 1) := by decide +kernel
theorem d_Re_readEffect_71 : decode c_Re_readEffect 71 = .ok (.ireturn, 1) := by decide +kernel
theorem d_Co_closeRule_0 : decode c_Co_closeRule 0 = .ok (.aload_n 0, 1) := by decide +kernel
theorem d_Co_closeRule_1 : decode c_Co_closeRule 1 = .ok (.getfield 25, 3) := by decide +kernel
theorem d_Co_closeRule_4 : decode c_Co_closeRule 4 = .ok (.bipush 6, 2) := by decide +kernel
theorem d_Co_closeRule_6 : decode c_Co_closeRule 6 = .ok (.if_icmp .ge 26, 3) := by decide +kernel
theorem d_Co_closeRule_9 : decode c_Co_closeRule 9 = .ok (.aload_n 0, 1) := by decide +kernel
theorem d_Co_closeRule_10 : decode c_Co_closeRule 10 = .ok (.getfield 18, 3) := by decide +kernel
theorem d_Co_closeRule_13 : decode c_Co_closeRule 13 = .ok (.aload_n 0, 1) := by decide +kernel
theorem d_Co_closeRule_14 : decode c_Co_closeRule 14 = .ok (.getfield 25, 3) := by decide +kernel
theorem d_Co_closeRule_17 : decode c_Co_closeRule 17 = .ok (.aload_n 0, 1) := by decide +kernel
theorem d_Co_closeRule_18 : decode c_Co_closeRule 18 = .ok (.getfield 21, 3) := by decide +kernel
theorem d_Co_closeRule_21 : decode c_Co_closeRule 21 = .ok (.iastore, 1) := by decide +kernel
theorem d_Co_closeRule_22 : decode c_Co_closeRule 22 = .ok (.aload_n 0, 1) := by decide +kernel
theorem d_Co_closeRule_23 : decode c_Co_closeRule 23 = .ok (.dup, 1) := by decide +kernel
theorem d_Co_closeRule_24 : decode c_Co_closeRule 24 = .ok (.getfield 25, 3) := by decide +kernel
theorem d_Co_closeRule_27 : decode c_Co_closeRule 27 = .ok (.iconst 1, 1) := by decide +kernel
theorem d_Co_closeRule_28 : decode c_Co_closeRule 28 = .ok (.iadd, 1) := by decide +kernel
theorem d_Co_closeRule_29 : decode c_Co_closeRule 29 = .ok (.putfield 25, 3) := by decide +kernel
theorem d_Co_closeRule_32 : decode c_Co_closeRule 32 = .ok (.return_, 1) := by decide +kernel
theorem d_Re_exchange_0 : decode c_Re_exchange 0 = .ok (.aload_n 0, 1) := by decide +kernel
theorem d_Re_exchange_1 : decode c_Re_exchange 1 = .ok (.getfield 21, 3) := by decide +kernel
theorem d_Re_exchange_4 : decode c_Re_exchange 4 = .ok (.astore_n 2, 1) := by decide +kernel
theorem d_Re_exchange_5 : decode c_Re_exchange 5 = .ok (.aload_n 0, 1) := by decide +kernel
theorem d_Re_exchange_6 : decode c_Re_exchange 6 = .ok (.aload_n 1, 1) := by decide +kernel
theorem d_Re_exchange_7 : decode c_Re_exchange 7 = .ok (.putfield 21, 3) := by decide +kernel
theorem d_Re_exchange_10 : decode c_Re_exchange 10 = .ok (.aload_n 2, 1) := by decide +kernel
theorem d_Re_exchange_11 : decode c_Re_exchange 11 = .ok (.areturn, 1) := by decide +kernel
theorem d_Ru_run_0 : decode c_Ru_run 0 = .ok (.aload_n 0, 1) := by decide +kernel
theorem d_Ru_run_1 : decode c_Ru_run 1 = .ok (.getfield 33, 3) := by decide +kernel
theorem d_Ru_run_4 : decode c_Ru_run 4 = .ok (.getfield 53, 3) := by decide +kernel
theorem d_Ru_run_7 : decode c_Ru_run 7 = .ok (.ifCond .ne 8, 3) := by decide +kernel
theorem d_Ru_run_10 : decode c_Ru_run 10 = .ok (.bipush (-2), 2) := by decide +kernel
theorem d_Ru_run_12 : decode c_Ru_run 12 = .ok (.goto 16, 3) := by decide +kernel
theorem d_Ru_run_15 : decode c_Ru_run 15 = .ok (.aload_n 0, 1) := by decide +kernel
theorem d_Ru_run_16 : decode c_Ru_run 16 = .ok (.getfield 26, 3) := by decide +kernel
theorem d_Ru_run_19 : decode c_Ru_run 19 = .ok (.aload_n 0, 1) := by decide +kernel
theorem d_Ru_run_20 : decode c_Ru_run 20 = .ok (.getfield 33, 3) := by decide +kernel
theorem d_Ru_run_23 : decode c_Ru_run 23 = .ok (.iload_n 1, 1) := by decide +kernel
theorem d_Ru_run_24 : decode c_Ru_run 24 = .ok (.iload_n 2, 1) := by decide +kernel
theorem d_Ru_run_25 : decode c_Ru_run 25 = .ok (.invokevirtual 56, 3) := by decide +kernel
theorem d_Ru_run_28 : decode c_Ru_run 28 = .ok (.ireturn, 1) := by decide +kernel
theorem d_Ma_perform_0 : decode c_Ma_perform 0 = .ok (.aload_n 0, 1) := by decide +kernel
theorem d_Ma_perform_1 : decode c_Ma_perform 1 = .ok (.getfield 33, 3) := by decide +kernel
theorem d_Ma_perform_4 : decode c_Ma_perform 4 = .ok (.sipush 200, 3) := by decide +kernel
theorem d_Ma_perform_7 : decode c_Ma_perform 7 = .ok (.if_icmp .lt 6, 3) := by decide +kernel
theorem d_Ma_perform_10 : decode c_Ma_perform 10 = .ok (.bipush (-3), 2) := by decide +kernel
theorem d_Ma_perform_12 : decode c_Ma_perform 12 = .ok (.ireturn, 1) := by decide +kernel
theorem d_Ma_perform_13 : decode c_Ma_perform 13 = .ok (.aload_n 0, 1) := by decide +kernel
theorem d_Ma_perform_14 : decode c_Ma_perform 14 = .ok (.getfield 30, 3) := by decide +kernel
theorem d_Ma_perform_17 : decode c_Ma_perform 17 = .ok (.aload_n 0, 1) := by decide +kernel
theorem d_Ma_perform_18 : decode c_Ma_perform 18 = .ok (.getfield 33, 3) := by decide +kernel
theorem d_Ma_perform_21 : decode c_Ma_perform 21 = .ok (.aload_n 0, 1) := by decide +kernel
theorem d_Ma_perform_22 : decode c_Ma_perform 22 = .ok (.getfield 37, 3) := by decide +kernel
theorem d_Ma_perform_25 : decode c_Ma_perform 25 = .ok (.iastore, 1) := by decide +kernel
theorem d_Ma_perform_26 : decode c_Ma_perform 26 = .ok (.aload_n 0, 1) := by decide +kernel
theorem d_Ma_perform_27 : decode c_Ma_perform 27 = .ok (.dup, 1) := by decide +kernel
theorem d_Ma_perform_28 : decode c_Ma_perform 28 = .ok (.getfield 33, 3) := by decide +kernel
theorem d_Ma_perform_31 : decode c_Ma_perform 31 = .ok (.iconst 1, 1) := by decide +kernel
theorem d_Ma_perform_32 : decode c_Ma_perform 32 = .ok (.iadd, 1) := by decide +kernel
theorem d_Ma_perform_33 : decode c_Ma_perform 33 = .ok (.putfield 33, 3) := by decide +kernel
theorem d_Ma_perform_36 : decode c_Ma_perform 36 = .ok (.iconst 0, 1) := by decide +kernel
theorem d_Ma_perform_37 : decode c_Ma_perform 37 = .ok (.istore 4, 2) := by decide +kernel
theorem d_Ma_perform_39 : decode c_Ma_perform 39 = .ok (.iconst 0, 1) := by decide +kernel
theorem d_Ma_perform_40 : decode c_Ma_perform 40 = .ok (.istore 5, 2) := by decide +kernel
theorem d_Ma_perform_42 : decode c_Ma_perform 42 = .ok (.iload 5, 2) := by decide +kernel
theorem d_Ma_perform_44 : decode c_Ma_perform 44 = .ok (.aload_n 1, 1) := by decide +kernel
theorem d_Ma_perform_45 : decode c_Ma_perform 45 = .ok (.getfield 40, 3) := by decide +kernel
theorem d_Ma_perform_48 : decode c_Ma_perform 48 = .ok (.if_icmp .ge 46, 3) := by decide +kernel
theorem d_Ma_perform_51 : decode c_Ma_perform 51 = .ok (.aload_n 0, 1) := by decide +kernel
theorem d_Ma_perform_52 : decode c_Ma_perform 52 = .ok (.aload_n 1, 1) := by decide +kernel
theorem d_Ma_perform_53 : decode c_Ma_perform 53 = .ok (.iload 4, 2) := by decide +kernel
theorem d_Ma_perform_55 : decode c_Ma_perform 55 = .ok (.aload_n 1, 1) := by decide +kernel
theorem d_Ma_perform_56 : decode c_Ma_perform 56 = .ok (.getfield 45, 3) := by decide +kernel
theorem d_Ma_perform_59 : decode c_Ma_perform 59 = .ok (.iload 5, 2) := by decide +kernel
theorem d_Ma_perform_61 : decode c_Ma_perform 61 = .ok (.iaload, 1) := by decide +kernel
theorem d_Ma_perform_62 : decode c_Ma_perform 62 = .ok (.iload_n 2, 1) := by decide +kernel
theorem d_Ma_perform_63 : decode c_Ma_perform 63 = .ok (.iload_n 3, 1) := by decide +kernel
theorem d_Ma_perform_64 : decode c_Ma_perform 64 = .ok (.invokevirtual 48, 3) := by decide +kernel
theorem d_Ma_perform_67 : decode c_Ma_perform 67 = .ok (.ifCond .eq 12, 3) := by decide +kernel
theorem d_Ma_perform_70 : decode c_Ma_perform 70 = .ok (.aload_n 0, 1) := by decide +kernel
theorem d_Ma_perform_71 : decode c_Ma_perform 71 = .ok (.invokevirtual 52, 3) := by decide +kernel
theorem d_Ma_perform_74 : decode c_Ma_perform 74 = .ok (.iload 5, 2) := by decide +kernel
theorem d_Ma_perform_76 : decode c_Ma_perform 76 = .ok (.iconst 1, 1) := by decide +kernel
theorem d_Ma_perform_77 : decode c_Ma_perform 77 = .ok (.iadd, 1) := by decide +kernel
theorem d_Ma_perform_78 : decode c_Ma_perform 78 = .ok (.ireturn, 1) := by decide +kernel
theorem d_Ma_perform_79 : decode c_Ma_perform 79 = .ok (.aload_n 1, 1) := by decide +kernel
theorem d_Ma_perform_80 : decode c_Ma_perform 80 = .ok (.getfield 45, 3) := by decide +kernel
theorem d_Ma_perform_83 : decode c_Ma_perform 83 = .ok (.iload 5, 2) := by decide +kernel
theorem d_Ma_perform_85 : decode c_Ma_perform 85 = .ok (.iaload, 1) := by decide +kernel
theorem d_Ma_perform_86 : decode c_Ma_perform 86 = .ok (.istore 4, 2) := by decide +kernel
theorem d_Ma_perform_88 : decode c_Ma_perform 88 = .ok (.iinc 5 1, 3) := by decide +kernel
theorem d_Ma_perform_91 : decode c_Ma_perform 91 = .ok (.goto (-49), 3) := by decide +kernel
theorem d_Ma_perform_94 : decode c_Ma_perform 94 = .ok (.iconst 0, 1) := by decide +kernel
theorem d_Ma_perform_95 : decode c_Ma_perform 95 = .ok (.ireturn, 1) := by decide +kernel
theorem d_Ma_isTaken_0 : decode c_Ma_isTaken 0 = .ok (.aload_n 0, 1) := by decide +kernel
theorem d_Ma_isTaken_1 : decode c_Ma_isTaken 1 = .ok (.iconst 0, 1) := by decide +kernel
theorem d_Ma_isTaken_2 : decode c_Ma_isTaken 2 = .ok (.putfield 55, 3) := by decide +kernel
theorem d_Ma_isTaken_5 : decode c_Ma_isTaken 5 = .ok (.aload_n 0, 1) := by decide +kernel
theorem d_Ma_isTaken_6 : decode c_Ma_isTaken 6 = .ok (.iconst 0, 1) := by decide +kernel
theorem d_Ma_isTaken_7 : decode c_Ma_isTaken 7 = .ok (.putfield 58, 3) := by decide +kernel
theorem d_Ma_isTaken_10 : decode c_Ma_isTaken 10 = .ok (.iload_n 2, 1) := by decide +kernel
theorem d_Ma_isTaken_11 : decode c_Ma_isTaken 11 = .ok (.istore 6, 2) := by decide +kernel
theorem d_Ma_isTaken_13 : decode c_Ma_isTaken 13 = .ok (.iload 6, 2) := by decide +kernel
theorem d_Ma_isTaken_15 : decode c_Ma_isTaken 15 = .ok (.iload_n 3, 1) := by decide +kernel
theorem d_Ma_isTaken_16 : decode c_Ma_isTaken 16 = .ok (.if_icmp .ge 177, 3) := by decide +kernel
theorem d_Ma_isTaken_19 : decode c_Ma_isTaken 19 = .ok (.aload_n 1, 1) := by decide +kernel
theorem d_Ma_isTaken_20 : decode c_Ma_isTaken 20 = .ok (.getfield 61, 3) := by decide +kernel
theorem d_Ma_isTaken_23 : decode c_Ma_isTaken 23 = .ok (.iload 6, 2) := by decide +kernel
theorem d_Ma_isTaken_25 : decode c_Ma_isTaken 25 = .ok (.iaload, 1) := by decide +kernel
theorem d_Ma_isTaken_26 : decode c_Ma_isTaken 26 = .ok (.tableswitch 145 6 17 #[95, 104, 76, 62, 145, 145, 145, 145, 131, 131, 131, 113], 62) := by decide +kernel
theorem d_Ma_isTaken_88 : decode c_Ma_isTaken 88 = .ok (.aload_n 0, 1) := by decide +kernel
theorem d_Ma_isTaken_89 : decode c_Ma_isTaken 89 = .ok (.aload_n 1, 1) := by decide +kernel
theorem d_Ma_isTaken_90 : decode c_Ma_isTaken 90 = .ok (.getfield 64, 3) := by decide +kernel
theorem d_Ma_isTaken_93 : decode c_Ma_isTaken 93 = .ok (.iload 6, 2) := by decide +kernel
theorem d_Ma_isTaken_95 : decode c_Ma_isTaken 95 = .ok (.iaload, 1) := by decide +kernel
theorem d_Ma_isTaken_96 : decode c_Ma_isTaken 96 = .ok (.invokevirtual 67, 3) := by decide +kernel
theorem d_Ma_isTaken_99 : decode c_Ma_isTaken 99 = .ok (.goto 88, 3) := by decide +kernel
theorem d_Ma_isTaken_102 : decode c_Ma_isTaken 102 = .ok (.aload_n 0, 1) := by decide +kernel
theorem d_Ma_isTaken_103 : decode c_Ma_isTaken 103 = .ok (.aload_n 0, 1) := by decide +kernel
theorem d_Ma_isTaken_104 : decode c_Ma_isTaken 104 = .ok (.getfield 9, 3) := by decide +kernel
theorem d_Ma_isTaken_107 : decode c_Ma_isTaken 107 = .ok (.aload_n 1, 1) := by decide +kernel
theorem d_Ma_isTaken_108 : decode c_Ma_isTaken 108 = .ok (.getfield 64, 3) := by decide +kernel
theorem d_Ma_isTaken_111 : decode c_Ma_isTaken 111 = .ok (.iload 6, 2) := by decide +kernel
theorem d_Ma_isTaken_113 : decode c_Ma_isTaken 113 = .ok (.iaload, 1) := by decide +kernel
theorem d_Ma_isTaken_114 : decode c_Ma_isTaken 114 = .ok (.iaload, 1) := by decide +kernel
theorem d_Ma_isTaken_115 : decode c_Ma_isTaken 115 = .ok (.invokevirtual 67, 3) := by decide +kernel
theorem d_Ma_isTaken_118 : decode c_Ma_isTaken 118 = .ok (.goto 69, 3) := by decide +kernel
theorem d_Ma_isTaken_121 : decode c_Ma_isTaken 121 = .ok (.aload_n 0, 1) := by decide +kernel
theorem d_Ma_isTaken_122 : decode c_Ma_isTaken 122 = .ok (.iload 4, 2) := by decide +kernel
theorem d_Ma_isTaken_124 : decode c_Ma_isTaken 124 = .ok (.invokevirtual 67, 3) := by decide +kernel
theorem d_Ma_isTaken_127 : decode c_Ma_isTaken 127 = .ok (.goto 60, 3) := by decide +kernel
theorem d_Ma_isTaken_130 : decode c_Ma_isTaken 130 = .ok (.aload_n 0, 1) := by decide +kernel
theorem d_Ma_isTaken_131 : decode c_Ma_isTaken 131 = .ok (.iload 5, 2) := by decide +kernel
theorem d_Ma_isTaken_133 : decode c_Ma_isTaken 133 = .ok (.invokevirtual 67, 3) := by decide +kernel
theorem d_Ma_isTaken_136 : decode c_Ma_isTaken 136 = .ok (.goto 51, 3) := by decide +kernel
theorem d_Ma_isTaken_139 : decode c_Ma_isTaken 139 = .ok (.aload_n 0, 1) := by decide +kernel
theorem d_Ma_isTaken_140 : decode c_Ma_isTaken 140 = .ok (.aload_n 1, 1) := by decide +kernel
theorem d_Ma_isTaken_141 : decode c_Ma_isTaken 141 = .ok (.getfield 64, 3) := by decide +kernel
theorem d_Ma_isTaken_144 : decode c_Ma_isTaken 144 = .ok (.iload 6, 2) := by decide +kernel
theorem d_Ma_isTaken_146 : decode c_Ma_isTaken 146 = .ok (.iaload, 1) := by decide +kernel
theorem d_Ma_isTaken_147 : decode c_Ma_isTaken 147 = .ok (.aload_n 0, 1) := by decide +kernel
theorem d_Ma_isTaken_148 : decode c_Ma_isTaken 148 = .ok (.invokevirtual 71, 3) := by decide +kernel
theorem d_Ma_isTaken_151 : decode c_Ma_isTaken 151 = .ok (.invokevirtual 75, 3) := by decide +kernel
theorem d_Ma_isTaken_154 : decode c_Ma_isTaken 154 = .ok (.goto 33, 3) := by decide +kernel
theorem d_Ma_isTaken_157 : decode c_Ma_isTaken 157 = .ok (.aload_n 0, 1) := by decide +kernel
theorem d_Ma_isTaken_158 : decode c_Ma_isTaken 158 = .ok (.aload_n 1, 1) := by decide +kernel
theorem d_Ma_isTaken_159 : decode c_Ma_isTaken 159 = .ok (.getfield 61, 3) := by decide +kernel
theorem d_Ma_isTaken_162 : decode c_Ma_isTaken 162 = .ok (.iload 6, 2) := by decide +kernel
theorem d_Ma_isTaken_164 : decode c_Ma_isTaken 164 = .ok (.iaload, 1) := by decide +kernel
theorem d_Ma_isTaken_165 : decode c_Ma_isTaken 165 = .ok (.invokevirtual 79, 3) := by decide +kernel
theorem d_Ma_isTaken_168 : decode c_Ma_isTaken 168 = .ok (.goto 19, 3) := by decide +kernel
theorem d_Ma_isTaken_171 : decode c_Ma_isTaken 171 = .ok (.aload_n 0, 1) := by decide +kernel
theorem d_Ma_isTaken_172 : decode c_Ma_isTaken 172 = .ok (.aload_n 1, 1) := by decide +kernel
theorem d_Ma_isTaken_173 : decode c_Ma_isTaken 173 = .ok (.getfield 61, 3) := by decide +kernel
theorem d_Ma_isTaken_176 : decode c_Ma_isTaken 176 = .ok (.iload 6, 2) := by decide +kernel
theorem d_Ma_isTaken_178 : decode c_Ma_isTaken 178 = .ok (.iaload, 1) := by decide +kernel
theorem d_Ma_isTaken_179 : decode c_Ma_isTaken 179 = .ok (.invokevirtual 82, 3) := by decide +kernel
theorem d_Ma_isTaken_182 : decode c_Ma_isTaken 182 = .ok (.ifCond .ne 5, 3) := by decide +kernel
theorem d_Ma_isTaken_185 : decode c_Ma_isTaken 185 = .ok (.iconst 0, 1) := by decide +kernel
theorem d_Ma_isTaken_186 : decode c_Ma_isTaken 186 = .ok (.ireturn, 1) := by decide +kernel
theorem d_Ma_isTaken_187 : decode c_Ma_isTaken 187 = .ok (.iinc 6 1, 3) := by decide +kernel
theorem d_Ma_isTaken_190 : decode c_Ma_isTaken 190 = .ok (.goto (-177), 3) := by decide +kernel
theorem d_Ma_isTaken_193 : decode c_Ma_isTaken 193 = .ok (.iconst 1, 1) := by decide +kernel
theorem d_Ma_isTaken_194 : decode c_Ma_isTaken 194 = .ok (.ireturn, 1) := by decide +kernel
theorem d_Ma_push_0 : decode c_Ma_push 0 = .ok (.aload_n 0, 1) := by decide +kernel
theorem d_Ma_push_1 : decode c_Ma_push 1 = .ok (.getfield 55, 3) := by decide +kernel
theorem d_Ma_push_4 : decode c_Ma_push 4 = .ok (.bipush 80, 2) := by decide +kernel
theorem d_Ma_push_6 : decode c_Ma_push 6 = .ok (.if_icmp .ge 23, 3) := by decide +kernel
theorem d_Ma_push_9 : decode c_Ma_push 9 = .ok (.aload_n 0, 1) := by decide +kernel
theorem d_Ma_push_10 : decode c_Ma_push 10 = .ok (.getfield 15, 3) := by decide +kernel
theorem d_Ma_push_13 : decode c_Ma_push 13 = .ok (.aload_n 0, 1) := by decide +kernel
theorem d_Ma_push_14 : decode c_Ma_push 14 = .ok (.getfield 55, 3) := by decide +kernel
theorem d_Ma_push_17 : decode c_Ma_push 17 = .ok (.iload_n 1, 1) := by decide +kernel
theorem d_Ma_push_18 : decode c_Ma_push 18 = .ok (.iastore, 1) := by decide +kernel
theorem d_Ma_push_19 : decode c_Ma_push 19 = .ok (.aload_n 0, 1) := by decide +kernel
theorem d_Ma_push_20 : decode c_Ma_push 20 = .ok (.dup, 1) := by decide +kernel
theorem d_Ma_push_21 : decode c_Ma_push 21 = .ok (.getfield 55, 3) := by decide +kernel
theorem d_Ma_push_24 : decode c_Ma_push 24 = .ok (.iconst 1, 1) := by decide +kernel
theorem d_Ma_push_25 : decode c_Ma_push 25 = .ok (.iadd, 1) := by decide +kernel
theorem d_Ma_push_26 : decode c_Ma_push 26 = .ok (.putfield 55, 3) := by decide +kernel
theorem d_Ma_push_29 : decode c_Ma_push 29 = .ok (.return_, 1) := by decide +kernel
theorem d_Ma_pop_0 : decode c_Ma_pop 0 = .ok (.aload_n 0, 1) := by decide +kernel
theorem d_Ma_pop_1 : decode c_Ma_pop 1 = .ok (.getfield 55, 3) := by decide +kernel
theorem d_Ma_pop_4 : decode c_Ma_pop 4 = .ok (.ifCond .ne 5, 3) := by decide +kernel
theorem d_Ma_pop_7 : decode c_Ma_pop 7 = .ok (.iconst 0, 1) := by decide +kernel
theorem d_Ma_pop_8 : decode c_Ma_pop 8 = .ok (.ireturn, 1) := by decide +kernel
theorem d_Ma_pop_9 : decode c_Ma_pop 9 = .ok (.aload_n 0, 1) := by decide +kernel
theorem d_Ma_pop_10 : decode c_Ma_pop 10 = .ok (.dup, 1) := by decide +kernel
theorem d_Ma_pop_11 : decode c_Ma_pop 11 = .ok (.getfield 55, 3) := by decide +kernel
theorem d_Ma_pop_14 : decode c_Ma_pop 14 = .ok (.iconst 1, 1) := by decide +kernel
theorem d_Ma_pop_15 : decode c_Ma_pop 15 = .ok (.isub, 1) := by decide +kernel
theorem d_Ma_pop_16 : decode c_Ma_pop 16 = .ok (.putfield 55, 3) := by decide +kernel
theorem d_Ma_pop_19 : decode c_Ma_pop 19 = .ok (.aload_n 0, 1) := by decide +kernel
theorem d_Ma_pop_20 : decode c_Ma_pop 20 = .ok (.getfield 15, 3) := by decide +kernel
theorem d_Ma_pop_23 : decode c_Ma_pop 23 = .ok (.aload_n 0, 1) := by decide +kernel
theorem d_Ma_pop_24 : decode c_Ma_pop 24 = .ok (.getfield 55, 3) := by decide +kernel
theorem d_Ma_pop_27 : decode c_Ma_pop 27 = .ok (.iaload, 1) := by decide +kernel
theorem d_Ma_pop_28 : decode c_Ma_pop 28 = .ok (.ireturn, 1) := by decide +kernel
theorem d_Ma_addEffect_0 : decode c_Ma_addEffect 0 = .ok (.aload_n 0, 1) := by decide +kernel
theorem d_Ma_addEffect_1 : decode c_Ma_addEffect 1 = .ok (.getfield 58, 3) := by decide +kernel
theorem d_Ma_addEffect_4 : decode c_Ma_addEffect 4 = .ok (.bipush 8, 2) := by decide +kernel
theorem d_Ma_addEffect_6 : decode c_Ma_addEffect 6 = .ok (.if_icmp .ge 33, 3) := by decide +kernel
theorem d_Ma_addEffect_9 : decode c_Ma_addEffect 9 = .ok (.aload_n 0, 1) := by decide +kernel
theorem d_Ma_addEffect_10 : decode c_Ma_addEffect 10 = .ok (.getfield 18, 3) := by decide +kernel
theorem d_Ma_addEffect_13 : decode c_Ma_addEffect 13 = .ok (.aload_n 0, 1) := by decide +kernel
theorem d_Ma_addEffect_14 : decode c_Ma_addEffect 14 = .ok (.getfield 58, 3) := by decide +kernel
theorem d_Ma_addEffect_17 : decode c_Ma_addEffect 17 = .ok (.iload_n 1, 1) := by decide +kernel
theorem d_Ma_addEffect_18 : decode c_Ma_addEffect 18 = .ok (.iastore, 1) := by decide +kernel
theorem d_Ma_addEffect_19 : decode c_Ma_addEffect 19 = .ok (.aload_n 0, 1) := by decide +kernel
theorem d_Ma_addEffect_20 : decode c_Ma_addEffect 20 = .ok (.getfield 21, 3) := by decide +kernel
theorem d_Ma_addEffect_23 : decode c_Ma_addEffect 23 = .ok (.aload_n 0, 1) := by decide +kernel
theorem d_Ma_addEffect_24 : decode c_Ma_addEffect 24 = .ok (.getfield 58, 3) := by decide +kernel
theorem d_Ma_addEffect_27 : decode c_Ma_addEffect 27 = .ok (.iload_n 2, 1) := by decide +kernel
theorem d_Ma_addEffect_28 : decode c_Ma_addEffect 28 = .ok (.iastore, 1) := by decide +kernel
theorem d_Ma_addEffect_29 : decode c_Ma_addEffect 29 = .ok (.aload_n 0, 1) := by decide +kernel
theorem d_Ma_addEffect_30 : decode c_Ma_addEffect 30 = .ok (.dup, 1) := by decide +kernel
theorem d_Ma_addEffect_31 : decode c_Ma_addEffect 31 = .ok (.getfield 58, 3) := by decide +kernel
theorem d_Ma_addEffect_34 : decode c_Ma_addEffect 34 = .ok (.iconst 1, 1) := by decide +kernel
theorem d_Ma_addEffect_35 : decode c_Ma_addEffect 35 = .ok (.iadd, 1) := by decide +kernel
theorem d_Ma_addEffect_36 : decode c_Ma_addEffect 36 = .ok (.putfield 58, 3) := by decide +kernel
theorem d_Ma_addEffect_39 : decode c_Ma_addEffect 39 = .ok (.return_, 1) := by decide +kernel
theorem d_Ma_calculate_0 : decode c_Ma_calculate 0 = .ok (.aload_n 0, 1) := by decide +kernel
theorem d_Ma_calculate_1 : decode c_Ma_calculate 1 = .ok (.invokevirtual 71, 3) := by decide +kernel
theorem d_Ma_calculate_4 : decode c_Ma_calculate 4 = .ok (.istore_n 2, 1) := by decide +kernel
theorem d_Ma_calculate_5 : decode c_Ma_calculate 5 = .ok (.aload_n 0, 1) := by decide +kernel
theorem d_Ma_calculate_6 : decode c_Ma_calculate 6 = .ok (.invokevirtual 71, 3) := by decide +kernel
theorem d_Ma_calculate_9 : decode c_Ma_calculate 9 = .ok (.istore_n 3, 1) := by decide +kernel
theorem d_Ma_calculate_10 : decode c_Ma_calculate 10 = .ok (.iload_n 1, 1) := by decide +kernel
theorem d_Ma_calculate_11 : decode c_Ma_calculate 11 = .ok (.lookupswitch 45 #[(14, 25), (15, 35)], 25) := by decide +kernel
theorem d_Ma_calculate_36 : decode c_Ma_calculate 36 = .ok (.aload_n 0, 1) := by decide +kernel
theorem d_Ma_calculate_37 : decode c_Ma_calculate 37 = .ok (.iload_n 3, 1) := by decide +kernel
theorem d_Ma_calculate_38 : decode c_Ma_calculate 38 = .ok (.iload_n 2, 1) := by decide +kernel
theorem d_Ma_calculate_39 : decode c_Ma_calculate 39 = .ok (.iadd, 1) := by decide +kernel
theorem d_Ma_calculate_40 : decode c_Ma_calculate 40 = .ok (.invokevirtual 67, 3) := by decide +kernel
theorem d_Ma_calculate_43 : decode c_Ma_calculate 43 = .ok (.goto 20, 3) := by decide +kernel
theorem d_Ma_calculate_46 : decode c_Ma_calculate 46 = .ok (.aload_n 0, 1) := by decide +kernel
theorem d_Ma_calculate_47 : decode c_Ma_calculate 47 = .ok (.iload_n 3, 1) := by decide +kernel
theorem d_Ma_calculate_48 : decode c_Ma_calculate 48 = .ok (.iload_n 2, 1) := by decide +kernel
theorem d_Ma_calculate_49 : decode c_Ma_calculate 49 = .ok (.isub, 1) := by decide +kernel
theorem d_Ma_calculate_50 : decode c_Ma_calculate 50 = .ok (.invokevirtual 67, 3) := by decide +kernel
theorem d_Ma_calculate_53 : decode c_Ma_calculate 53 = .ok (.goto 10, 3) := by decide +kernel
theorem d_Ma_calculate_56 : decode c_Ma_calculate 56 = .ok (.aload_n 0, 1) := by decide +kernel
theorem d_Ma_calculate_57 : decode c_Ma_calculate 57 = .ok (.iload_n 3, 1) := by decide +kernel
theorem d_Ma_calculate_58 : decode c_Ma_calculate 58 = .ok (.iload_n 2, 1) := by decide +kernel
theorem d_Ma_calculate_59 : decode c_Ma_calculate 59 = .ok (.imul, 1) := by decide +kernel
theorem d_Ma_calculate_60 : decode c_Ma_calculate 60 = .ok (.invokevirtual 67, 3) := by decide +kernel
theorem d_Ma_calculate_63 : decode c_Ma_calculate 63 = .ok (.return_, 1) := by decide +kernel
theorem d_Ma_holds_0 : decode c_Ma_holds 0 = .ok (.aload_n 0, 1) := by decide +kernel
theorem d_Ma_holds_1 : decode c_Ma_holds 1 = .ok (.invokevirtual 71, 3) := by decide +kernel
theorem d_Ma_holds_4 : decode c_Ma_holds 4 = .ok (.istore_n 2, 1) := by decide +kernel
theorem d_Ma_holds_5 : decode c_Ma_holds 5 = .ok (.aload_n 0, 1) := by decide +kernel
theorem d_Ma_holds_6 : decode c_Ma_holds 6 = .ok (.invokevirtual 71, 3) := by decide +kernel
theorem d_Ma_holds_9 : decode c_Ma_holds 9 = .ok (.istore_n 3, 1) := by decide +kernel
theorem d_Ma_holds_10 : decode c_Ma_holds 10 = .ok (.iload_n 1, 1) := by decide +kernel
theorem d_Ma_holds_11 : decode c_Ma_holds 11 = .ok (.tableswitch 58 10 12 #[25, 36, 47], 25) := by decide +kernel
theorem d_Ma_holds_36 : decode c_Ma_holds 36 = .ok (.iload_n 3, 1) := by decide +kernel
theorem d_Ma_holds_37 : decode c_Ma_holds 37 = .ok (.iload_n 2, 1) := by decide +kernel
theorem d_Ma_holds_38 : decode c_Ma_holds 38 = .ok (.if_icmp .ne 7, 3) := by decide +kernel
theorem d_Ma_holds_41 : decode c_Ma_holds 41 = .ok (.iconst 1, 1) := by decide +kernel
theorem d_Ma_holds_42 : decode c_Ma_holds 42 = .ok (.goto 4, 3) := by decide +kernel
theorem d_Ma_holds_45 : decode c_Ma_holds 45 = .ok (.iconst 0, 1) := by decide +kernel
theorem d_Ma_holds_46 : decode c_Ma_holds 46 = .ok (.ireturn, 1) := by decide +kernel
theorem d_Ma_holds_47 : decode c_Ma_holds 47 = .ok (.iload_n 3, 1) := by decide +kernel
theorem d_Ma_holds_48 : decode c_Ma_holds 48 = .ok (.iload_n 2, 1) := by decide +kernel
theorem d_Ma_holds_49 : decode c_Ma_holds 49 = .ok (.if_icmp .eq 7, 3) := by decide +kernel
theorem d_Ma_holds_52 : decode c_Ma_holds 52 = .ok (.iconst 1, 1) := by decide +kernel
theorem d_Ma_holds_53 : decode c_Ma_holds 53 = .ok (.goto 4, 3) := by decide +kernel
theorem d_Ma_holds_56 : decode c_Ma_holds 56 = .ok (.iconst 0, 1) := by decide +kernel
theorem d_Ma_holds_57 : decode c_Ma_holds 57 = .ok (.ireturn, 1) := by decide +kernel
theorem d_Ma_holds_58 : decode c_Ma_holds 58 = .ok (.iload_n 3, 1) := by decide +kernel
theorem d_Ma_holds_59 : decode c_Ma_holds 59 = .ok (.iload_n 2, 1) := by decide +kernel
theorem d_Ma_holds_60 : decode c_Ma_holds 60 = .ok (.if_icmp .ge 7, 3) := by decide +kernel
theorem d_Ma_holds_63 : decode c_Ma_holds 63 = .ok (.iconst 1, 1) := by decide +kernel
theorem d_Ma_holds_64 : decode c_Ma_holds 64 = .ok (.goto 4, 3) := by decide +kernel
theorem d_Ma_holds_67 : decode c_Ma_holds 67 = .ok (.iconst 0, 1) := by decide +kernel
theorem d_Ma_holds_68 : decode c_Ma_holds 68 = .ok (.ireturn, 1) := by decide +kernel
theorem d_Ma_holds_69 : decode c_Ma_holds 69 = .ok (.iload_n 3, 1) := by decide +kernel
theorem d_Ma_holds_70 : decode c_Ma_holds 70 = .ok (.iload_n 2, 1) := by decide +kernel
theorem d_Ma_holds_71 : decode c_Ma_holds 71 = .ok (.if_icmp .le 7, 3) := by decide +kernel
theorem d_Ma_holds_74 : decode c_Ma_holds 74 = .ok (.iconst 1, 1) := by decide +kernel
theorem d_Ma_holds_75 : decode c_Ma_holds 75 = .ok (.goto 4, 3) := by decide +kernel
theorem d_Ma_holds_78 : decode c_Ma_holds 78 = .ok (.iconst 0, 1) := by decide +kernel
theorem d_Ma_holds_79 : decode c_Ma_holds 79 = .ok (.ireturn, 1) := by decide +kernel
theorem d_Ma_applyEffects_0 : decode c_Ma_applyEffects 0 = .ok (.iconst 0, 1) := by decide +kernel
theorem d_Ma_applyEffects_1 : decode c_Ma_applyEffects 1 = .ok (.istore_n 1, 1) := by decide +kernel
theorem d_Ma_applyEffects_2 : decode c_Ma_applyEffects 2 = .ok (.iload_n 1, 1) := by decide +kernel
theorem d_Ma_applyEffects_3 : decode c_Ma_applyEffects 3 = .ok (.aload_n 0, 1) := by decide +kernel
theorem d_Ma_applyEffects_4 : decode c_Ma_applyEffects 4 = .ok (.getfield 58, 3) := by decide +kernel
theorem d_Ma_applyEffects_7 : decode c_Ma_applyEffects 7 = .ok (.if_icmp .ge 25, 3) := by decide +kernel
theorem d_Ma_applyEffects_10 : decode c_Ma_applyEffects 10 = .ok (.aload_n 0, 1) := by decide +kernel
theorem d_Ma_applyEffects_11 : decode c_Ma_applyEffects 11 = .ok (.aload_n 0, 1) := by decide +kernel
theorem d_Ma_applyEffects_12 : decode c_Ma_applyEffects 12 = .ok (.getfield 18, 3) := by decide +kernel
theorem d_Ma_applyEffects_15 : decode c_Ma_applyEffects 15 = .ok (.iload_n 1, 1) := by decide +kernel
theorem d_Ma_applyEffects_16 : decode c_Ma_applyEffects 16 = .ok (.iaload, 1) := by decide +kernel
theorem d_Ma_applyEffects_17 : decode c_Ma_applyEffects 17 = .ok (.aload_n 0, 1) := by decide +kernel
theorem d_Ma_applyEffects_18 : decode c_Ma_applyEffects 18 = .ok (.getfield 21, 3) := by decide +kernel
theorem d_Ma_applyEffects_21 : decode c_Ma_applyEffects 21 = .ok (.iload_n 1, 1) := by decide +kernel
theorem d_Ma_applyEffects_22 : decode c_Ma_applyEffects 22 = .ok (.iaload, 1) := by decide +kernel
theorem d_Ma_applyEffects_23 : decode c_Ma_applyEffects 23 = .ok (.invokevirtual 86, 3) := by decide +kernel
theorem d_Ma_applyEffects_26 : decode c_Ma_applyEffects 26 = .ok (.iinc 1 1, 3) := by decide +kernel
theorem d_Ma_applyEffects_29 : decode c_Ma_applyEffects 29 = .ok (.goto (-27), 3) := by decide +kernel
theorem d_Ma_applyEffects_32 : decode c_Ma_applyEffects 32 = .ok (.return_, 1) := by decide +kernel
theorem d_Ma_change_0 : decode c_Ma_change 0 = .ok (.aload_n 0, 1) := by decide +kernel
theorem d_Ma_change_1 : decode c_Ma_change 1 = .ok (.getfield 37, 3) := by decide +kernel
theorem d_Ma_change_4 : decode c_Ma_change 4 = .ok (.sipush 1600, 3) := by decide +kernel
theorem d_Ma_change_7 : decode c_Ma_change 7 = .ok (.if_icmp .ge 52, 3) := by decide +kernel
theorem d_Ma_change_10 : decode c_Ma_change 10 = .ok (.iload_n 1, 1) := by decide +kernel
theorem d_Ma_change_11 : decode c_Ma_change 11 = .ok (.invokestatic 89, 3) := by decide +kernel
theorem d_Ma_change_14 : decode c_Ma_change 14 = .ok (.ifCond .eq 45, 3) := by decide +kernel
theorem d_Ma_change_17 : decode c_Ma_change 17 = .ok (.aload_n 0, 1) := by decide +kernel
theorem d_Ma_change_18 : decode c_Ma_change 18 = .ok (.getfield 24, 3) := by decide +kernel
theorem d_Ma_change_21 : decode c_Ma_change 21 = .ok (.aload_n 0, 1) := by decide +kernel
theorem d_Ma_change_22 : decode c_Ma_change 22 = .ok (.getfield 37, 3) := by decide +kernel
theorem d_Ma_change_25 : decode c_Ma_change 25 = .ok (.iload_n 1, 1) := by decide +kernel
theorem d_Ma_change_26 : decode c_Ma_change 26 = .ok (.iastore, 1) := by decide +kernel
theorem d_Ma_change_27 : decode c_Ma_change 27 = .ok (.aload_n 0, 1) := by decide +kernel
theorem d_Ma_change_28 : decode c_Ma_change 28 = .ok (.getfield 27, 3) := by decide +kernel
theorem d_Ma_change_31 : decode c_Ma_change 31 = .ok (.aload_n 0, 1) := by decide +kernel
theorem d_Ma_change_32 : decode c_Ma_change 32 = .ok (.getfield 37, 3) := by decide +kernel
theorem d_Ma_change_35 : decode c_Ma_change 35 = .ok (.aload_n 0, 1) := by decide +kernel
theorem d_Ma_change_36 : decode c_Ma_change 36 = .ok (.getfield 9, 3) := by decide +kernel
theorem d_Ma_change_39 : decode c_Ma_change 39 = .ok (.iload_n 1, 1) := by decide +kernel
theorem d_Ma_change_40 : decode c_Ma_change 40 = .ok (.iaload, 1) := by decide +kernel
theorem d_Ma_change_41 : decode c_Ma_change 41 = .ok (.iastore, 1) := by decide +kernel
theorem d_Ma_change_42 : decode c_Ma_change 42 = .ok (.aload_n 0, 1) := by decide +kernel
theorem d_Ma_change_43 : decode c_Ma_change 43 = .ok (.dup, 1) := by decide +kernel
theorem d_Ma_change_44 : decode c_Ma_change 44 = .ok (.getfield 37, 3) := by decide +kernel
theorem d_Ma_change_47 : decode c_Ma_change 47 = .ok (.iconst 1, 1) := by decide +kernel
theorem d_Ma_change_48 : decode c_Ma_change 48 = .ok (.iadd, 1) := by decide +kernel
theorem d_Ma_change_49 : decode c_Ma_change 49 = .ok (.putfield 37, 3) := by decide +kernel
theorem d_Ma_change_52 : decode c_Ma_change 52 = .ok (.aload_n 0, 1) := by decide +kernel
theorem d_Ma_change_53 : decode c_Ma_change 53 = .ok (.getfield 9, 3) := by decide +kernel
theorem d_Ma_change_56 : decode c_Ma_change 56 = .ok (.iload_n 1, 1) := by decide +kernel
theorem d_Ma_change_57 : decode c_Ma_change 57 = .ok (.iload_n 2, 1) := by decide +kernel
theorem d_Ma_change_58 : decode c_Ma_change 58 = .ok (.iastore, 1) := by decide +kernel
theorem d_Ma_change_59 : decode c_Ma_change 59 = .ok (.return_, 1) := by decide +kernel
theorem d_Ru_isCell_0 : decode c_Ru_isCell 0 = .ok (.iload_n 0, 1) := by decide +kernel
theorem d_Ru_isCell_1 : decode c_Ru_isCell 1 = .ok (.ifCond .lt 13, 3) := by decide +kernel
theorem d_Ru_isCell_4 : decode c_Ru_isCell 4 = .ok (.iload_n 0, 1) := by decide +kernel
theorem d_Ru_isCell_5 : decode c_Ru_isCell 5 = .ok (.bipush 32, 2) := by decide +kernel
theorem d_Ru_isCell_7 : decode c_Ru_isCell 7 = .ok (.if_icmp .ge 7, 3) := by decide +kernel
theorem d_Ru_isCell_10 : decode c_Ru_isCell 10 = .ok (.iconst 1, 1) := by decide +kernel
theorem d_Ru_isCell_11 : decode c_Ru_isCell 11 = .ok (.goto 4, 3) := by decide +kernel
theorem d_Ru_isCell_14 : decode c_Ru_isCell 14 = .ok (.iconst 0, 1) := by decide +kernel
theorem d_Ru_isCell_15 : decode c_Ru_isCell 15 = .ok (.ireturn, 1) := by decide +kernel
theorem d_Ru_undo_0 : decode c_Ru_undo 0 = .ok (.aload_n 0, 1) := by decide +kernel
theorem d_Ru_undo_1 : decode c_Ru_undo 1 = .ok (.getfield 26, 3) := by decide +kernel
theorem d_Ru_undo_4 : decode c_Ru_undo 4 = .ok (.invokevirtual 60, 3) := by decide +kernel
theorem d_Ru_undo_7 : decode c_Ru_undo 7 = .ok (.ireturn, 1) := by decide +kernel
theorem d_Ma_takeBack_0 : decode c_Ma_takeBack 0 = .ok (.aload_n 0, 1) := by decide +kernel
theorem d_Ma_takeBack_1 : decode c_Ma_takeBack 1 = .ok (.getfield 33, 3) := by decide +kernel
theorem d_Ma_takeBack_4 : decode c_Ma_takeBack 4 = .ok (.ifCond .ne 6, 3) := by decide +kernel
theorem d_Ma_takeBack_7 : decode c_Ma_takeBack 7 = .ok (.bipush (-2), 2) := by decide +kernel
theorem d_Ma_takeBack_9 : decode c_Ma_takeBack 9 = .ok (.ireturn, 1) := by decide +kernel
theorem d_Ma_takeBack_10 : decode c_Ma_takeBack 10 = .ok (.aload_n 0, 1) := by decide +kernel
theorem d_Ma_takeBack_11 : decode c_Ma_takeBack 11 = .ok (.dup, 1) := by decide +kernel
theorem d_Ma_takeBack_12 : decode c_Ma_takeBack 12 = .ok (.getfield 33, 3) := by decide +kernel
theorem d_Ma_takeBack_15 : decode c_Ma_takeBack 15 = .ok (.iconst 1, 1) := by decide +kernel
theorem d_Ma_takeBack_16 : decode c_Ma_takeBack 16 = .ok (.isub, 1) := by decide +kernel
theorem d_Ma_takeBack_17 : decode c_Ma_takeBack 17 = .ok (.putfield 33, 3) := by decide +kernel
theorem d_Ma_takeBack_20 : decode c_Ma_takeBack 20 = .ok (.aload_n 0, 1) := by decide +kernel
theorem d_Ma_takeBack_21 : decode c_Ma_takeBack 21 = .ok (.getfield 30, 3) := by decide +kernel
theorem d_Ma_takeBack_24 : decode c_Ma_takeBack 24 = .ok (.aload_n 0, 1) := by decide +kernel
theorem d_Ma_takeBack_25 : decode c_Ma_takeBack 25 = .ok (.getfield 33, 3) := by decide +kernel
theorem d_Ma_takeBack_28 : decode c_Ma_takeBack 28 = .ok (.iaload, 1) := by decide +kernel
theorem d_Ma_takeBack_29 : decode c_Ma_takeBack 29 = .ok (.istore_n 1, 1) := by decide +kernel
theorem d_Ma_takeBack_30 : decode c_Ma_takeBack 30 = .ok (.aload_n 0, 1) := by decide +kernel
theorem d_Ma_takeBack_31 : decode c_Ma_takeBack 31 = .ok (.getfield 37, 3) := by decide +kernel
theorem d_Ma_takeBack_34 : decode c_Ma_takeBack 34 = .ok (.iconst 1, 1) := by decide +kernel
theorem d_Ma_takeBack_35 : decode c_Ma_takeBack 35 = .ok (.isub, 1) := by decide +kernel
theorem d_Ma_takeBack_36 : decode c_Ma_takeBack 36 = .ok (.istore_n 2, 1) := by decide +kernel
theorem d_Ma_takeBack_37 : decode c_Ma_takeBack 37 = .ok (.iload_n 2, 1) := by decide +kernel
theorem d_Ma_takeBack_38 : decode c_Ma_takeBack 38 = .ok (.iload_n 1, 1) := by decide +kernel
theorem d_Ma_takeBack_39 : decode c_Ma_takeBack 39 = .ok (.if_icmp .lt 26, 3) := by decide +kernel
theorem d_Ma_takeBack_42 : decode c_Ma_takeBack 42 = .ok (.aload_n 0, 1) := by decide +kernel
theorem d_Ma_takeBack_43 : decode c_Ma_takeBack 43 = .ok (.getfield 9, 3) := by decide +kernel
theorem d_Ma_takeBack_46 : decode c_Ma_takeBack 46 = .ok (.aload_n 0, 1) := by decide +kernel
theorem d_Ma_takeBack_47 : decode c_Ma_takeBack 47 = .ok (.getfield 24, 3) := by decide +kernel
theorem d_Ma_takeBack_50 : decode c_Ma_takeBack 50 = .ok (.iload_n 2, 1) := by decide +kernel
theorem d_Ma_takeBack_51 : decode c_Ma_takeBack 51 = .ok (.iaload, 1) := by decide +kernel
theorem d_Ma_takeBack_52 : decode c_Ma_takeBack 52 = .ok (.aload_n 0, 1) := by decide +kernel
theorem d_Ma_takeBack_53 : decode c_Ma_takeBack 53 = .ok (.getfield 27, 3) := by decide +kernel
theorem d_Ma_takeBack_56 : decode c_Ma_takeBack 56 = .ok (.iload_n 2, 1) := by decide +kernel
theorem d_Ma_takeBack_57 : decode c_Ma_takeBack 57 = .ok (.iaload, 1) := by decide +kernel
theorem d_Ma_takeBack_58 : decode c_Ma_takeBack 58 = .ok (.iastore, 1) := by decide +kernel
theorem d_Ma_takeBack_59 : decode c_Ma_takeBack 59 = .ok (.iinc 2 (-1), 3) := by decide +kernel
theorem d_Ma_takeBack_62 : decode c_Ma_takeBack 62 = .ok (.goto (-25), 3) := by decide +kernel
theorem d_Ma_takeBack_65 : decode c_Ma_takeBack 65 = .ok (.aload_n 0, 1) := by decide +kernel
theorem d_Ma_takeBack_66 : decode c_Ma_takeBack 66 = .ok (.iload_n 1, 1) := by decide +kernel
theorem d_Ma_takeBack_67 : decode c_Ma_takeBack 67 = .ok (.putfield 37, 3) := by decide +kernel
theorem d_Ma_takeBack_70 : decode c_Ma_takeBack 70 = .ok (.aload_n 0, 1) := by decide +kernel
theorem d_Ma_takeBack_71 : decode c_Ma_takeBack 71 = .ok (.getfield 33, 3) := by decide +kernel
theorem d_Ma_takeBack_74 : decode c_Ma_takeBack 74 = .ok (.ireturn, 1) := by decide +kernel
theorem d_Ru_cell_0 : decode c_Ru_cell 0 = .ok (.iload_n 1, 1) := by decide +kernel
theorem d_Ru_cell_1 : decode c_Ru_cell 1 = .ok (.invokestatic 64, 3) := by decide +kernel
