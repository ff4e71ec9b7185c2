theorem dX12_meets_38 : decode cX12_meets 38 = .ok (.aload_n 0, 1) := by decide +kernel
theorem dX12_meets_39 : decode cX12_meets 39 = .ok (.getfield 9, 3) := by decide +kernel
theorem dX12_meets_42 : decode cX12_meets 42 = .ok (.iconst 4, 1) := by decide +kernel
theorem dX12_meets_43 : decode cX12_meets 43 = .ok (.iaload, 1) := by decide +kernel
theorem dX12_meets_44 : decode cX12_meets 44 = .ok (.aload_n 0, 1) := by decide +kernel
theorem dX12_meets_45 : decode cX12_meets 45 = .ok (.iload_n 1, 1) := by decide +kernel
theorem dX12_meets_46 : decode cX12_meets 46 = .ok (.iconst 4, 1) := by decide +kernel
theorem dX12_meets_47 : decode cX12_meets 47 = .ok (.invokevirtual 79, 3) := by decide +kernel
theorem dX12_meets_50 : decode cX12_meets 50 = .ok (.iadd, 1) := by decide +kernel
theorem dX12_meets_51 : decode cX12_meets 51 = .ok (.bipush 99, 2) := by decide +kernel
theorem dX12_meets_53 : decode cX12_meets 53 = .ok (.invokestatic 182, 3) := by decide +kernel
theorem dX12_meets_56 : decode cX12_meets 56 = .ok (.iastore, 1) := by decide +kernel
theorem dX12_meets_57 : decode cX12_meets 57 = .ok (.aload_n 0, 1) := by decide +kernel
theorem dX12_meets_58 : decode cX12_meets 58 = .ok (.iload_n 1, 1) := by decide +kernel
theorem dX12_meets_59 : decode cX12_meets 59 = .ok (.iconst 4, 1) := by decide +kernel
theorem dX12_meets_60 : decode cX12_meets 60 = .ok (.iconst 0, 1) := by decide +kernel
theorem dX12_meets_61 : decode cX12_meets 61 = .ok (.invokevirtual 185, 3) := by decide +kernel
theorem dX12_meets_64 : decode cX12_meets 64 = .ok (.iconst 0, 1) := by decide +kernel
theorem dX12_meets_65 : decode cX12_meets 65 = .ok (.ireturn, 1) := by decide +kernel
theorem dX12_restOne_0 : decode cX12_restOne 0 = .ok (.iconst 0, 1) := by decide +kernel
theorem dX12_restOne_1 : decode cX12_restOne 1 = .ok (.istore_n 1, 1) := by decide +kernel
theorem dX12_restOne_2 : decode cX12_restOne 2 = .ok (.iload_n 1, 1) := by decide +kernel
theorem dX12_restOne_3 : decode cX12_restOne 3 = .ok (.aload_n 0, 1) := by decide +kernel
theorem dX12_restOne_4 : decode cX12_restOne 4 = .ok (.getfield 9, 3) := by decide +kernel
theorem dX12_restOne_7 : decode cX12_restOne 7 = .ok (.bipush 6, 2) := by decide +kernel
theorem dX12_restOne_9 : decode cX12_restOne 9 = .ok (.iaload, 1) := by decide +kernel
theorem dX12_restOne_10 : decode cX12_restOne 10 = .ok (.if_icmp .ge 36, 3) := by decide +kernel
theorem dX12_restOne_13 : decode cX12_restOne 13 = .ok (.aload_n 0, 1) := by decide +kernel
theorem dX12_restOne_14 : decode cX12_restOne 14 = .ok (.iload_n 1, 1) := by decide +kernel
theorem dX12_restOne_15 : decode cX12_restOne 15 = .ok (.iconst 5, 1) := by decide +kernel
theorem dX12_restOne_16 : decode cX12_restOne 16 = .ok (.invokevirtual 79, 3) := by decide +kernel
theorem dX12_restOne_19 : decode cX12_restOne 19 = .ok (.ifCond .ne 21, 3) := by decide +kernel
theorem dX12_restOne_22 : decode cX12_restOne 22 = .ok (.aload_n 0, 1) := by decide +kernel
theorem dX12_restOne_23 : decode cX12_restOne 23 = .ok (.iload_n 1, 1) := by decide +kernel
theorem dX12_restOne_24 : decode cX12_restOne 24 = .ok (.invokevirtual 195, 3) := by decide +kernel
theorem dX12_restOne_27 : decode cX12_restOne 27 = .ok (.ifCond .eq 13, 3) := by decide +kernel
theorem dX12_restOne_30 : decode cX12_restOne 30 = .ok (.aload_n 0, 1) := by decide +kernel
theorem dX12_restOne_31 : decode cX12_restOne 31 = .ok (.iload_n 1, 1) := by decide +kernel
theorem dX12_restOne_32 : decode cX12_restOne 32 = .ok (.invokevirtual 189, 3) := by decide +kernel
theorem dX12_restOne_35 : decode cX12_restOne 35 = .ok (.ifCond .eq 5, 3) := by decide +kernel
theorem dX12_restOne_38 : decode cX12_restOne 38 = .ok (.iload_n 1, 1) := by decide +kernel
theorem dX12_restOne_39 : decode cX12_restOne 39 = .ok (.ireturn, 1) := by decide +kernel
theorem dX12_restOne_40 : decode cX12_restOne 40 = .ok (.iinc 1 1, 3) := by decide +kernel
theorem dX12_restOne_43 : decode cX12_restOne 43 = .ok (.goto (-41), 3) := by decide +kernel
theorem dX12_restOne_46 : decode cX12_restOne 46 = .ok (.iconst (-1), 1) := by decide +kernel
theorem dX12_restOne_47 : decode cX12_restOne 47 = .ok (.ireturn, 1) := by decide +kernel
theorem dX12_goesBy_0 : decode cX12_goesBy 0 = .ok (.aload_n 0, 1) := by decide +kernel
theorem dX12_goesBy_1 : decode cX12_goesBy 1 = .ok (.getfield 9, 3) := by decide +kernel
theorem dX12_goesBy_4 : decode cX12_goesBy 4 = .ok (.iconst 3, 1) := by decide +kernel
theorem dX12_goesBy_5 : decode cX12_goesBy 5 = .ok (.aload_n 0, 1) := by decide +kernel
theorem dX12_goesBy_6 : decode cX12_goesBy 6 = .ok (.getfield 9, 3) := by decide +kernel
theorem dX12_goesBy_9 : decode cX12_goesBy 9 = .ok (.iconst 0, 1) := by decide +kernel
theorem dX12_goesBy_10 : decode cX12_goesBy 10 = .ok (.iaload, 1) := by decide +kernel
theorem dX12_goesBy_11 : decode cX12_goesBy 11 = .ok (.bipush 16, 2) := by decide +kernel
theorem dX12_goesBy_13 : decode cX12_goesBy 13 = .ok (.if_icmp .ge 29, 3) := by decide +kernel
theorem dX12_goesBy_16 : decode cX12_goesBy 16 = .ok (.aload_n 0, 1) := by decide +kernel
theorem dX12_goesBy_17 : decode cX12_goesBy 17 = .ok (.getfield 9, 3) := by decide +kernel
theorem dX12_goesBy_20 : decode cX12_goesBy 20 = .ok (.iconst 3, 1) := by decide +kernel
theorem dX12_goesBy_21 : decode cX12_goesBy 21 = .ok (.iaload, 1) := by decide +kernel
theorem dX12_goesBy_22 : decode cX12_goesBy 22 = .ok (.aload_n 0, 1) := by decide +kernel
theorem dX12_goesBy_23 : decode cX12_goesBy 23 = .ok (.getfield 9, 3) := by decide +kernel
theorem dX12_goesBy_26 : decode cX12_goesBy 26 = .ok (.bipush 10, 2) := by decide +kernel
theorem dX12_goesBy_28 : decode cX12_goesBy 28 = .ok (.aload_n 0, 1) := by decide +kernel
theorem dX12_goesBy_29 : decode cX12_goesBy 29 = .ok (.getfield 9, 3) := by decide +kernel
theorem dX12_goesBy_32 : decode cX12_goesBy 32 = .ok (.iconst 0, 1) := by decide +kernel
theorem dX12_goesBy_33 : decode cX12_goesBy 33 = .ok (.iaload, 1) := by decide +kernel
theorem dX12_goesBy_34 : decode cX12_goesBy 34 = .ok (.iadd, 1) := by decide +kernel
theorem dX12_goesBy_35 : decode cX12_goesBy 35 = .ok (.iaload, 1) := by decide +kernel
theorem dX12_goesBy_36 : decode cX12_goesBy 36 = .ok (.invokestatic 201, 3) := by decide +kernel
theorem dX12_goesBy_39 : decode cX12_goesBy 39 = .ok (.goto 9, 3) := by decide +kernel
theorem dX12_goesBy_42 : decode cX12_goesBy 42 = .ok (.aload_n 0, 1) := by decide +kernel
theorem dX12_goesBy_43 : decode cX12_goesBy 43 = .ok (.getfield 9, 3) := by decide +kernel
theorem dX12_goesBy_46 : decode cX12_goesBy 46 = .ok (.iconst 3, 1) := by decide +kernel
theorem dX12_goesBy_47 : decode cX12_goesBy 47 = .ok (.iaload, 1) := by decide +kernel
theorem dX12_goesBy_48 : decode cX12_goesBy 48 = .ok (.iastore, 1) := by decide +kernel
theorem dX12_goesBy_49 : decode cX12_goesBy 49 = .ok (.iload_n 1, 1) := by decide +kernel
theorem dX12_goesBy_50 : decode cX12_goesBy 50 = .ok (.ifCond .ge 10, 3) := by decide +kernel
theorem dX12_goesBy_53 : decode cX12_goesBy 53 = .ok (.aload_n 0, 1) := by decide +kernel
theorem dX12_goesBy_54 : decode cX12_goesBy 54 = .ok (.invokevirtual 204, 3) := by decide +kernel
theorem dX12_goesBy_57 : decode cX12_goesBy 57 = .ok (.goto 6, 3) := by decide +kernel
theorem dX12_goesBy_60 : decode cX12_goesBy 60 = .ok (.iload_n 1, 1) := by decide +kernel
theorem dX12_goesBy_61 : decode cX12_goesBy 61 = .ok (.iconst 1, 1) := by decide +kernel
theorem dX12_goesBy_62 : decode cX12_goesBy 62 = .ok (.isub, 1) := by decide +kernel
theorem dX12_goesBy_63 : decode cX12_goesBy 63 = .ok (.istore_n 2, 1) := by decide +kernel
theorem dX12_goesBy_64 : decode cX12_goesBy 64 = .ok (.iload_n 2, 1) := by decide +kernel
theorem dX12_goesBy_65 : decode cX12_goesBy 65 = .ok (.ifCond .lt 11, 3) := by decide +kernel
theorem dX12_goesBy_68 : decode cX12_goesBy 68 = .ok (.aload_n 0, 1) := by decide +kernel
theorem dX12_goesBy_69 : decode cX12_goesBy 69 = .ok (.iload_n 2, 1) := by decide +kernel
theorem dX12_goesBy_70 : decode cX12_goesBy 70 = .ok (.invokevirtual 208, 3) := by decide +kernel
theorem dX12_goesBy_73 : decode cX12_goesBy 73 = .ok (.goto 4, 3) := by decide +kernel
theorem dX12_goesBy_76 : decode cX12_goesBy 76 = .ok (.iconst 0, 1) := by decide +kernel
theorem dX12_goesBy_77 : decode cX12_goesBy 77 = .ok (.istore_n 3, 1) := by decide +kernel
theorem dX12_goesBy_78 : decode cX12_goesBy 78 = .ok (.aload_n 0, 1) := by decide +kernel
theorem dX12_goesBy_79 : decode cX12_goesBy 79 = .ok (.getfield 9, 3) := by decide +kernel
theorem dX12_goesBy_82 : decode cX12_goesBy 82 = .ok (.iconst 4, 1) := by decide +kernel
theorem dX12_goesBy_83 : decode cX12_goesBy 83 = .ok (.aload_n 0, 1) := by decide +kernel
theorem dX12_goesBy_84 : decode cX12_goesBy 84 = .ok (.getfield 9, 3) := by decide +kernel
theorem dX12_goesBy_87 : decode cX12_goesBy 87 = .ok (.iconst 4, 1) := by decide +kernel
theorem dX12_goesBy_88 : decode cX12_goesBy 88 = .ok (.iaload, 1) := by decide +kernel
theorem dX12_goesBy_89 : decode cX12_goesBy 89 = .ok (.bipush 14, 2) := by decide +kernel
theorem dX12_goesBy_91 : decode cX12_goesBy 91 = .ok (.iadd, 1) := by decide +kernel
theorem dX12_goesBy_92 : decode cX12_goesBy 92 = .ok (.aload_n 0, 1) := by decide +kernel
theorem dX12_goesBy_93 : decode cX12_goesBy 93 = .ok (.getfield 9, 3) := by decide +kernel
theorem dX12_goesBy_96 : decode cX12_goesBy 96 = .ok (.iconst 3, 1) := by decide +kernel
theorem dX12_goesBy_97 : decode cX12_goesBy 97 = .ok (.iaload, 1) := by decide +kernel
theorem dX12_goesBy_98 : decode cX12_goesBy 98 = .ok (.isub, 1) := by decide +kernel
theorem dX12_goesBy_99 : decode cX12_goesBy 99 = .ok (.bipush 99, 2) := by decide +kernel
theorem dX12_goesBy_101 : decode cX12_goesBy 101 = .ok (.invokestatic 182, 3) := by decide +kernel
theorem dX12_goesBy_104 : decode cX12_goesBy 104 = .ok (.iastore, 1) := by decide +kernel
theorem dX12_goesBy_105 : decode cX12_goesBy 105 = .ok (.aload_n 0, 1) := by decide +kernel
theorem dX12_goesBy_106 : decode cX12_goesBy 106 = .ok (.getfield 9, 3) := by decide +kernel
theorem dX12_goesBy_109 : decode cX12_goesBy 109 = .ok (.iconst 0, 1) := by decide +kernel
theorem dX12_goesBy_110 : decode cX12_goesBy 110 = .ok (.dup2, 1) := by decide +kernel
theorem dX12_goesBy_111 : decode cX12_goesBy 111 = .ok (.iaload, 1) := by decide +kernel
theorem dX12_goesBy_112 : decode cX12_goesBy 112 = .ok (.iconst 1, 1) := by decide +kernel
theorem dX12_goesBy_113 : decode cX12_goesBy 113 = .ok (.iadd, 1) := by decide +kernel
theorem dX12_goesBy_114 : decode cX12_goesBy 114 = .ok (.iastore, 1) := by decide +kernel
theorem dX12_goesBy_115 : decode cX12_goesBy 115 = .ok (.aload_n 0, 1) := by decide +kernel
theorem dX12_goesBy_116 : decode cX12_goesBy 116 = .ok (.getfield 9, 3) := by decide +kernel
theorem dX12_goesBy_119 : decode cX12_goesBy 119 = .ok (.iconst 2, 1) := by decide +kernel
theorem dX12_goesBy_120 : decode cX12_goesBy 120 = .ok (.dup2, 1) := by decide +kernel
theorem dX12_goesBy_121 : decode cX12_goesBy 121 = .ok (.iaload, 1) := by decide +kernel
theorem dX12_goesBy_122 : decode cX12_goesBy 122 = .ok (.iload_n 3, 1) := by decide +kernel
theorem dX12_goesBy_123 : decode cX12_goesBy 123 = .ok (.iadd, 1) := by decide +kernel
theorem dX12_goesBy_124 : decode cX12_goesBy 124 = .ok (.iastore, 1) := by decide +kernel
theorem dX12_goesBy_125 : decode cX12_goesBy 125 = .ok (.iload_n 3, 1) := by decide +kernel
theorem dX12_goesBy_126 : decode cX12_goesBy 126 = .ok (.ireturn, 1) := by decide +kernel
theorem dX12_isRank_0 : decode cX12_isRank 0 = .ok (.iload_n 0, 1) := by decide +kernel
theorem dX12_isRank_1 : decode cX12_isRank 1 = .ok (.iconst 0, 1) := by decide +kernel
theorem dX12_isRank_2 : decode cX12_isRank 2 = .ok (.bipush 60, 2) := by decide +kernel
theorem dX12_isRank_4 : decode cX12_isRank 4 = .ok (.invokestatic 71, 3) := by decide +kernel
theorem dX12_isRank_7 : decode cX12_isRank 7 = .ok (.ireturn, 1) := by decide +kernel
theorem dX12_isDigit_0 : decode cX12_isDigit 0 = .ok (.iload_n 0, 1) := by decide +kernel
theorem dX12_isDigit_1 : decode cX12_isDigit 1 = .ok (.iconst 0, 1) := by decide +kernel
theorem dX12_isDigit_2 : decode cX12_isDigit 2 = .ok (.bipush 9, 2) := by decide +kernel
theorem dX12_isDigit_4 : decode cX12_isDigit 4 = .ok (.invokestatic 71, 3) := by decide +kernel
theorem dX12_isDigit_7 : decode cX12_isDigit 7 = .ok (.ireturn, 1) := by decide +kernel
theorem dX12_isLane_0 : decode cX12_isLane 0 = .ok (.iload_n 0, 1) := by decide +kernel
theorem dX12_isLane_1 : decode cX12_isLane 1 = .ok (.iconst 0, 1) := by decide +kernel
theorem dX12_isLane_2 : decode cX12_isLane 2 = .ok (.iconst 5, 1) := by decide +kernel
theorem dX12_isLane_3 : decode cX12_isLane 3 = .ok (.invokestatic 71, 3) := by decide +kernel
theorem dX12_isLane_6 : decode cX12_isLane 6 = .ok (.ireturn, 1) := by decide +kernel
theorem dX12_house_0 : decode cX12_house 0 = .ok (.iload_n 1, 1) := by decide +kernel
theorem dX12_house_1 : decode cX12_house 1 = .ok (.iconst 1, 1) := by decide +kernel
theorem dX12_house_2 : decode cX12_house 2 = .ok (.iconst 5, 1) := by decide +kernel
theorem dX12_house_3 : decode cX12_house 3 = .ok (.invokestatic 71, 3) := by decide +kernel
theorem dX12_house_6 : decode cX12_house 6 = .ok (.ifCond .eq 25, 3) := by decide +kernel
theorem dX12_house_9 : decode cX12_house 9 = .ok (.iload_n 2, 1) := by decide +kernel
theorem dX12_house_10 : decode cX12_house 10 = .ok (.invokestatic 211, 3) := by decide +kernel
theorem dX12_house_13 : decode cX12_house 13 = .ok (.ifCond .eq 18, 3) := by decide +kernel
theorem dX12_house_16 : decode cX12_house 16 = .ok (.iload_n 3, 1) := by decide +kernel
theorem dX12_house_17 : decode cX12_house 17 = .ok (.invokestatic 214, 3) := by decide +kernel
theorem dX12_house_20 : decode cX12_house 20 = .ok (.ifCond .eq 11, 3) := by decide +kernel
theorem dX12_house_23 : decode cX12_house 23 = .ok (.iload 4, 2) := by decide +kernel
theorem dX12_house_25 : decode cX12_house 25 = .ok (.invokestatic 217, 3) := by decide +kernel
theorem dX12_house_28 : decode cX12_house 28 = .ok (.ifCond .ne 5, 3) := by decide +kernel
theorem dX12_house_31 : decode cX12_house 31 = .ok (.iconst (-1), 1) := by decide +kernel
theorem dX12_house_32 : decode cX12_house 32 = .ok (.ireturn, 1) := by decide +kernel
theorem dX12_house_33 : decode cX12_house 33 = .ok (.aload_n 0, 1) := by decide +kernel
theorem dX12_house_34 : decode cX12_house 34 = .ok (.getfield 9, 3) := by decide +kernel
theorem dX12_house_37 : decode cX12_house 37 = .ok (.bipush 6, 2) := by decide +kernel
theorem dX12_house_39 : decode cX12_house 39 = .ok (.iaload, 1) := by decide +kernel
theorem dX12_house_40 : decode cX12_house 40 = .ok (.bipush 6, 2) := by decide +kernel
theorem dX12_house_42 : decode cX12_house 42 = .ok (.if_icmp .ne 6, 3) := by decide +kernel
theorem dX12_house_45 : decode cX12_house 45 = .ok (.bipush (-2), 2) := by decide +kernel
theorem dX12_house_47 : decode cX12_house 47 = .ok (.ireturn, 1) := by decide +kernel
theorem dX12_house_48 : decode cX12_house 48 = .ok (.aload_n 0, 1) := by decide +kernel
theorem dX12_house_49 : decode cX12_house 49 = .ok (.getfield 9, 3) := by decide +kernel
theorem dX12_house_52 : decode cX12_house 52 = .ok (.bipush 6, 2) := by decide +kernel
theorem dX12_house_54 : decode cX12_house 54 = .ok (.iaload, 1) := by decide +kernel
theorem dX12_house_55 : decode cX12_house 55 = .ok (.istore 5, 2) := by decide +kernel
theorem dX12_house_57 : decode cX12_house 57 = .ok (.aload_n 0, 1) := by decide +kernel
theorem dX12_house_58 : decode cX12_house 58 = .ok (.iload 5, 2) := by decide +kernel
theorem dX12_house_60 : decode cX12_house 60 = .ok (.iconst 0, 1) := by decide +kernel
theorem dX12_house_61 : decode cX12_house 61 = .ok (.iload_n 1, 1) := by decide +kernel
theorem dX12_house_62 : decode cX12_house 62 = .ok (.invokevirtual 185, 3) := by decide +kernel
theorem dX12_house_65 : decode cX12_house 65 = .ok (.aload_n 0, 1) := by decide +kernel
theorem dX12_house_66 : decode cX12_house 66 = .ok (.iload 5, 2) := by decide +kernel
theorem dX12_house_68 : decode cX12_house 68 = .ok (.iconst 1, 1) := by decide +kernel
theorem dX12_house_69 : decode cX12_house 69 = .ok (.iload_n 2, 1) := by decide +kernel
theorem dX12_house_70 : decode cX12_house 70 = .ok (.invokevirtual 185, 3) := by decide +kernel
theorem dX12_house_73 : decode cX12_house 73 = .ok (.aload_n 0, 1) := by decide +kernel
theorem dX12_house_74 : decode cX12_house 74 = .ok (.iload 5, 2) := by decide +kernel
theorem dX12_house_76 : decode cX12_house 76 = .ok (.iconst 2, 1) := by decide +kernel
theorem dX12_house_77 : decode cX12_house 77 = .ok (.iload_n 3, 1) := by decide +kernel
theorem dX12_house_78 : decode cX12_house 78 = .ok (.invokevirtual 185, 3) := by decide +kernel
theorem dX12_house_81 : decode cX12_house 81 = .ok (.aload_n 0, 1) := by decide +kernel
theorem dX12_house_82 : decode cX12_house 82 = .ok (.iload 5, 2) := by decide +kernel
theorem dX12_house_84 : decode cX12_house 84 = .ok (.iconst 3, 1) := by decide +kernel
theorem dX12_house_85 : decode cX12_house 85 = .ok (.iload 4, 2) := by decide +kernel
theorem dX12_house_87 : decode cX12_house 87 = .ok (.invokevirtual 185, 3) := by decide +kernel
theorem dX12_house_90 : decode cX12_house 90 = .ok (.aload_n 0, 1) := by decide +kernel
theorem dX12_house_91 : decode cX12_house 91 = .ok (.iload 5, 2) := by decide +kernel
theorem dX12_house_93 : decode cX12_house 93 = .ok (.iconst 4, 1) := by decide +kernel
theorem dX12_house_94 : decode cX12_house 94 = .ok (.iconst 0, 1) := by decide +kernel
theorem dX12_house_95 : decode cX12_house 95 = .ok (.invokevirtual 185, 3) := by decide +kernel
theorem dX12_house_98 : decode cX12_house 98 = .ok (.aload_n 0, 1) := by decide +kernel
theorem dX12_house_99 : decode cX12_house 99 = .ok (.iload 5, 2) := by decide +kernel
theorem dX12_house_101 : decode cX12_house 101 = .ok (.iconst 5, 1) := by decide +kernel
theorem dX12_house_102 : decode cX12_house 102 = .ok (.iconst 0, 1) := by decide +kernel
theorem dX12_house_103 : decode cX12_house 103 = .ok (.invokevirtual 185, 3) := by decide +kernel
theorem dX12_house_106 : decode cX12_house 106 = .ok (.aload_n 0, 1) := by decide +kernel
theorem dX12_house_107 : decode cX12_house 107 = .ok (.getfield 9, 3) := by decide +kernel
theorem dX12_house_110 : decode cX12_house 110 = .ok (.bipush 6, 2) := by decide +kernel
theorem dX12_house_112 : decode cX12_house 112 = .ok (.dup2, 1) := by decide +kernel
theorem dX12_house_113 : decode cX12_house 113 = .ok (.iaload, 1) := by decide +kernel
theorem dX12_house_114 : decode cX12_house 114 = .ok (.iconst 1, 1) := by decide +kernel
theorem dX12_house_115 : decode cX12_house 115 = .ok (.iadd, 1) := by decide +kernel
theorem dX12_house_116 : decode cX12_house 116 = .ok (.iastore, 1) := by decide +kernel
theorem dX12_house_117 : decode cX12_house 117 = .ok (.iload 5, 2) := by decide +kernel
theorem dX12_house_119 : decode cX12_house 119 = .ok (.ireturn, 1) := by decide +kernel
theorem dX12_houseOf_0 : decode cX12_houseOf 0 = .ok (.aload_n 0, 1) := by decide +kernel
theorem dX12_houseOf_1 : decode cX12_houseOf 1 = .ok (.iload_n 1, 1) := by decide +kernel
theorem dX12_houseOf_2 : decode cX12_houseOf 2 = .ok (.invokevirtual 220, 3) := by decide +kernel
theorem dX12_houseOf_5 : decode cX12_houseOf 5 = .ok (.ifCond .eq 13, 3) := by decide +kernel
theorem dX12_houseOf_8 : decode cX12_houseOf 8 = .ok (.iload_n 2, 1) := by decide +kernel
theorem dX12_houseOf_9 : decode cX12_houseOf 9 = .ok (.iconst 0, 1) := by decide +kernel
theorem dX12_houseOf_10 : decode cX12_houseOf 10 = .ok (.bipush 9, 2) := by decide +kernel
theorem dX12_houseOf_12 : decode cX12_houseOf 12 = .ok (.invokestatic 71, 3) := by decide +kernel
theorem dX12_houseOf_15 : decode cX12_houseOf 15 = .ok (.ifCond .ne 5, 3) := by decide +kernel
theorem dX12_houseOf_18 : decode cX12_houseOf 18 = .ok (.iconst (-1), 1) := by decide +kernel
theorem dX12_houseOf_19 : decode cX12_houseOf 19 = .ok (.ireturn, 1) := by decide +kernel
theorem dX12_houseOf_20 : decode cX12_houseOf 20 = .ok (.iload_n 2, 1) := by decide +kernel
theorem dX12_houseOf_21 : decode cX12_houseOf 21 = .ok (.tableswitch 63 6 9 #[31, 37, 43, 49], 31) := by decide +kernel
theorem dX12_houseOf_52 : decode cX12_houseOf 52 = .ok (.aload_n 0, 1) := by decide +kernel
theorem dX12_houseOf_53 : decode cX12_houseOf 53 = .ok (.iload_n 1, 1) := by decide +kernel
theorem dX12_houseOf_54 : decode cX12_houseOf 54 = .ok (.invokevirtual 94, 3) := by decide +kernel
theorem dX12_houseOf_57 : decode cX12_houseOf 57 = .ok (.ireturn, 1) := by decide +kernel
theorem dX12_houseOf_58 : decode cX12_houseOf 58 = .ok (.aload_n 0, 1) := by decide +kernel
theorem dX12_houseOf_59 : decode cX12_houseOf 59 = .ok (.iload_n 1, 1) := by decide +kernel
theorem dX12_houseOf_60 : decode cX12_houseOf 60 = .ok (.invokevirtual 91, 3) := by decide +kernel
theorem dX12_houseOf_63 : decode cX12_houseOf 63 = .ok (.ireturn, 1) := by decide +kernel
theorem dX12_houseOf_64 : decode cX12_houseOf 64 = .ok (.aload_n 0, 1) := by decide +kernel
theorem dX12_houseOf_65 : decode cX12_houseOf 65 = .ok (.iload_n 1, 1) := by decide +kernel
theorem dX12_houseOf_66 : decode cX12_houseOf 66 = .ok (.invokevirtual 192, 3) := by decide +kernel
theorem dX12_houseOf_69 : decode cX12_houseOf 69 = .ok (.ireturn, 1) := by decide +kernel
theorem dX12_houseOf_70 : decode cX12_houseOf 70 = .ok (.aload_n 0, 1) := by decide +kernel
theorem dX12_houseOf_71 : decode cX12_houseOf 71 = .ok (.iload_n 1, 1) := by decide +kernel
theorem dX12_houseOf_72 : decode cX12_houseOf 72 = .ok (.invokevirtual 195, 3) := by decide +kernel
theorem dX12_houseOf_75 : decode cX12_houseOf 75 = .ok (.ifCond .eq 7, 3) := by decide +kernel
theorem dX12_houseOf_78 : decode cX12_houseOf 78 = .ok (.iconst 1, 1) := by decide +kernel
theorem dX12_houseOf_79 : decode cX12_houseOf 79 = .ok (.goto 4, 3) := by decide +kernel
theorem dX12_houseOf_82 : decode cX12_houseOf 82 = .ok (.iconst 0, 1) := by decide +kernel
theorem dX12_houseOf_83 : decode cX12_houseOf 83 = .ok (.ireturn, 1) := by decide +kernel
theorem dX12_houseOf_84 : decode cX12_houseOf 84 = .ok (.aload_n 0, 1) := by decide +kernel
theorem dX12_houseOf_85 : decode cX12_houseOf 85 = .ok (.iload_n 1, 1) := by decide +kernel
theorem dX12_houseOf_86 : decode cX12_houseOf 86 = .ok (.iload_n 2, 1) := by decide +kernel
theorem dX12_houseOf_87 : decode cX12_houseOf 87 = .ok (.invokevirtual 79, 3) := by decide +kernel
theorem dX12_houseOf_90 : decode cX12_houseOf 90 = .ok (.ireturn, 1) := by decide +kernel
theorem dX12_change_0 : decode cX12_change 0 = .ok (.iload_n 2, 1) := by decide +kernel
theorem dX12_change_1 : decode cX12_change 1 = .ok (.iconst 1, 1) := by decide +kernel
theorem dX12_change_2 : decode cX12_change 2 = .ok (.if_icmp .ne 8, 3) := by decide +kernel
theorem dX12_change_5 : decode cX12_change 5 = .ok (.bipush 60, 2) := by decide +kernel
theorem dX12_change_7 : decode cX12_change 7 = .ok (.goto 23, 3) := by decide +kernel
theorem dX12_change_10 : decode cX12_change 10 = .ok (.iload_n 2, 1) := by decide +kernel
theorem dX12_change_11 : decode cX12_change 11 = .ok (.iconst 3, 1) := by decide +kernel
theorem dX12_change_12 : decode cX12_change 12 = .ok (.if_icmp .ne 7, 3) := by decide +kernel
theorem dX12_change_15 : decode cX12_change 15 = .ok (.iconst 5, 1) := by decide +kernel
theorem dX12_change_16 : decode cX12_change 16 = .ok (.goto 14, 3) := by decide +kernel
theorem dX12_change_19 : decode cX12_change 19 = .ok (.iload_n 2, 1) := by decide +kernel
theorem dX12_change_20 : decode cX12_change 20 = .ok (.iconst 5, 1) := by decide +kernel
theorem dX12_change_21 : decode cX12_change 21 = .ok (.if_icmp .ne 7, 3) := by decide +kernel
theorem dX12_change_24 : decode cX12_change 24 = .ok (.iconst 1, 1) := by decide +kernel
theorem dX12_change_25 : decode cX12_change 25 = .ok (.goto 5, 3) := by decide +kernel
theorem dX12_change_28 : decode cX12_change 28 = .ok (.bipush 9, 2) := by decide +kernel
theorem dX12_change_30 : decode cX12_change 30 = .ok (.istore 4, 2) := by decide +kernel
theorem dX12_change_32 : decode cX12_change 32 = .ok (.aload_n 0, 1) := by decide +kernel
theorem dX12_change_33 : decode cX12_change 33 = .ok (.iload_n 1, 1) := by decide +kernel
theorem dX12_change_34 : decode cX12_change 34 = .ok (.invokevirtual 220, 3) := by decide +kernel
theorem dX12_change_37 : decode cX12_change 37 = .ok (.ifCond .eq 39, 3) := by decide +kernel
theorem dX12_change_40 : decode cX12_change 40 = .ok (.iload_n 2, 1) := by decide +kernel
theorem dX12_change_41 : decode cX12_change 41 = .ok (.iconst 1, 1) := by decide +kernel
theorem dX12_change_42 : decode cX12_change 42 = .ok (.iconst 5, 1) := by decide +kernel
theorem dX12_change_43 : decode cX12_change 43 = .ok (.invokestatic 71, 3) := by decide +kernel
theorem dX12_change_46 : decode cX12_change 46 = .ok (.ifCond .eq 30, 3) := by decide +kernel
theorem dX12_change_49 : decode cX12_change 49 = .ok (.iload_n 3, 1) := by decide +kernel
theorem dX12_change_50 : decode cX12_change 50 = .ok (.iconst 0, 1) := by decide +kernel
theorem dX12_change_51 : decode cX12_change 51 = .ok (.iload 4, 2) := by decide +kernel
theorem dX12_change_53 : decode cX12_change 53 = .ok (.invokestatic 71, 3) := by decide +kernel
theorem dX12_change_56 : decode cX12_change 56 = .ok (.ifCond .eq 20, 3) := by decide +kernel
theorem dX12_change_59 : decode cX12_change 59 = .ok (.aload_n 0, 1) := by decide +kernel
theorem dX12_change_60 : decode cX12_change 60 = .ok (.bipush 38, 2) := by decide +kernel
theorem dX12_change_62 : decode cX12_change 62 = .ok (.bipush 6, 2) := by decide +kernel
theorem dX12_change_64 : decode cX12_change 64 = .ok (.iload_n 1, 1) := by decide +kernel
theorem dX12_change_65 : decode cX12_change 65 = .ok (.imul, 1) := by decide +kernel
theorem dX12_change_66 : decode cX12_change 66 = .ok (.iadd, 1) := by decide +kernel
theorem dX12_change_67 : decode cX12_change 67 = .ok (.iload_n 2, 1) := by decide +kernel
theorem dX12_change_68 : decode cX12_change 68 = .ok (.iadd, 1) := by decide +kernel
theorem dX12_change_69 : decode cX12_change 69 = .ok (.iload_n 3, 1) := by decide +kernel
theorem dX12_change_70 : decode cX12_change 70 = .ok (.invokevirtual 223, 3) := by decide +kernel
theorem dX12_change_73 : decode cX12_change 73 = .ok (.goto 4, 3) := by decide +kernel
theorem dX12_change_76 : decode cX12_change 76 = .ok (.iconst (-1), 1) := by decide +kernel
theorem dX12_change_77 : decode cX12_change 77 = .ok (.ireturn, 1) := by decide +kernel
theorem dX12_remake_0 : decode cX12_remake 0 = .ok (.aload_n 0, 1) := by decide +kernel
theorem dX12_remake_1 : decode cX12_remake 1 = .ok (.iload_n 1, 1) := by decide +kernel
theorem dX12_remake_2 : decode cX12_remake 2 = .ok (.invokevirtual 220, 3) := by decide +kernel
theorem dX12_remake_5 : decode cX12_remake 5 = .ok (.ifCond .eq 27, 3) := by decide +kernel
theorem dX12_remake_8 : decode cX12_remake 8 = .ok (.iload_n 2, 1) := by decide +kernel
theorem dX12_remake_9 : decode cX12_remake 9 = .ok (.iconst 1, 1) := by decide +kernel
theorem dX12_remake_10 : decode cX12_remake 10 = .ok (.iconst 5, 1) := by decide +kernel
theorem dX12_remake_11 : decode cX12_remake 11 = .ok (.invokestatic 71, 3) := by decide +kernel
theorem dX12_remake_14 : decode cX12_remake 14 = .ok (.ifCond .eq 18, 3) := by decide +kernel
theorem dX12_remake_17 : decode cX12_remake 17 = .ok (.aload_n 0, 1) := by decide +kernel
theorem dX12_remake_18 : decode cX12_remake 18 = .ok (.bipush 38, 2) := by decide +kernel
theorem dX12_remake_20 : decode cX12_remake 20 = .ok (.bipush 6, 2) := by decide +kernel
theorem dX12_remake_22 : decode cX12_remake 22 = .ok (.iload_n 1, 1) := by decide +kernel
theorem dX12_remake_23 : decode cX12_remake 23 = .ok (.imul, 1) := by decide +kernel
theorem dX12_remake_24 : decode cX12_remake 24 = .ok (.iadd, 1) := by decide +kernel
theorem dX12_remake_25 : decode cX12_remake 25 = .ok (.iload_n 2, 1) := by decide +kernel
theorem dX12_remake_26 : decode cX12_remake 26 = .ok (.invokevirtual 223, 3) := by decide +kernel
theorem dX12_remake_29 : decode cX12_remake 29 = .ok (.goto 4, 3) := by decide +kernel
theorem dX12_remake_32 : decode cX12_remake 32 = .ok (.iconst (-1), 1) := by decide +kernel
theorem dX12_remake_33 : decode cX12_remake 33 = .ok (.ireturn, 1) := by decide +kernel
theorem dX12_dusk_0 : decode cX12_dusk 0 = .ok (.iload_n 1, 1) := by decide +kernel
theorem dX12_dusk_1 : decode cX12_dusk 1 = .ok (.iconst 0, 1) := by decide +kernel
theorem dX12_dusk_2 : decode cX12_dusk 2 = .ok (.bipush 15, 2) := by decide +kernel
theorem dX12_dusk_4 : decode cX12_dusk 4 = .ok (.invokestatic 71, 3) := by decide +kernel
theorem dX12_dusk_7 : decode cX12_dusk 7 = .ok (.ifCond .eq 25, 3) := by decide +kernel
theorem dX12_dusk_10 : decode cX12_dusk 10 = .ok (.iload_n 2, 1) := by decide +kernel
theorem dX12_dusk_11 : decode cX12_dusk 11 = .ok (.iconst 0, 1) := by decide +kernel
theorem dX12_dusk_12 : decode cX12_dusk 12 = .ok (.bipush 15, 2) := by decide +kernel
theorem dX12_dusk_14 : decode cX12_dusk 14 = .ok (.invokestatic 71, 3) := by decide +kernel
theorem dX12_dusk_17 : decode cX12_dusk 17 = .ok (.ifCond .eq 15, 3) := by decide +kernel
theorem dX12_dusk_20 : decode cX12_dusk 20 = .ok (.aload_n 0, 1) := by decide +kernel
theorem dX12_dusk_21 : decode cX12_dusk 21 = .ok (.bipush 10, 2) := by decide +kernel
theorem dX12_dusk_23 : decode cX12_dusk 23 = .ok (.iload_n 1, 1) := by decide +kernel
theorem dX12_dusk_24 : decode cX12_dusk 24 = .ok (.iadd, 1) := by decide +kernel
theorem dX12_dusk_25 : decode cX12_dusk 25 = .ok (.iload_n 2, 1) := by decide +kernel
theorem dX12_dusk_26 : decode cX12_dusk 26 = .ok (.invokevirtual 223, 3) := by decide +kernel
theorem dX12_dusk_29 : decode cX12_dusk 29 = .ok (.goto 4, 3) := by decide +kernel
theorem dX12_dusk_32 : decode cX12_dusk 32 = .ok (.iconst (-1), 1) := by decide +kernel
theorem dX12_dusk_33 : decode cX12_dusk 33 = .ok (.ireturn, 1) := by decide +kernel
theorem dX12_lane_0 : decode cX12_lane 0 = .ok (.iload_n 1, 1) := by decide +kernel
theorem dX12_lane_1 : decode cX12_lane 1 = .ok (.invokestatic 217, 3) := by decide +kernel
theorem dX12_lane_4 : decode cX12_lane 4 = .ok (.ifCond .eq 52, 3) := by decide +kernel
theorem dX12_lane_7 : decode cX12_lane 7 = .ok (.iload_n 2, 1) := by decide +kernel
theorem dX12_lane_8 : decode cX12_lane 8 = .ok (.iconst 0, 1) := by decide +kernel
theorem dX12_lane_9 : decode cX12_lane 9 = .ok (.iconst 1, 1) := by decide +kernel
theorem dX12_lane_10 : decode cX12_lane 10 = .ok (.invokestatic 71, 3) := by decide +kernel
theorem dX12_lane_13 : decode cX12_lane 13 = .ok (.ifCond .eq 43, 3) := by decide +kernel
theorem dX12_lane_16 : decode cX12_lane 16 = .ok (.iload_n 3, 1) := by decide +kernel
theorem dX12_lane_17 : decode cX12_lane 17 = .ok (.iconst 0, 1) := by decide +kernel
theorem dX12_lane_18 : decode cX12_lane 18 = .ok (.iload_n 2, 1) := by decide +kernel
theorem dX12_lane_19 : decode cX12_lane 19 = .ok (.ifCond .ne 8, 3) := by decide +kernel
theorem dX12_lane_22 : decode cX12_lane 22 = .ok (.bipush 9, 2) := by decide +kernel
theorem dX12_lane_24 : decode cX12_lane 24 = .ok (.goto 5, 3) := by decide +kernel
theorem dX12_lane_27 : decode cX12_lane 27 = .ok (.bipush 14, 2) := by decide +kernel
theorem dX12_lane_29 : decode cX12_lane 29 = .ok (.invokestatic 71, 3) := by decide +kernel
theorem dX12_lane_32 : decode cX12_lane 32 = .ok (.ifCond .eq 24, 3) := by decide +kernel
theorem dX12_lane_35 : decode cX12_lane 35 = .ok (.aload_n 0, 1) := by decide +kernel
theorem dX12_lane_36 : decode cX12_lane 36 = .ok (.iload_n 2, 1) := by decide +kernel
theorem dX12_lane_37 : decode cX12_lane 37 = .ok (.ifCond .ne 8, 3) := by decide +kernel
theorem dX12_lane_40 : decode cX12_lane 40 = .ok (.bipush 26, 2) := by decide +kernel
theorem dX12_lane_42 : decode cX12_lane 42 = .ok (.goto 5, 3) := by decide +kernel
theorem dX12_lane_45 : decode cX12_lane 45 = .ok (.bipush 32, 2) := by decide +kernel
theorem dX12_lane_47 : decode cX12_lane 47 = .ok (.iload_n 1, 1) := by decide +kernel
theorem dX12_lane_48 : decode cX12_lane 48 = .ok (.iadd, 1) := by decide +kernel
theorem dX12_lane_49 : decode cX12_lane 49 = .ok (.iload_n 3, 1) := by decide +kernel
theorem dX12_lane_50 : decode cX12_lane 50 = .ok (.invokevirtual 223, 3) := by decide +kernel
theorem dX12_lane_53 : decode cX12_lane 53 = .ok (.goto 4, 3) := by decide +kernel
theorem dX12_lane_56 : decode cX12_lane 56 = .ok (.iconst (-1), 1) := by decide +kernel
theorem dX12_lane_57 : decode cX12_lane 57 = .ok (.ireturn, 1) := by decide +kernel
theorem dX12_laneOf_0 : decode cX12_laneOf 0 = .ok (.iload_n 1, 1) := by decide +kernel
theorem dX12_laneOf_1 : decode cX12_laneOf 1 = .ok (.invokestatic 217, 3) := by decide +kernel
theorem dX12_laneOf_4 : decode cX12_laneOf 4 = .ok (.ifCond .eq 33, 3) := by decide +kernel
theorem dX12_laneOf_7 : decode cX12_laneOf 7 = .ok (.iload_n 2, 1) := by decide +kernel
theorem dX12_laneOf_8 : decode cX12_laneOf 8 = .ok (.iconst 0, 1) := by decide +kernel
theorem dX12_laneOf_9 : decode cX12_laneOf 9 = .ok (.iconst 1, 1) := by decide +kernel
theorem dX12_laneOf_10 : decode cX12_laneOf 10 = .ok (.invokestatic 71, 3) := by decide +kernel
theorem dX12_laneOf_13 : decode cX12_laneOf 13 = .ok (.ifCond .eq 24, 3) := by decide +kernel
theorem dX12_laneOf_16 : decode cX12_laneOf 16 = .ok (.aload_n 0, 1) := by decide +kernel
theorem dX12_laneOf_17 : decode cX12_laneOf 17 = .ok (.getfield 9, 3) := by decide +kernel
theorem dX12_laneOf_20 : decode cX12_laneOf 20 = .ok (.iload_n 2, 1) := by decide +kernel
theorem dX12_laneOf_21 : decode cX12_laneOf 21 = .ok (.ifCond .ne 8, 3) := by decide +kernel
theorem dX12_laneOf_24 : decode cX12_laneOf 24 = .ok (.bipush 26, 2) := by decide +kernel
theorem dX12_laneOf_26 : decode cX12_laneOf 26 = .ok (.goto 5, 3) := by decide +kernel
theorem dX12_laneOf_29 : decode cX12_laneOf 29 = .ok (.bipush 32, 2) := by decide +kernel
theorem dX12_laneOf_31 : decode cX12_laneOf 31 = .ok (.iload_n 1, 1) := by decide +kernel
theorem dX12_laneOf_32 : decode cX12_laneOf 32 = .ok (.iadd, 1) := by decide +kernel
theorem dX12_laneOf_33 : decode cX12_laneOf 33 = .ok (.iaload, 1) := by decide +kernel
theorem dX12_laneOf_34 : decode cX12_laneOf 34 = .ok (.goto 4, 3) := by decide +kernel
theorem dX12_laneOf_37 : decode cX12_laneOf 37 = .ok (.iconst (-1), 1) := by decide +kernel
theorem dX12_laneOf_38 : decode cX12_laneOf 38 = .ok (.ireturn, 1) := by decide +kernel
theorem dX12_shop_0 : decode cX12_shop 0 = .ok (.iload_n 1, 1) := by decide +kernel
theorem dX12_shop_1 : decode cX12_shop 1 = .ok (.iconst 0, 1) := by decide +kernel
theorem dX12_shop_2 : decode cX12_shop 2 = .ok (.iconst 1, 1) := by decide +kernel
theorem dX12_shop_3 : decode cX12_shop 3 = .ok (.invokestatic 71, 3) := by decide +kernel
theorem dX12_shop_6 : decode cX12_shop 6 = .ok (.ifCond .eq 33, 3) := by decide +kernel
theorem dX12_shop_9 : decode cX12_shop 9 = .ok (.iload_n 2, 1) := by decide +kernel
theorem dX12_shop_10 : decode cX12_shop 10 = .ok (.iconst 0, 1) := by decide +kernel
theorem dX12_shop_11 : decode cX12_shop 11 = .ok (.iload_n 1, 1) := by decide +kernel
theorem dX12_shop_12 : decode cX12_shop 12 = .ok (.ifCond .ne 8, 3) := by decide +kernel
theorem dX12_shop_15 : decode cX12_shop 15 = .ok (.bipush 9, 2) := by decide +kernel
theorem dX12_shop_17 : decode cX12_shop 17 = .ok (.goto 5, 3) := by decide +kernel
theorem dX12_shop_20 : decode cX12_shop 20 = .ok (.bipush 99, 2) := by decide +kernel
theorem dX12_shop_22 : decode cX12_shop 22 = .ok (.invokestatic 71, 3) := by decide +kernel
theorem dX12_shop_25 : decode cX12_shop 25 = .ok (.ifCond .eq 14, 3) := by decide +kernel
theorem dX12_shop_28 : decode cX12_shop 28 = .ok (.aload_n 0, 1) := by decide +kernel
theorem dX12_shop_29 : decode cX12_shop 29 = .ok (.iconst 3, 1) := by decide +kernel
theorem dX12_shop_30 : decode cX12_shop 30 = .ok (.iload_n 1, 1) := by decide +kernel
theorem dX12_shop_31 : decode cX12_shop 31 = .ok (.iadd, 1) := by decide +kernel
theorem dX12_shop_32 : decode cX12_shop 32 = .ok (.iload_n 2, 1) := by decide +kernel
theorem dX12_shop_33 : decode cX12_shop 33 = .ok (.invokevirtual 223, 3) := by decide +kernel
theorem dX12_shop_36 : decode cX12_shop 36 = .ok (.goto 4, 3) := by decide +kernel
theorem dX12_shop_39 : decode cX12_shop 39 = .ok (.iconst (-1), 1) := by decide +kernel
theorem dX12_shop_40 : decode cX12_shop 40 = .ok (.ireturn, 1) := by decide +kernel
theorem dX12_ends_0 : decode cX12_ends 0 = .ok (.iload_n 1, 1) := by decide +kernel
theorem dX12_ends_1 : decode cX12_ends 1 = .ok (.iconst 1, 1) := by decide +kernel
theorem dX12_ends_2 : decode cX12_ends 2 = .ok (.bipush 16, 2) := by decide +kernel
theorem dX12_ends_4 : decode cX12_ends 4 = .ok (.invokestatic 71, 3) := by decide +kernel
theorem dX12_ends_7 : decode cX12_ends 7 = .ok (.ifCond .ne 7, 3) := by decide +kernel
theorem dX12_ends_10 : decode cX12_ends 10 = .ok (.iconst (-1), 1) := by decide +kernel
theorem dX12_ends_11 : decode cX12_ends 11 = .ok (.goto 24, 3) := by decide +kernel
theorem dX12_ends_14 : decode cX12_ends 14 = .ok (.iload_n 1, 1) := by decide +kernel
theorem dX12_ends_15 : decode cX12_ends 15 = .ok (.aload_n 0, 1) := by decide +kernel
theorem dX12_ends_16 : decode cX12_ends 16 = .ok (.getfield 9, 3) := by decide +kernel
theorem dX12_ends_19 : decode cX12_ends 19 = .ok (.iconst 0, 1) := by decide +kernel
theorem dX12_ends_20 : decode cX12_ends 20 = .ok (.iaload, 1) := by decide +kernel
theorem dX12_ends_21 : decode cX12_ends 21 = .ok (.if_icmp .ge 8, 3) := by decide +kernel
theorem dX12_ends_24 : decode cX12_ends 24 = .ok (.bipush (-4), 2) := by decide +kernel
theorem dX12_ends_26 : decode cX12_ends 26 = .ok (.goto 9, 3) := by decide +kernel
theorem dX12_ends_29 : decode cX12_ends 29 = .ok (.aload_n 0, 1) := by decide +kernel
theorem dX12_ends_30 : decode cX12_ends 30 = .ok (.iconst 1, 1) := by decide +kernel
theorem dX12_ends_31 : decode cX12_ends 31 = .ok (.iload_n 1, 1) := by decide +kernel
theorem dX12_ends_32 : decode cX12_ends 32 = .ok (.invokevirtual 223, 3) := by decide +kernel
theorem dX12_ends_35 : decode cX12_ends 35 = .ok (.ireturn, 1) := by decide +kernel
theorem dX12_anew_0 : decode cX12_anew 0 = .ok (.aload_n 0, 1) := by decide +kernel
theorem dX12_anew_1 : decode cX12_anew 1 = .ok (.getfield 9, 3) := by decide +kernel
theorem dX12_anew_4 : decode cX12_anew 4 = .ok (.iconst 2, 1) := by decide +kernel
theorem dX12_anew_5 : decode cX12_anew 5 = .ok (.iconst 0, 1) := by decide +kernel
theorem dX12_anew_6 : decode cX12_anew 6 = .ok (.iastore, 1) := by decide +kernel
theorem dX12_anew_7 : decode cX12_anew 7 = .ok (.aload_n 0, 1) := by decide +kernel
theorem dX12_anew_8 : decode cX12_anew 8 = .ok (.getfield 9, 3) := by decide +kernel
theorem dX12_anew_11 : decode cX12_anew 11 = .ok (.iconst 3, 1) := by decide +kernel
theorem dX12_anew_12 : decode cX12_anew 12 = .ok (.iconst 0, 1) := by decide +kernel
theorem dX12_anew_13 : decode cX12_anew 13 = .ok (.iastore, 1) := by decide +kernel
theorem dX12_anew_14 : decode cX12_anew 14 = .ok (.aload_n 0, 1) := by decide +kernel
theorem dX12_anew_15 : decode cX12_anew 15 = .ok (.getfield 9, 3) := by decide +kernel
theorem dX12_anew_18 : decode cX12_anew 18 = .ok (.iconst 4, 1) := by decide +kernel
theorem dX12_anew_19 : decode cX12_anew 19 = .ok (.bipush 26, 2) := by decide +kernel
theorem dX12_anew_21 : decode cX12_anew 21 = .ok (.iastore, 1) := by decide +kernel
theorem dX12_anew_22 : decode cX12_anew 22 = .ok (.iconst 0, 1) := by decide +kernel
theorem dX12_anew_23 : decode cX12_anew 23 = .ok (.istore_n 1, 1) := by decide +kernel
theorem dX12_anew_24 : decode cX12_anew 24 = .ok (.iload_n 1, 1) := by decide +kernel
theorem dX12_anew_25 : decode cX12_anew 25 = .ok (.aload_n 0, 1) := by decide +kernel
theorem dX12_anew_26 : decode cX12_anew 26 = .ok (.getfield 9, 3) := by decide +kernel
theorem dX12_anew_29 : decode cX12_anew 29 = .ok (.bipush 6, 2) := by decide +kernel
theorem dX12_anew_31 : decode cX12_anew 31 = .ok (.iaload, 1) := by decide +kernel
theorem dX12_anew_32 : decode cX12_anew 32 = .ok (.if_icmp .ge 23, 3) := by decide +kernel
theorem dX12_anew_35 : decode cX12_anew 35 = .ok (.aload_n 0, 1) := by decide +kernel
theorem dX12_anew_36 : decode cX12_anew 36 = .ok (.iload_n 1, 1) := by decide +kernel
theorem dX12_anew_37 : decode cX12_anew 37 = .ok (.iconst 4, 1) := by decide +kernel
theorem dX12_anew_38 : decode cX12_anew 38 = .ok (.iconst 0, 1) := by decide +kernel
theorem dX12_anew_39 : decode cX12_anew 39 = .ok (.invokevirtual 185, 3) := by decide +kernel
theorem dX12_anew_42 : decode cX12_anew 42 = .ok (.aload_n 0, 1) := by decide +kernel
theorem dX12_anew_43 : decode cX12_anew 43 = .ok (.iload_n 1, 1) := by decide +kernel
theorem dX12_anew_44 : decode cX12_anew 44 = .ok (.iconst 5, 1) := by decide +kernel
theorem dX12_anew_45 : decode cX12_anew 45 = .ok (.iconst 0, 1) := by decide +kernel
theorem dX12_anew_46 : decode cX12_anew 46 = .ok (.invokevirtual 185, 3) := by decide +kernel
theorem dX12_anew_49 : decode cX12_anew 49 = .ok (.iinc 1 1, 3) := by decide +kernel
theorem dX12_anew_52 : decode cX12_anew 52 = .ok (.goto (-28), 3) := by decide +kernel
theorem dX12_anew_55 : decode cX12_anew 55 = .ok (.aload_n 0, 1) := by decide +kernel
theorem dX12_anew_56 : decode cX12_anew 56 = .ok (.iconst 0, 1) := by decide +kernel
theorem dX12_anew_57 : decode cX12_anew 57 = .ok (.iconst 0, 1) := by decide +kernel
theorem dX12_anew_58 : decode cX12_anew 58 = .ok (.invokevirtual 223, 3) := by decide +kernel
theorem dX12_anew_61 : decode cX12_anew 61 = .ok (.ireturn, 1) := by decide +kernel
theorem dX12_those_0 : decode cX12_those 0 = .ok (.iconst 0, 1) := by decide +kernel
theorem dX12_those_1 : decode cX12_those 1 = .ok (.istore_n 2, 1) := by decide +kernel
theorem dX12_those_2 : decode cX12_those 2 = .ok (.iconst 0, 1) := by decide +kernel
theorem dX12_those_3 : decode cX12_those 3 = .ok (.istore_n 3, 1) := by decide +kernel
theorem dX12_those_4 : decode cX12_those 4 = .ok (.iload_n 3, 1) := by decide +kernel
theorem dX12_those_5 : decode cX12_those 5 = .ok (.aload_n 0, 1) := by decide +kernel
theorem dX12_those_6 : decode cX12_those 6 = .ok (.getfield 9, 3) := by decide +kernel
theorem dX12_those_9 : decode cX12_those 9 = .ok (.bipush 6, 2) := by decide +kernel
theorem dX12_those_11 : decode cX12_those 11 = .ok (.iaload, 1) := by decide +kernel
theorem dX12_those_12 : decode cX12_those 12 = .ok (.if_icmp .ge 28, 3) := by decide +kernel
theorem dX12_those_15 : decode cX12_those 15 = .ok (.iload_n 2, 1) := by decide +kernel
theorem dX12_those_16 : decode cX12_those 16 = .ok (.aload_n 0, 1) := by decide +kernel
theorem dX12_those_17 : decode cX12_those 17 = .ok (.iload_n 3, 1) := by decide +kernel
theorem dX12_those_18 : decode cX12_those 18 = .ok (.iload_n 1, 1) := by decide +kernel
theorem dX12_those_19 : decode cX12_those 19 = .ok (.invokevirtual 79, 3) := by decide +kernel
theorem dX12_those_22 : decode cX12_those 22 = .ok (.ifCond .le 9, 3) := by decide +kernel
theorem dX12_those_25 : decode cX12_those 25 = .ok (.iconst 1, 1) := by decide +kernel
theorem dX12_those_26 : decode cX12_those 26 = .ok (.iload_n 3, 1) := by decide +kernel
theorem dX12_those_27 : decode cX12_those 27 = .ok (.ishl, 1) := by decide +kernel
theorem dX12_those_28 : decode cX12_those 28 = .ok (.goto 4, 3) := by decide +kernel
theorem dX12_those_31 : decode cX12_those 31 = .ok (.iconst 0, 1) := by decide +kernel
theorem dX12_those_32 : decode cX12_those 32 = .ok (.ior, 1) := by decide +kernel
theorem dX12_those_33 : decode cX12_those 33 = .ok (.istore_n 2, 1) := by decide +kernel
theorem dX12_those_34 : decode cX12_those 34 = .ok (.iinc 3 1, 3) := by decide +kernel
theorem dX12_those_37 : decode cX12_those 37 = .ok (.goto (-33), 3) := by decide +kernel
theorem dX12_those_40 : decode cX12_those 40 = .ok (.iload_n 2, 1) := by decide +kernel
theorem dX12_those_41 : decode cX12_those 41 = .ok (.ireturn, 1) := by decide +kernel
theorem dX12_state_0 : decode cX12_state 0 = .ok (.iload_n 1, 1) := by decide +kernel
theorem dX12_state_1 : decode cX12_state 1 = .ok (.tableswitch 141 0 8 #[51, 58, 65, 72, 85, 91, 97, 127, 134], 51) := by decide +kernel
theorem dX12_state_52 : decode cX12_state 52 = .ok (.aload_n 0, 1) := by decide +kernel
theorem dX12_state_53 : decode cX12_state 53 = .ok (.getfield 9, 3) := by decide +kernel
theorem dX12_state_56 : decode cX12_state 56 = .ok (.iconst 0, 1) := by decide +kernel
theorem dX12_state_57 : decode cX12_state 57 = .ok (.iaload, 1) := by decide +kernel
theorem dX12_state_58 : decode cX12_state 58 = .ok (.ireturn, 1) := by decide +kernel
theorem dX12_state_59 : decode cX12_state 59 = .ok (.aload_n 0, 1) := by decide +kernel
theorem dX12_state_60 : decode cX12_state 60 = .ok (.getfield 9, 3) := by decide +kernel
theorem dX12_state_63 : decode cX12_state 63 = .ok (.iconst 1, 1) := by decide +kernel
theorem dX12_state_64 : decode cX12_state 64 = .ok (.iaload, 1) := by decide +kernel
theorem dX12_state_65 : decode cX12_state 65 = .ok (.ireturn, 1) := by decide +kernel
theorem dX12_state_66 : decode cX12_state 66 = .ok (.aload_n 0, 1) := by decide +kernel
theorem dX12_state_67 : decode cX12_state 67 = .ok (.getfield 9, 3) := by decide +kernel
theorem dX12_state_70 : decode cX12_state 70 = .ok (.iconst 2, 1) := by decide +kernel
theorem dX12_state_71 : decode cX12_state 71 = .ok (.iaload, 1) := by decide +kernel
theorem dX12_state_72 : decode cX12_state 72 = .ok (.ireturn, 1) := by decide +kernel
theorem dX12_state_73 : decode cX12_state 73 = .ok (.aload_n 0, 1) := by decide +kernel
theorem dX12_state_74 : decode cX12_state 74 = .ok (.invokevirtual 226, 3) := by decide +kernel
theorem dX12_state_77 : decode cX12_state 77 = .ok (.ifCond .eq 7, 3) := by decide +kernel
theorem dX12_state_80 : decode cX12_state 80 = .ok (.iconst 1, 1) := by decide +kernel
theorem dX12_state_81 : decode cX12_state 81 = .ok (.goto 4, 3) := by decide +kernel
theorem dX12_state_84 : decode cX12_state 84 = .ok (.iconst 0, 1) := by decide +kernel
theorem dX12_state_85 : decode cX12_state 85 = .ok (.ireturn, 1) := by decide +kernel
theorem dX12_state_86 : decode cX12_state 86 = .ok (.aload_n 0, 1) := by decide +kernel
theorem dX12_state_87 : decode cX12_state 87 = .ok (.iconst 4, 1) := by decide +kernel
theorem dX12_state_88 : decode cX12_state 88 = .ok (.invokevirtual 229, 3) := by decide +kernel
theorem dX12_state_91 : decode cX12_state 91 = .ok (.ireturn, 1) := by decide +kernel
theorem dX12_state_92 : decode cX12_state 92 = .ok (.aload_n 0, 1) := by decide +kernel
theorem dX12_state_93 : decode cX12_state 93 = .ok (.iconst 5, 1) := by decide +kernel
theorem dX12_state_94 : decode cX12_state 94 = .ok (.invokevirtual 229, 3) := by decide +kernel
theorem dX12_state_97 : decode cX12_state 97 = .ok (.ireturn, 1) := by decide +kernel
theorem dX12_state_98 : decode cX12_state 98 = .ok (.aload_n 0, 1) := by decide +kernel
theorem dX12_state_99 : decode cX12_state 99 = .ok (.getfield 9, 3) := by decide +kernel
theorem dX12_state_102 : decode cX12_state 102 = .ok (.iconst 0, 1) := by decide +kernel
theorem dX12_state_103 : decode cX12_state 103 = .ok (.iaload, 1) := by decide +kernel
theorem dX12_state_104 : decode cX12_state 104 = .ok (.bipush 16, 2) := by decide +kernel
theorem dX12_state_106 : decode cX12_state 106 = .ok (.if_icmp .ge 20, 3) := by decide +kernel
theorem dX12_state_109 : decode cX12_state 109 = .ok (.aload_n 0, 1) := by decide +kernel
theorem dX12_state_110 : decode cX12_state 110 = .ok (.getfield 9, 3) := by decide +kernel
theorem dX12_state_113 : decode cX12_state 113 = .ok (.bipush 10, 2) := by decide +kernel
theorem dX12_state_115 : decode cX12_state 115 = .ok (.aload_n 0, 1) := by decide +kernel
theorem dX12_state_116 : decode cX12_state 116 = .ok (.getfield 9, 3) := by decide +kernel
theorem dX12_state_119 : decode cX12_state 119 = .ok (.iconst 0, 1) := by decide +kernel
theorem dX12_state_120 : decode cX12_state 120 = .ok (.iaload, 1) := by decide +kernel
theorem dX12_state_121 : decode cX12_state 121 = .ok (.iadd, 1) := by decide +kernel
theorem dX12_state_122 : decode cX12_state 122 = .ok (.iaload, 1) := by decide +kernel
theorem dX12_state_123 : decode cX12_state 123 = .ok (.goto 4, 3) := by decide +kernel
theorem dX12_state_126 : decode cX12_state 126 = .ok (.iconst 0, 1) := by decide +kernel
theorem dX12_state_127 : decode cX12_state 127 = .ok (.ireturn, 1) := by decide +kernel
theorem dX12_state_128 : decode cX12_state 128 = .ok (.aload_n 0, 1) := by decide +kernel
theorem dX12_state_129 : decode cX12_state 129 = .ok (.getfield 9, 3) := by decide +kernel
theorem dX12_state_132 : decode cX12_state 132 = .ok (.iconst 3, 1) := by decide +kernel
theorem dX12_state_133 : decode cX12_state 133 = .ok (.iaload, 1) := by decide +kernel
theorem dX12_state_134 : decode cX12_state 134 = .ok (.ireturn, 1) := by decide +kernel
theorem dX12_state_135 : decode cX12_state 135 = .ok (.aload_n 0, 1) := by decide +kernel
theorem dX12_state_136 : decode cX12_state 136 = .ok (.getfield 9, 3) := by decide +kernel
theorem dX12_state_139 : decode cX12_state 139 = .ok (.iconst 4, 1) := by decide +kernel
theorem dX12_state_140 : decode cX12_state 140 = .ok (.iaload, 1) := by decide +kernel
theorem dX12_state_141 : decode cX12_state 141 = .ok (.ireturn, 1) := by decide +kernel
theorem dX12_state_142 : decode cX12_state 142 = .ok (.iconst (-1), 1) := by decide +kernel
theorem dX12_state_143 : decode cX12_state 143 = .ok (.ireturn, 1) := by decide +kernel
theorem dX12_night_0 : decode cX12_night 0 = .ok (.aload_n 0, 1) := by decide +kernel
theorem dX12_night_1 : decode cX12_night 1 = .ok (.invokevirtual 226, 3) := by decide +kernel
theorem dX12_night_4 : decode cX12_night 4 = .ok (.ifCond .eq 8, 3) := by decide +kernel
theorem dX12_night_7 : decode cX12_night 7 = .ok (.bipush (-4), 2) := by decide +kernel
theorem dX12_night_9 : decode cX12_night 9 = .ok (.goto 8, 3) := by decide +kernel
theorem dX12_night_12 : decode cX12_night 12 = .ok (.aload_n 0, 1) := by decide +kernel
theorem dX12_night_13 : decode cX12_night 13 = .ok (.iconst (-1), 1) := by decide +kernel
theorem dX12_night_14 : decode cX12_night 14 = .ok (.invokevirtual 232, 3) := by decide +kernel
theorem dX12_night_17 : decode cX12_night 17 = .ok (.ireturn, 1) := by decide +kernel
theorem dX12_restOf_0 : decode cX12_restOf 0 = .ok (.iconst 0, 1) := by decide +kernel
theorem dX12_restOf_1 : decode cX12_restOf 1 = .ok (.istore_n 2, 1) := by decide +kernel
theorem dX12_restOf_2 : decode cX12_restOf 2 = .ok (.iconst 0, 1) := by decide +kernel
theorem dX12_restOf_3 : decode cX12_restOf 3 = .ok (.istore_n 3, 1) := by decide +kernel
theorem dX12_restOf_4 : decode cX12_restOf 4 = .ok (.iload_n 3, 1) := by decide +kernel
theorem dX12_restOf_5 : decode cX12_restOf 5 = .ok (.iload_n 1, 1) := by decide +kernel
theorem dX12_restOf_6 : decode cX12_restOf 6 = .ok (.if_icmp .ge 24, 3) := by decide +kernel
theorem dX12_restOf_9 : decode cX12_restOf 9 = .ok (.aload_n 0, 1) := by decide +kernel
theorem dX12_restOf_10 : decode cX12_restOf 10 = .ok (.invokevirtual 226, 3) := by decide +kernel
theorem dX12_restOf_13 : decode cX12_restOf 13 = .ok (.ifCond .ne 17, 3) := by decide +kernel
theorem dX12_restOf_16 : decode cX12_restOf 16 = .ok (.iload_n 2, 1) := by decide +kernel
theorem dX12_restOf_17 : decode cX12_restOf 17 = .ok (.aload_n 0, 1) := by decide +kernel
theorem dX12_restOf_18 : decode cX12_restOf 18 = .ok (.iconst (-1), 1) := by decide +kernel
theorem dX12_restOf_19 : decode cX12_restOf 19 = .ok (.invokevirtual 232, 3) := by decide +kernel
theorem dX12_restOf_22 : decode cX12_restOf 22 = .ok (.iadd, 1) := by decide +kernel
theorem dX12_restOf_23 : decode cX12_restOf 23 = .ok (.istore_n 2, 1) := by decide +kernel
theorem dX12_restOf_24 : decode cX12_restOf 24 = .ok (.iinc 3 1, 3) := by decide +kernel
theorem dX12_restOf_27 : decode cX12_restOf 27 = .ok (.goto (-23), 3) := by decide +kernel
theorem dX12_restOf_30 : decode cX12_restOf 30 = .ok (.iload_n 2, 1) := by decide +kernel
theorem dX12_restOf_31 : decode cX12_restOf 31 = .ok (.ireturn, 1) := by decide +kernel
theorem dX12_on_0 : decode cX12_on 0 = .ok (.iload_n 1, 1) := by decide +kernel
theorem dX12_on_1 : decode cX12_on 1 = .ok (.iconst 0, 1) := by decide +kernel
theorem dX12_on_2 : decode cX12_on 2 = .ok (.bipush 16, 2) := by decide +kernel
theorem dX12_on_4 : decode cX12_on 4 = .ok (.invokestatic 71, 3) := by decide +kernel
theorem dX12_on_7 : decode cX12_on 7 = .ok (.ifCond .ne 5, 3) := by decide +kernel
theorem dX12_on_10 : decode cX12_on 10 = .ok (.iconst (-1), 1) := by decide +kernel
theorem dX12_on_11 : decode cX12_on 11 = .ok (.ireturn, 1) := by decide +kernel
theorem dX12_on_12 : decode cX12_on 12 = .ok (.aload_n 0, 1) := by decide +kernel
theorem dX12_on_13 : decode cX12_on 13 = .ok (.invokevirtual 235, 3) := by decide +kernel
theorem dX12_on_16 : decode cX12_on 16 = .ok (.aload_n 0, 1) := by decide +kernel
theorem dX12_on_17 : decode cX12_on 17 = .ok (.iload_n 1, 1) := by decide +kernel
theorem dX12_on_18 : decode cX12_on 18 = .ok (.invokevirtual 238, 3) := by decide +kernel
theorem dX12_on_21 : decode cX12_on 21 = .ok (.istore_n 2, 1) := by decide +kernel
theorem dX12_on_22 : decode cX12_on 22 = .ok (.aload_n 0, 1) := by decide +kernel
theorem dX12_on_23 : decode cX12_on 23 = .ok (.invokevirtual 241, 3) := by decide +kernel
theorem dX12_on_26 : decode cX12_on 26 = .ok (.iload_n 2, 1) := by decide +kernel
theorem dX12_on_27 : decode cX12_on 27 = .ok (.ireturn, 1) := by decide +kernel
theorem dX12_when_0 : decode cX12_when 0 = .ok (.aload_n 0, 1) := by decide +kernel
theorem dX12_when_1 : decode cX12_when 1 = .ok (.iload_n 1, 1) := by decide +kernel
theorem dX12_when_2 : decode cX12_when 2 = .ok (.invokevirtual 220, 3) := by decide +kernel
theorem dX12_when_5 : decode cX12_when 5 = .ok (.ifCond .ne 5, 3) := by decide +kernel
theorem dX12_when_8 : decode cX12_when 8 = .ok (.iconst (-1), 1) := by decide +kernel
theorem dX12_when_9 : decode cX12_when 9 = .ok (.ireturn, 1) := by decide +kernel
theorem dX12_when_10 : decode cX12_when 10 = .ok (.aload_n 0, 1) := by decide +kernel
theorem dX12_when_11 : decode cX12_when 11 = .ok (.invokevirtual 235, 3) := by decide +kernel
theorem dX12_when_14 : decode cX12_when 14 = .ok (.bipush (-3), 2) := by decide +kernel
theorem dX12_when_16 : decode cX12_when 16 = .ok (.istore_n 2, 1) := by decide +kernel
theorem dX12_when_17 : decode cX12_when 17 = .ok (.aload_n 0, 1) := by decide +kernel
theorem dX12_when_18 : decode cX12_when 18 = .ok (.iload_n 1, 1) := by decide +kernel
theorem dX12_when_19 : decode cX12_when 19 = .ok (.iconst 5, 1) := by decide +kernel
theorem dX12_when_20 : decode cX12_when 20 = .ok (.invokevirtual 79, 3) := by decide +kernel
theorem dX12_when_23 : decode cX12_when 23 = .ok (.ifCond .ne 7, 3) := by decide +kernel
theorem dX12_when_26 : decode cX12_when 26 = .ok (.iconst 1, 1) := by decide +kernel
theorem dX12_when_27 : decode cX12_when 27 = .ok (.goto 4, 3) := by decide +kernel
theorem dX12_when_30 : decode cX12_when 30 = .ok (.iconst 0, 1) := by decide +kernel
theorem dX12_when_31 : decode cX12_when 31 = .ok (.istore_n 3, 1) := by decide +kernel
theorem dX12_when_32 : decode cX12_when 32 = .ok (.iload_n 3, 1) := by decide +kernel
theorem dX12_when_33 : decode cX12_when 33 = .ok (.ifCond .eq 58, 3) := by decide +kernel
theorem dX12_when_36 : decode cX12_when 36 = .ok (.aload_n 0, 1) := by decide +kernel
theorem dX12_when_37 : decode cX12_when 37 = .ok (.invokevirtual 226, 3) := by decide +kernel
theorem dX12_when_40 : decode cX12_when 40 = .ok (.ifCond .ne 51, 3) := by decide +kernel
theorem dX12_when_43 : decode cX12_when 43 = .ok (.aload_n 0, 1) := by decide +kernel
theorem dX12_when_44 : decode cX12_when 44 = .ok (.iconst (-1), 1) := by decide +kernel
theorem dX12_when_45 : decode cX12_when 45 = .ok (.invokevirtual 232, 3) := by decide +kernel
theorem dX12_when_48 : decode cX12_when 48 = .ok (.istore 4, 2) := by decide +kernel
theorem dX12_when_50 : decode cX12_when 50 = .ok (.aload_n 0, 1) := by decide +kernel
theorem dX12_when_51 : decode cX12_when 51 = .ok (.iload_n 1, 1) := by decide +kernel
theorem dX12_when_52 : decode cX12_when 52 = .ok (.iconst 5, 1) := by decide +kernel
theorem dX12_when_53 : decode cX12_when 53 = .ok (.invokevirtual 79, 3) := by decide +kernel
theorem dX12_when_56 : decode cX12_when 56 = .ok (.ifCond .ne 7, 3) := by decide +kernel
theorem dX12_when_59 : decode cX12_when 59 = .ok (.iconst 1, 1) := by decide +kernel
theorem dX12_when_60 : decode cX12_when 60 = .ok (.goto 4, 3) := by decide +kernel
theorem dX12_when_63 : decode cX12_when 63 = .ok (.iconst 0, 1) := by decide +kernel
theorem dX12_when_64 : decode cX12_when 64 = .ok (.istore_n 3, 1) := by decide +kernel
theorem dX12_when_65 : decode cX12_when 65 = .ok (.iload_n 3, 1) := by decide +kernel
theorem dX12_when_66 : decode cX12_when 66 = .ok (.ifCond .ne 8, 3) := by decide +kernel
theorem dX12_when_69 : decode cX12_when 69 = .ok (.iload 4, 2) := by decide +kernel
theorem dX12_when_71 : decode cX12_when 71 = .ok (.ifCond .ge 8, 3) := by decide +kernel
theorem dX12_when_74 : decode cX12_when 74 = .ok (.bipush (-3), 2) := by decide +kernel
theorem dX12_when_76 : decode cX12_when 76 = .ok (.goto 11, 3) := by decide +kernel
theorem dX12_when_79 : decode cX12_when 79 = .ok (.aload_n 0, 1) := by decide +kernel
theorem dX12_when_80 : decode cX12_when 80 = .ok (.getfield 9, 3) := by decide +kernel
theorem dX12_when_83 : decode cX12_when 83 = .ok (.iconst 0, 1) := by decide +kernel
theorem dX12_when_84 : decode cX12_when 84 = .ok (.iaload, 1) := by decide +kernel
theorem dX12_when_85 : decode cX12_when 85 = .ok (.iconst 1, 1) := by decide +kernel
theorem dX12_when_86 : decode cX12_when 86 = .ok (.isub, 1) := by decide +kernel
theorem dX12_when_87 : decode cX12_when 87 = .ok (.istore_n 2, 1) := by decide +kernel
theorem dX12_when_88 : decode cX12_when 88 = .ok (.goto (-56), 3) := by decide +kernel
theorem dX12_when_91 : decode cX12_when 91 = .ok (.aload_n 0, 1) := by decide +kernel
theorem dX12_when_92 : decode cX12_when 92 = .ok (.invokevirtual 241, 3) := by decide +kernel
theorem dX12_when_95 : decode cX12_when 95 = .ok (.iload_n 2, 1) := by decide +kernel
theorem dX12_when_96 : decode cX12_when 96 = .ok (.ireturn, 1) := by decide +kernel
theorem dX12_bestFor_0 : decode cX12_bestFor 0 = .ok (.aload_n 0, 1) := by decide +kernel
theorem dX12_bestFor_1 : decode cX12_bestFor 1 = .ok (.iload_n 1, 1) := by decide +kernel
theorem dX12_bestFor_2 : decode cX12_bestFor 2 = .ok (.invokevirtual 220, 3) := by decide +kernel
theorem dX12_bestFor_5 : decode cX12_bestFor 5 = .ok (.ifCond .ne 5, 3) := by decide +kernel
theorem dX12_bestFor_8 : decode cX12_bestFor 8 = .ok (.iconst (-1), 1) := by decide +kernel
theorem dX12_bestFor_9 : decode cX12_bestFor 9 = .ok (.ireturn, 1) := by decide +kernel
theorem dX12_bestFor_10 : decode cX12_bestFor 10 = .ok (.iconst 0, 1) := by decide +kernel
theorem dX12_bestFor_11 : decode cX12_bestFor 11 = .ok (.istore 4, 2) := by decide +kernel
theorem dX12_bestFor_13 : decode cX12_bestFor 13 = .ok (.iconst (-1), 1) := by decide +kernel
theorem dX12_bestFor_14 : decode cX12_bestFor 14 = .ok (.istore 5, 2) := by decide +kernel
theorem dX12_bestFor_16 : decode cX12_bestFor 16 = .ok (.aload_n 0, 1) := by decide +kernel
theorem dX12_bestFor_17 : decode cX12_bestFor 17 = .ok (.invokevirtual 235, 3) := by decide +kernel
theorem dX12_bestFor_20 : decode cX12_bestFor 20 = .ok (.iconst 0, 1) := by decide +kernel
theorem dX12_bestFor_21 : decode cX12_bestFor 21 = .ok (.istore 6, 2) := by decide +kernel
theorem dX12_bestFor_23 : decode cX12_bestFor 23 = .ok (.iload 6, 2) := by decide +kernel
theorem dX12_bestFor_25 : decode cX12_bestFor 25 = .ok (.iload_n 3, 1) := by decide +kernel
theorem dX12_bestFor_26 : decode cX12_bestFor 26 = .ok (.if_icmp .gt 61, 3) := by decide +kernel
theorem dX12_bestFor_29 : decode cX12_bestFor 29 = .ok (.aload_n 0, 1) := by decide +kernel
theorem dX12_bestFor_30 : decode cX12_bestFor 30 = .ok (.iload_n 1, 1) := by decide +kernel
theorem dX12_bestFor_31 : decode cX12_bestFor 31 = .ok (.iload_n 2, 1) := by decide +kernel
theorem dX12_bestFor_32 : decode cX12_bestFor 32 = .ok (.iload 6, 2) := by decide +kernel
theorem dX12_bestFor_34 : decode cX12_bestFor 34 = .ok (.invokevirtual 185, 3) := by decide +kernel
theorem dX12_bestFor_37 : decode cX12_bestFor 37 = .ok (.aload_n 0, 1) := by decide +kernel
theorem dX12_bestFor_38 : decode cX12_bestFor 38 = .ok (.bipush 16, 2) := by decide +kernel
theorem dX12_bestFor_40 : decode cX12_bestFor 40 = .ok (.invokevirtual 238, 3) := by decide +kernel
theorem dX12_bestFor_43 : decode cX12_bestFor 43 = .ok (.istore 7, 2) := by decide +kernel
theorem dX12_bestFor_45 : decode cX12_bestFor 45 = .ok (.iload 7, 2) := by decide +kernel
theorem dX12_bestFor_47 : decode cX12_bestFor 47 = .ok (.iload 5, 2) := by decide +kernel
theorem dX12_bestFor_49 : decode cX12_bestFor 49 = .ok (.if_icmp .le 8, 3) := by decide +kernel
theorem dX12_bestFor_52 : decode cX12_bestFor 52 = .ok (.iload 6, 2) := by decide +kernel
theorem dX12_bestFor_54 : decode cX12_bestFor 54 = .ok (.goto 5, 3) := by decide +kernel
theorem dX12_bestFor_57 : decode cX12_bestFor 57 = .ok (.iload 4, 2) := by decide +kernel
theorem dX12_bestFor_59 : decode cX12_bestFor 59 = .ok (.istore 4, 2) := by decide +kernel
theorem dX12_bestFor_61 : decode cX12_bestFor 61 = .ok (.iload 7, 2) := by decide +kernel
theorem dX12_bestFor_63 : decode cX12_bestFor 63 = .ok (.iload 5, 2) := by decide +kernel
theorem dX12_bestFor_65 : decode cX12_bestFor 65 = .ok (.if_icmp .le 8, 3) := by decide +kernel
theorem dX12_bestFor_68 : decode cX12_bestFor 68 = .ok (.iload 7, 2) := by decide +kernel
theorem dX12_bestFor_70 : decode cX12_bestFor 70 = .ok (.goto 5, 3) := by decide +kernel
theorem dX12_bestFor_73 : decode cX12_bestFor 73 = .ok (.iload 5, 2) := by decide +kernel
theorem dX12_bestFor_75 : decode cX12_bestFor 75 = .ok (.istore 5, 2) := by decide +kernel
theorem dX12_bestFor_77 : decode cX12_bestFor 77 = .ok (.aload_n 0, 1) := by decide +kernel
theorem dX12_bestFor_78 : decode cX12_bestFor 78 = .ok (.invokevirtual 241, 3) := by decide +kernel
theorem dX12_bestFor_81 : decode cX12_bestFor 81 = .ok (.iinc 6 1, 3) := by decide +kernel
theorem dX12_bestFor_84 : decode cX12_bestFor 84 = .ok (.goto (-61), 3) := by decide +kernel
theorem dX12_bestFor_87 : decode cX12_bestFor 87 = .ok (.iload 4, 2) := by decide +kernel
theorem dX12_bestFor_89 : decode cX12_bestFor 89 = .ok (.ireturn, 1) := by decide +kernel
theorem dX12_griefFor_0 : decode cX12_griefFor 0 = .ok (.aload_n 0, 1) := by decide +kernel
theorem dX12_griefFor_1 : decode cX12_griefFor 1 = .ok (.iload_n 1, 1) := by decide +kernel
theorem dX12_griefFor_2 : decode cX12_griefFor 2 = .ok (.iconst 2, 1) := by decide +kernel
theorem dX12_griefFor_3 : decode cX12_griefFor 3 = .ok (.bipush 9, 2) := by decide +kernel
theorem dX12_griefFor_5 : decode cX12_griefFor 5 = .ok (.invokevirtual 244, 3) := by decide +kernel
theorem dX12_griefFor_8 : decode cX12_griefFor 8 = .ok (.ireturn, 1) := by decide +kernel
theorem dX12_laneFor_0 : decode cX12_laneFor 0 = .ok (.aload_n 0, 1) := by decide +kernel
theorem dX12_laneFor_1 : decode cX12_laneFor 1 = .ok (.iload_n 1, 1) := by decide +kernel
theorem dX12_laneFor_2 : decode cX12_laneFor 2 = .ok (.iconst 3, 1) := by decide +kernel
theorem dX12_laneFor_3 : decode cX12_laneFor 3 = .ok (.iconst 5, 1) := by decide +kernel
theorem dX12_laneFor_4 : decode cX12_laneFor 4 = .ok (.invokevirtual 244, 3) := by decide +kernel
theorem dX12_laneFor_7 : decode cX12_laneFor 7 = .ok (.ireturn, 1) := by decide +kernel
theorem dX12_full_0 : decode cX12_full 0 = .ok (.iload_n 1, 1) := by decide +kernel
theorem dX12_full_1 : decode cX12_full 1 = .ok (.iconst 0, 1) := by decide +kernel
theorem dX12_full_2 : decode cX12_full 2 = .ok (.bipush 99, 2) := by decide +kernel
theorem dX12_full_4 : decode cX12_full 4 = .ok (.invokestatic 71, 3) := by decide +kernel
theorem dX12_full_7 : decode cX12_full 7 = .ok (.ifCond .ne 5, 3) := by decide +kernel
theorem dX12_full_10 : decode cX12_full 10 = .ok (.iconst (-1), 1) := by decide +kernel
theorem dX12_full_11 : decode cX12_full 11 = .ok (.ireturn, 1) := by decide +kernel
theorem dX12_full_12 : decode cX12_full 12 = .ok (.aload_n 0, 1) := by decide +kernel
theorem dX12_full_13 : decode cX12_full 13 = .ok (.invokevirtual 235, 3) := by decide +kernel
theorem dX12_full_16 : decode cX12_full 16 = .ok (.bipush (-3), 2) := by decide +kernel
theorem dX12_full_18 : decode cX12_full 18 = .ok (.istore_n 2, 1) := by decide +kernel
theorem dX12_full_19 : decode cX12_full 19 = .ok (.iload_n 2, 1) := by decide +kernel
theorem dX12_full_20 : decode cX12_full 20 = .ok (.bipush (-3), 2) := by decide +kernel
theorem dX12_full_22 : decode cX12_full 22 = .ok (.if_icmp .ne 47, 3) := by decide +kernel
theorem dX12_full_25 : decode cX12_full 25 = .ok (.aload_n 0, 1) := by decide +kernel
theorem dX12_full_26 : decode cX12_full 26 = .ok (.invokevirtual 226, 3) := by decide +kernel
theorem dX12_full_29 : decode cX12_full 29 = .ok (.ifCond .ne 40, 3) := by decide +kernel
theorem dX12_full_32 : decode cX12_full 32 = .ok (.aload_n 0, 1) := by decide +kernel
theorem dX12_full_33 : decode cX12_full 33 = .ok (.iconst (-1), 1) := by decide +kernel
theorem dX12_full_34 : decode cX12_full 34 = .ok (.invokevirtual 232, 3) := by decide +kernel
theorem dX12_full_37 : decode cX12_full 37 = .ok (.istore_n 3, 1) := by decide +kernel
theorem dX12_full_38 : decode cX12_full 38 = .ok (.aload_n 0, 1) := by decide +kernel
theorem dX12_full_39 : decode cX12_full 39 = .ok (.getfield 9, 3) := by decide +kernel
theorem dX12_full_42 : decode cX12_full 42 = .ok (.iconst 4, 1) := by decide +kernel
theorem dX12_full_43 : decode cX12_full 43 = .ok (.iaload, 1) := by decide +kernel
theorem dX12_full_44 : decode cX12_full 44 = .ok (.iload_n 1, 1) := by decide +kernel
theorem dX12_full_45 : decode cX12_full 45 = .ok (.if_icmp .lt 18, 3) := by decide +kernel
theorem dX12_full_48 : decode cX12_full 48 = .ok (.iload_n 3, 1) := by decide +kernel
theorem dX12_full_49 : decode cX12_full 49 = .ok (.ifCond .lt 14, 3) := by decide +kernel
theorem dX12_full_52 : decode cX12_full 52 = .ok (.aload_n 0, 1) := by decide +kernel
theorem dX12_full_53 : decode cX12_full 53 = .ok (.getfield 9, 3) := by decide +kernel
theorem dX12_full_56 : decode cX12_full 56 = .ok (.iconst 0, 1) := by decide +kernel
theorem dX12_full_57 : decode cX12_full 57 = .ok (.iaload, 1) := by decide +kernel
theorem dX12_full_58 : decode cX12_full 58 = .ok (.iconst 1, 1) := by decide +kernel
theorem dX12_full_59 : decode cX12_full 59 = .ok (.isub, 1) := by decide +kernel
theorem dX12_full_60 : decode cX12_full 60 = .ok (.goto 5, 3) := by decide +kernel
theorem dX12_full_63 : decode cX12_full 63 = .ok (.bipush (-3), 2) := by decide +kernel
theorem dX12_full_65 : decode cX12_full 65 = .ok (.istore_n 2, 1) := by decide +kernel
theorem dX12_full_66 : decode cX12_full 66 = .ok (.goto (-47), 3) := by decide +kernel
theorem dX12_full_69 : decode cX12_full 69 = .ok (.aload_n 0, 1) := by decide +kernel
theorem dX12_full_70 : decode cX12_full 70 = .ok (.invokevirtual 241, 3) := by decide +kernel
theorem dX12_full_73 : decode cX12_full 73 = .ok (.iload_n 2, 1) := by decide +kernel
theorem dX12_full_74 : decode cX12_full 74 = .ok (.ireturn, 1) := by decide +kernel
theorem dX12_bare_0 : decode cX12_bare 0 = .ok (.iload_n 1, 1) := by decide +kernel
theorem dX12_bare_1 : decode cX12_bare 1 = .ok (.iconst 0, 1) := by decide +kernel
theorem dX12_bare_2 : decode cX12_bare 2 = .ok (.iconst 1, 1) := by decide +kernel
theorem dX12_bare_3 : decode cX12_bare 3 = .ok (.invokestatic 71, 3) := by decide +kernel
theorem dX12_bare_6 : decode cX12_bare 6 = .ok (.ifCond .ne 5, 3) := by decide +kernel
theorem dX12_bare_9 : decode cX12_bare 9 = .ok (.iconst (-1), 1) := by decide +kernel
theorem dX12_bare_10 : decode cX12_bare 10 = .ok (.ireturn, 1) := by decide +kernel
theorem dX12_bare_11 : decode cX12_bare 11 = .ok (.aload_n 0, 1) := by decide +kernel
theorem dX12_bare_12 : decode cX12_bare 12 = .ok (.invokevirtual 235, 3) := by decide +kernel
theorem dX12_bare_15 : decode cX12_bare 15 = .ok (.iconst 0, 1) := by decide +kernel
theorem dX12_bare_16 : decode cX12_bare 16 = .ok (.istore_n 2, 1) := by decide +kernel
theorem dX12_bare_17 : decode cX12_bare 17 = .ok (.aload_n 0, 1) := by decide +kernel
theorem dX12_bare_18 : decode cX12_bare 18 = .ok (.invokevirtual 226, 3) := by decide +kernel
theorem dX12_bare_21 : decode cX12_bare 21 = .ok (.ifCond .ne 41, 3) := by decide +kernel
theorem dX12_bare_24 : decode cX12_bare 24 = .ok (.aload_n 0, 1) := by decide +kernel
theorem dX12_bare_25 : decode cX12_bare 25 = .ok (.iconst 5, 1) := by decide +kernel
theorem dX12_bare_26 : decode cX12_bare 26 = .ok (.invokevirtual 229, 3) := by decide +kernel
theorem dX12_bare_29 : decode cX12_bare 29 = .ok (.istore_n 3, 1) := by decide +kernel
theorem dX12_bare_30 : decode cX12_bare 30 = .ok (.aload_n 0, 1) := by decide +kernel
theorem dX12_bare_31 : decode cX12_bare 31 = .ok (.iconst (-1), 1) := by decide +kernel
theorem dX12_bare_32 : decode cX12_bare 32 = .ok (.invokevirtual 232, 3) := by decide +kernel
theorem dX12_bare_35 : decode cX12_bare 35 = .ok (.istore 4, 2) := by decide +kernel
theorem dX12_bare_37 : decode cX12_bare 37 = .ok (.iload_n 2, 1) := by decide +kernel
theorem dX12_bare_38 : decode cX12_bare 38 = .ok (.iload_n 3, 1) := by decide +kernel
theorem dX12_bare_39 : decode cX12_bare 39 = .ok (.aload_n 0, 1) := by decide +kernel
theorem dX12_bare_40 : decode cX12_bare 40 = .ok (.iconst 5, 1) := by decide +kernel
theorem dX12_bare_41 : decode cX12_bare 41 = .ok (.invokevirtual 229, 3) := by decide +kernel
theorem dX12_bare_44 : decode cX12_bare 44 = .ok (.if_icmp .ne 12, 3) := by decide +kernel
theorem dX12_bare_47 : decode cX12_bare 47 = .ok (.iload 4, 2) := by decide +kernel
theorem dX12_bare_49 : decode cX12_bare 49 = .ok (.ifCond .lt 7, 3) := by decide +kernel
theorem dX12_bare_52 : decode cX12_bare 52 = .ok (.iconst 1, 1) := by decide +kernel
theorem dX12_bare_53 : decode cX12_bare 53 = .ok (.goto 4, 3) := by decide +kernel
theorem dX12_bare_56 : decode cX12_bare 56 = .ok (.iconst 0, 1) := by decide +kernel
theorem dX12_bare_57 : decode cX12_bare 57 = .ok (.iadd, 1) := by decide +kernel
theorem dX12_bare_58 : decode cX12_bare 58 = .ok (.istore_n 2, 1) := by decide +kernel
theorem dX12_bare_59 : decode cX12_bare 59 = .ok (.goto (-42), 3) := by decide +kernel
theorem dX12_bare_62 : decode cX12_bare 62 = .ok (.iload_n 1, 1) := by decide +kernel
theorem dX12_bare_63 : decode cX12_bare 63 = .ok (.ifCond .ne 7, 3) := by decide +kernel
theorem dX12_bare_66 : decode cX12_bare 66 = .ok (.iload_n 2, 1) := by decide +kernel
theorem dX12_bare_67 : decode cX12_bare 67 = .ok (.goto 9, 3) := by decide +kernel
theorem dX12_bare_70 : decode cX12_bare 70 = .ok (.aload_n 0, 1) := by decide +kernel
theorem dX12_bare_71 : decode cX12_bare 71 = .ok (.getfield 9, 3) := by decide +kernel
theorem dX12_bare_74 : decode cX12_bare 74 = .ok (.iconst 4, 1) := by decide +kernel
theorem dX12_bare_75 : decode cX12_bare 75 = .ok (.iaload, 1) := by decide +kernel
theorem dX12_bare_76 : decode cX12_bare 76 = .ok (.istore_n 3, 1) := by decide +kernel
theorem dX12_bare_77 : decode cX12_bare 77 = .ok (.aload_n 0, 1) := by decide +kernel
theorem dX12_bare_78 : decode cX12_bare 78 = .ok (.invokevirtual 241, 3) := by decide +kernel
theorem dX12_bare_81 : decode cX12_bare 81 = .ok (.iload_n 3, 1) := by decide +kernel
theorem dX12_bare_82 : decode cX12_bare 82 = .ok (.ireturn, 1) := by decide +kernel
theorem dX12_areClose_0 : decode cX12_areClose 0 = .ok (.aload_n 0, 1) := by decide +kernel
theorem dX12_areClose_1 : decode cX12_areClose 1 = .ok (.iload_n 1, 1) := by decide +kernel
theorem dX12_areClose_2 : decode cX12_areClose 2 = .ok (.iconst 2, 1) := by decide +kernel
theorem dX12_areClose_3 : decode cX12_areClose 3 = .ok (.invokevirtual 79, 3) := by decide +kernel
theorem dX12_areClose_6 : decode cX12_areClose 6 = .ok (.aload_n 0, 1) := by decide +kernel
theorem dX12_areClose_7 : decode cX12_areClose 7 = .ok (.iload_n 2, 1) := by decide +kernel
theorem dX12_areClose_8 : decode cX12_areClose 8 = .ok (.iconst 2, 1) := by decide +kernel
theorem dX12_areClose_9 : decode cX12_areClose 9 = .ok (.invokevirtual 79, 3) := by decide +kernel
theorem dX12_areClose_12 : decode cX12_areClose 12 = .ok (.isub, 1) := by decide +kernel
theorem dX12_areClose_13 : decode cX12_areClose 13 = .ok (.istore_n 3, 1) := by decide +kernel
theorem dX12_areClose_14 : decode cX12_areClose 14 = .ok (.aload_n 0, 1) := by decide +kernel
theorem dX12_areClose_15 : decode cX12_areClose 15 = .ok (.iload_n 1, 1) := by decide +kernel
theorem dX12_areClose_16 : decode cX12_areClose 16 = .ok (.iconst 5, 1) := by decide +kernel
theorem dX12_areClose_17 : decode cX12_areClose 17 = .ok (.invokevirtual 79, 3) := by decide +kernel
theorem dX12_areClose_20 : decode cX12_areClose 20 = .ok (.ifCond .ne 40, 3) := by decide +kernel
theorem dX12_areClose_23 : decode cX12_areClose 23 = .ok (.aload_n 0, 1) := by decide +kernel
theorem dX12_areClose_24 : decode cX12_areClose 24 = .ok (.iload_n 2, 1) := by decide +kernel
theorem dX12_areClose_25 : decode cX12_areClose 25 = .ok (.iconst 5, 1) := by decide +kernel
theorem dX12_areClose_26 : decode cX12_areClose 26 = .ok (.invokevirtual 79, 3) := by decide +kernel
theorem dX12_areClose_29 : decode cX12_areClose 29 = .ok (.ifCond .ne 31, 3) := by decide +kernel
theorem dX12_areClose_32 : decode cX12_areClose 32 = .ok (.aload_n 0, 1) := by decide +kernel
theorem dX12_areClose_33 : decode cX12_areClose 33 = .ok (.iload_n 1, 1) := by decide +kernel
theorem dX12_areClose_34 : decode cX12_areClose 34 = .ok (.iconst 3, 1) := by decide +kernel
theorem dX12_areClose_35 : decode cX12_areClose 35 = .ok (.invokevirtual 79, 3) := by decide +kernel
theorem dX12_areClose_38 : decode cX12_areClose 38 = .ok (.aload_n 0, 1) := by decide +kernel
theorem dX12_areClose_39 : decode cX12_areClose 39 = .ok (.iload_n 2, 1) := by decide +kernel
theorem dX12_areClose_40 : decode cX12_areClose 40 = .ok (.iconst 3, 1) := by decide +kernel
theorem dX12_areClose_41 : decode cX12_areClose 41 = .ok (.invokevirtual 79, 3) := by decide +kernel
theorem dX12_areClose_44 : decode cX12_areClose 44 = .ok (.if_icmp .eq 12, 3) := by decide +kernel
theorem dX12_areClose_47 : decode cX12_areClose 47 = .ok (.iload_n 3, 1) := by decide +kernel
theorem dX12_areClose_48 : decode cX12_areClose 48 = .ok (.iconst (-1), 1) := by decide +kernel
theorem dX12_areClose_49 : decode cX12_areClose 49 = .ok (.iconst 1, 1) := by decide +kernel
theorem dX12_areClose_50 : decode cX12_areClose 50 = .ok (.invokestatic 71, 3) := by decide +kernel
theorem dX12_areClose_53 : decode cX12_areClose 53 = .ok (.ifCond .eq 7, 3) := by decide +kernel
theorem dX12_areClose_56 : decode cX12_areClose 56 = .ok (.iconst 1, 1) := by decide +kernel
theorem dX12_areClose_57 : decode cX12_areClose 57 = .ok (.goto 4, 3) := by decide +kernel
theorem dX12_areClose_60 : decode cX12_areClose 60 = .ok (.iconst 0, 1) := by decide +kernel
theorem dX12_areClose_61 : decode cX12_areClose 61 = .ok (.ireturn, 1) := by decide +kernel
theorem dX12_kinOf_0 : decode cX12_kinOf 0 = .ok (.iconst 1, 1) := by decide +kernel
theorem dX12_kinOf_1 : decode cX12_kinOf 1 = .ok (.iload_n 1, 1) := by decide +kernel
theorem dX12_kinOf_2 : decode cX12_kinOf 2 = .ok (.ishl, 1) := by decide +kernel
theorem dX12_kinOf_3 : decode cX12_kinOf 3 = .ok (.istore_n 2, 1) := by decide +kernel
theorem dX12_kinOf_4 : decode cX12_kinOf 4 = .ok (.iconst 0, 1) := by decide +kernel
theorem dX12_kinOf_5 : decode cX12_kinOf 5 = .ok (.istore_n 3, 1) := by decide +kernel
theorem dX12_kinOf_6 : decode cX12_kinOf 6 = .ok (.iload_n 3, 1) := by decide +kernel
theorem dX12_kinOf_7 : decode cX12_kinOf 7 = .ok (.aload_n 0, 1) := by decide +kernel
theorem dX12_kinOf_8 : decode cX12_kinOf 8 = .ok (.getfield 9, 3) := by decide +kernel
theorem dX12_kinOf_11 : decode cX12_kinOf 11 = .ok (.bipush 6, 2) := by decide +kernel
theorem dX12_kinOf_13 : decode cX12_kinOf 13 = .ok (.iaload, 1) := by decide +kernel
theorem dX12_kinOf_14 : decode cX12_kinOf 14 = .ok (.if_icmp .ge 83, 3) := by decide +kernel
theorem dX12_kinOf_17 : decode cX12_kinOf 17 = .ok (.iconst 0, 1) := by decide +kernel
theorem dX12_kinOf_18 : decode cX12_kinOf 18 = .ok (.istore 4, 2) := by decide +kernel
theorem dX12_kinOf_20 : decode cX12_kinOf 20 = .ok (.iload 4, 2) := by decide +kernel
theorem dX12_kinOf_22 : decode cX12_kinOf 22 = .ok (.aload_n 0, 1) := by decide +kernel
theorem dX12_kinOf_23 : decode cX12_kinOf 23 = .ok (.getfield 9, 3) := by decide +kernel
theorem dX12_kinOf_26 : decode cX12_kinOf 26 = .ok (.bipush 6, 2) := by decide +kernel
theorem dX12_kinOf_28 : decode cX12_kinOf 28 = .ok (.iaload, 1) := by decide +kernel
theorem dX12_kinOf_29 : decode cX12_kinOf 29 = .ok (.if_icmp .ge 62, 3) := by decide +kernel
theorem dX12_kinOf_32 : decode cX12_kinOf 32 = .ok (.iconst 0, 1) := by decide +kernel
theorem dX12_kinOf_33 : decode cX12_kinOf 33 = .ok (.istore 5, 2) := by decide +kernel
theorem dX12_kinOf_35 : decode cX12_kinOf 35 = .ok (.iload 5, 2) := by decide +kernel
theorem dX12_kinOf_37 : decode cX12_kinOf 37 = .ok (.aload_n 0, 1) := by decide +kernel
theorem dX12_kinOf_38 : decode cX12_kinOf 38 = .ok (.getfield 9, 3) := by decide +kernel
theorem dX12_kinOf_41 : decode cX12_kinOf 41 = .ok (.bipush 6, 2) := by decide +kernel
theorem dX12_kinOf_43 : decode cX12_kinOf 43 = .ok (.iaload, 1) := by decide +kernel
theorem dX12_kinOf_44 : decode cX12_kinOf 44 = .ok (.if_icmp .ge 41, 3) := by decide +kernel
theorem dX12_kinOf_47 : decode cX12_kinOf 47 = .ok (.iload_n 2, 1) := by decide +kernel
theorem dX12_kinOf_48 : decode cX12_kinOf 48 = .ok (.iload_n 2, 1) := by decide +kernel
theorem dX12_kinOf_49 : decode cX12_kinOf 49 = .ok (.iload 4, 2) := by decide +kernel
theorem dX12_kinOf_51 : decode cX12_kinOf 51 = .ok (.ishr, 1) := by decide +kernel
theorem dX12_kinOf_52 : decode cX12_kinOf 52 = .ok (.iconst 1, 1) := by decide +kernel
theorem dX12_kinOf_53 : decode cX12_kinOf 53 = .ok (.iand, 1) := by decide +kernel
theorem dX12_kinOf_54 : decode cX12_kinOf 54 = .ok (.iconst 1, 1) := by decide +kernel
theorem dX12_kinOf_55 : decode cX12_kinOf 55 = .ok (.if_icmp .ne 21, 3) := by decide +kernel
theorem dX12_kinOf_58 : decode cX12_kinOf 58 = .ok (.aload_n 0, 1) := by decide +kernel
theorem dX12_kinOf_59 : decode cX12_kinOf 59 = .ok (.iload 4, 2) := by decide +kernel
theorem dX12_kinOf_61 : decode cX12_kinOf 61 = .ok (.iload 5, 2) := by decide +kernel
theorem dX12_kinOf_63 : decode cX12_kinOf 63 = .ok (.invokevirtual 247, 3) := by decide +kernel
theorem dX12_kinOf_66 : decode cX12_kinOf 66 = .ok (.ifCond .eq 10, 3) := by decide +kernel
theorem dX12_kinOf_69 : decode cX12_kinOf 69 = .ok (.iconst 1, 1) := by decide +kernel
theorem dX12_kinOf_70 : decode cX12_kinOf 70 = .ok (.iload 5, 2) := by decide +kernel
theorem dX12_kinOf_72 : decode cX12_kinOf 72 = .ok (.ishl, 1) := by decide +kernel
theorem dX12_kinOf_73 : decode cX12_kinOf 73 = .ok (.goto 4, 3) := by decide +kernel
theorem dX12_kinOf_76 : decode cX12_kinOf 76 = .ok (.iconst 0, 1) := by decide +kernel
theorem dX12_kinOf_77 : decode cX12_kinOf 77 = .ok (.ior, 1) := by decide +kernel
theorem dX12_kinOf_78 : decode cX12_kinOf 78 = .ok (.istore_n 2, 1) := by decide +kernel
theorem dX12_kinOf_79 : decode cX12_kinOf 79 = .ok (.iinc 5 1, 3) := by decide +kernel
theorem dX12_kinOf_82 : decode cX12_kinOf 82 = .ok (.goto (-47), 3) := by decide +kernel
theorem dX12_kinOf_85 : decode cX12_kinOf 85 = .ok (.iinc 4 1, 3) := by decide +kernel
theorem dX12_kinOf_88 : decode cX12_kinOf 88 = .ok (.goto (-68), 3) := by decide +kernel
theorem dX12_kinOf_91 : decode cX12_kinOf 91 = .ok (.iinc 3 1, 3) := by decide +kernel
theorem dX12_kinOf_94 : decode cX12_kinOf 94 = .ok (.goto (-88), 3) := by decide +kernel
theorem dX12_kinOf_97 : decode cX12_kinOf 97 = .ok (.aload_n 0, 1) := by decide +kernel
theorem dX12_kinOf_98 : decode cX12_kinOf 98 = .ok (.iload_n 1, 1) := by decide +kernel
theorem dX12_kinOf_99 : decode cX12_kinOf 99 = .ok (.iconst 5, 1) := by decide +kernel
theorem dX12_kinOf_100 : decode cX12_kinOf 100 = .ok (.invokevirtual 79, 3) := by decide +kernel
theorem dX12_kinOf_103 : decode cX12_kinOf 103 = .ok (.iconst 1, 1) := by decide +kernel
theorem dX12_kinOf_104 : decode cX12_kinOf 104 = .ok (.if_icmp .ne 7, 3) := by decide +kernel
theorem dX12_kinOf_107 : decode cX12_kinOf 107 = .ok (.iconst 0, 1) := by decide +kernel
theorem dX12_kinOf_108 : decode cX12_kinOf 108 = .ok (.goto 4, 3) := by decide +kernel
theorem dX12_kinOf_111 : decode cX12_kinOf 111 = .ok (.iload_n 2, 1) := by decide +kernel
theorem dX12_kinOf_112 : decode cX12_kinOf 112 = .ok (.ireturn, 1) := by decide +kernel
theorem dX12_kin_0 : decode cX12_kin 0 = .ok (.iload_n 1, 1) := by decide +kernel
theorem dX12_kin_1 : decode cX12_kin 1 = .ok (.iconst (-1), 1) := by decide +kernel
theorem dX12_kin_2 : decode cX12_kin 2 = .ok (.if_icmp .eq 13, 3) := by decide +kernel
theorem dX12_kin_5 : decode cX12_kin 5 = .ok (.aload_n 0, 1) := by decide +kernel
theorem dX12_kin_6 : decode cX12_kin 6 = .ok (.iload_n 1, 1) := by decide +kernel
theorem dX12_kin_7 : decode cX12_kin 7 = .ok (.invokevirtual 220, 3) := by decide +kernel
theorem dX12_kin_10 : decode cX12_kin 10 = .ok (.ifCond .ne 5, 3) := by decide +kernel
theorem dX12_kin_13 : decode cX12_kin 13 = .ok (.iconst (-1), 1) := by decide +kernel
theorem dX12_kin_14 : decode cX12_kin 14 = .ok (.ireturn, 1) := by decide +kernel
theorem dX12_kin_15 : decode cX12_kin 15 = .ok (.iload_n 1, 1) := by decide +kernel
theorem dX12_kin_16 : decode cX12_kin 16 = .ok (.ifCond .lt 9, 3) := by decide +kernel
theorem dX12_kin_19 : decode cX12_kin 19 = .ok (.aload_n 0, 1) := by decide +kernel
theorem dX12_kin_20 : decode cX12_kin 20 = .ok (.iload_n 1, 1) := by decide +kernel
theorem dX12_kin_21 : decode cX12_kin 21 = .ok (.invokevirtual 250, 3) := by decide +kernel
theorem dX12_kin_24 : decode cX12_kin 24 = .ok (.ireturn, 1) := by decide +kernel
theorem dX12_kin_25 : decode cX12_kin 25 = .ok (.iconst 0, 1) := by decide +kernel
theorem dX12_kin_26 : decode cX12_kin 26 = .ok (.istore_n 2, 1) := by decide +kernel
theorem dX12_kin_27 : decode cX12_kin 27 = .ok (.iconst 0, 1) := by decide +kernel
theorem dX12_kin_28 : decode cX12_kin 28 = .ok (.istore_n 3, 1) := by decide +kernel
theorem dX12_kin_29 : decode cX12_kin 29 = .ok (.iload_n 3, 1) := by decide +kernel
theorem dX12_kin_30 : decode cX12_kin 30 = .ok (.aload_n 0, 1) := by decide +kernel
theorem dX12_kin_31 : decode cX12_kin 31 = .ok (.getfield 9, 3) := by decide +kernel
theorem dX12_kin_34 : decode cX12_kin 34 = .ok (.bipush 6, 2) := by decide +kernel
theorem dX12_kin_36 : decode cX12_kin 36 = .ok (.iaload, 1) := by decide +kernel
theorem dX12_kin_37 : decode cX12_kin 37 = .ok (.if_icmp .ge 38, 3) := by decide +kernel
theorem dX12_kin_40 : decode cX12_kin 40 = .ok (.aload_n 0, 1) := by decide +kernel
theorem dX12_kin_41 : decode cX12_kin 41 = .ok (.iload_n 3, 1) := by decide +kernel
theorem dX12_kin_42 : decode cX12_kin 42 = .ok (.invokevirtual 250, 3) := by decide +kernel
theorem dX12_kin_45 : decode cX12_kin 45 = .ok (.istore 4, 2) := by decide +kernel
theorem dX12_kin_47 : decode cX12_kin 47 = .ok (.iload_n 2, 1) := by decide +kernel
theorem dX12_kin_48 : decode cX12_kin 48 = .ok (.iload 4, 2) := by decide +kernel
theorem dX12_kin_50 : decode cX12_kin 50 = .ok (.ifCond .eq 16, 3) := by decide +kernel
theorem dX12_kin_53 : decode cX12_kin 53 = .ok (.iload 4, 2) := by decide +kernel
theorem dX12_kin_55 : decode cX12_kin 55 = .ok (.iconst 1, 1) := by decide +kernel
theorem dX12_kin_56 : decode cX12_kin 56 = .ok (.iload_n 3, 1) := by decide +kernel
theorem dX12_kin_57 : decode cX12_kin 57 = .ok (.ishl, 1) := by decide +kernel
theorem dX12_kin_58 : decode cX12_kin 58 = .ok (.irem, 1) := by decide +kernel
theorem dX12_kin_59 : decode cX12_kin 59 = .ok (.ifCond .ne 7, 3) := by decide +kernel
theorem dX12_kin_62 : decode cX12_kin 62 = .ok (.iconst 1, 1) := by decide +kernel
theorem dX12_kin_63 : decode cX12_kin 63 = .ok (.goto 4, 3) := by decide +kernel
theorem dX12_kin_66 : decode cX12_kin 66 = .ok (.iconst 0, 1) := by decide +kernel
theorem dX12_kin_67 : decode cX12_kin 67 = .ok (.iadd, 1) := by decide +kernel
theorem dX12_kin_68 : decode cX12_kin 68 = .ok (.istore_n 2, 1) := by decide +kernel
theorem dX12_kin_69 : decode cX12_kin 69 = .ok (.iinc 3 1, 3) := by decide +kernel
theorem dX12_kin_72 : decode cX12_kin 72 = .ok (.goto (-43), 3) := by decide +kernel
theorem dX12_kin_75 : decode cX12_kin 75 = .ok (.iload_n 2, 1) := by decide +kernel
theorem dX12_kin_76 : decode cX12_kin 76 = .ok (.ireturn, 1) := by decide +kernel
theorem dX12_goesRound_0 : decode cX12_goesRound 0 = .ok (.iload_n 1, 1) := by decide +kernel
theorem dX12_goesRound_1 : decode cX12_goesRound 1 = .ok (.ifCond .ne 30, 3) := by decide +kernel
theorem dX12_goesRound_4 : decode cX12_goesRound 4 = .ok (.aload_n 0, 1) := by decide +kernel
theorem dX12_goesRound_5 : decode cX12_goesRound 5 = .ok (.getfield 253, 3) := by decide +kernel
theorem dX12_goesRound_8 : decode cX12_goesRound 8 = .ok (.ifCond .lt 11, 3) := by decide +kernel
theorem dX12_goesRound_11 : decode cX12_goesRound 11 = .ok (.iload_n 3, 1) := by decide +kernel
theorem dX12_goesRound_12 : decode cX12_goesRound 12 = .ok (.aload_n 0, 1) := by decide +kernel
theorem dX12_goesRound_13 : decode cX12_goesRound 13 = .ok (.getfield 253, 3) := by decide +kernel
theorem dX12_goesRound_16 : decode cX12_goesRound 16 = .ok (.if_icmp .ge 14, 3) := by decide +kernel
theorem dX12_goesRound_19 : decode cX12_goesRound 19 = .ok (.aload_n 0, 1) := by decide +kernel
theorem dX12_goesRound_20 : decode cX12_goesRound 20 = .ok (.iload_n 3, 1) := by decide +kernel
theorem dX12_goesRound_21 : decode cX12_goesRound 21 = .ok (.putfield 253, 3) := by decide +kernel
theorem dX12_goesRound_24 : decode cX12_goesRound 24 = .ok (.aload_n 0, 1) := by decide +kernel
theorem dX12_goesRound_25 : decode cX12_goesRound 25 = .ok (.iload 4, 2) := by decide +kernel
theorem dX12_goesRound_27 : decode cX12_goesRound 27 = .ok (.putfield 256, 3) := by decide +kernel
theorem dX12_goesRound_30 : decode cX12_goesRound 30 = .ok (.return_, 1) := by decide +kernel
theorem dX12_goesRound_31 : decode cX12_goesRound 31 = .ok (.iconst 0, 1) := by decide +kernel
theorem dX12_goesRound_32 : decode cX12_goesRound 32 = .ok (.istore 5, 2) := by decide +kernel
theorem dX12_goesRound_34 : decode cX12_goesRound 34 = .ok (.iload 5, 2) := by decide +kernel
theorem dX12_goesRound_36 : decode cX12_goesRound 36 = .ok (.aload_n 0, 1) := by decide +kernel
theorem dX12_goesRound_37 : decode cX12_goesRound 37 = .ok (.getfield 9, 3) := by decide +kernel
theorem dX12_goesRound_40 : decode cX12_goesRound 40 = .ok (.bipush 6, 2) := by decide +kernel
theorem dX12_goesRound_42 : decode cX12_goesRound 42 = .ok (.iaload, 1) := by decide +kernel
theorem dX12_goesRound_43 : decode cX12_goesRound 43 = .ok (.if_icmp .ge 89, 3) := by decide +kernel
theorem dX12_goesRound_46 : decode cX12_goesRound 46 = .ok (.iload_n 1, 1) := by decide +kernel
theorem dX12_goesRound_47 : decode cX12_goesRound 47 = .ok (.iload 5, 2) := by decide +kernel
theorem dX12_goesRound_49 : decode cX12_goesRound 49 = .ok (.ishr, 1) := by decide +kernel
theorem dX12_goesRound_50 : decode cX12_goesRound 50 = .ok (.iconst 1, 1) := by decide +kernel
theorem dX12_goesRound_51 : decode cX12_goesRound 51 = .ok (.iand, 1) := by decide +kernel
theorem dX12_goesRound_52 : decode cX12_goesRound 52 = .ok (.iconst 1, 1) := by decide +kernel
theorem dX12_goesRound_53 : decode cX12_goesRound 53 = .ok (.if_icmp .ne 73, 3) := by decide +kernel
theorem dX12_goesRound_56 : decode cX12_goesRound 56 = .ok (.aload_n 0, 1) := by decide +kernel
theorem dX12_goesRound_57 : decode cX12_goesRound 57 = .ok (.iload 5, 2) := by decide +kernel
theorem dX12_goesRound_59 : decode cX12_goesRound 59 = .ok (.iconst 3, 1) := by decide +kernel
theorem dX12_goesRound_60 : decode cX12_goesRound 60 = .ok (.invokevirtual 79, 3) := by decide +kernel
theorem dX12_goesRound_63 : decode cX12_goesRound 63 = .ok (.bipush 6, 2) := by decide +kernel
theorem dX12_goesRound_65 : decode cX12_goesRound 65 = .ok (.iadd, 1) := by decide +kernel
theorem dX12_goesRound_66 : decode cX12_goesRound 66 = .ok (.iload_n 2, 1) := by decide +kernel
theorem dX12_goesRound_67 : decode cX12_goesRound 67 = .ok (.isub, 1) := by decide +kernel
theorem dX12_goesRound_68 : decode cX12_goesRound 68 = .ok (.bipush 6, 2) := by decide +kernel
theorem dX12_goesRound_70 : decode cX12_goesRound 70 = .ok (.irem, 1) := by decide +kernel
theorem dX12_goesRound_71 : decode cX12_goesRound 71 = .ok (.istore 6, 2) := by decide +kernel
theorem dX12_goesRound_73 : decode cX12_goesRound 73 = .ok (.iload 6, 2) := by decide +kernel
theorem dX12_goesRound_75 : decode cX12_goesRound 75 = .ok (.iconst 3, 1) := by decide +kernel
theorem dX12_goesRound_76 : decode cX12_goesRound 76 = .ok (.if_icmp .le 11, 3) := by decide +kernel
theorem dX12_goesRound_79 : decode cX12_goesRound 79 = .ok (.bipush 6, 2) := by decide +kernel
theorem dX12_goesRound_81 : decode cX12_goesRound 81 = .ok (.iload 6, 2) := by decide +kernel
theorem dX12_goesRound_83 : decode cX12_goesRound 83 = .ok (.isub, 1) := by decide +kernel
theorem dX12_goesRound_84 : decode cX12_goesRound 84 = .ok (.goto 5, 3) := by decide +kernel
theorem dX12_goesRound_87 : decode cX12_goesRound 87 = .ok (.iload 6, 2) := by decide +kernel
theorem dX12_goesRound_89 : decode cX12_goesRound 89 = .ok (.istore 7, 2) := by decide +kernel
theorem dX12_goesRound_91 : decode cX12_goesRound 91 = .ok (.aload_n 0, 1) := by decide +kernel
theorem dX12_goesRound_92 : decode cX12_goesRound 92 = .ok (.iload_n 1, 1) := by decide +kernel
theorem dX12_goesRound_93 : decode cX12_goesRound 93 = .ok (.iconst 1, 1) := by decide +kernel
theorem dX12_goesRound_94 : decode cX12_goesRound 94 = .ok (.iload 5, 2) := by decide +kernel
theorem dX12_goesRound_96 : decode cX12_goesRound 96 = .ok (.ishl, 1) := by decide +kernel
theorem dX12_goesRound_97 : decode cX12_goesRound 97 = .ok (.iconst (-1), 1) := by decide +kernel
theorem dX12_goesRound_98 : decode cX12_goesRound 98 = .ok (.ixor, 1) := by decide +kernel
theorem dX12_goesRound_99 : decode cX12_goesRound 99 = .ok (.iand, 1) := by decide +kernel
theorem dX12_goesRound_100 : decode cX12_goesRound 100 = .ok (.aload_n 0, 1) := by decide +kernel
theorem dX12_goesRound_101 : decode cX12_goesRound 101 = .ok (.iload 5, 2) := by decide +kernel
theorem dX12_goesRound_103 : decode cX12_goesRound 103 = .ok (.iconst 3, 1) := by decide +kernel
theorem dX12_goesRound_104 : decode cX12_goesRound 104 = .ok (.invokevirtual 79, 3) := by decide +kernel
theorem dX12_goesRound_107 : decode cX12_goesRound 107 = .ok (.iload_n 3, 1) := by decide +kernel
theorem dX12_goesRound_108 : decode cX12_goesRound 108 = .ok (.iload 7, 2) := by decide +kernel
theorem dX12_goesRound_110 : decode cX12_goesRound 110 = .ok (.iadd, 1) := by decide +kernel
theorem dX12_goesRound_111 : decode cX12_goesRound 111 = .ok (.iload 4, 2) := by decide +kernel
theorem dX12_goesRound_113 : decode cX12_goesRound 113 = .ok (.ifCond .ge 8, 3) := by decide +kernel
theorem dX12_goesRound_116 : decode cX12_goesRound 116 = .ok (.iload 5, 2) := by decide +kernel
theorem dX12_goesRound_118 : decode cX12_goesRound 118 = .ok (.goto 5, 3) := by decide +kernel
theorem dX12_goesRound_121 : decode cX12_goesRound 121 = .ok (.iload 4, 2) := by decide +kernel
theorem dX12_goesRound_123 : decode cX12_goesRound 123 = .ok (.invokevirtual 259, 3) := by decide +kernel
theorem dX12_goesRound_126 : decode cX12_goesRound 126 = .ok (.iinc 5 1, 3) := by decide +kernel
theorem dX12_goesRound_129 : decode cX12_goesRound 129 = .ok (.goto (-95), 3) := by decide +kernel
theorem dX12_goesRound_132 : decode cX12_goesRound 132 = .ok (.return_, 1) := by decide +kernel
theorem dX12_walk_0 : decode cX12_walk 0 = .ok (.iload_n 1, 1) := by decide +kernel
theorem dX12_walk_1 : decode cX12_walk 1 = .ok (.invokestatic 217, 3) := by decide +kernel
theorem dX12_walk_4 : decode cX12_walk 4 = .ok (.ifCond .eq 12, 3) := by decide +kernel
theorem dX12_walk_7 : decode cX12_walk 7 = .ok (.iload_n 2, 1) := by decide +kernel
theorem dX12_walk_8 : decode cX12_walk 8 = .ok (.iconst 0, 1) := by decide +kernel
theorem dX12_walk_9 : decode cX12_walk 9 = .ok (.iconst 1, 1) := by decide +kernel
theorem dX12_walk_10 : decode cX12_walk 10 = .ok (.invokestatic 71, 3) := by decide +kernel
theorem dX12_walk_13 : decode cX12_walk 13 = .ok (.ifCond .ne 5, 3) := by decide +kernel
theorem dX12_walk_16 : decode cX12_walk 16 = .ok (.iconst (-1), 1) := by decide +kernel
theorem dX12_walk_17 : decode cX12_walk 17 = .ok (.ireturn, 1) := by decide +kernel
theorem dX12_walk_18 : decode cX12_walk 18 = .ok (.iconst 1, 1) := by decide +kernel
theorem dX12_walk_19 : decode cX12_walk 19 = .ok (.aload_n 0, 1) := by decide +kernel
theorem dX12_walk_20 : decode cX12_walk 20 = .ok (.getfield 9, 3) := by decide +kernel
theorem dX12_walk_23 : decode cX12_walk 23 = .ok (.bipush 6, 2) := by decide +kernel
theorem dX12_walk_25 : decode cX12_walk 25 = .ok (.iaload, 1) := by decide +kernel
theorem dX12_walk_26 : decode cX12_walk 26 = .ok (.ishl, 1) := by decide +kernel
theorem dX12_walk_27 : decode cX12_walk 27 = .ok (.iconst 1, 1) := by decide +kernel
theorem dX12_walk_28 : decode cX12_walk 28 = .ok (.isub, 1) := by decide +kernel
theorem dX12_walk_29 : decode cX12_walk 29 = .ok (.aload_n 0, 1) := by decide +kernel
theorem dX12_walk_30 : decode cX12_walk 30 = .ok (.iconst 5, 1) := by decide +kernel
theorem dX12_walk_31 : decode cX12_walk 31 = .ok (.invokevirtual 229, 3) := by decide +kernel
theorem dX12_walk_34 : decode cX12_walk 34 = .ok (.iconst (-1), 1) := by decide +kernel
theorem dX12_walk_35 : decode cX12_walk 35 = .ok (.ixor, 1) := by decide +kernel
theorem dX12_walk_36 : decode cX12_walk 36 = .ok (.iand, 1) := by decide +kernel
theorem dX12_walk_37 : decode cX12_walk 37 = .ok (.istore_n 3, 1) := by decide +kernel
theorem dX12_walk_38 : decode cX12_walk 38 = .ok (.aload_n 0, 1) := by decide +kernel
theorem dX12_walk_39 : decode cX12_walk 39 = .ok (.iconst (-1), 1) := by decide +kernel
theorem dX12_walk_40 : decode cX12_walk 40 = .ok (.putfield 253, 3) := by decide +kernel
theorem dX12_walk_43 : decode cX12_walk 43 = .ok (.aload_n 0, 1) := by decide +kernel
theorem dX12_walk_44 : decode cX12_walk 44 = .ok (.iload_n 3, 1) := by decide +kernel
theorem dX12_walk_45 : decode cX12_walk 45 = .ok (.iload_n 1, 1) := by decide +kernel
theorem dX12_walk_46 : decode cX12_walk 46 = .ok (.iconst 0, 1) := by decide +kernel
theorem dX12_walk_47 : decode cX12_walk 47 = .ok (.iconst (-1), 1) := by decide +kernel
theorem dX12_walk_48 : decode cX12_walk 48 = .ok (.invokevirtual 259, 3) := by decide +kernel
theorem dX12_walk_51 : decode cX12_walk 51 = .ok (.iload_n 2, 1) := by decide +kernel
theorem dX12_walk_52 : decode cX12_walk 52 = .ok (.ifCond .ne 10, 3) := by decide +kernel
theorem dX12_walk_55 : decode cX12_walk 55 = .ok (.aload_n 0, 1) := by decide +kernel
theorem dX12_walk_56 : decode cX12_walk 56 = .ok (.getfield 253, 3) := by decide +kernel
theorem dX12_walk_59 : decode cX12_walk 59 = .ok (.goto 16, 3) := by decide +kernel
theorem dX12_walk_62 : decode cX12_walk 62 = .ok (.iload_n 3, 1) := by decide +kernel
theorem dX12_walk_63 : decode cX12_walk 63 = .ok (.ifCond .ne 8, 3) := by decide +kernel
theorem dX12_walk_66 : decode cX12_walk 66 = .ok (.bipush (-3), 2) := by decide +kernel
theorem dX12_walk_68 : decode cX12_walk 68 = .ok (.goto 7, 3) := by decide +kernel
theorem dX12_walk_71 : decode cX12_walk 71 = .ok (.aload_n 0, 1) := by decide +kernel
theorem dX12_walk_72 : decode cX12_walk 72 = .ok (.getfield 256, 3) := by decide +kernel
theorem dX12_walk_75 : decode cX12_walk 75 = .ok (.ireturn, 1) := by decide +kernel
theorem dX12_saves_0 : decode cX12_saves 0 = .ok (.iconst 0, 1) := by decide +kernel
theorem dX12_saves_1 : decode cX12_saves 1 = .ok (.istore_n 2, 1) := by decide +kernel
theorem dX12_saves_2 : decode cX12_saves 2 = .ok (.iload_n 2, 1) := by decide +kernel
theorem dX12_saves_3 : decode cX12_saves 3 = .ok (.bipush 74, 2) := by decide +kernel
theorem dX12_saves_5 : decode cX12_saves 5 = .ok (.if_icmp .ge 26, 3) := by decide +kernel
theorem dX12_saves_8 : decode cX12_saves 8 = .ok (.aload_n 0, 1) := by decide +kernel
theorem dX12_saves_9 : decode cX12_saves 9 = .ok (.getfield 35, 3) := by decide +kernel
theorem dX12_saves_12 : decode cX12_saves 12 = .ok (.bipush 74, 2) := by decide +kernel
theorem dX12_saves_14 : decode cX12_saves 14 = .ok (.iload_n 1, 1) := by decide +kernel
theorem dX12_saves_15 : decode cX12_saves 15 = .ok (.imul, 1) := by decide +kernel
theorem dX12_saves_16 : decode cX12_saves 16 = .ok (.iload_n 2, 1) := by decide +kernel
theorem dX12_saves_17 : decode cX12_saves 17 = .ok (.iadd, 1) := by decide +kernel
theorem dX12_saves_18 : decode cX12_saves 18 = .ok (.aload_n 0, 1) := by decide +kernel
theorem dX12_saves_19 : decode cX12_saves 19 = .ok (.getfield 9, 3) := by decide +kernel
theorem dX12_saves_22 : decode cX12_saves 22 = .ok (.iload_n 2, 1) := by decide +kernel
theorem dX12_saves_23 : decode cX12_saves 23 = .ok (.iaload, 1) := by decide +kernel
theorem dX12_saves_24 : decode cX12_saves 24 = .ok (.iastore, 1) := by decide +kernel
theorem dX12_saves_25 : decode cX12_saves 25 = .ok (.iinc 2 1, 3) := by decide +kernel
theorem dX12_saves_28 : decode cX12_saves 28 = .ok (.goto (-26), 3) := by decide +kernel
theorem dX12_saves_31 : decode cX12_saves 31 = .ok (.return_, 1) := by decide +kernel
theorem dX12_restores_0 : decode cX12_restores 0 = .ok (.iconst 0, 1) := by decide +kernel
theorem dX12_restores_1 : decode cX12_restores 1 = .ok (.istore_n 2, 1) := by decide +kernel
theorem dX12_restores_2 : decode cX12_restores 2 = .ok (.iload_n 2, 1) := by decide +kernel
theorem dX12_restores_3 : decode cX12_restores 3 = .ok (.bipush 74, 2) := by decide +kernel
theorem dX12_restores_5 : decode cX12_restores 5 = .ok (.if_icmp .ge 26, 3) := by decide +kernel
theorem dX12_restores_8 : decode cX12_restores 8 = .ok (.aload_n 0, 1) := by decide +kernel
theorem dX12_restores_9 : decode cX12_restores 9 = .ok (.getfield 9, 3) := by decide +kernel
theorem dX12_restores_12 : decode cX12_restores 12 = .ok (.iload_n 2, 1) := by decide +kernel
theorem dX12_restores_13 : decode cX12_restores 13 = .ok (.aload_n 0, 1) := by decide +kernel
theorem dX12_restores_14 : decode cX12_restores 14 = .ok (.getfield 35, 3) := by decide +kernel
theorem dX12_restores_17 : decode cX12_restores 17 = .ok (.bipush 74, 2) := by decide +kernel
theorem dX12_restores_19 : decode cX12_restores 19 = .ok (.iload_n 1, 1) := by decide +kernel
theorem dX12_restores_20 : decode cX12_restores 20 = .ok (.imul, 1) := by decide +kernel
theorem dX12_restores_21 : decode cX12_restores 21 = .ok (.iload_n 2, 1) := by decide +kernel
theorem dX12_restores_22 : decode cX12_restores 22 = .ok (.iadd, 1) := by decide +kernel
theorem dX12_restores_23 : decode cX12_restores 23 = .ok (.iaload, 1) := by decide +kernel
theorem dX12_restores_24 : decode cX12_restores 24 = .ok (.iastore, 1) := by decide +kernel
theorem dX12_restores_25 : decode cX12_restores 25 = .ok (.iinc 2 1, 3) := by decide +kernel
theorem dX12_restores_28 : decode cX12_restores 28 = .ok (.goto (-26), 3) := by decide +kernel
theorem dX12_restores_31 : decode cX12_restores 31 = .ok (.return_, 1) := by decide +kernel
theorem dX12_daysOf_0 : decode cX12_daysOf 0 = .ok (.aload_n 0, 1) := by decide +kernel
theorem dX12_daysOf_1 : decode cX12_daysOf 1 = .ok (.invokevirtual 226, 3) := by decide +kernel
theorem dX12_daysOf_4 : decode cX12_daysOf 4 = .ok (.ifCond .eq 7, 3) := by decide +kernel
theorem dX12_daysOf_7 : decode cX12_daysOf 7 = .ok (.iconst 0, 1) := by decide +kernel
theorem dX12_daysOf_8 : decode cX12_daysOf 8 = .ok (.goto 16, 3) := by decide +kernel
theorem dX12_daysOf_11 : decode cX12_daysOf 11 = .ok (.aload_n 0, 1) := by decide +kernel
theorem dX12_daysOf_12 : decode cX12_daysOf 12 = .ok (.getfield 9, 3) := by decide +kernel
theorem dX12_daysOf_15 : decode cX12_daysOf 15 = .ok (.iconst 1, 1) := by decide +kernel
theorem dX12_daysOf_16 : decode cX12_daysOf 16 = .ok (.iaload, 1) := by decide +kernel
theorem dX12_daysOf_17 : decode cX12_daysOf 17 = .ok (.aload_n 0, 1) := by decide +kernel
theorem dX12_daysOf_18 : decode cX12_daysOf 18 = .ok (.getfield 9, 3) := by decide +kernel
theorem dX12_daysOf_21 : decode cX12_daysOf 21 = .ok (.iconst 0, 1) := by decide +kernel
theorem dX12_daysOf_22 : decode cX12_daysOf 22 = .ok (.iaload, 1) := by decide +kernel
theorem dX12_daysOf_23 : decode cX12_daysOf 23 = .ok (.isub, 1) := by decide +kernel
theorem dX12_daysOf_24 : decode cX12_daysOf 24 = .ok (.istore_n 2, 1) := by decide +kernel
theorem dX12_daysOf_25 : decode cX12_daysOf 25 = .ok (.iload_n 1, 1) := by decide +kernel
theorem dX12_daysOf_26 : decode cX12_daysOf 26 = .ok (.iload_n 2, 1) := by decide +kernel
theorem dX12_daysOf_27 : decode cX12_daysOf 27 = .ok (.if_icmp .ge 7, 3) := by decide +kernel
theorem dX12_daysOf_30 : decode cX12_daysOf 30 = .ok (.iload_n 1, 1) := by decide +kernel
theorem dX12_daysOf_31 : decode cX12_daysOf 31 = .ok (.goto 4, 3) := by decide +kernel
theorem dX12_daysOf_34 : decode cX12_daysOf 34 = .ok (.iload_n 2, 1) := by decide +kernel
theorem dX12_daysOf_35 : decode cX12_daysOf 35 = .ok (.ireturn, 1) := by decide +kernel
theorem dX12_endsPlan_0 : decode cX12_endsPlan 0 = .ok (.iload_n 2, 1) := by decide +kernel
theorem dX12_endsPlan_1 : decode cX12_endsPlan 1 = .ok (.aload_n 0, 1) := by decide +kernel
theorem dX12_endsPlan_2 : decode cX12_endsPlan 2 = .ok (.getfield 263, 3) := by decide +kernel
theorem dX12_endsPlan_5 : decode cX12_endsPlan 5 = .ok (.if_icmp .le 42, 3) := by decide +kernel
theorem dX12_endsPlan_8 : decode cX12_endsPlan 8 = .ok (.aload_n 0, 1) := by decide +kernel
theorem dX12_endsPlan_9 : decode cX12_endsPlan 9 = .ok (.iconst 0, 1) := by decide +kernel
theorem dX12_endsPlan_10 : decode cX12_endsPlan 10 = .ok (.putfield 266, 3) := by decide +kernel
theorem dX12_endsPlan_13 : decode cX12_endsPlan 13 = .ok (.aload_n 0, 1) := by decide +kernel
theorem dX12_endsPlan_14 : decode cX12_endsPlan 14 = .ok (.iload_n 2, 1) := by decide +kernel
theorem dX12_endsPlan_15 : decode cX12_endsPlan 15 = .ok (.putfield 263, 3) := by decide +kernel
theorem dX12_endsPlan_18 : decode cX12_endsPlan 18 = .ok (.iconst 0, 1) := by decide +kernel
theorem dX12_endsPlan_19 : decode cX12_endsPlan 19 = .ok (.istore 5, 2) := by decide +kernel
theorem dX12_endsPlan_21 : decode cX12_endsPlan 21 = .ok (.iload 5, 2) := by decide +kernel
theorem dX12_endsPlan_23 : decode cX12_endsPlan 23 = .ok (.iload_n 1, 1) := by decide +kernel
theorem dX12_endsPlan_24 : decode cX12_endsPlan 24 = .ok (.if_icmp .ge 23, 3) := by decide +kernel
theorem dX12_endsPlan_27 : decode cX12_endsPlan 27 = .ok (.aload_n 0, 1) := by decide +kernel
theorem dX12_endsPlan_28 : decode cX12_endsPlan 28 = .ok (.getfield 41, 3) := by decide +kernel
theorem dX12_endsPlan_31 : decode cX12_endsPlan 31 = .ok (.iload 5, 2) := by decide +kernel
theorem dX12_endsPlan_33 : decode cX12_endsPlan 33 = .ok (.aload_n 0, 1) := by decide +kernel
theorem dX12_endsPlan_34 : decode cX12_endsPlan 34 = .ok (.getfield 38, 3) := by decide +kernel
theorem dX12_endsPlan_37 : decode cX12_endsPlan 37 = .ok (.iload 5, 2) := by decide +kernel
theorem dX12_endsPlan_39 : decode cX12_endsPlan 39 = .ok (.iaload, 1) := by decide +kernel
theorem dX12_endsPlan_40 : decode cX12_endsPlan 40 = .ok (.iastore, 1) := by decide +kernel
theorem dX12_endsPlan_41 : decode cX12_endsPlan 41 = .ok (.iinc 5 1, 3) := by decide +kernel
theorem dX12_endsPlan_44 : decode cX12_endsPlan 44 = .ok (.goto (-23), 3) := by decide +kernel
theorem dX12_endsPlan_47 : decode cX12_endsPlan 47 = .ok (.aload_n 0, 1) := by decide +kernel
theorem dX12_endsPlan_48 : decode cX12_endsPlan 48 = .ok (.dup, 1) := by decide +kernel
theorem dX12_endsPlan_49 : decode cX12_endsPlan 49 = .ok (.getfield 266, 3) := by decide +kernel
theorem dX12_endsPlan_52 : decode cX12_endsPlan 52 = .ok (.iload_n 2, 1) := by decide +kernel
theorem dX12_endsPlan_53 : decode cX12_endsPlan 53 = .ok (.aload_n 0, 1) := by decide +kernel
theorem dX12_endsPlan_54 : decode cX12_endsPlan 54 = .ok (.getfield 263, 3) := by decide +kernel
theorem dX12_endsPlan_57 : decode cX12_endsPlan 57 = .ok (.if_icmp .ne 7, 3) := by decide +kernel
theorem dX12_endsPlan_60 : decode cX12_endsPlan 60 = .ok (.iconst 1, 1) := by decide +kernel
theorem dX12_endsPlan_61 : decode cX12_endsPlan 61 = .ok (.goto 4, 3) := by decide +kernel
theorem dX12_endsPlan_64 : decode cX12_endsPlan 64 = .ok (.iconst 0, 1) := by decide +kernel
theorem dX12_endsPlan_65 : decode cX12_endsPlan 65 = .ok (.iadd, 1) := by decide +kernel
theorem dX12_endsPlan_66 : decode cX12_endsPlan 66 = .ok (.putfield 266, 3) := by decide +kernel
theorem dX12_endsPlan_69 : decode cX12_endsPlan 69 = .ok (.aload_n 0, 1) := by decide +kernel
theorem dX12_endsPlan_70 : decode cX12_endsPlan 70 = .ok (.iconst 5, 1) := by decide +kernel
theorem dX12_endsPlan_71 : decode cX12_endsPlan 71 = .ok (.invokevirtual 229, 3) := by decide +kernel
theorem dX12_endsPlan_74 : decode cX12_endsPlan 74 = .ok (.istore 5, 2) := by decide +kernel
theorem dX12_endsPlan_76 : decode cX12_endsPlan 76 = .ok (.aload_n 0, 1) := by decide +kernel
theorem dX12_endsPlan_77 : decode cX12_endsPlan 77 = .ok (.iload 4, 2) := by decide +kernel
theorem dX12_endsPlan_79 : decode cX12_endsPlan 79 = .ok (.iload 5, 2) := by decide +kernel
theorem dX12_endsPlan_81 : decode cX12_endsPlan 81 = .ok (.iconst (-1), 1) := by decide +kernel
theorem dX12_endsPlan_82 : decode cX12_endsPlan 82 = .ok (.ixor, 1) := by decide +kernel
theorem dX12_endsPlan_83 : decode cX12_endsPlan 83 = .ok (.iand, 1) := by decide +kernel
theorem dX12_endsPlan_84 : decode cX12_endsPlan 84 = .ok (.ifCond .ne 15, 3) := by decide +kernel
theorem dX12_endsPlan_87 : decode cX12_endsPlan 87 = .ok (.iload_n 3, 1) := by decide +kernel
theorem dX12_endsPlan_88 : decode cX12_endsPlan 88 = .ok (.aload_n 0, 1) := by decide +kernel
theorem dX12_endsPlan_89 : decode cX12_endsPlan 89 = .ok (.getfield 269, 3) := by decide +kernel
theorem dX12_endsPlan_92 : decode cX12_endsPlan 92 = .ok (.if_icmp .ge 7, 3) := by decide +kernel
theorem dX12_endsPlan_95 : decode cX12_endsPlan 95 = .ok (.iload_n 3, 1) := by decide +kernel
theorem dX12_endsPlan_96 : decode cX12_endsPlan 96 = .ok (.goto 7, 3) := by decide +kernel
theorem dX12_endsPlan_99 : decode cX12_endsPlan 99 = .ok (.aload_n 0, 1) := by decide +kernel
theorem dX12_endsPlan_100 : decode cX12_endsPlan 100 = .ok (.getfield 269, 3) := by decide +kernel
theorem dX12_endsPlan_103 : decode cX12_endsPlan 103 = .ok (.putfield 269, 3) := by decide +kernel
theorem dX12_endsPlan_106 : decode cX12_endsPlan 106 = .ok (.aload_n 0, 1) := by decide +kernel
theorem dX12_endsPlan_107 : decode cX12_endsPlan 107 = .ok (.dup, 1) := by decide +kernel
theorem dX12_endsPlan_108 : decode cX12_endsPlan 108 = .ok (.getfield 272, 3) := by decide +kernel
theorem dX12_endsPlan_111 : decode cX12_endsPlan 111 = .ok (.iload 5, 2) := by decide +kernel
theorem dX12_endsPlan_113 : decode cX12_endsPlan 113 = .ok (.ior, 1) := by decide +kernel
theorem dX12_endsPlan_114 : decode cX12_endsPlan 114 = .ok (.putfield 272, 3) := by decide +kernel
theorem dX12_endsPlan_117 : decode cX12_endsPlan 117 = .ok (.return_, 1) := by decide +kernel
theorem dX12_goesPlans_0 : decode cX12_goesPlans 0 = .ok (.iload_n 1, 1) := by decide +kernel
theorem dX12_goesPlans_1 : decode cX12_goesPlans 1 = .ok (.iload_n 2, 1) := by decide +kernel
theorem dX12_goesPlans_2 : decode cX12_goesPlans 2 = .ok (.if_icmp .ne 14, 3) := by decide +kernel
theorem dX12_goesPlans_5 : decode cX12_goesPlans 5 = .ok (.aload_n 0, 1) := by decide +kernel
theorem dX12_goesPlans_6 : decode cX12_goesPlans 6 = .ok (.iload_n 2, 1) := by decide +kernel
theorem dX12_goesPlans_7 : decode cX12_goesPlans 7 = .ok (.iload_n 3, 1) := by decide +kernel
theorem dX12_goesPlans_8 : decode cX12_goesPlans 8 = .ok (.iload 4, 2) := by decide +kernel
theorem dX12_goesPlans_10 : decode cX12_goesPlans 10 = .ok (.iload 5, 2) := by decide +kernel
theorem dX12_goesPlans_12 : decode cX12_goesPlans 12 = .ok (.invokevirtual 275, 3) := by decide +kernel
theorem dX12_goesPlans_15 : decode cX12_goesPlans 15 = .ok (.return_, 1) := by decide +kernel
theorem dX12_goesPlans_16 : decode cX12_goesPlans 16 = .ok (.aload_n 0, 1) := by decide +kernel
theorem dX12_goesPlans_17 : decode cX12_goesPlans 17 = .ok (.iload_n 1, 1) := by decide +kernel
theorem dX12_goesPlans_18 : decode cX12_goesPlans 18 = .ok (.invokevirtual 278, 3) := by decide +kernel
theorem dX12_goesPlans_21 : decode cX12_goesPlans 21 = .ok (.iconst 0, 1) := by decide +kernel
theorem dX12_goesPlans_22 : decode cX12_goesPlans 22 = .ok (.istore 6, 2) := by decide +kernel
theorem dX12_goesPlans_24 : decode cX12_goesPlans 24 = .ok (.iload 6, 2) := by decide +kernel
theorem dX12_goesPlans_26 : decode cX12_goesPlans 26 = .ok (.aload_n 0, 1) := by decide +kernel
theorem dX12_goesPlans_27 : decode cX12_goesPlans 27 = .ok (.getfield 9, 3) := by decide +kernel
theorem dX12_goesPlans_30 : decode cX12_goesPlans 30 = .ok (.bipush 6, 2) := by decide +kernel
theorem dX12_goesPlans_32 : decode cX12_goesPlans 32 = .ok (.iaload, 1) := by decide +kernel
theorem dX12_goesPlans_33 : decode cX12_goesPlans 33 = .ok (.if_icmp .gt 58, 3) := by decide +kernel
theorem dX12_goesPlans_36 : decode cX12_goesPlans 36 = .ok (.aload_n 0, 1) := by decide +kernel
theorem dX12_goesPlans_37 : decode cX12_goesPlans 37 = .ok (.getfield 38, 3) := by decide +kernel
theorem dX12_goesPlans_40 : decode cX12_goesPlans 40 = .ok (.iload_n 1, 1) := by decide +kernel
theorem dX12_goesPlans_41 : decode cX12_goesPlans 41 = .ok (.iload 6, 2) := by decide +kernel
theorem dX12_goesPlans_43 : decode cX12_goesPlans 43 = .ok (.iastore, 1) := by decide +kernel
theorem dX12_goesPlans_44 : decode cX12_goesPlans 44 = .ok (.aload_n 0, 1) := by decide +kernel
theorem dX12_goesPlans_45 : decode cX12_goesPlans 45 = .ok (.iload 6, 2) := by decide +kernel
theorem dX12_goesPlans_47 : decode cX12_goesPlans 47 = .ok (.invokevirtual 232, 3) := by decide +kernel
theorem dX12_goesPlans_50 : decode cX12_goesPlans 50 = .ok (.istore 7, 2) := by decide +kernel
theorem dX12_goesPlans_52 : decode cX12_goesPlans 52 = .ok (.aload_n 0, 1) := by decide +kernel
theorem dX12_goesPlans_53 : decode cX12_goesPlans 53 = .ok (.iload_n 1, 1) := by decide +kernel
theorem dX12_goesPlans_54 : decode cX12_goesPlans 54 = .ok (.iconst 1, 1) := by decide +kernel
theorem dX12_goesPlans_55 : decode cX12_goesPlans 55 = .ok (.iadd, 1) := by decide +kernel
theorem dX12_goesPlans_56 : decode cX12_goesPlans 56 = .ok (.iload_n 2, 1) := by decide +kernel
theorem dX12_goesPlans_57 : decode cX12_goesPlans 57 = .ok (.iload_n 3, 1) := by decide +kernel
theorem dX12_goesPlans_58 : decode cX12_goesPlans 58 = .ok (.iload 7, 2) := by decide +kernel
theorem dX12_goesPlans_60 : decode cX12_goesPlans 60 = .ok (.iadd, 1) := by decide +kernel
theorem dX12_goesPlans_61 : decode cX12_goesPlans 61 = .ok (.iload 6, 2) := by decide +kernel
theorem dX12_goesPlans_63 : decode cX12_goesPlans 63 = .ok (.ifCond .le 10, 3) := by decide +kernel
theorem dX12_goesPlans_66 : decode cX12_goesPlans 66 = .ok (.iload 4, 2) := by decide +kernel
theorem dX12_goesPlans_68 : decode cX12_goesPlans 68 = .ok (.iconst 1, 1) := by decide +kernel
theorem dX12_goesPlans_69 : decode cX12_goesPlans 69 = .ok (.iadd, 1) := by decide +kernel
theorem dX12_goesPlans_70 : decode cX12_goesPlans 70 = .ok (.goto 5, 3) := by decide +kernel
theorem dX12_goesPlans_73 : decode cX12_goesPlans 73 = .ok (.iload 4, 2) := by decide +kernel
theorem dX12_goesPlans_75 : decode cX12_goesPlans 75 = .ok (.iload 5, 2) := by decide +kernel
theorem dX12_goesPlans_77 : decode cX12_goesPlans 77 = .ok (.invokevirtual 281, 3) := by decide +kernel
theorem dX12_goesPlans_80 : decode cX12_goesPlans 80 = .ok (.aload_n 0, 1) := by decide +kernel
theorem dX12_goesPlans_81 : decode cX12_goesPlans 81 = .ok (.iload_n 1, 1) := by decide +kernel
theorem dX12_goesPlans_82 : decode cX12_goesPlans 82 = .ok (.invokevirtual 285, 3) := by decide +kernel
theorem dX12_goesPlans_85 : decode cX12_goesPlans 85 = .ok (.iinc 6 1, 3) := by decide +kernel
theorem dX12_goesPlans_88 : decode cX12_goesPlans 88 = .ok (.goto (-64), 3) := by decide +kernel
theorem dX12_goesPlans_91 : decode cX12_goesPlans 91 = .ok (.return_, 1) := by decide +kernel
theorem dX12_triesAll_0 : decode cX12_triesAll 0 = .ok (.aload_n 0, 1) := by decide +kernel
theorem dX12_triesAll_1 : decode cX12_triesAll 1 = .ok (.iconst (-1), 1) := by decide +kernel
theorem dX12_triesAll_2 : decode cX12_triesAll 2 = .ok (.putfield 263, 3) := by decide +kernel
theorem dX12_triesAll_5 : decode cX12_triesAll 5 = .ok (.aload_n 0, 1) := by decide +kernel
theorem dX12_triesAll_6 : decode cX12_triesAll 6 = .ok (.iconst 0, 1) := by decide +kernel
theorem dX12_triesAll_7 : decode cX12_triesAll 7 = .ok (.putfield 266, 3) := by decide +kernel
theorem dX12_triesAll_10 : decode cX12_triesAll 10 = .ok (.aload_n 0, 1) := by decide +kernel
theorem dX12_triesAll_11 : decode cX12_triesAll 11 = .ok (.iconst 5, 1) := by decide +kernel
theorem dX12_triesAll_12 : decode cX12_triesAll 12 = .ok (.putfield 269, 3) := by decide +kernel
theorem dX12_triesAll_15 : decode cX12_triesAll 15 = .ok (.aload_n 0, 1) := by decide +kernel
theorem dX12_triesAll_16 : decode cX12_triesAll 16 = .ok (.iconst 0, 1) := by decide +kernel
theorem dX12_triesAll_17 : decode cX12_triesAll 17 = .ok (.putfield 272, 3) := by decide +kernel
theorem dX12_triesAll_20 : decode cX12_triesAll 20 = .ok (.aload_n 0, 1) := by decide +kernel
theorem dX12_triesAll_21 : decode cX12_triesAll 21 = .ok (.iconst 0, 1) := by decide +kernel
theorem dX12_triesAll_22 : decode cX12_triesAll 22 = .ok (.aload_n 0, 1) := by decide +kernel
theorem dX12_triesAll_23 : decode cX12_triesAll 23 = .ok (.iload_n 1, 1) := by decide +kernel
theorem dX12_triesAll_24 : decode cX12_triesAll 24 = .ok (.invokevirtual 288, 3) := by decide +kernel
theorem dX12_triesAll_27 : decode cX12_triesAll 27 = .ok (.iconst 0, 1) := by decide +kernel
theorem dX12_triesAll_28 : decode cX12_triesAll 28 = .ok (.iconst 0, 1) := by decide +kernel
theorem dX12_triesAll_29 : decode cX12_triesAll 29 = .ok (.iload_n 2, 1) := by decide +kernel
theorem dX12_triesAll_30 : decode cX12_triesAll 30 = .ok (.invokevirtual 281, 3) := by decide +kernel
theorem dX12_triesAll_33 : decode cX12_triesAll 33 = .ok (.return_, 1) := by decide +kernel
theorem dX12_isPlan_0 : decode cX12_isPlan 0 = .ok (.iload_n 0, 1) := by decide +kernel
theorem dX12_isPlan_1 : decode cX12_isPlan 1 = .ok (.iconst 0, 1) := by decide +kernel
theorem dX12_isPlan_2 : decode cX12_isPlan 2 = .ok (.iconst 4, 1) := by decide +kernel
theorem dX12_isPlan_3 : decode cX12_isPlan 3 = .ok (.invokestatic 71, 3) := by decide +kernel
theorem dX12_isPlan_6 : decode cX12_isPlan 6 = .ok (.ireturn, 1) := by decide +kernel
theorem dX12_best_0 : decode cX12_best 0 = .ok (.iload_n 1, 1) := by decide +kernel
theorem dX12_best_1 : decode cX12_best 1 = .ok (.invokestatic 291, 3) := by decide +kernel
theorem dX12_best_4 : decode cX12_best 4 = .ok (.ifCond .ne 5, 3) := by decide +kernel
theorem dX12_best_7 : decode cX12_best 7 = .ok (.iconst (-1), 1) := by decide +kernel
theorem dX12_best_8 : decode cX12_best 8 = .ok (.ireturn, 1) := by decide +kernel
theorem dX12_best_9 : decode cX12_best 9 = .ok (.aload_n 0, 1) := by decide +kernel
theorem dX12_best_10 : decode cX12_best 10 = .ok (.iload_n 1, 1) := by decide +kernel
theorem dX12_best_11 : decode cX12_best 11 = .ok (.iconst 0, 1) := by decide +kernel
theorem dX12_best_12 : decode cX12_best 12 = .ok (.invokevirtual 294, 3) := by decide +kernel
theorem dX12_best_15 : decode cX12_best 15 = .ok (.aload_n 0, 1) := by decide +kernel
theorem dX12_best_16 : decode cX12_best 16 = .ok (.getfield 263, 3) := by decide +kernel
theorem dX12_best_19 : decode cX12_best 19 = .ok (.ireturn, 1) := by decide +kernel
theorem dX12_ith_0 : decode cX12_ith 0 = .ok (.iload_n 1, 1) := by decide +kernel
theorem dX12_ith_1 : decode cX12_ith 1 = .ok (.invokestatic 291, 3) := by decide +kernel
theorem dX12_ith_4 : decode cX12_ith 4 = .ok (.ifCond .eq 12, 3) := by decide +kernel
theorem dX12_ith_7 : decode cX12_ith 7 = .ok (.iload_n 2, 1) := by decide +kernel
theorem dX12_ith_8 : decode cX12_ith 8 = .ok (.iconst 0, 1) := by decide +kernel
theorem dX12_ith_9 : decode cX12_ith 9 = .ok (.iconst 3, 1) := by decide +kernel
theorem dX12_ith_10 : decode cX12_ith 10 = .ok (.invokestatic 71, 3) := by decide +kernel
theorem dX12_ith_13 : decode cX12_ith 13 = .ok (.ifCond .ne 5, 3) := by decide +kernel
theorem dX12_ith_16 : decode cX12_ith 16 = .ok (.iconst (-1), 1) := by decide +kernel
theorem dX12_ith_17 : decode cX12_ith 17 = .ok (.ireturn, 1) := by decide +kernel
theorem dX12_ith_18 : decode cX12_ith 18 = .ok (.aload_n 0, 1) := by decide +kernel
theorem dX12_ith_19 : decode cX12_ith 19 = .ok (.iload_n 1, 1) := by decide +kernel
theorem dX12_ith_20 : decode cX12_ith 20 = .ok (.iconst 0, 1) := by decide +kernel
theorem dX12_ith_21 : decode cX12_ith 21 = .ok (.invokevirtual 294, 3) := by decide +kernel
theorem dX12_ith_24 : decode cX12_ith 24 = .ok (.iload_n 2, 1) := by decide +kernel
theorem dX12_ith_25 : decode cX12_ith 25 = .ok (.aload_n 0, 1) := by decide +kernel
theorem dX12_ith_26 : decode cX12_ith 26 = .ok (.iload_n 1, 1) := by decide +kernel
theorem dX12_ith_27 : decode cX12_ith 27 = .ok (.invokevirtual 288, 3) := by decide +kernel
theorem dX12_ith_30 : decode cX12_ith 30 = .ok (.if_icmp .ge 12, 3) := by decide +kernel
theorem dX12_ith_33 : decode cX12_ith 33 = .ok (.aload_n 0, 1) := by decide +kernel
theorem dX12_ith_34 : decode cX12_ith 34 = .ok (.getfield 41, 3) := by decide +kernel
theorem dX12_ith_37 : decode cX12_ith 37 = .ok (.iload_n 2, 1) := by decide +kernel
theorem dX12_ith_38 : decode cX12_ith 38 = .ok (.iaload, 1) := by decide +kernel
theorem dX12_ith_39 : decode cX12_ith 39 = .ok (.goto 5, 3) := by decide +kernel
theorem dX12_ith_42 : decode cX12_ith 42 = .ok (.bipush (-3), 2) := by decide +kernel
theorem dX12_ith_44 : decode cX12_ith 44 = .ok (.ireturn, 1) := by decide +kernel
theorem dX12_ways_0 : decode cX12_ways 0 = .ok (.iload_n 1, 1) := by decide +kernel
theorem dX12_ways_1 : decode cX12_ways 1 = .ok (.invokestatic 291, 3) := by decide +kernel
theorem dX12_ways_4 : decode cX12_ways 4 = .ok (.ifCond .ne 5, 3) := by decide +kernel
theorem dX12_ways_7 : decode cX12_ways 7 = .ok (.iconst (-1), 1) := by decide +kernel
theorem dX12_ways_8 : decode cX12_ways 8 = .ok (.ireturn, 1) := by decide +kernel
theorem dX12_ways_9 : decode cX12_ways 9 = .ok (.aload_n 0, 1) := by decide +kernel
theorem dX12_ways_10 : decode cX12_ways 10 = .ok (.iload_n 1, 1) := by decide +kernel
theorem dX12_ways_11 : decode cX12_ways 11 = .ok (.iconst 0, 1) := by decide +kernel
theorem dX12_ways_12 : decode cX12_ways 12 = .ok (.invokevirtual 294, 3) := by decide +kernel
theorem dX12_ways_15 : decode cX12_ways 15 = .ok (.aload_n 0, 1) := by decide +kernel
theorem dX12_ways_16 : decode cX12_ways 16 = .ok (.getfield 266, 3) := by decide +kernel
theorem dX12_ways_19 : decode cX12_ways 19 = .ok (.ireturn, 1) := by decide +kernel
theorem dX12_isSet_0 : decode cX12_isSet 0 = .ok (.iload_n 1, 1) := by decide +kernel
theorem dX12_isSet_1 : decode cX12_isSet 1 = .ok (.iconst 0, 1) := by decide +kernel
theorem dX12_isSet_2 : decode cX12_isSet 2 = .ok (.iconst 1, 1) := by decide +kernel
theorem dX12_isSet_3 : decode cX12_isSet 3 = .ok (.aload_n 0, 1) := by decide +kernel
theorem dX12_isSet_4 : decode cX12_isSet 4 = .ok (.getfield 9, 3) := by decide +kernel
theorem dX12_isSet_7 : decode cX12_isSet 7 = .ok (.bipush 6, 2) := by decide +kernel
theorem dX12_isSet_9 : decode cX12_isSet 9 = .ok (.iaload, 1) := by decide +kernel
theorem dX12_isSet_10 : decode cX12_isSet 10 = .ok (.ishl, 1) := by decide +kernel
theorem dX12_isSet_11 : decode cX12_isSet 11 = .ok (.iconst 1, 1) := by decide +kernel
theorem dX12_isSet_12 : decode cX12_isSet 12 = .ok (.isub, 1) := by decide +kernel
theorem dX12_isSet_13 : decode cX12_isSet 13 = .ok (.invokestatic 71, 3) := by decide +kernel
theorem dX12_isSet_16 : decode cX12_isSet 16 = .ok (.ireturn, 1) := by decide +kernel
theorem dX12_round_0 : decode cX12_round 0 = .ok (.iload_n 1, 1) := by decide +kernel
theorem dX12_round_1 : decode cX12_round 1 = .ok (.invokestatic 291, 3) := by decide +kernel
theorem dX12_round_4 : decode cX12_round 4 = .ok (.ifCond .eq 11, 3) := by decide +kernel
theorem dX12_round_7 : decode cX12_round 7 = .ok (.aload_n 0, 1) := by decide +kernel
theorem dX12_round_8 : decode cX12_round 8 = .ok (.iload_n 2, 1) := by decide +kernel
theorem dX12_round_9 : decode cX12_round 9 = .ok (.invokevirtual 298, 3) := by decide +kernel
theorem dX12_round_12 : decode cX12_round 12 = .ok (.ifCond .ne 5, 3) := by decide +kernel
theorem dX12_round_15 : decode cX12_round 15 = .ok (.iconst (-1), 1) := by decide +kernel
theorem dX12_round_16 : decode cX12_round 16 = .ok (.ireturn, 1) := by decide +kernel
theorem dX12_round_17 : decode cX12_round 17 = .ok (.aload_n 0, 1) := by decide +kernel
theorem dX12_round_18 : decode cX12_round 18 = .ok (.iload_n 1, 1) := by decide +kernel
theorem dX12_round_19 : decode cX12_round 19 = .ok (.iload_n 2, 1) := by decide +kernel
theorem dX12_round_20 : decode cX12_round 20 = .ok (.invokevirtual 294, 3) := by decide +kernel
theorem dX12_round_23 : decode cX12_round 23 = .ok (.aload_n 0, 1) := by decide +kernel
theorem dX12_round_24 : decode cX12_round 24 = .ok (.getfield 269, 3) := by decide +kernel
theorem dX12_round_27 : decode cX12_round 27 = .ok (.iconst 4, 1) := by decide +kernel
theorem dX12_round_28 : decode cX12_round 28 = .ok (.if_icmp .le 8, 3) := by decide +kernel
theorem dX12_round_31 : decode cX12_round 31 = .ok (.bipush (-3), 2) := by decide +kernel
theorem dX12_round_33 : decode cX12_round 33 = .ok (.goto 7, 3) := by decide +kernel
theorem dX12_round_36 : decode cX12_round 36 = .ok (.aload_n 0, 1) := by decide +kernel
theorem dX12_round_37 : decode cX12_round 37 = .ok (.getfield 269, 3) := by decide +kernel
theorem dX12_round_40 : decode cX12_round 40 = .ok (.ireturn, 1) := by decide +kernel
theorem dX12_bars_0 : decode cX12_bars 0 = .ok (.iload_n 1, 1) := by decide +kernel
theorem dX12_bars_1 : decode cX12_bars 1 = .ok (.invokestatic 291, 3) := by decide +kernel
theorem dX12_bars_4 : decode cX12_bars 4 = .ok (.ifCond .eq 11, 3) := by decide +kernel
theorem dX12_bars_7 : decode cX12_bars 7 = .ok (.aload_n 0, 1) := by decide +kernel
theorem dX12_bars_8 : decode cX12_bars 8 = .ok (.iload_n 2, 1) := by decide +kernel
theorem dX12_bars_9 : decode cX12_bars 9 = .ok (.invokevirtual 298, 3) := by decide +kernel
theorem dX12_bars_12 : decode cX12_bars 12 = .ok (.ifCond .ne 5, 3) := by decide +kernel
theorem dX12_bars_15 : decode cX12_bars 15 = .ok (.iconst (-1), 1) := by decide +kernel
theorem dX12_bars_16 : decode cX12_bars 16 = .ok (.ireturn, 1) := by decide +kernel
theorem dX12_bars_17 : decode cX12_bars 17 = .ok (.aload_n 0, 1) := by decide +kernel
theorem dX12_bars_18 : decode cX12_bars 18 = .ok (.iload_n 1, 1) := by decide +kernel
theorem dX12_bars_19 : decode cX12_bars 19 = .ok (.iload_n 2, 1) := by decide +kernel
theorem dX12_bars_20 : decode cX12_bars 20 = .ok (.invokevirtual 294, 3) := by decide +kernel
theorem dX12_bars_23 : decode cX12_bars 23 = .ok (.iload_n 2, 1) := by decide +kernel
theorem dX12_bars_24 : decode cX12_bars 24 = .ok (.aload_n 0, 1) := by decide +kernel
theorem dX12_bars_25 : decode cX12_bars 25 = .ok (.getfield 272, 3) := by decide +kernel
theorem dX12_bars_28 : decode cX12_bars 28 = .ok (.iconst (-1), 1) := by decide +kernel
theorem dX12_bars_29 : decode cX12_bars 29 = .ok (.ixor, 1) := by decide +kernel
theorem dX12_bars_30 : decode cX12_bars 30 = .ok (.iand, 1) := by decide +kernel
theorem dX12_bars_31 : decode cX12_bars 31 = .ok (.istore_n 3, 1) := by decide +kernel
theorem dX12_bars_32 : decode cX12_bars 32 = .ok (.iconst 0, 1) := by decide +kernel
theorem dX12_bars_33 : decode cX12_bars 33 = .ok (.istore 4, 2) := by decide +kernel
theorem dX12_bars_35 : decode cX12_bars 35 = .ok (.iload 4, 2) := by decide +kernel
theorem dX12_bars_37 : decode cX12_bars 37 = .ok (.aload_n 0, 1) := by decide +kernel
theorem dX12_bars_38 : decode cX12_bars 38 = .ok (.getfield 9, 3) := by decide +kernel
theorem dX12_bars_41 : decode cX12_bars 41 = .ok (.bipush 6, 2) := by decide +kernel
theorem dX12_bars_43 : decode cX12_bars 43 = .ok (.iaload, 1) := by decide +kernel
theorem dX12_bars_44 : decode cX12_bars 44 = .ok (.if_icmp .ge 18, 3) := by decide +kernel
theorem dX12_bars_47 : decode cX12_bars 47 = .ok (.iload_n 3, 1) := by decide +kernel
theorem dX12_bars_48 : decode cX12_bars 48 = .ok (.iload 4, 2) := by decide +kernel
theorem dX12_bars_50 : decode cX12_bars 50 = .ok (.ishr, 1) := by decide +kernel
theorem dX12_bars_51 : decode cX12_bars 51 = .ok (.iconst 1, 1) := by decide +kernel
theorem dX12_bars_52 : decode cX12_bars 52 = .ok (.iand, 1) := by decide +kernel
theorem dX12_bars_53 : decode cX12_bars 53 = .ok (.ifCond .ne 9, 3) := by decide +kernel
