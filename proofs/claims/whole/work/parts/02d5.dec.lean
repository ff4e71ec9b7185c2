theorem dX12_bars_56 : decode cX12_bars 56 = .ok (.iinc 4 1, 3) := by decide +kernel
theorem dX12_bars_59 : decode cX12_bars 59 = .ok (.goto (-24), 3) := by decide +kernel
theorem dX12_bars_62 : decode cX12_bars 62 = .ok (.iload 4, 2) := by decide +kernel
theorem dX12_bars_64 : decode cX12_bars 64 = .ok (.aload_n 0, 1) := by decide +kernel
theorem dX12_bars_65 : decode cX12_bars 65 = .ok (.getfield 9, 3) := by decide +kernel
theorem dX12_bars_68 : decode cX12_bars 68 = .ok (.bipush 6, 2) := by decide +kernel
theorem dX12_bars_70 : decode cX12_bars 70 = .ok (.iaload, 1) := by decide +kernel
theorem dX12_bars_71 : decode cX12_bars 71 = .ok (.if_icmp .ge 8, 3) := by decide +kernel
theorem dX12_bars_74 : decode cX12_bars 74 = .ok (.iload 4, 2) := by decide +kernel
theorem dX12_bars_76 : decode cX12_bars 76 = .ok (.goto 5, 3) := by decide +kernel
theorem dX12_bars_79 : decode cX12_bars 79 = .ok (.bipush (-3), 2) := by decide +kernel
theorem dX12_bars_81 : decode cX12_bars 81 = .ok (.ireturn, 1) := by decide +kernel
theorem dX12_playedFrom_0 : decode cX12_playedFrom 0 = .ok (.iload_n 1, 1) := by decide +kernel
theorem dX12_playedFrom_1 : decode cX12_playedFrom 1 = .ok (.iload_n 2, 1) := by decide +kernel
theorem dX12_playedFrom_2 : decode cX12_playedFrom 2 = .ok (.if_icmp .ne 5, 3) := by decide +kernel
theorem dX12_playedFrom_5 : decode cX12_playedFrom 5 = .ok (.iconst 0, 1) := by decide +kernel
theorem dX12_playedFrom_6 : decode cX12_playedFrom 6 = .ok (.ireturn, 1) := by decide +kernel
theorem dX12_playedFrom_7 : decode cX12_playedFrom 7 = .ok (.aload_n 0, 1) := by decide +kernel
theorem dX12_playedFrom_8 : decode cX12_playedFrom 8 = .ok (.iload_n 1, 1) := by decide +kernel
theorem dX12_playedFrom_9 : decode cX12_playedFrom 9 = .ok (.invokevirtual 278, 3) := by decide +kernel
theorem dX12_playedFrom_12 : decode cX12_playedFrom 12 = .ok (.iconst 0, 1) := by decide +kernel
theorem dX12_playedFrom_13 : decode cX12_playedFrom 13 = .ok (.istore_n 3, 1) := by decide +kernel
theorem dX12_playedFrom_14 : decode cX12_playedFrom 14 = .ok (.iconst (-1), 1) := by decide +kernel
theorem dX12_playedFrom_15 : decode cX12_playedFrom 15 = .ok (.istore 4, 2) := by decide +kernel
theorem dX12_playedFrom_17 : decode cX12_playedFrom 17 = .ok (.iconst 0, 1) := by decide +kernel
theorem dX12_playedFrom_18 : decode cX12_playedFrom 18 = .ok (.istore 5, 2) := by decide +kernel
theorem dX12_playedFrom_20 : decode cX12_playedFrom 20 = .ok (.iload 5, 2) := by decide +kernel
theorem dX12_playedFrom_22 : decode cX12_playedFrom 22 = .ok (.aload_n 0, 1) := by decide +kernel
theorem dX12_playedFrom_23 : decode cX12_playedFrom 23 = .ok (.getfield 9, 3) := by decide +kernel
theorem dX12_playedFrom_26 : decode cX12_playedFrom 26 = .ok (.bipush 6, 2) := by decide +kernel
theorem dX12_playedFrom_28 : decode cX12_playedFrom 28 = .ok (.iaload, 1) := by decide +kernel
theorem dX12_playedFrom_29 : decode cX12_playedFrom 29 = .ok (.if_icmp .gt 94, 3) := by decide +kernel
theorem dX12_playedFrom_32 : decode cX12_playedFrom 32 = .ok (.aload_n 0, 1) := by decide +kernel
theorem dX12_playedFrom_33 : decode cX12_playedFrom 33 = .ok (.iload 5, 2) := by decide +kernel
theorem dX12_playedFrom_35 : decode cX12_playedFrom 35 = .ok (.invokevirtual 232, 3) := by decide +kernel
theorem dX12_playedFrom_38 : decode cX12_playedFrom 38 = .ok (.istore 6, 2) := by decide +kernel
theorem dX12_playedFrom_40 : decode cX12_playedFrom 40 = .ok (.iload 6, 2) := by decide +kernel
theorem dX12_playedFrom_42 : decode cX12_playedFrom 42 = .ok (.aload_n 0, 1) := by decide +kernel
theorem dX12_playedFrom_43 : decode cX12_playedFrom 43 = .ok (.iload_n 1, 1) := by decide +kernel
theorem dX12_playedFrom_44 : decode cX12_playedFrom 44 = .ok (.iconst 1, 1) := by decide +kernel
theorem dX12_playedFrom_45 : decode cX12_playedFrom 45 = .ok (.iadd, 1) := by decide +kernel
theorem dX12_playedFrom_46 : decode cX12_playedFrom 46 = .ok (.iload_n 2, 1) := by decide +kernel
theorem dX12_playedFrom_47 : decode cX12_playedFrom 47 = .ok (.invokevirtual 301, 3) := by decide +kernel
theorem dX12_playedFrom_50 : decode cX12_playedFrom 50 = .ok (.iadd, 1) := by decide +kernel
theorem dX12_playedFrom_51 : decode cX12_playedFrom 51 = .ok (.istore 7, 2) := by decide +kernel
theorem dX12_playedFrom_53 : decode cX12_playedFrom 53 = .ok (.aload_n 0, 1) := by decide +kernel
theorem dX12_playedFrom_54 : decode cX12_playedFrom 54 = .ok (.iload_n 1, 1) := by decide +kernel
theorem dX12_playedFrom_55 : decode cX12_playedFrom 55 = .ok (.invokevirtual 285, 3) := by decide +kernel
theorem dX12_playedFrom_58 : decode cX12_playedFrom 58 = .ok (.iload 4, 2) := by decide +kernel
theorem dX12_playedFrom_60 : decode cX12_playedFrom 60 = .ok (.ifCond .lt 24, 3) := by decide +kernel
theorem dX12_playedFrom_63 : decode cX12_playedFrom 63 = .ok (.iload_n 1, 1) := by decide +kernel
theorem dX12_playedFrom_64 : decode cX12_playedFrom 64 = .ok (.iconst 2, 1) := by decide +kernel
theorem dX12_playedFrom_65 : decode cX12_playedFrom 65 = .ok (.irem, 1) := by decide +kernel
theorem dX12_playedFrom_66 : decode cX12_playedFrom 66 = .ok (.ifCond .ne 12, 3) := by decide +kernel
theorem dX12_playedFrom_69 : decode cX12_playedFrom 69 = .ok (.iload 7, 2) := by decide +kernel
theorem dX12_playedFrom_71 : decode cX12_playedFrom 71 = .ok (.iload_n 3, 1) := by decide +kernel
theorem dX12_playedFrom_72 : decode cX12_playedFrom 72 = .ok (.if_icmp .le 16, 3) := by decide +kernel
theorem dX12_playedFrom_75 : decode cX12_playedFrom 75 = .ok (.goto 9, 3) := by decide +kernel
theorem dX12_playedFrom_78 : decode cX12_playedFrom 78 = .ok (.iload 7, 2) := by decide +kernel
theorem dX12_playedFrom_80 : decode cX12_playedFrom 80 = .ok (.iload_n 3, 1) := by decide +kernel
theorem dX12_playedFrom_81 : decode cX12_playedFrom 81 = .ok (.if_icmp .ge 7, 3) := by decide +kernel
theorem dX12_playedFrom_84 : decode cX12_playedFrom 84 = .ok (.iconst 1, 1) := by decide +kernel
theorem dX12_playedFrom_85 : decode cX12_playedFrom 85 = .ok (.goto 4, 3) := by decide +kernel
theorem dX12_playedFrom_88 : decode cX12_playedFrom 88 = .ok (.iconst 0, 1) := by decide +kernel
theorem dX12_playedFrom_89 : decode cX12_playedFrom 89 = .ok (.istore 8, 2) := by decide +kernel
theorem dX12_playedFrom_91 : decode cX12_playedFrom 91 = .ok (.iload 8, 2) := by decide +kernel
theorem dX12_playedFrom_93 : decode cX12_playedFrom 93 = .ok (.ifCond .eq 8, 3) := by decide +kernel
theorem dX12_playedFrom_96 : decode cX12_playedFrom 96 = .ok (.iload 5, 2) := by decide +kernel
theorem dX12_playedFrom_98 : decode cX12_playedFrom 98 = .ok (.goto 5, 3) := by decide +kernel
theorem dX12_playedFrom_101 : decode cX12_playedFrom 101 = .ok (.iload 4, 2) := by decide +kernel
theorem dX12_playedFrom_103 : decode cX12_playedFrom 103 = .ok (.istore 4, 2) := by decide +kernel
theorem dX12_playedFrom_105 : decode cX12_playedFrom 105 = .ok (.iload 8, 2) := by decide +kernel
theorem dX12_playedFrom_107 : decode cX12_playedFrom 107 = .ok (.ifCond .eq 8, 3) := by decide +kernel
theorem dX12_playedFrom_110 : decode cX12_playedFrom 110 = .ok (.iload 7, 2) := by decide +kernel
theorem dX12_playedFrom_112 : decode cX12_playedFrom 112 = .ok (.goto 4, 3) := by decide +kernel
theorem dX12_playedFrom_115 : decode cX12_playedFrom 115 = .ok (.iload_n 3, 1) := by decide +kernel
theorem dX12_playedFrom_116 : decode cX12_playedFrom 116 = .ok (.istore_n 3, 1) := by decide +kernel
theorem dX12_playedFrom_117 : decode cX12_playedFrom 117 = .ok (.iinc 5 1, 3) := by decide +kernel
theorem dX12_playedFrom_120 : decode cX12_playedFrom 120 = .ok (.goto (-100), 3) := by decide +kernel
theorem dX12_playedFrom_123 : decode cX12_playedFrom 123 = .ok (.aload_n 0, 1) := by decide +kernel
theorem dX12_playedFrom_124 : decode cX12_playedFrom 124 = .ok (.getfield 38, 3) := by decide +kernel
theorem dX12_playedFrom_127 : decode cX12_playedFrom 127 = .ok (.iload_n 1, 1) := by decide +kernel
theorem dX12_playedFrom_128 : decode cX12_playedFrom 128 = .ok (.iload 4, 2) := by decide +kernel
theorem dX12_playedFrom_130 : decode cX12_playedFrom 130 = .ok (.iastore, 1) := by decide +kernel
theorem dX12_playedFrom_131 : decode cX12_playedFrom 131 = .ok (.iload_n 3, 1) := by decide +kernel
theorem dX12_playedFrom_132 : decode cX12_playedFrom 132 = .ok (.ireturn, 1) := by decide +kernel
theorem dX12_game_0 : decode cX12_game 0 = .ok (.iload_n 1, 1) := by decide +kernel
theorem dX12_game_1 : decode cX12_game 1 = .ok (.iconst 1, 1) := by decide +kernel
theorem dX12_game_2 : decode cX12_game 2 = .ok (.iconst 4, 1) := by decide +kernel
theorem dX12_game_3 : decode cX12_game 3 = .ok (.invokestatic 71, 3) := by decide +kernel
theorem dX12_game_6 : decode cX12_game 6 = .ok (.ifCond .eq 16, 3) := by decide +kernel
theorem dX12_game_9 : decode cX12_game 9 = .ok (.aload_n 0, 1) := by decide +kernel
theorem dX12_game_10 : decode cX12_game 10 = .ok (.iconst 0, 1) := by decide +kernel
theorem dX12_game_11 : decode cX12_game 11 = .ok (.aload_n 0, 1) := by decide +kernel
theorem dX12_game_12 : decode cX12_game 12 = .ok (.iload_n 1, 1) := by decide +kernel
theorem dX12_game_13 : decode cX12_game 13 = .ok (.invokevirtual 288, 3) := by decide +kernel
theorem dX12_game_16 : decode cX12_game 16 = .ok (.invokevirtual 301, 3) := by decide +kernel
theorem dX12_game_19 : decode cX12_game 19 = .ok (.goto 4, 3) := by decide +kernel
theorem dX12_game_22 : decode cX12_game 22 = .ok (.iconst (-1), 1) := by decide +kernel
theorem dX12_game_23 : decode cX12_game 23 = .ok (.ireturn, 1) := by decide +kernel
theorem dX12_play_0 : decode cX12_play 0 = .ok (.iload_n 1, 1) := by decide +kernel
theorem dX12_play_1 : decode cX12_play 1 = .ok (.iconst 1, 1) := by decide +kernel
theorem dX12_play_2 : decode cX12_play 2 = .ok (.iconst 4, 1) := by decide +kernel
theorem dX12_play_3 : decode cX12_play 3 = .ok (.invokestatic 71, 3) := by decide +kernel
theorem dX12_play_6 : decode cX12_play 6 = .ok (.ifCond .ne 5, 3) := by decide +kernel
theorem dX12_play_9 : decode cX12_play 9 = .ok (.iconst (-1), 1) := by decide +kernel
theorem dX12_play_10 : decode cX12_play 10 = .ok (.ireturn, 1) := by decide +kernel
theorem dX12_play_11 : decode cX12_play 11 = .ok (.aload_n 0, 1) := by decide +kernel
theorem dX12_play_12 : decode cX12_play 12 = .ok (.invokevirtual 226, 3) := by decide +kernel
theorem dX12_play_15 : decode cX12_play 15 = .ok (.ifCond .eq 6, 3) := by decide +kernel
theorem dX12_play_18 : decode cX12_play 18 = .ok (.bipush (-3), 2) := by decide +kernel
theorem dX12_play_20 : decode cX12_play 20 = .ok (.ireturn, 1) := by decide +kernel
theorem dX12_play_21 : decode cX12_play 21 = .ok (.aload_n 0, 1) := by decide +kernel
theorem dX12_play_22 : decode cX12_play 22 = .ok (.iconst 0, 1) := by decide +kernel
theorem dX12_play_23 : decode cX12_play 23 = .ok (.aload_n 0, 1) := by decide +kernel
theorem dX12_play_24 : decode cX12_play 24 = .ok (.iload_n 1, 1) := by decide +kernel
theorem dX12_play_25 : decode cX12_play 25 = .ok (.invokevirtual 288, 3) := by decide +kernel
theorem dX12_play_28 : decode cX12_play 28 = .ok (.invokevirtual 301, 3) := by decide +kernel
theorem dX12_play_31 : decode cX12_play 31 = .ok (.istore_n 2, 1) := by decide +kernel
theorem dX12_play_32 : decode cX12_play 32 = .ok (.iload_n 2, 1) := by decide +kernel
theorem dX12_play_33 : decode cX12_play 33 = .ok (.ifCond .ge 8, 3) := by decide +kernel
theorem dX12_play_36 : decode cX12_play 36 = .ok (.bipush (-3), 2) := by decide +kernel
theorem dX12_play_38 : decode cX12_play 38 = .ok (.goto 9, 3) := by decide +kernel
theorem dX12_play_41 : decode cX12_play 41 = .ok (.aload_n 0, 1) := by decide +kernel
theorem dX12_play_42 : decode cX12_play 42 = .ok (.getfield 38, 3) := by decide +kernel
theorem dX12_play_45 : decode cX12_play 45 = .ok (.iconst 0, 1) := by decide +kernel
theorem dX12_play_46 : decode cX12_play 46 = .ok (.iaload, 1) := by decide +kernel
theorem dX12_play_47 : decode cX12_play 47 = .ok (.ireturn, 1) := by decide +kernel
theorem dX12_report_0 : decode cX12_report 0 = .ok (.iload_n 2, 1) := by decide +kernel
theorem dX12_report_1 : decode cX12_report 1 = .ok (.ifCond .ne 8, 3) := by decide +kernel
theorem dX12_report_4 : decode cX12_report 4 = .ok (.bipush 99, 2) := by decide +kernel
theorem dX12_report_6 : decode cX12_report 6 = .ok (.goto 5, 3) := by decide +kernel
theorem dX12_report_9 : decode cX12_report 9 = .ok (.bipush 9, 2) := by decide +kernel
theorem dX12_report_11 : decode cX12_report 11 = .ok (.istore 5, 2) := by decide +kernel
theorem dX12_report_13 : decode cX12_report 13 = .ok (.iload_n 1, 1) := by decide +kernel
theorem dX12_report_14 : decode cX12_report 14 = .ok (.iconst 0, 1) := by decide +kernel
theorem dX12_report_15 : decode cX12_report 15 = .ok (.bipush 15, 2) := by decide +kernel
theorem dX12_report_17 : decode cX12_report 17 = .ok (.invokestatic 71, 3) := by decide +kernel
theorem dX12_report_20 : decode cX12_report 20 = .ok (.ifCond .eq 33, 3) := by decide +kernel
theorem dX12_report_23 : decode cX12_report 23 = .ok (.iload_n 2, 1) := by decide +kernel
theorem dX12_report_24 : decode cX12_report 24 = .ok (.iconst 0, 1) := by decide +kernel
theorem dX12_report_25 : decode cX12_report 25 = .ok (.iconst 1, 1) := by decide +kernel
theorem dX12_report_26 : decode cX12_report 26 = .ok (.invokestatic 71, 3) := by decide +kernel
theorem dX12_report_29 : decode cX12_report 29 = .ok (.ifCond .eq 24, 3) := by decide +kernel
theorem dX12_report_32 : decode cX12_report 32 = .ok (.iload_n 3, 1) := by decide +kernel
theorem dX12_report_33 : decode cX12_report 33 = .ok (.iconst 0, 1) := by decide +kernel
theorem dX12_report_34 : decode cX12_report 34 = .ok (.iload 5, 2) := by decide +kernel
theorem dX12_report_36 : decode cX12_report 36 = .ok (.invokestatic 71, 3) := by decide +kernel
theorem dX12_report_39 : decode cX12_report 39 = .ok (.ifCond .eq 14, 3) := by decide +kernel
theorem dX12_report_42 : decode cX12_report 42 = .ok (.iload 4, 2) := by decide +kernel
theorem dX12_report_44 : decode cX12_report 44 = .ok (.iload_n 3, 1) := by decide +kernel
theorem dX12_report_45 : decode cX12_report 45 = .ok (.iload 5, 2) := by decide +kernel
theorem dX12_report_47 : decode cX12_report 47 = .ok (.invokestatic 71, 3) := by decide +kernel
theorem dX12_report_50 : decode cX12_report 50 = .ok (.ifCond .ne 5, 3) := by decide +kernel
theorem dX12_report_53 : decode cX12_report 53 = .ok (.iconst (-1), 1) := by decide +kernel
theorem dX12_report_54 : decode cX12_report 54 = .ok (.ireturn, 1) := by decide +kernel
theorem dX12_report_55 : decode cX12_report 55 = .ok (.aload_n 0, 1) := by decide +kernel
theorem dX12_report_56 : decode cX12_report 56 = .ok (.getfield 9, 3) := by decide +kernel
theorem dX12_report_59 : decode cX12_report 59 = .ok (.bipush 8, 2) := by decide +kernel
theorem dX12_report_61 : decode cX12_report 61 = .ok (.iaload, 1) := by decide +kernel
theorem dX12_report_62 : decode cX12_report 62 = .ok (.bipush 6, 2) := by decide +kernel
theorem dX12_report_64 : decode cX12_report 64 = .ok (.if_icmp .ne 6, 3) := by decide +kernel
theorem dX12_report_67 : decode cX12_report 67 = .ok (.bipush (-2), 2) := by decide +kernel
theorem dX12_report_69 : decode cX12_report 69 = .ok (.ireturn, 1) := by decide +kernel
theorem dX12_report_70 : decode cX12_report 70 = .ok (.bipush 74, 2) := by decide +kernel
theorem dX12_report_72 : decode cX12_report 72 = .ok (.iconst 4, 1) := by decide +kernel
theorem dX12_report_73 : decode cX12_report 73 = .ok (.aload_n 0, 1) := by decide +kernel
theorem dX12_report_74 : decode cX12_report 74 = .ok (.getfield 9, 3) := by decide +kernel
theorem dX12_report_77 : decode cX12_report 77 = .ok (.bipush 8, 2) := by decide +kernel
theorem dX12_report_79 : decode cX12_report 79 = .ok (.iaload, 1) := by decide +kernel
theorem dX12_report_80 : decode cX12_report 80 = .ok (.imul, 1) := by decide +kernel
theorem dX12_report_81 : decode cX12_report 81 = .ok (.iadd, 1) := by decide +kernel
theorem dX12_report_82 : decode cX12_report 82 = .ok (.istore 6, 2) := by decide +kernel
theorem dX12_report_84 : decode cX12_report 84 = .ok (.aload_n 0, 1) := by decide +kernel
theorem dX12_report_85 : decode cX12_report 85 = .ok (.getfield 9, 3) := by decide +kernel
theorem dX12_report_88 : decode cX12_report 88 = .ok (.iload 6, 2) := by decide +kernel
theorem dX12_report_90 : decode cX12_report 90 = .ok (.iload_n 1, 1) := by decide +kernel
theorem dX12_report_91 : decode cX12_report 91 = .ok (.iastore, 1) := by decide +kernel
theorem dX12_report_92 : decode cX12_report 92 = .ok (.aload_n 0, 1) := by decide +kernel
theorem dX12_report_93 : decode cX12_report 93 = .ok (.getfield 9, 3) := by decide +kernel
theorem dX12_report_96 : decode cX12_report 96 = .ok (.iload 6, 2) := by decide +kernel
theorem dX12_report_98 : decode cX12_report 98 = .ok (.iconst 1, 1) := by decide +kernel
theorem dX12_report_99 : decode cX12_report 99 = .ok (.iadd, 1) := by decide +kernel
theorem dX12_report_100 : decode cX12_report 100 = .ok (.iload_n 2, 1) := by decide +kernel
theorem dX12_report_101 : decode cX12_report 101 = .ok (.iastore, 1) := by decide +kernel
theorem dX12_report_102 : decode cX12_report 102 = .ok (.aload_n 0, 1) := by decide +kernel
theorem dX12_report_103 : decode cX12_report 103 = .ok (.getfield 9, 3) := by decide +kernel
theorem dX12_report_106 : decode cX12_report 106 = .ok (.iload 6, 2) := by decide +kernel
theorem dX12_report_108 : decode cX12_report 108 = .ok (.iconst 2, 1) := by decide +kernel
theorem dX12_report_109 : decode cX12_report 109 = .ok (.iadd, 1) := by decide +kernel
theorem dX12_report_110 : decode cX12_report 110 = .ok (.iload_n 3, 1) := by decide +kernel
theorem dX12_report_111 : decode cX12_report 111 = .ok (.iastore, 1) := by decide +kernel
theorem dX12_report_112 : decode cX12_report 112 = .ok (.aload_n 0, 1) := by decide +kernel
theorem dX12_report_113 : decode cX12_report 113 = .ok (.getfield 9, 3) := by decide +kernel
theorem dX12_report_116 : decode cX12_report 116 = .ok (.iload 6, 2) := by decide +kernel
theorem dX12_report_118 : decode cX12_report 118 = .ok (.iconst 3, 1) := by decide +kernel
theorem dX12_report_119 : decode cX12_report 119 = .ok (.iadd, 1) := by decide +kernel
theorem dX12_report_120 : decode cX12_report 120 = .ok (.iload 4, 2) := by decide +kernel
theorem dX12_report_122 : decode cX12_report 122 = .ok (.iastore, 1) := by decide +kernel
theorem dX12_report_123 : decode cX12_report 123 = .ok (.aload_n 0, 1) := by decide +kernel
theorem dX12_report_124 : decode cX12_report 124 = .ok (.getfield 9, 3) := by decide +kernel
theorem dX12_report_127 : decode cX12_report 127 = .ok (.bipush 8, 2) := by decide +kernel
theorem dX12_report_129 : decode cX12_report 129 = .ok (.dup2, 1) := by decide +kernel
theorem dX12_report_130 : decode cX12_report 130 = .ok (.iaload, 1) := by decide +kernel
theorem dX12_report_131 : decode cX12_report 131 = .ok (.iconst 1, 1) := by decide +kernel
theorem dX12_report_132 : decode cX12_report 132 = .ok (.iadd, 1) := by decide +kernel
theorem dX12_report_133 : decode cX12_report 133 = .ok (.iastore, 1) := by decide +kernel
theorem dX12_report_134 : decode cX12_report 134 = .ok (.aload_n 0, 1) := by decide +kernel
theorem dX12_report_135 : decode cX12_report 135 = .ok (.getfield 9, 3) := by decide +kernel
theorem dX12_report_138 : decode cX12_report 138 = .ok (.bipush 8, 2) := by decide +kernel
theorem dX12_report_140 : decode cX12_report 140 = .ok (.iaload, 1) := by decide +kernel
theorem dX12_report_141 : decode cX12_report 141 = .ok (.iconst 1, 1) := by decide +kernel
theorem dX12_report_142 : decode cX12_report 142 = .ok (.isub, 1) := by decide +kernel
theorem dX12_report_143 : decode cX12_report 143 = .ok (.ireturn, 1) := by decide +kernel
theorem dX12_forget_0 : decode cX12_forget 0 = .ok (.aload_n 0, 1) := by decide +kernel
theorem dX12_forget_1 : decode cX12_forget 1 = .ok (.bipush 8, 2) := by decide +kernel
theorem dX12_forget_3 : decode cX12_forget 3 = .ok (.iconst 0, 1) := by decide +kernel
theorem dX12_forget_4 : decode cX12_forget 4 = .ok (.invokevirtual 223, 3) := by decide +kernel
theorem dX12_forget_7 : decode cX12_forget 7 = .ok (.ireturn, 1) := by decide +kernel
theorem dX12_tellsStranger_0 : decode cX12_tellsStranger 0 = .ok (.iload_n 3, 1) := by decide +kernel
theorem dX12_tellsStranger_1 : decode cX12_tellsStranger 1 = .ok (.istore 4, 2) := by decide +kernel
theorem dX12_tellsStranger_3 : decode cX12_tellsStranger 3 = .ok (.bipush 26, 2) := by decide +kernel
theorem dX12_tellsStranger_5 : decode cX12_tellsStranger 5 = .ok (.istore 5, 2) := by decide +kernel
theorem dX12_tellsStranger_7 : decode cX12_tellsStranger 7 = .ok (.iconst 0, 1) := by decide +kernel
theorem dX12_tellsStranger_8 : decode cX12_tellsStranger 8 = .ok (.istore 6, 2) := by decide +kernel
theorem dX12_tellsStranger_10 : decode cX12_tellsStranger 10 = .ok (.iload 6, 2) := by decide +kernel
theorem dX12_tellsStranger_12 : decode cX12_tellsStranger 12 = .ok (.bipush 16, 2) := by decide +kernel
theorem dX12_tellsStranger_14 : decode cX12_tellsStranger 14 = .ok (.if_icmp .ge 113, 3) := by decide +kernel
theorem dX12_tellsStranger_17 : decode cX12_tellsStranger 17 = .ok (.aload_n 0, 1) := by decide +kernel
theorem dX12_tellsStranger_18 : decode cX12_tellsStranger 18 = .ok (.getfield 44, 3) := by decide +kernel
theorem dX12_tellsStranger_21 : decode cX12_tellsStranger 21 = .ok (.iload 6, 2) := by decide +kernel
theorem dX12_tellsStranger_23 : decode cX12_tellsStranger 23 = .ok (.iload 5, 2) := by decide +kernel
theorem dX12_tellsStranger_25 : decode cX12_tellsStranger 25 = .ok (.iastore, 1) := by decide +kernel
theorem dX12_tellsStranger_26 : decode cX12_tellsStranger 26 = .ok (.aload_n 0, 1) := by decide +kernel
theorem dX12_tellsStranger_27 : decode cX12_tellsStranger 27 = .ok (.getfield 47, 3) := by decide +kernel
theorem dX12_tellsStranger_30 : decode cX12_tellsStranger 30 = .ok (.iload 6, 2) := by decide +kernel
theorem dX12_tellsStranger_32 : decode cX12_tellsStranger 32 = .ok (.iload 4, 2) := by decide +kernel
theorem dX12_tellsStranger_34 : decode cX12_tellsStranger 34 = .ok (.iastore, 1) := by decide +kernel
theorem dX12_tellsStranger_35 : decode cX12_tellsStranger 35 = .ok (.iload 4, 2) := by decide +kernel
theorem dX12_tellsStranger_37 : decode cX12_tellsStranger 37 = .ok (.aload_n 0, 1) := by decide +kernel
theorem dX12_tellsStranger_38 : decode cX12_tellsStranger 38 = .ok (.getfield 9, 3) := by decide +kernel
theorem dX12_tellsStranger_41 : decode cX12_tellsStranger 41 = .ok (.bipush 10, 2) := by decide +kernel
theorem dX12_tellsStranger_43 : decode cX12_tellsStranger 43 = .ok (.iload 6, 2) := by decide +kernel
theorem dX12_tellsStranger_45 : decode cX12_tellsStranger 45 = .ok (.iadd, 1) := by decide +kernel
theorem dX12_tellsStranger_46 : decode cX12_tellsStranger 46 = .ok (.iaload, 1) := by decide +kernel
theorem dX12_tellsStranger_47 : decode cX12_tellsStranger 47 = .ok (.invokestatic 201, 3) := by decide +kernel
theorem dX12_tellsStranger_50 : decode cX12_tellsStranger 50 = .ok (.istore 4, 2) := by decide +kernel
theorem dX12_tellsStranger_52 : decode cX12_tellsStranger 52 = .ok (.iload_n 1, 1) := by decide +kernel
theorem dX12_tellsStranger_53 : decode cX12_tellsStranger 53 = .ok (.iconst 0, 1) := by decide +kernel
theorem dX12_tellsStranger_54 : decode cX12_tellsStranger 54 = .ok (.iload 6, 2) := by decide +kernel
theorem dX12_tellsStranger_56 : decode cX12_tellsStranger 56 = .ok (.invokestatic 87, 3) := by decide +kernel
theorem dX12_tellsStranger_59 : decode cX12_tellsStranger 59 = .ok (.istore 7, 2) := by decide +kernel
theorem dX12_tellsStranger_61 : decode cX12_tellsStranger 61 = .ok (.iload 6, 2) := by decide +kernel
theorem dX12_tellsStranger_63 : decode cX12_tellsStranger 63 = .ok (.iconst 2, 1) := by decide +kernel
theorem dX12_tellsStranger_64 : decode cX12_tellsStranger 64 = .ok (.irem, 1) := by decide +kernel
theorem dX12_tellsStranger_65 : decode cX12_tellsStranger 65 = .ok (.ifCond .ne 41, 3) := by decide +kernel
theorem dX12_tellsStranger_68 : decode cX12_tellsStranger 68 = .ok (.iload 5, 2) := by decide +kernel
theorem dX12_tellsStranger_70 : decode cX12_tellsStranger 70 = .ok (.iload 7, 2) := by decide +kernel
theorem dX12_tellsStranger_72 : decode cX12_tellsStranger 72 = .ok (.if_icmp .lt 34, 3) := by decide +kernel
theorem dX12_tellsStranger_75 : decode cX12_tellsStranger 75 = .ok (.iload 5, 2) := by decide +kernel
theorem dX12_tellsStranger_77 : decode cX12_tellsStranger 77 = .ok (.iload 7, 2) := by decide +kernel
theorem dX12_tellsStranger_79 : decode cX12_tellsStranger 79 = .ok (.isub, 1) := by decide +kernel
theorem dX12_tellsStranger_80 : decode cX12_tellsStranger 80 = .ok (.istore 5, 2) := by decide +kernel
theorem dX12_tellsStranger_82 : decode cX12_tellsStranger 82 = .ok (.iload 5, 2) := by decide +kernel
theorem dX12_tellsStranger_84 : decode cX12_tellsStranger 84 = .ok (.iload_n 1, 1) := by decide +kernel
theorem dX12_tellsStranger_85 : decode cX12_tellsStranger 85 = .ok (.iload_n 2, 1) := by decide +kernel
theorem dX12_tellsStranger_86 : decode cX12_tellsStranger 86 = .ok (.iload 4, 2) := by decide +kernel
theorem dX12_tellsStranger_88 : decode cX12_tellsStranger 88 = .ok (.iload 6, 2) := by decide +kernel
theorem dX12_tellsStranger_90 : decode cX12_tellsStranger 90 = .ok (.invokestatic 83, 3) := by decide +kernel
theorem dX12_tellsStranger_93 : decode cX12_tellsStranger 93 = .ok (.bipush 6, 2) := by decide +kernel
theorem dX12_tellsStranger_95 : decode cX12_tellsStranger 95 = .ok (.if_icmp .ge 7, 3) := by decide +kernel
theorem dX12_tellsStranger_98 : decode cX12_tellsStranger 98 = .ok (.iconst 1, 1) := by decide +kernel
theorem dX12_tellsStranger_99 : decode cX12_tellsStranger 99 = .ok (.goto 4, 3) := by decide +kernel
theorem dX12_tellsStranger_102 : decode cX12_tellsStranger 102 = .ok (.iconst 0, 1) := by decide +kernel
theorem dX12_tellsStranger_103 : decode cX12_tellsStranger 103 = .ok (.iadd, 1) := by decide +kernel
theorem dX12_tellsStranger_104 : decode cX12_tellsStranger 104 = .ok (.istore 5, 2) := by decide +kernel
theorem dX12_tellsStranger_106 : decode cX12_tellsStranger 106 = .ok (.iload 5, 2) := by decide +kernel
theorem dX12_tellsStranger_108 : decode cX12_tellsStranger 108 = .ok (.bipush 14, 2) := by decide +kernel
theorem dX12_tellsStranger_110 : decode cX12_tellsStranger 110 = .ok (.iadd, 1) := by decide +kernel
theorem dX12_tellsStranger_111 : decode cX12_tellsStranger 111 = .ok (.iload 4, 2) := by decide +kernel
theorem dX12_tellsStranger_113 : decode cX12_tellsStranger 113 = .ok (.isub, 1) := by decide +kernel
theorem dX12_tellsStranger_114 : decode cX12_tellsStranger 114 = .ok (.bipush 99, 2) := by decide +kernel
theorem dX12_tellsStranger_116 : decode cX12_tellsStranger 116 = .ok (.invokestatic 182, 3) := by decide +kernel
theorem dX12_tellsStranger_119 : decode cX12_tellsStranger 119 = .ok (.istore 5, 2) := by decide +kernel
theorem dX12_tellsStranger_121 : decode cX12_tellsStranger 121 = .ok (.iinc 6 1, 3) := by decide +kernel
theorem dX12_tellsStranger_124 : decode cX12_tellsStranger 124 = .ok (.goto (-114), 3) := by decide +kernel
theorem dX12_tellsStranger_127 : decode cX12_tellsStranger 127 = .ok (.return_, 1) := by decide +kernel
theorem dX12_isSo_0 : decode cX12_isSo 0 = .ok (.bipush 74, 2) := by decide +kernel
theorem dX12_isSo_2 : decode cX12_isSo 2 = .ok (.iconst 4, 1) := by decide +kernel
theorem dX12_isSo_3 : decode cX12_isSo 3 = .ok (.iload_n 1, 1) := by decide +kernel
theorem dX12_isSo_4 : decode cX12_isSo 4 = .ok (.imul, 1) := by decide +kernel
theorem dX12_isSo_5 : decode cX12_isSo 5 = .ok (.iadd, 1) := by decide +kernel
theorem dX12_isSo_6 : decode cX12_isSo 6 = .ok (.istore_n 2, 1) := by decide +kernel
theorem dX12_isSo_7 : decode cX12_isSo 7 = .ok (.aload_n 0, 1) := by decide +kernel
theorem dX12_isSo_8 : decode cX12_isSo 8 = .ok (.getfield 9, 3) := by decide +kernel
theorem dX12_isSo_11 : decode cX12_isSo 11 = .ok (.iload_n 2, 1) := by decide +kernel
theorem dX12_isSo_12 : decode cX12_isSo 12 = .ok (.iconst 1, 1) := by decide +kernel
theorem dX12_isSo_13 : decode cX12_isSo 13 = .ok (.iadd, 1) := by decide +kernel
theorem dX12_isSo_14 : decode cX12_isSo 14 = .ok (.iaload, 1) := by decide +kernel
theorem dX12_isSo_15 : decode cX12_isSo 15 = .ok (.ifCond .ne 17, 3) := by decide +kernel
theorem dX12_isSo_18 : decode cX12_isSo 18 = .ok (.aload_n 0, 1) := by decide +kernel
theorem dX12_isSo_19 : decode cX12_isSo 19 = .ok (.getfield 44, 3) := by decide +kernel
theorem dX12_isSo_22 : decode cX12_isSo 22 = .ok (.aload_n 0, 1) := by decide +kernel
theorem dX12_isSo_23 : decode cX12_isSo 23 = .ok (.getfield 9, 3) := by decide +kernel
theorem dX12_isSo_26 : decode cX12_isSo 26 = .ok (.iload_n 2, 1) := by decide +kernel
theorem dX12_isSo_27 : decode cX12_isSo 27 = .ok (.iaload, 1) := by decide +kernel
theorem dX12_isSo_28 : decode cX12_isSo 28 = .ok (.iaload, 1) := by decide +kernel
theorem dX12_isSo_29 : decode cX12_isSo 29 = .ok (.goto 14, 3) := by decide +kernel
theorem dX12_isSo_32 : decode cX12_isSo 32 = .ok (.aload_n 0, 1) := by decide +kernel
theorem dX12_isSo_33 : decode cX12_isSo 33 = .ok (.getfield 47, 3) := by decide +kernel
theorem dX12_isSo_36 : decode cX12_isSo 36 = .ok (.aload_n 0, 1) := by decide +kernel
theorem dX12_isSo_37 : decode cX12_isSo 37 = .ok (.getfield 9, 3) := by decide +kernel
theorem dX12_isSo_40 : decode cX12_isSo 40 = .ok (.iload_n 2, 1) := by decide +kernel
theorem dX12_isSo_41 : decode cX12_isSo 41 = .ok (.iaload, 1) := by decide +kernel
theorem dX12_isSo_42 : decode cX12_isSo 42 = .ok (.iaload, 1) := by decide +kernel
theorem dX12_isSo_43 : decode cX12_isSo 43 = .ok (.istore_n 3, 1) := by decide +kernel
theorem dX12_isSo_44 : decode cX12_isSo 44 = .ok (.iload_n 3, 1) := by decide +kernel
theorem dX12_isSo_45 : decode cX12_isSo 45 = .ok (.aload_n 0, 1) := by decide +kernel
theorem dX12_isSo_46 : decode cX12_isSo 46 = .ok (.getfield 9, 3) := by decide +kernel
theorem dX12_isSo_49 : decode cX12_isSo 49 = .ok (.iload_n 2, 1) := by decide +kernel
theorem dX12_isSo_50 : decode cX12_isSo 50 = .ok (.iconst 2, 1) := by decide +kernel
theorem dX12_isSo_51 : decode cX12_isSo 51 = .ok (.iadd, 1) := by decide +kernel
theorem dX12_isSo_52 : decode cX12_isSo 52 = .ok (.iaload, 1) := by decide +kernel
theorem dX12_isSo_53 : decode cX12_isSo 53 = .ok (.aload_n 0, 1) := by decide +kernel
theorem dX12_isSo_54 : decode cX12_isSo 54 = .ok (.getfield 9, 3) := by decide +kernel
theorem dX12_isSo_57 : decode cX12_isSo 57 = .ok (.iload_n 2, 1) := by decide +kernel
theorem dX12_isSo_58 : decode cX12_isSo 58 = .ok (.iconst 3, 1) := by decide +kernel
theorem dX12_isSo_59 : decode cX12_isSo 59 = .ok (.iadd, 1) := by decide +kernel
theorem dX12_isSo_60 : decode cX12_isSo 60 = .ok (.iaload, 1) := by decide +kernel
theorem dX12_isSo_61 : decode cX12_isSo 61 = .ok (.invokestatic 71, 3) := by decide +kernel
theorem dX12_isSo_64 : decode cX12_isSo 64 = .ok (.ireturn, 1) := by decide +kernel
theorem dX12_fitting_0 : decode cX12_fitting 0 = .ok (.iconst 0, 1) := by decide +kernel
theorem dX12_fitting_1 : decode cX12_fitting 1 = .ok (.istore_n 2, 1) := by decide +kernel
theorem dX12_fitting_2 : decode cX12_fitting 2 = .ok (.aload_n 0, 1) := by decide +kernel
theorem dX12_fitting_3 : decode cX12_fitting 3 = .ok (.iconst (-1), 1) := by decide +kernel
theorem dX12_fitting_4 : decode cX12_fitting 4 = .ok (.putfield 304, 3) := by decide +kernel
theorem dX12_fitting_7 : decode cX12_fitting 7 = .ok (.iconst 0, 1) := by decide +kernel
theorem dX12_fitting_8 : decode cX12_fitting 8 = .ok (.istore_n 3, 1) := by decide +kernel
theorem dX12_fitting_9 : decode cX12_fitting 9 = .ok (.iload_n 3, 1) := by decide +kernel
theorem dX12_fitting_10 : decode cX12_fitting 10 = .ok (.sipush 500, 3) := by decide +kernel
theorem dX12_fitting_13 : decode cX12_fitting 13 = .ok (.if_icmp .ge 118, 3) := by decide +kernel
theorem dX12_fitting_16 : decode cX12_fitting 16 = .ok (.aload_n 0, 1) := by decide +kernel
theorem dX12_fitting_17 : decode cX12_fitting 17 = .ok (.iconst 1, 1) := by decide +kernel
theorem dX12_fitting_18 : decode cX12_fitting 18 = .ok (.iload_n 3, 1) := by decide +kernel
theorem dX12_fitting_19 : decode cX12_fitting 19 = .ok (.bipush 100, 2) := by decide +kernel
theorem dX12_fitting_21 : decode cX12_fitting 21 = .ok (.idiv, 1) := by decide +kernel
theorem dX12_fitting_22 : decode cX12_fitting 22 = .ok (.iadd, 1) := by decide +kernel
theorem dX12_fitting_23 : decode cX12_fitting 23 = .ok (.iload_n 3, 1) := by decide +kernel
theorem dX12_fitting_24 : decode cX12_fitting 24 = .ok (.bipush 10, 2) := by decide +kernel
theorem dX12_fitting_26 : decode cX12_fitting 26 = .ok (.idiv, 1) := by decide +kernel
theorem dX12_fitting_27 : decode cX12_fitting 27 = .ok (.bipush 10, 2) := by decide +kernel
theorem dX12_fitting_29 : decode cX12_fitting 29 = .ok (.irem, 1) := by decide +kernel
theorem dX12_fitting_30 : decode cX12_fitting 30 = .ok (.iload_n 3, 1) := by decide +kernel
theorem dX12_fitting_31 : decode cX12_fitting 31 = .ok (.bipush 10, 2) := by decide +kernel
theorem dX12_fitting_33 : decode cX12_fitting 33 = .ok (.irem, 1) := by decide +kernel
theorem dX12_fitting_34 : decode cX12_fitting 34 = .ok (.invokevirtual 307, 3) := by decide +kernel
theorem dX12_fitting_37 : decode cX12_fitting 37 = .ok (.iconst 1, 1) := by decide +kernel
theorem dX12_fitting_38 : decode cX12_fitting 38 = .ok (.istore 4, 2) := by decide +kernel
theorem dX12_fitting_40 : decode cX12_fitting 40 = .ok (.iconst 0, 1) := by decide +kernel
theorem dX12_fitting_41 : decode cX12_fitting 41 = .ok (.istore 5, 2) := by decide +kernel
theorem dX12_fitting_43 : decode cX12_fitting 43 = .ok (.iload 5, 2) := by decide +kernel
theorem dX12_fitting_45 : decode cX12_fitting 45 = .ok (.aload_n 0, 1) := by decide +kernel
theorem dX12_fitting_46 : decode cX12_fitting 46 = .ok (.getfield 9, 3) := by decide +kernel
theorem dX12_fitting_49 : decode cX12_fitting 49 = .ok (.bipush 8, 2) := by decide +kernel
theorem dX12_fitting_51 : decode cX12_fitting 51 = .ok (.iaload, 1) := by decide +kernel
theorem dX12_fitting_52 : decode cX12_fitting 52 = .ok (.if_icmp .ge 36, 3) := by decide +kernel
theorem dX12_fitting_55 : decode cX12_fitting 55 = .ok (.iload 4, 2) := by decide +kernel
theorem dX12_fitting_57 : decode cX12_fitting 57 = .ok (.ifCond .eq 31, 3) := by decide +kernel
theorem dX12_fitting_60 : decode cX12_fitting 60 = .ok (.iload 5, 2) := by decide +kernel
theorem dX12_fitting_62 : decode cX12_fitting 62 = .ok (.iload_n 1, 1) := by decide +kernel
theorem dX12_fitting_63 : decode cX12_fitting 63 = .ok (.if_icmp .eq 12, 3) := by decide +kernel
theorem dX12_fitting_66 : decode cX12_fitting 66 = .ok (.aload_n 0, 1) := by decide +kernel
theorem dX12_fitting_67 : decode cX12_fitting 67 = .ok (.iload 5, 2) := by decide +kernel
theorem dX12_fitting_69 : decode cX12_fitting 69 = .ok (.invokevirtual 310, 3) := by decide +kernel
theorem dX12_fitting_72 : decode cX12_fitting 72 = .ok (.ifCond .eq 7, 3) := by decide +kernel
theorem dX12_fitting_75 : decode cX12_fitting 75 = .ok (.iconst 1, 1) := by decide +kernel
theorem dX12_fitting_76 : decode cX12_fitting 76 = .ok (.goto 4, 3) := by decide +kernel
theorem dX12_fitting_79 : decode cX12_fitting 79 = .ok (.iconst 0, 1) := by decide +kernel
theorem dX12_fitting_80 : decode cX12_fitting 80 = .ok (.istore 4, 2) := by decide +kernel
theorem dX12_fitting_82 : decode cX12_fitting 82 = .ok (.iinc 5 1, 3) := by decide +kernel
theorem dX12_fitting_85 : decode cX12_fitting 85 = .ok (.goto (-42), 3) := by decide +kernel
theorem dX12_fitting_88 : decode cX12_fitting 88 = .ok (.iload_n 2, 1) := by decide +kernel
theorem dX12_fitting_89 : decode cX12_fitting 89 = .ok (.iload 4, 2) := by decide +kernel
theorem dX12_fitting_91 : decode cX12_fitting 91 = .ok (.ifCond .eq 7, 3) := by decide +kernel
theorem dX12_fitting_94 : decode cX12_fitting 94 = .ok (.iconst 1, 1) := by decide +kernel
theorem dX12_fitting_95 : decode cX12_fitting 95 = .ok (.goto 4, 3) := by decide +kernel
theorem dX12_fitting_98 : decode cX12_fitting 98 = .ok (.iconst 0, 1) := by decide +kernel
theorem dX12_fitting_99 : decode cX12_fitting 99 = .ok (.iadd, 1) := by decide +kernel
theorem dX12_fitting_100 : decode cX12_fitting 100 = .ok (.istore_n 2, 1) := by decide +kernel
theorem dX12_fitting_101 : decode cX12_fitting 101 = .ok (.aload_n 0, 1) := by decide +kernel
theorem dX12_fitting_102 : decode cX12_fitting 102 = .ok (.iload 4, 2) := by decide +kernel
theorem dX12_fitting_104 : decode cX12_fitting 104 = .ok (.ifCond .eq 14, 3) := by decide +kernel
theorem dX12_fitting_107 : decode cX12_fitting 107 = .ok (.aload_n 0, 1) := by decide +kernel
theorem dX12_fitting_108 : decode cX12_fitting 108 = .ok (.getfield 304, 3) := by decide +kernel
theorem dX12_fitting_111 : decode cX12_fitting 111 = .ok (.ifCond .ge 7, 3) := by decide +kernel
theorem dX12_fitting_114 : decode cX12_fitting 114 = .ok (.iload_n 3, 1) := by decide +kernel
theorem dX12_fitting_115 : decode cX12_fitting 115 = .ok (.goto 7, 3) := by decide +kernel
theorem dX12_fitting_118 : decode cX12_fitting 118 = .ok (.aload_n 0, 1) := by decide +kernel
theorem dX12_fitting_119 : decode cX12_fitting 119 = .ok (.getfield 304, 3) := by decide +kernel
theorem dX12_fitting_122 : decode cX12_fitting 122 = .ok (.putfield 304, 3) := by decide +kernel
theorem dX12_fitting_125 : decode cX12_fitting 125 = .ok (.iinc 3 1, 3) := by decide +kernel
theorem dX12_fitting_128 : decode cX12_fitting 128 = .ok (.goto (-119), 3) := by decide +kernel
theorem dX12_fitting_131 : decode cX12_fitting 131 = .ok (.iload_n 2, 1) := by decide +kernel
theorem dX12_fitting_132 : decode cX12_fitting 132 = .ok (.ireturn, 1) := by decide +kernel
theorem dX12_stories_0 : decode cX12_stories 0 = .ok (.iload_n 1, 1) := by decide +kernel
theorem dX12_stories_1 : decode cX12_stories 1 = .ok (.iconst 0, 1) := by decide +kernel
theorem dX12_stories_2 : decode cX12_stories 2 = .ok (.iconst 3, 1) := by decide +kernel
theorem dX12_stories_3 : decode cX12_stories 3 = .ok (.invokestatic 71, 3) := by decide +kernel
theorem dX12_stories_6 : decode cX12_stories 6 = .ok (.ifCond .ne 5, 3) := by decide +kernel
theorem dX12_stories_9 : decode cX12_stories 9 = .ok (.iconst (-1), 1) := by decide +kernel
theorem dX12_stories_10 : decode cX12_stories 10 = .ok (.ireturn, 1) := by decide +kernel
theorem dX12_stories_11 : decode cX12_stories 11 = .ok (.aload_n 0, 1) := by decide +kernel
theorem dX12_stories_12 : decode cX12_stories 12 = .ok (.iconst (-1), 1) := by decide +kernel
theorem dX12_stories_13 : decode cX12_stories 13 = .ok (.invokevirtual 313, 3) := by decide +kernel
theorem dX12_stories_16 : decode cX12_stories 16 = .ok (.istore_n 2, 1) := by decide +kernel
theorem dX12_stories_17 : decode cX12_stories 17 = .ok (.iload_n 1, 1) := by decide +kernel
theorem dX12_stories_18 : decode cX12_stories 18 = .ok (.ifCond .le 10, 3) := by decide +kernel
theorem dX12_stories_21 : decode cX12_stories 21 = .ok (.iload_n 2, 1) := by decide +kernel
theorem dX12_stories_22 : decode cX12_stories 22 = .ok (.ifCond .ne 6, 3) := by decide +kernel
theorem dX12_stories_25 : decode cX12_stories 25 = .ok (.bipush (-3), 2) := by decide +kernel
theorem dX12_stories_27 : decode cX12_stories 27 = .ok (.ireturn, 1) := by decide +kernel
theorem dX12_stories_28 : decode cX12_stories 28 = .ok (.iload_n 1, 1) := by decide +kernel
theorem dX12_stories_29 : decode cX12_stories 29 = .ok (.ifCond .ne 7, 3) := by decide +kernel
theorem dX12_stories_32 : decode cX12_stories 32 = .ok (.iload_n 2, 1) := by decide +kernel
theorem dX12_stories_33 : decode cX12_stories 33 = .ok (.goto 45, 3) := by decide +kernel
theorem dX12_stories_36 : decode cX12_stories 36 = .ok (.iload_n 1, 1) := by decide +kernel
theorem dX12_stories_37 : decode cX12_stories 37 = .ok (.iconst 1, 1) := by decide +kernel
theorem dX12_stories_38 : decode cX12_stories 38 = .ok (.if_icmp .ne 15, 3) := by decide +kernel
theorem dX12_stories_41 : decode cX12_stories 41 = .ok (.iconst 1, 1) := by decide +kernel
theorem dX12_stories_42 : decode cX12_stories 42 = .ok (.aload_n 0, 1) := by decide +kernel
theorem dX12_stories_43 : decode cX12_stories 43 = .ok (.getfield 304, 3) := by decide +kernel
theorem dX12_stories_46 : decode cX12_stories 46 = .ok (.bipush 100, 2) := by decide +kernel
theorem dX12_stories_48 : decode cX12_stories 48 = .ok (.idiv, 1) := by decide +kernel
theorem dX12_stories_49 : decode cX12_stories 49 = .ok (.iadd, 1) := by decide +kernel
theorem dX12_stories_50 : decode cX12_stories 50 = .ok (.goto 28, 3) := by decide +kernel
theorem dX12_stories_53 : decode cX12_stories 53 = .ok (.iload_n 1, 1) := by decide +kernel
theorem dX12_stories_54 : decode cX12_stories 54 = .ok (.iconst 2, 1) := by decide +kernel
theorem dX12_stories_55 : decode cX12_stories 55 = .ok (.if_icmp .ne 16, 3) := by decide +kernel
theorem dX12_stories_58 : decode cX12_stories 58 = .ok (.aload_n 0, 1) := by decide +kernel
theorem dX12_stories_59 : decode cX12_stories 59 = .ok (.getfield 304, 3) := by decide +kernel
theorem dX12_stories_62 : decode cX12_stories 62 = .ok (.bipush 10, 2) := by decide +kernel
theorem dX12_stories_64 : decode cX12_stories 64 = .ok (.idiv, 1) := by decide +kernel
theorem dX12_stories_65 : decode cX12_stories 65 = .ok (.bipush 10, 2) := by decide +kernel
theorem dX12_stories_67 : decode cX12_stories 67 = .ok (.irem, 1) := by decide +kernel
theorem dX12_stories_68 : decode cX12_stories 68 = .ok (.goto 10, 3) := by decide +kernel
theorem dX12_stories_71 : decode cX12_stories 71 = .ok (.aload_n 0, 1) := by decide +kernel
theorem dX12_stories_72 : decode cX12_stories 72 = .ok (.getfield 304, 3) := by decide +kernel
theorem dX12_stories_75 : decode cX12_stories 75 = .ok (.bipush 10, 2) := by decide +kernel
theorem dX12_stories_77 : decode cX12_stories 77 = .ok (.irem, 1) := by decide +kernel
theorem dX12_stories_78 : decode cX12_stories 78 = .ok (.ireturn, 1) := by decide +kernel
theorem dX12_liar_0 : decode cX12_liar 0 = .ok (.aload_n 0, 1) := by decide +kernel
theorem dX12_liar_1 : decode cX12_liar 1 = .ok (.iconst (-1), 1) := by decide +kernel
theorem dX12_liar_2 : decode cX12_liar 2 = .ok (.invokevirtual 313, 3) := by decide +kernel
theorem dX12_liar_5 : decode cX12_liar 5 = .ok (.ifCond .le 6, 3) := by decide +kernel
theorem dX12_liar_8 : decode cX12_liar 8 = .ok (.bipush (-3), 2) := by decide +kernel
theorem dX12_liar_10 : decode cX12_liar 10 = .ok (.ireturn, 1) := by decide +kernel
theorem dX12_liar_11 : decode cX12_liar 11 = .ok (.iconst 0, 1) := by decide +kernel
theorem dX12_liar_12 : decode cX12_liar 12 = .ok (.istore_n 1, 1) := by decide +kernel
theorem dX12_liar_13 : decode cX12_liar 13 = .ok (.iload_n 1, 1) := by decide +kernel
theorem dX12_liar_14 : decode cX12_liar 14 = .ok (.aload_n 0, 1) := by decide +kernel
theorem dX12_liar_15 : decode cX12_liar 15 = .ok (.getfield 9, 3) := by decide +kernel
theorem dX12_liar_18 : decode cX12_liar 18 = .ok (.bipush 8, 2) := by decide +kernel
theorem dX12_liar_20 : decode cX12_liar 20 = .ok (.iaload, 1) := by decide +kernel
theorem dX12_liar_21 : decode cX12_liar 21 = .ok (.if_icmp .ge 19, 3) := by decide +kernel
theorem dX12_liar_24 : decode cX12_liar 24 = .ok (.aload_n 0, 1) := by decide +kernel
theorem dX12_liar_25 : decode cX12_liar 25 = .ok (.iload_n 1, 1) := by decide +kernel
theorem dX12_liar_26 : decode cX12_liar 26 = .ok (.invokevirtual 313, 3) := by decide +kernel
theorem dX12_liar_29 : decode cX12_liar 29 = .ok (.ifCond .le 5, 3) := by decide +kernel
theorem dX12_liar_32 : decode cX12_liar 32 = .ok (.iload_n 1, 1) := by decide +kernel
theorem dX12_liar_33 : decode cX12_liar 33 = .ok (.ireturn, 1) := by decide +kernel
theorem dX12_liar_34 : decode cX12_liar 34 = .ok (.iinc 1 1, 3) := by decide +kernel
theorem dX12_liar_37 : decode cX12_liar 37 = .ok (.goto (-24), 3) := by decide +kernel
theorem dX12_liar_40 : decode cX12_liar 40 = .ok (.bipush (-3), 2) := by decide +kernel
theorem dX12_liar_42 : decode cX12_liar 42 = .ok (.ireturn, 1) := by decide +kernel
theorem dX12_seed_0 : decode cX12_seed 0 = .ok (.aload_n 0, 1) := by decide +kernel
theorem dX12_seed_1 : decode cX12_seed 1 = .ok (.iconst 5, 1) := by decide +kernel
theorem dX12_seed_2 : decode cX12_seed 2 = .ok (.iload_n 1, 1) := by decide +kernel
theorem dX12_seed_3 : decode cX12_seed 3 = .ok (.invokevirtual 223, 3) := by decide +kernel
theorem dX12_seed_6 : decode cX12_seed 6 = .ok (.ireturn, 1) := by decide +kernel
theorem dX12_byLot_0 : decode cX12_byLot 0 = .ok (.aload_n 0, 1) := by decide +kernel
theorem dX12_byLot_1 : decode cX12_byLot 1 = .ok (.getfield 9, 3) := by decide +kernel
theorem dX12_byLot_4 : decode cX12_byLot 4 = .ok (.iconst 5, 1) := by decide +kernel
theorem dX12_byLot_5 : decode cX12_byLot 5 = .ok (.aload_n 0, 1) := by decide +kernel
theorem dX12_byLot_6 : decode cX12_byLot 6 = .ok (.getfield 9, 3) := by decide +kernel
theorem dX12_byLot_9 : decode cX12_byLot 9 = .ok (.iconst 5, 1) := by decide +kernel
theorem dX12_byLot_10 : decode cX12_byLot 10 = .ok (.iaload, 1) := by decide +kernel
theorem dX12_byLot_11 : decode cX12_byLot 11 = .ok (.ldc_w 316, 3) := by decide +kernel
theorem dX12_byLot_14 : decode cX12_byLot 14 = .ok (.imul, 1) := by decide +kernel
theorem dX12_byLot_15 : decode cX12_byLot 15 = .ok (.sipush 12345, 3) := by decide +kernel
theorem dX12_byLot_18 : decode cX12_byLot 18 = .ok (.iadd, 1) := by decide +kernel
theorem dX12_byLot_19 : decode cX12_byLot 19 = .ok (.iastore, 1) := by decide +kernel
theorem dX12_byLot_20 : decode cX12_byLot 20 = .ok (.aload_n 0, 1) := by decide +kernel
theorem dX12_byLot_21 : decode cX12_byLot 21 = .ok (.aload_n 0, 1) := by decide +kernel
theorem dX12_byLot_22 : decode cX12_byLot 22 = .ok (.getfield 9, 3) := by decide +kernel
theorem dX12_byLot_25 : decode cX12_byLot 25 = .ok (.iconst 5, 1) := by decide +kernel
theorem dX12_byLot_26 : decode cX12_byLot 26 = .ok (.iaload, 1) := by decide +kernel
theorem dX12_byLot_27 : decode cX12_byLot 27 = .ok (.bipush 16, 2) := by decide +kernel
theorem dX12_byLot_29 : decode cX12_byLot 29 = .ok (.iushr, 1) := by decide +kernel
theorem dX12_byLot_30 : decode cX12_byLot 30 = .ok (.aload_n 0, 1) := by decide +kernel
theorem dX12_byLot_31 : decode cX12_byLot 31 = .ok (.getfield 9, 3) := by decide +kernel
theorem dX12_byLot_34 : decode cX12_byLot 34 = .ok (.bipush 6, 2) := by decide +kernel
theorem dX12_byLot_36 : decode cX12_byLot 36 = .ok (.iaload, 1) := by decide +kernel
theorem dX12_byLot_37 : decode cX12_byLot 37 = .ok (.iconst 1, 1) := by decide +kernel
theorem dX12_byLot_38 : decode cX12_byLot 38 = .ok (.iadd, 1) := by decide +kernel
theorem dX12_byLot_39 : decode cX12_byLot 39 = .ok (.irem, 1) := by decide +kernel
theorem dX12_byLot_40 : decode cX12_byLot 40 = .ok (.invokevirtual 232, 3) := by decide +kernel
theorem dX12_byLot_43 : decode cX12_byLot 43 = .ok (.ireturn, 1) := by decide +kernel
theorem dX12_lot_0 : decode cX12_lot 0 = .ok (.aload_n 0, 1) := by decide +kernel
theorem dX12_lot_1 : decode cX12_lot 1 = .ok (.invokevirtual 226, 3) := by decide +kernel
theorem dX12_lot_4 : decode cX12_lot 4 = .ok (.ifCond .eq 8, 3) := by decide +kernel
theorem dX12_lot_7 : decode cX12_lot 7 = .ok (.bipush (-4), 2) := by decide +kernel
theorem dX12_lot_9 : decode cX12_lot 9 = .ok (.goto 7, 3) := by decide +kernel
theorem dX12_lot_12 : decode cX12_lot 12 = .ok (.aload_n 0, 1) := by decide +kernel
theorem dX12_lot_13 : decode cX12_lot 13 = .ok (.invokevirtual 317, 3) := by decide +kernel
theorem dX12_lot_16 : decode cX12_lot 16 = .ok (.ireturn, 1) := by decide +kernel
theorem dX12_times_0 : decode cX12_times 0 = .ok (.iload_n 1, 1) := by decide +kernel
theorem dX12_times_1 : decode cX12_times 1 = .ok (.iconst 1, 1) := by decide +kernel
theorem dX12_times_2 : decode cX12_times 2 = .ok (.bipush 40, 2) := by decide +kernel
theorem dX12_times_4 : decode cX12_times 4 = .ok (.invokestatic 71, 3) := by decide +kernel
theorem dX12_times_7 : decode cX12_times 7 = .ok (.ifCond .eq 14, 3) := by decide +kernel
theorem dX12_times_10 : decode cX12_times 10 = .ok (.iload_n 2, 1) := by decide +kernel
theorem dX12_times_11 : decode cX12_times 11 = .ok (.iconst 0, 1) := by decide +kernel
theorem dX12_times_12 : decode cX12_times 12 = .ok (.sipush 999, 3) := by decide +kernel
theorem dX12_times_15 : decode cX12_times 15 = .ok (.invokestatic 71, 3) := by decide +kernel
theorem dX12_times_18 : decode cX12_times 18 = .ok (.ifCond .ne 5, 3) := by decide +kernel
theorem dX12_times_21 : decode cX12_times 21 = .ok (.iconst (-1), 1) := by decide +kernel
theorem dX12_times_22 : decode cX12_times 22 = .ok (.ireturn, 1) := by decide +kernel
theorem dX12_times_23 : decode cX12_times 23 = .ok (.aload_n 0, 1) := by decide +kernel
theorem dX12_times_24 : decode cX12_times 24 = .ok (.invokevirtual 235, 3) := by decide +kernel
theorem dX12_times_27 : decode cX12_times 27 = .ok (.iconst 0, 1) := by decide +kernel
theorem dX12_times_28 : decode cX12_times 28 = .ok (.istore_n 3, 1) := by decide +kernel
theorem dX12_times_29 : decode cX12_times 29 = .ok (.iconst 0, 1) := by decide +kernel
theorem dX12_times_30 : decode cX12_times 30 = .ok (.istore 4, 2) := by decide +kernel
theorem dX12_times_32 : decode cX12_times 32 = .ok (.iload 4, 2) := by decide +kernel
theorem dX12_times_34 : decode cX12_times 34 = .ok (.iload_n 1, 1) := by decide +kernel
theorem dX12_times_35 : decode cX12_times 35 = .ok (.if_icmp .ge 65, 3) := by decide +kernel
theorem dX12_times_38 : decode cX12_times 38 = .ok (.iconst 0, 1) := by decide +kernel
theorem dX12_times_39 : decode cX12_times 39 = .ok (.istore 5, 2) := by decide +kernel
theorem dX12_times_41 : decode cX12_times 41 = .ok (.aload_n 0, 1) := by decide +kernel
theorem dX12_times_42 : decode cX12_times 42 = .ok (.invokevirtual 226, 3) := by decide +kernel
theorem dX12_times_45 : decode cX12_times 45 = .ok (.ifCond .ne 15, 3) := by decide +kernel
theorem dX12_times_48 : decode cX12_times 48 = .ok (.iload 5, 2) := by decide +kernel
theorem dX12_times_50 : decode cX12_times 50 = .ok (.aload_n 0, 1) := by decide +kernel
theorem dX12_times_51 : decode cX12_times 51 = .ok (.invokevirtual 317, 3) := by decide +kernel
theorem dX12_times_54 : decode cX12_times 54 = .ok (.iadd, 1) := by decide +kernel
theorem dX12_times_55 : decode cX12_times 55 = .ok (.istore 5, 2) := by decide +kernel
theorem dX12_times_57 : decode cX12_times 57 = .ok (.goto (-16), 3) := by decide +kernel
theorem dX12_times_60 : decode cX12_times 60 = .ok (.iload_n 3, 1) := by decide +kernel
theorem dX12_times_61 : decode cX12_times 61 = .ok (.iload 5, 2) := by decide +kernel
theorem dX12_times_63 : decode cX12_times 63 = .ok (.iload_n 2, 1) := by decide +kernel
theorem dX12_times_64 : decode cX12_times 64 = .ok (.if_icmp .lt 7, 3) := by decide +kernel
theorem dX12_times_67 : decode cX12_times 67 = .ok (.iconst 1, 1) := by decide +kernel
theorem dX12_times_68 : decode cX12_times 68 = .ok (.goto 4, 3) := by decide +kernel
theorem dX12_times_71 : decode cX12_times 71 = .ok (.iconst 0, 1) := by decide +kernel
theorem dX12_times_72 : decode cX12_times 72 = .ok (.iadd, 1) := by decide +kernel
theorem dX12_times_73 : decode cX12_times 73 = .ok (.istore_n 3, 1) := by decide +kernel
theorem dX12_times_74 : decode cX12_times 74 = .ok (.aload_n 0, 1) := by decide +kernel
theorem dX12_times_75 : decode cX12_times 75 = .ok (.getfield 9, 3) := by decide +kernel
theorem dX12_times_78 : decode cX12_times 78 = .ok (.iconst 5, 1) := by decide +kernel
theorem dX12_times_79 : decode cX12_times 79 = .ok (.iaload, 1) := by decide +kernel
theorem dX12_times_80 : decode cX12_times 80 = .ok (.istore 6, 2) := by decide +kernel
theorem dX12_times_82 : decode cX12_times 82 = .ok (.aload_n 0, 1) := by decide +kernel
theorem dX12_times_83 : decode cX12_times 83 = .ok (.invokevirtual 241, 3) := by decide +kernel
theorem dX12_times_86 : decode cX12_times 86 = .ok (.aload_n 0, 1) := by decide +kernel
theorem dX12_times_87 : decode cX12_times 87 = .ok (.getfield 9, 3) := by decide +kernel
theorem dX12_times_90 : decode cX12_times 90 = .ok (.iconst 5, 1) := by decide +kernel
theorem dX12_times_91 : decode cX12_times 91 = .ok (.iload 6, 2) := by decide +kernel
theorem dX12_times_93 : decode cX12_times 93 = .ok (.iastore, 1) := by decide +kernel
theorem dX12_times_94 : decode cX12_times 94 = .ok (.iinc 4 1, 3) := by decide +kernel
theorem dX12_times_97 : decode cX12_times 97 = .ok (.goto (-65), 3) := by decide +kernel
theorem dX12_times_100 : decode cX12_times 100 = .ok (.aload_n 0, 1) := by decide +kernel
theorem dX12_times_101 : decode cX12_times 101 = .ok (.invokevirtual 241, 3) := by decide +kernel
theorem dX12_times_104 : decode cX12_times 104 = .ok (.iload_n 3, 1) := by decide +kernel
theorem dX12_times_105 : decode cX12_times 105 = .ok (.ireturn, 1) := by decide +kernel
theorem dX12_prove_0 : decode cX12_prove 0 = .ok (.iload_n 1, 1) := by decide +kernel
theorem dX12_prove_1 : decode cX12_prove 1 = .ok (.invokestatic 291, 3) := by decide +kernel
theorem dX12_prove_4 : decode cX12_prove 4 = .ok (.ifCond .ne 5, 3) := by decide +kernel
theorem dX12_prove_7 : decode cX12_prove 7 = .ok (.iconst (-1), 1) := by decide +kernel
theorem dX12_prove_8 : decode cX12_prove 8 = .ok (.ireturn, 1) := by decide +kernel
theorem dX12_prove_9 : decode cX12_prove 9 = .ok (.aload_n 0, 1) := by decide +kernel
theorem dX12_prove_10 : decode cX12_prove 10 = .ok (.iload_n 1, 1) := by decide +kernel
theorem dX12_prove_11 : decode cX12_prove 11 = .ok (.iconst 0, 1) := by decide +kernel
theorem dX12_prove_12 : decode cX12_prove 12 = .ok (.invokevirtual 294, 3) := by decide +kernel
theorem dX12_prove_15 : decode cX12_prove 15 = .ok (.aload_n 0, 1) := by decide +kernel
theorem dX12_prove_16 : decode cX12_prove 16 = .ok (.aload_n 0, 1) := by decide +kernel
theorem dX12_prove_17 : decode cX12_prove 17 = .ok (.iload_n 1, 1) := by decide +kernel
theorem dX12_prove_18 : decode cX12_prove 18 = .ok (.invokevirtual 288, 3) := by decide +kernel
theorem dX12_prove_21 : decode cX12_prove 21 = .ok (.putfield 320, 3) := by decide +kernel
theorem dX12_prove_24 : decode cX12_prove 24 = .ok (.aload_n 0, 1) := by decide +kernel
theorem dX12_prove_25 : decode cX12_prove 25 = .ok (.invokevirtual 235, 3) := by decide +kernel
theorem dX12_prove_28 : decode cX12_prove 28 = .ok (.iconst 0, 1) := by decide +kernel
theorem dX12_prove_29 : decode cX12_prove 29 = .ok (.istore_n 2, 1) := by decide +kernel
theorem dX12_prove_30 : decode cX12_prove 30 = .ok (.iload_n 2, 1) := by decide +kernel
theorem dX12_prove_31 : decode cX12_prove 31 = .ok (.aload_n 0, 1) := by decide +kernel
theorem dX12_prove_32 : decode cX12_prove 32 = .ok (.getfield 320, 3) := by decide +kernel
theorem dX12_prove_35 : decode cX12_prove 35 = .ok (.if_icmp .ge 58, 3) := by decide +kernel
theorem dX12_prove_38 : decode cX12_prove 38 = .ok (.aload_n 0, 1) := by decide +kernel
theorem dX12_prove_39 : decode cX12_prove 39 = .ok (.getfield 50, 3) := by decide +kernel
theorem dX12_prove_42 : decode cX12_prove 42 = .ok (.iconst 3, 1) := by decide +kernel
theorem dX12_prove_43 : decode cX12_prove 43 = .ok (.iload_n 2, 1) := by decide +kernel
theorem dX12_prove_44 : decode cX12_prove 44 = .ok (.imul, 1) := by decide +kernel
theorem dX12_prove_45 : decode cX12_prove 45 = .ok (.aload_n 0, 1) := by decide +kernel
theorem dX12_prove_46 : decode cX12_prove 46 = .ok (.getfield 41, 3) := by decide +kernel
theorem dX12_prove_49 : decode cX12_prove 49 = .ok (.iload_n 2, 1) := by decide +kernel
theorem dX12_prove_50 : decode cX12_prove 50 = .ok (.iaload, 1) := by decide +kernel
theorem dX12_prove_51 : decode cX12_prove 51 = .ok (.iastore, 1) := by decide +kernel
theorem dX12_prove_52 : decode cX12_prove 52 = .ok (.aload_n 0, 1) := by decide +kernel
theorem dX12_prove_53 : decode cX12_prove 53 = .ok (.getfield 50, 3) := by decide +kernel
theorem dX12_prove_56 : decode cX12_prove 56 = .ok (.iconst 3, 1) := by decide +kernel
theorem dX12_prove_57 : decode cX12_prove 57 = .ok (.iload_n 2, 1) := by decide +kernel
theorem dX12_prove_58 : decode cX12_prove 58 = .ok (.imul, 1) := by decide +kernel
theorem dX12_prove_59 : decode cX12_prove 59 = .ok (.iconst 1, 1) := by decide +kernel
theorem dX12_prove_60 : decode cX12_prove 60 = .ok (.iadd, 1) := by decide +kernel
theorem dX12_prove_61 : decode cX12_prove 61 = .ok (.aload_n 0, 1) := by decide +kernel
theorem dX12_prove_62 : decode cX12_prove 62 = .ok (.aload_n 0, 1) := by decide +kernel
theorem dX12_prove_63 : decode cX12_prove 63 = .ok (.getfield 41, 3) := by decide +kernel
theorem dX12_prove_66 : decode cX12_prove 66 = .ok (.iload_n 2, 1) := by decide +kernel
theorem dX12_prove_67 : decode cX12_prove 67 = .ok (.iaload, 1) := by decide +kernel
theorem dX12_prove_68 : decode cX12_prove 68 = .ok (.invokevirtual 232, 3) := by decide +kernel
theorem dX12_prove_71 : decode cX12_prove 71 = .ok (.iastore, 1) := by decide +kernel
theorem dX12_prove_72 : decode cX12_prove 72 = .ok (.aload_n 0, 1) := by decide +kernel
theorem dX12_prove_73 : decode cX12_prove 73 = .ok (.getfield 50, 3) := by decide +kernel
theorem dX12_prove_76 : decode cX12_prove 76 = .ok (.iconst 3, 1) := by decide +kernel
theorem dX12_prove_77 : decode cX12_prove 77 = .ok (.iload_n 2, 1) := by decide +kernel
theorem dX12_prove_78 : decode cX12_prove 78 = .ok (.imul, 1) := by decide +kernel
theorem dX12_prove_79 : decode cX12_prove 79 = .ok (.iconst 2, 1) := by decide +kernel
theorem dX12_prove_80 : decode cX12_prove 80 = .ok (.iadd, 1) := by decide +kernel
theorem dX12_prove_81 : decode cX12_prove 81 = .ok (.aload_n 0, 1) := by decide +kernel
theorem dX12_prove_82 : decode cX12_prove 82 = .ok (.iconst 5, 1) := by decide +kernel
theorem dX12_prove_83 : decode cX12_prove 83 = .ok (.invokevirtual 229, 3) := by decide +kernel
theorem dX12_prove_86 : decode cX12_prove 86 = .ok (.iastore, 1) := by decide +kernel
theorem dX12_prove_87 : decode cX12_prove 87 = .ok (.iinc 2 1, 3) := by decide +kernel
theorem dX12_prove_90 : decode cX12_prove 90 = .ok (.goto (-60), 3) := by decide +kernel
theorem dX12_prove_93 : decode cX12_prove 93 = .ok (.aload_n 0, 1) := by decide +kernel
theorem dX12_prove_94 : decode cX12_prove 94 = .ok (.invokevirtual 241, 3) := by decide +kernel
theorem dX12_prove_97 : decode cX12_prove 97 = .ok (.aload_n 0, 1) := by decide +kernel
theorem dX12_prove_98 : decode cX12_prove 98 = .ok (.getfield 320, 3) := by decide +kernel
theorem dX12_prove_101 : decode cX12_prove 101 = .ok (.ireturn, 1) := by decide +kernel
theorem dX12_isRow_0 : decode cX12_isRow 0 = .ok (.iload_n 1, 1) := by decide +kernel
theorem dX12_isRow_1 : decode cX12_isRow 1 = .ok (.iconst 0, 1) := by decide +kernel
theorem dX12_isRow_2 : decode cX12_isRow 2 = .ok (.aload_n 0, 1) := by decide +kernel
theorem dX12_isRow_3 : decode cX12_isRow 3 = .ok (.getfield 320, 3) := by decide +kernel
theorem dX12_isRow_6 : decode cX12_isRow 6 = .ok (.iconst 1, 1) := by decide +kernel
theorem dX12_isRow_7 : decode cX12_isRow 7 = .ok (.isub, 1) := by decide +kernel
theorem dX12_isRow_8 : decode cX12_isRow 8 = .ok (.invokestatic 71, 3) := by decide +kernel
theorem dX12_isRow_11 : decode cX12_isRow 11 = .ok (.ifCond .eq 16, 3) := by decide +kernel
theorem dX12_isRow_14 : decode cX12_isRow 14 = .ok (.iload_n 2, 1) := by decide +kernel
theorem dX12_isRow_15 : decode cX12_isRow 15 = .ok (.iconst 0, 1) := by decide +kernel
theorem dX12_isRow_16 : decode cX12_isRow 16 = .ok (.iconst 2, 1) := by decide +kernel
theorem dX12_isRow_17 : decode cX12_isRow 17 = .ok (.invokestatic 71, 3) := by decide +kernel
theorem dX12_isRow_20 : decode cX12_isRow 20 = .ok (.ifCond .eq 7, 3) := by decide +kernel
theorem dX12_isRow_23 : decode cX12_isRow 23 = .ok (.iconst 1, 1) := by decide +kernel
theorem dX12_isRow_24 : decode cX12_isRow 24 = .ok (.goto 4, 3) := by decide +kernel
theorem dX12_isRow_27 : decode cX12_isRow 27 = .ok (.iconst 0, 1) := by decide +kernel
theorem dX12_isRow_28 : decode cX12_isRow 28 = .ok (.ireturn, 1) := by decide +kernel
theorem dX12_row_0 : decode cX12_row 0 = .ok (.aload_n 0, 1) := by decide +kernel
theorem dX12_row_1 : decode cX12_row 1 = .ok (.iload_n 1, 1) := by decide +kernel
theorem dX12_row_2 : decode cX12_row 2 = .ok (.iload_n 2, 1) := by decide +kernel
theorem dX12_row_3 : decode cX12_row 3 = .ok (.invokevirtual 323, 3) := by decide +kernel
theorem dX12_row_6 : decode cX12_row 6 = .ok (.ifCond .eq 16, 3) := by decide +kernel
theorem dX12_row_9 : decode cX12_row 9 = .ok (.aload_n 0, 1) := by decide +kernel
theorem dX12_row_10 : decode cX12_row 10 = .ok (.getfield 50, 3) := by decide +kernel
theorem dX12_row_13 : decode cX12_row 13 = .ok (.iconst 3, 1) := by decide +kernel
theorem dX12_row_14 : decode cX12_row 14 = .ok (.iload_n 1, 1) := by decide +kernel
theorem dX12_row_15 : decode cX12_row 15 = .ok (.imul, 1) := by decide +kernel
theorem dX12_row_16 : decode cX12_row 16 = .ok (.iload_n 2, 1) := by decide +kernel
theorem dX12_row_17 : decode cX12_row 17 = .ok (.iadd, 1) := by decide +kernel
theorem dX12_row_18 : decode cX12_row 18 = .ok (.iaload, 1) := by decide +kernel
theorem dX12_row_19 : decode cX12_row 19 = .ok (.goto 5, 3) := by decide +kernel
theorem dX12_row_22 : decode cX12_row 22 = .ok (.bipush (-9), 2) := by decide +kernel
theorem dX12_row_24 : decode cX12_row 24 = .ok (.ireturn, 1) := by decide +kernel
theorem dX12_alterRow_0 : decode cX12_alterRow 0 = .ok (.aload_n 0, 1) := by decide +kernel
theorem dX12_alterRow_1 : decode cX12_alterRow 1 = .ok (.iload_n 1, 1) := by decide +kernel
theorem dX12_alterRow_2 : decode cX12_alterRow 2 = .ok (.iload_n 2, 1) := by decide +kernel
theorem dX12_alterRow_3 : decode cX12_alterRow 3 = .ok (.invokevirtual 323, 3) := by decide +kernel
theorem dX12_alterRow_6 : decode cX12_alterRow 6 = .ok (.ifCond .ne 6, 3) := by decide +kernel
theorem dX12_alterRow_9 : decode cX12_alterRow 9 = .ok (.bipush (-9), 2) := by decide +kernel
theorem dX12_alterRow_11 : decode cX12_alterRow 11 = .ok (.ireturn, 1) := by decide +kernel
theorem dX12_alterRow_12 : decode cX12_alterRow 12 = .ok (.aload_n 0, 1) := by decide +kernel
theorem dX12_alterRow_13 : decode cX12_alterRow 13 = .ok (.getfield 50, 3) := by decide +kernel
theorem dX12_alterRow_16 : decode cX12_alterRow 16 = .ok (.iconst 3, 1) := by decide +kernel
theorem dX12_alterRow_17 : decode cX12_alterRow 17 = .ok (.iload_n 1, 1) := by decide +kernel
theorem dX12_alterRow_18 : decode cX12_alterRow 18 = .ok (.imul, 1) := by decide +kernel
theorem dX12_alterRow_19 : decode cX12_alterRow 19 = .ok (.iload_n 2, 1) := by decide +kernel
theorem dX12_alterRow_20 : decode cX12_alterRow 20 = .ok (.iadd, 1) := by decide +kernel
theorem dX12_alterRow_21 : decode cX12_alterRow 21 = .ok (.iaload, 1) := by decide +kernel
theorem dX12_alterRow_22 : decode cX12_alterRow 22 = .ok (.istore 4, 2) := by decide +kernel
theorem dX12_alterRow_24 : decode cX12_alterRow 24 = .ok (.aload_n 0, 1) := by decide +kernel
theorem dX12_alterRow_25 : decode cX12_alterRow 25 = .ok (.getfield 50, 3) := by decide +kernel
theorem dX12_alterRow_28 : decode cX12_alterRow 28 = .ok (.iconst 3, 1) := by decide +kernel
theorem dX12_alterRow_29 : decode cX12_alterRow 29 = .ok (.iload_n 1, 1) := by decide +kernel
theorem dX12_alterRow_30 : decode cX12_alterRow 30 = .ok (.imul, 1) := by decide +kernel
theorem dX12_alterRow_31 : decode cX12_alterRow 31 = .ok (.iload_n 2, 1) := by decide +kernel
theorem dX12_alterRow_32 : decode cX12_alterRow 32 = .ok (.iadd, 1) := by decide +kernel
theorem dX12_alterRow_33 : decode cX12_alterRow 33 = .ok (.iload_n 3, 1) := by decide +kernel
theorem dX12_alterRow_34 : decode cX12_alterRow 34 = .ok (.iastore, 1) := by decide +kernel
theorem dX12_alterRow_35 : decode cX12_alterRow 35 = .ok (.iload 4, 2) := by decide +kernel
theorem dX12_alterRow_37 : decode cX12_alterRow 37 = .ok (.ireturn, 1) := by decide +kernel
theorem dX12_judge_0 : decode cX12_judge 0 = .ok (.aload_n 0, 1) := by decide +kernel
theorem dX12_judge_1 : decode cX12_judge 1 = .ok (.invokevirtual 235, 3) := by decide +kernel
theorem dX12_judge_4 : decode cX12_judge 4 = .ok (.iconst 0, 1) := by decide +kernel
theorem dX12_judge_5 : decode cX12_judge 5 = .ok (.istore_n 1, 1) := by decide +kernel
theorem dX12_judge_6 : decode cX12_judge 6 = .ok (.iconst 0, 1) := by decide +kernel
theorem dX12_judge_7 : decode cX12_judge 7 = .ok (.istore_n 2, 1) := by decide +kernel
theorem dX12_judge_8 : decode cX12_judge 8 = .ok (.iload_n 2, 1) := by decide +kernel
theorem dX12_judge_9 : decode cX12_judge 9 = .ok (.aload_n 0, 1) := by decide +kernel
theorem dX12_judge_10 : decode cX12_judge 10 = .ok (.getfield 320, 3) := by decide +kernel
theorem dX12_judge_13 : decode cX12_judge 13 = .ok (.if_icmp .ge 120, 3) := by decide +kernel
theorem dX12_judge_16 : decode cX12_judge 16 = .ok (.iload_n 1, 1) := by decide +kernel
theorem dX12_judge_17 : decode cX12_judge 17 = .ok (.ifCond .ne 116, 3) := by decide +kernel
theorem dX12_judge_20 : decode cX12_judge 20 = .ok (.aload_n 0, 1) := by decide +kernel
theorem dX12_judge_21 : decode cX12_judge 21 = .ok (.aload_n 0, 1) := by decide +kernel
theorem dX12_judge_22 : decode cX12_judge 22 = .ok (.getfield 50, 3) := by decide +kernel
theorem dX12_judge_25 : decode cX12_judge 25 = .ok (.iconst 3, 1) := by decide +kernel
theorem dX12_judge_26 : decode cX12_judge 26 = .ok (.iload_n 2, 1) := by decide +kernel
theorem dX12_judge_27 : decode cX12_judge 27 = .ok (.imul, 1) := by decide +kernel
theorem dX12_judge_28 : decode cX12_judge 28 = .ok (.iaload, 1) := by decide +kernel
theorem dX12_judge_29 : decode cX12_judge 29 = .ok (.invokevirtual 326, 3) := by decide +kernel
theorem dX12_judge_32 : decode cX12_judge 32 = .ok (.ifCond .eq 14, 3) := by decide +kernel
theorem dX12_judge_35 : decode cX12_judge 35 = .ok (.aload_n 0, 1) := by decide +kernel
theorem dX12_judge_36 : decode cX12_judge 36 = .ok (.invokevirtual 226, 3) := by decide +kernel
theorem dX12_judge_39 : decode cX12_judge 39 = .ok (.ifCond .ne 7, 3) := by decide +kernel
theorem dX12_judge_42 : decode cX12_judge 42 = .ok (.iconst 1, 1) := by decide +kernel
theorem dX12_judge_43 : decode cX12_judge 43 = .ok (.goto 4, 3) := by decide +kernel
theorem dX12_judge_46 : decode cX12_judge 46 = .ok (.iconst 0, 1) := by decide +kernel
theorem dX12_judge_47 : decode cX12_judge 47 = .ok (.istore_n 3, 1) := by decide +kernel
theorem dX12_judge_48 : decode cX12_judge 48 = .ok (.iload_n 3, 1) := by decide +kernel
theorem dX12_judge_49 : decode cX12_judge 49 = .ok (.ifCond .eq 18, 3) := by decide +kernel
theorem dX12_judge_52 : decode cX12_judge 52 = .ok (.aload_n 0, 1) := by decide +kernel
theorem dX12_judge_53 : decode cX12_judge 53 = .ok (.aload_n 0, 1) := by decide +kernel
theorem dX12_judge_54 : decode cX12_judge 54 = .ok (.getfield 50, 3) := by decide +kernel
theorem dX12_judge_57 : decode cX12_judge 57 = .ok (.iconst 3, 1) := by decide +kernel
theorem dX12_judge_58 : decode cX12_judge 58 = .ok (.iload_n 2, 1) := by decide +kernel
theorem dX12_judge_59 : decode cX12_judge 59 = .ok (.imul, 1) := by decide +kernel
theorem dX12_judge_60 : decode cX12_judge 60 = .ok (.iaload, 1) := by decide +kernel
theorem dX12_judge_61 : decode cX12_judge 61 = .ok (.invokevirtual 232, 3) := by decide +kernel
theorem dX12_judge_64 : decode cX12_judge 64 = .ok (.goto 4, 3) := by decide +kernel
theorem dX12_judge_67 : decode cX12_judge 67 = .ok (.iconst 0, 1) := by decide +kernel
theorem dX12_judge_68 : decode cX12_judge 68 = .ok (.istore 4, 2) := by decide +kernel
theorem dX12_judge_70 : decode cX12_judge 70 = .ok (.iload_n 3, 1) := by decide +kernel
theorem dX12_judge_71 : decode cX12_judge 71 = .ok (.ifCond .eq 40, 3) := by decide +kernel
theorem dX12_judge_74 : decode cX12_judge 74 = .ok (.iload 4, 2) := by decide +kernel
theorem dX12_judge_76 : decode cX12_judge 76 = .ok (.aload_n 0, 1) := by decide +kernel
theorem dX12_judge_77 : decode cX12_judge 77 = .ok (.getfield 50, 3) := by decide +kernel
theorem dX12_judge_80 : decode cX12_judge 80 = .ok (.iconst 3, 1) := by decide +kernel
theorem dX12_judge_81 : decode cX12_judge 81 = .ok (.iload_n 2, 1) := by decide +kernel
theorem dX12_judge_82 : decode cX12_judge 82 = .ok (.imul, 1) := by decide +kernel
theorem dX12_judge_83 : decode cX12_judge 83 = .ok (.iconst 1, 1) := by decide +kernel
theorem dX12_judge_84 : decode cX12_judge 84 = .ok (.iadd, 1) := by decide +kernel
theorem dX12_judge_85 : decode cX12_judge 85 = .ok (.iaload, 1) := by decide +kernel
theorem dX12_judge_86 : decode cX12_judge 86 = .ok (.if_icmp .ne 25, 3) := by decide +kernel
theorem dX12_judge_89 : decode cX12_judge 89 = .ok (.aload_n 0, 1) := by decide +kernel
theorem dX12_judge_90 : decode cX12_judge 90 = .ok (.iconst 5, 1) := by decide +kernel
theorem dX12_judge_91 : decode cX12_judge 91 = .ok (.invokevirtual 229, 3) := by decide +kernel
theorem dX12_judge_94 : decode cX12_judge 94 = .ok (.aload_n 0, 1) := by decide +kernel
theorem dX12_judge_95 : decode cX12_judge 95 = .ok (.getfield 50, 3) := by decide +kernel
theorem dX12_judge_98 : decode cX12_judge 98 = .ok (.iconst 3, 1) := by decide +kernel
theorem dX12_judge_99 : decode cX12_judge 99 = .ok (.iload_n 2, 1) := by decide +kernel
theorem dX12_judge_100 : decode cX12_judge 100 = .ok (.imul, 1) := by decide +kernel
theorem dX12_judge_101 : decode cX12_judge 101 = .ok (.iconst 2, 1) := by decide +kernel
theorem dX12_judge_102 : decode cX12_judge 102 = .ok (.iadd, 1) := by decide +kernel
theorem dX12_judge_103 : decode cX12_judge 103 = .ok (.iaload, 1) := by decide +kernel
theorem dX12_judge_104 : decode cX12_judge 104 = .ok (.if_icmp .ne 7, 3) := by decide +kernel
theorem dX12_judge_107 : decode cX12_judge 107 = .ok (.iconst 1, 1) := by decide +kernel
theorem dX12_judge_108 : decode cX12_judge 108 = .ok (.goto 4, 3) := by decide +kernel
theorem dX12_judge_111 : decode cX12_judge 111 = .ok (.iconst 0, 1) := by decide +kernel
theorem dX12_judge_112 : decode cX12_judge 112 = .ok (.istore 5, 2) := by decide +kernel
theorem dX12_judge_114 : decode cX12_judge 114 = .ok (.iload 5, 2) := by decide +kernel
theorem dX12_judge_116 : decode cX12_judge 116 = .ok (.ifCond .eq 7, 3) := by decide +kernel
theorem dX12_judge_119 : decode cX12_judge 119 = .ok (.iconst 0, 1) := by decide +kernel
theorem dX12_judge_120 : decode cX12_judge 120 = .ok (.goto 6, 3) := by decide +kernel
theorem dX12_judge_123 : decode cX12_judge 123 = .ok (.iconst 1, 1) := by decide +kernel
theorem dX12_judge_124 : decode cX12_judge 124 = .ok (.iload_n 2, 1) := by decide +kernel
theorem dX12_judge_125 : decode cX12_judge 125 = .ok (.iadd, 1) := by decide +kernel
theorem dX12_judge_126 : decode cX12_judge 126 = .ok (.istore_n 1, 1) := by decide +kernel
theorem dX12_judge_127 : decode cX12_judge 127 = .ok (.iinc 2 1, 3) := by decide +kernel
theorem dX12_judge_130 : decode cX12_judge 130 = .ok (.goto (-122), 3) := by decide +kernel
theorem dX12_judge_133 : decode cX12_judge 133 = .ok (.aload_n 0, 1) := by decide +kernel
theorem dX12_judge_134 : decode cX12_judge 134 = .ok (.invokevirtual 241, 3) := by decide +kernel
theorem dX12_judge_137 : decode cX12_judge 137 = .ok (.iload_n 1, 1) := by decide +kernel
theorem dX12_judge_138 : decode cX12_judge 138 = .ok (.ireturn, 1) := by decide +kernel
theorem dX12_isSheet_0 : decode cX12_isSheet 0 = .ok (.iload_n 0, 1) := by decide +kernel
theorem dX12_isSheet_1 : decode cX12_isSheet 1 = .ok (.iconst 0, 1) := by decide +kernel
theorem dX12_isSheet_2 : decode cX12_isSheet 2 = .ok (.iconst 3, 1) := by decide +kernel
theorem dX12_isSheet_3 : decode cX12_isSheet 3 = .ok (.invokestatic 71, 3) := by decide +kernel
theorem dX12_isSheet_6 : decode cX12_isSheet 6 = .ok (.ireturn, 1) := by decide +kernel
theorem dX12_sheet_0 : decode cX12_sheet 0 = .ok (.iload_n 1, 1) := by decide +kernel
theorem dX12_sheet_1 : decode cX12_sheet 1 = .ok (.invokestatic 329, 3) := by decide +kernel
theorem dX12_sheet_4 : decode cX12_sheet 4 = .ok (.ifCond .eq 22, 3) := by decide +kernel
theorem dX12_sheet_7 : decode cX12_sheet 7 = .ok (.iload_n 2, 1) := by decide +kernel
theorem dX12_sheet_8 : decode cX12_sheet 8 = .ok (.iconst (-1), 1) := by decide +kernel
theorem dX12_sheet_9 : decode cX12_sheet 9 = .ok (.iconst 4, 1) := by decide +kernel
theorem dX12_sheet_10 : decode cX12_sheet 10 = .ok (.invokestatic 71, 3) := by decide +kernel
theorem dX12_sheet_13 : decode cX12_sheet 13 = .ok (.ifCond .eq 13, 3) := by decide +kernel
theorem dX12_sheet_16 : decode cX12_sheet 16 = .ok (.iload_n 2, 1) := by decide +kernel
theorem dX12_sheet_17 : decode cX12_sheet 17 = .ok (.ifCond .lt 11, 3) := by decide +kernel
theorem dX12_sheet_20 : decode cX12_sheet 20 = .ok (.iload_n 3, 1) := by decide +kernel
theorem dX12_sheet_21 : decode cX12_sheet 21 = .ok (.bipush 40, 2) := by decide +kernel
theorem dX12_sheet_23 : decode cX12_sheet 23 = .ok (.if_icmp .le 5, 3) := by decide +kernel
theorem dX12_sheet_26 : decode cX12_sheet 26 = .ok (.iconst (-1), 1) := by decide +kernel
theorem dX12_sheet_27 : decode cX12_sheet 27 = .ok (.ireturn, 1) := by decide +kernel
theorem dX12_sheet_28 : decode cX12_sheet 28 = .ok (.iload_n 2, 1) := by decide +kernel
theorem dX12_sheet_29 : decode cX12_sheet 29 = .ok (.ifCond .lt 10, 3) := by decide +kernel
theorem dX12_sheet_32 : decode cX12_sheet 32 = .ok (.iload_n 3, 1) := by decide +kernel
theorem dX12_sheet_33 : decode cX12_sheet 33 = .ok (.ifCond .ge 6, 3) := by decide +kernel
theorem dX12_sheet_36 : decode cX12_sheet 36 = .ok (.bipush (-14), 2) := by decide +kernel
theorem dX12_sheet_38 : decode cX12_sheet 38 = .ok (.ireturn, 1) := by decide +kernel
theorem dX12_sheet_39 : decode cX12_sheet 39 = .ok (.aload_n 0, 1) := by decide +kernel
theorem dX12_sheet_40 : decode cX12_sheet 40 = .ok (.getfield 53, 3) := by decide +kernel
theorem dX12_sheet_43 : decode cX12_sheet 43 = .ok (.iload_n 1, 1) := by decide +kernel
theorem dX12_sheet_44 : decode cX12_sheet 44 = .ok (.iload_n 2, 1) := by decide +kernel
theorem dX12_sheet_45 : decode cX12_sheet 45 = .ok (.iastore, 1) := by decide +kernel
theorem dX12_sheet_46 : decode cX12_sheet 46 = .ok (.aload_n 0, 1) := by decide +kernel
theorem dX12_sheet_47 : decode cX12_sheet 47 = .ok (.getfield 56, 3) := by decide +kernel
theorem dX12_sheet_50 : decode cX12_sheet 50 = .ok (.iload_n 1, 1) := by decide +kernel
theorem dX12_sheet_51 : decode cX12_sheet 51 = .ok (.iload_n 2, 1) := by decide +kernel
theorem dX12_sheet_52 : decode cX12_sheet 52 = .ok (.ifCond .ge 7, 3) := by decide +kernel
theorem dX12_sheet_55 : decode cX12_sheet 55 = .ok (.iconst 0, 1) := by decide +kernel
theorem dX12_sheet_56 : decode cX12_sheet 56 = .ok (.goto 4, 3) := by decide +kernel
theorem dX12_sheet_59 : decode cX12_sheet 59 = .ok (.iload_n 3, 1) := by decide +kernel
theorem dX12_sheet_60 : decode cX12_sheet 60 = .ok (.iastore, 1) := by decide +kernel
theorem dX12_sheet_61 : decode cX12_sheet 61 = .ok (.iconst 0, 1) := by decide +kernel
theorem dX12_sheet_62 : decode cX12_sheet 62 = .ok (.istore 4, 2) := by decide +kernel
theorem dX12_sheet_64 : decode cX12_sheet 64 = .ok (.iload 4, 2) := by decide +kernel
theorem dX12_sheet_66 : decode cX12_sheet 66 = .ok (.bipush 40, 2) := by decide +kernel
theorem dX12_sheet_68 : decode cX12_sheet 68 = .ok (.if_icmp .ge 22, 3) := by decide +kernel
theorem dX12_sheet_71 : decode cX12_sheet 71 = .ok (.aload_n 0, 1) := by decide +kernel
theorem dX12_sheet_72 : decode cX12_sheet 72 = .ok (.getfield 59, 3) := by decide +kernel
theorem dX12_sheet_75 : decode cX12_sheet 75 = .ok (.bipush 40, 2) := by decide +kernel
theorem dX12_sheet_77 : decode cX12_sheet 77 = .ok (.iload_n 1, 1) := by decide +kernel
theorem dX12_sheet_78 : decode cX12_sheet 78 = .ok (.imul, 1) := by decide +kernel
theorem dX12_sheet_79 : decode cX12_sheet 79 = .ok (.iload 4, 2) := by decide +kernel
theorem dX12_sheet_81 : decode cX12_sheet 81 = .ok (.iadd, 1) := by decide +kernel
theorem dX12_sheet_82 : decode cX12_sheet 82 = .ok (.iconst 0, 1) := by decide +kernel
theorem dX12_sheet_83 : decode cX12_sheet 83 = .ok (.iastore, 1) := by decide +kernel
theorem dX12_sheet_84 : decode cX12_sheet 84 = .ok (.iinc 4 1, 3) := by decide +kernel
theorem dX12_sheet_87 : decode cX12_sheet 87 = .ok (.goto (-23), 3) := by decide +kernel
theorem dX12_sheet_90 : decode cX12_sheet 90 = .ok (.iconst 1, 1) := by decide +kernel
theorem dX12_sheet_91 : decode cX12_sheet 91 = .ok (.ireturn, 1) := by decide +kernel
theorem dX12_narrowed_0 : decode cX12_narrowed 0 = .ok (.iload_n 1, 1) := by decide +kernel
theorem dX12_narrowed_1 : decode cX12_narrowed 1 = .ok (.ifCond .ne 8, 3) := by decide +kernel
theorem dX12_narrowed_4 : decode cX12_narrowed 4 = .ok (.iload_n 0, 1) := by decide +kernel
theorem dX12_narrowed_5 : decode cX12_narrowed 5 = .ok (.i2b, 1) := by decide +kernel
theorem dX12_narrowed_6 : decode cX12_narrowed 6 = .ok (.goto 31, 3) := by decide +kernel
theorem dX12_narrowed_9 : decode cX12_narrowed 9 = .ok (.iload_n 1, 1) := by decide +kernel
theorem dX12_narrowed_10 : decode cX12_narrowed 10 = .ok (.iconst 1, 1) := by decide +kernel
theorem dX12_narrowed_11 : decode cX12_narrowed 11 = .ok (.if_icmp .ne 8, 3) := by decide +kernel
theorem dX12_narrowed_14 : decode cX12_narrowed 14 = .ok (.iload_n 0, 1) := by decide +kernel
theorem dX12_narrowed_15 : decode cX12_narrowed 15 = .ok (.i2s, 1) := by decide +kernel
theorem dX12_narrowed_16 : decode cX12_narrowed 16 = .ok (.goto 21, 3) := by decide +kernel
theorem dX12_narrowed_19 : decode cX12_narrowed 19 = .ok (.iload_n 1, 1) := by decide +kernel
theorem dX12_narrowed_20 : decode cX12_narrowed 20 = .ok (.iconst 4, 1) := by decide +kernel
theorem dX12_narrowed_21 : decode cX12_narrowed 21 = .ok (.if_icmp .ne 15, 3) := by decide +kernel
theorem dX12_narrowed_24 : decode cX12_narrowed 24 = .ok (.iload_n 0, 1) := by decide +kernel
theorem dX12_narrowed_25 : decode cX12_narrowed 25 = .ok (.ifCond .eq 7, 3) := by decide +kernel
theorem dX12_narrowed_28 : decode cX12_narrowed 28 = .ok (.iconst 1, 1) := by decide +kernel
theorem dX12_narrowed_29 : decode cX12_narrowed 29 = .ok (.goto 8, 3) := by decide +kernel
theorem dX12_narrowed_32 : decode cX12_narrowed 32 = .ok (.iconst 0, 1) := by decide +kernel
theorem dX12_narrowed_33 : decode cX12_narrowed 33 = .ok (.goto 4, 3) := by decide +kernel
theorem dX12_narrowed_36 : decode cX12_narrowed 36 = .ok (.iload_n 0, 1) := by decide +kernel
theorem dX12_narrowed_37 : decode cX12_narrowed 37 = .ok (.ireturn, 1) := by decide +kernel
theorem dX12_write_0 : decode cX12_write 0 = .ok (.iload_n 1, 1) := by decide +kernel
theorem dX12_write_1 : decode cX12_write 1 = .ok (.invokestatic 329, 3) := by decide +kernel
theorem dX12_write_4 : decode cX12_write 4 = .ok (.ifCond .ne 5, 3) := by decide +kernel
theorem dX12_write_7 : decode cX12_write 7 = .ok (.iconst (-1), 1) := by decide +kernel
theorem dX12_write_8 : decode cX12_write 8 = .ok (.ireturn, 1) := by decide +kernel
theorem dX12_write_9 : decode cX12_write 9 = .ok (.aload_n 0, 1) := by decide +kernel
theorem dX12_write_10 : decode cX12_write 10 = .ok (.getfield 53, 3) := by decide +kernel
theorem dX12_write_13 : decode cX12_write 13 = .ok (.iload_n 1, 1) := by decide +kernel
theorem dX12_write_14 : decode cX12_write 14 = .ok (.iaload, 1) := by decide +kernel
theorem dX12_write_15 : decode cX12_write 15 = .ok (.ifCond .ge 6, 3) := by decide +kernel
theorem dX12_write_18 : decode cX12_write 18 = .ok (.bipush (-11), 2) := by decide +kernel
theorem dX12_write_20 : decode cX12_write 20 = .ok (.ireturn, 1) := by decide +kernel
theorem dX12_write_21 : decode cX12_write 21 = .ok (.iload_n 2, 1) := by decide +kernel
theorem dX12_write_22 : decode cX12_write 22 = .ok (.iconst 0, 1) := by decide +kernel
theorem dX12_write_23 : decode cX12_write 23 = .ok (.aload_n 0, 1) := by decide +kernel
theorem dX12_write_24 : decode cX12_write 24 = .ok (.getfield 56, 3) := by decide +kernel
theorem dX12_write_27 : decode cX12_write 27 = .ok (.iload_n 1, 1) := by decide +kernel
theorem dX12_write_28 : decode cX12_write 28 = .ok (.iaload, 1) := by decide +kernel
theorem dX12_write_29 : decode cX12_write 29 = .ok (.iconst 1, 1) := by decide +kernel
theorem dX12_write_30 : decode cX12_write 30 = .ok (.isub, 1) := by decide +kernel
theorem dX12_write_31 : decode cX12_write 31 = .ok (.invokestatic 71, 3) := by decide +kernel
theorem dX12_write_34 : decode cX12_write 34 = .ok (.ifCond .ne 6, 3) := by decide +kernel
theorem dX12_write_37 : decode cX12_write 37 = .ok (.bipush (-12), 2) := by decide +kernel
theorem dX12_write_39 : decode cX12_write 39 = .ok (.ireturn, 1) := by decide +kernel
theorem dX12_write_40 : decode cX12_write 40 = .ok (.aload_n 0, 1) := by decide +kernel
theorem dX12_write_41 : decode cX12_write 41 = .ok (.getfield 59, 3) := by decide +kernel
theorem dX12_write_44 : decode cX12_write 44 = .ok (.bipush 40, 2) := by decide +kernel
theorem dX12_write_46 : decode cX12_write 46 = .ok (.iload_n 1, 1) := by decide +kernel
theorem dX12_write_47 : decode cX12_write 47 = .ok (.imul, 1) := by decide +kernel
theorem dX12_write_48 : decode cX12_write 48 = .ok (.iload_n 2, 1) := by decide +kernel
theorem dX12_write_49 : decode cX12_write 49 = .ok (.iadd, 1) := by decide +kernel
theorem dX12_write_50 : decode cX12_write 50 = .ok (.iload_n 3, 1) := by decide +kernel
theorem dX12_write_51 : decode cX12_write 51 = .ok (.aload_n 0, 1) := by decide +kernel
theorem dX12_write_52 : decode cX12_write 52 = .ok (.getfield 53, 3) := by decide +kernel
theorem dX12_write_55 : decode cX12_write 55 = .ok (.iload_n 1, 1) := by decide +kernel
theorem dX12_write_56 : decode cX12_write 56 = .ok (.iaload, 1) := by decide +kernel
theorem dX12_write_57 : decode cX12_write 57 = .ok (.invokestatic 332, 3) := by decide +kernel
theorem dX12_write_60 : decode cX12_write 60 = .ok (.iastore, 1) := by decide +kernel
theorem dX12_write_61 : decode cX12_write 61 = .ok (.iconst 1, 1) := by decide +kernel
theorem dX12_write_62 : decode cX12_write 62 = .ok (.ireturn, 1) := by decide +kernel
theorem dX12_lacks_0 : decode cX12_lacks 0 = .ok (.aload_n 0, 1) := by decide +kernel
theorem dX12_lacks_1 : decode cX12_lacks 1 = .ok (.getfield 53, 3) := by decide +kernel
theorem dX12_lacks_4 : decode cX12_lacks 4 = .ok (.iload_n 1, 1) := by decide +kernel
theorem dX12_lacks_5 : decode cX12_lacks 5 = .ok (.iaload, 1) := by decide +kernel
theorem dX12_lacks_6 : decode cX12_lacks 6 = .ok (.ifCond .ge 8, 3) := by decide +kernel
theorem dX12_lacks_9 : decode cX12_lacks 9 = .ok (.bipush (-11), 2) := by decide +kernel
theorem dX12_lacks_11 : decode cX12_lacks 11 = .ok (.goto 19, 3) := by decide +kernel
theorem dX12_lacks_14 : decode cX12_lacks 14 = .ok (.aload_n 0, 1) := by decide +kernel
theorem dX12_lacks_15 : decode cX12_lacks 15 = .ok (.getfield 53, 3) := by decide +kernel
theorem dX12_lacks_18 : decode cX12_lacks 18 = .ok (.iload_n 1, 1) := by decide +kernel
theorem dX12_lacks_19 : decode cX12_lacks 19 = .ok (.iaload, 1) := by decide +kernel
theorem dX12_lacks_20 : decode cX12_lacks 20 = .ok (.iload_n 2, 1) := by decide +kernel
theorem dX12_lacks_21 : decode cX12_lacks 21 = .ok (.if_icmp .eq 8, 3) := by decide +kernel
theorem dX12_lacks_24 : decode cX12_lacks 24 = .ok (.bipush (-13), 2) := by decide +kernel
theorem dX12_lacks_26 : decode cX12_lacks 26 = .ok (.goto 4, 3) := by decide +kernel
theorem dX12_lacks_29 : decode cX12_lacks 29 = .ok (.iconst 0, 1) := by decide +kernel
theorem dX12_lacks_30 : decode cX12_lacks 30 = .ok (.ireturn, 1) := by decide +kernel
theorem dX12_item_0 : decode cX12_item 0 = .ok (.iload_n 1, 1) := by decide +kernel
theorem dX12_item_1 : decode cX12_item 1 = .ok (.invokestatic 329, 3) := by decide +kernel
theorem dX12_item_4 : decode cX12_item 4 = .ok (.ifCond .eq 12, 3) := by decide +kernel
theorem dX12_item_7 : decode cX12_item 7 = .ok (.iload_n 2, 1) := by decide +kernel
theorem dX12_item_8 : decode cX12_item 8 = .ok (.iconst 0, 1) := by decide +kernel
theorem dX12_item_9 : decode cX12_item 9 = .ok (.iconst 4, 1) := by decide +kernel
theorem dX12_item_10 : decode cX12_item 10 = .ok (.invokestatic 71, 3) := by decide +kernel
theorem dX12_item_13 : decode cX12_item 13 = .ok (.ifCond .ne 5, 3) := by decide +kernel
theorem dX12_item_16 : decode cX12_item 16 = .ok (.iconst (-1), 1) := by decide +kernel
theorem dX12_item_17 : decode cX12_item 17 = .ok (.ireturn, 1) := by decide +kernel
theorem dX12_item_18 : decode cX12_item 18 = .ok (.aload_n 0, 1) := by decide +kernel
theorem dX12_item_19 : decode cX12_item 19 = .ok (.iload_n 1, 1) := by decide +kernel
theorem dX12_item_20 : decode cX12_item 20 = .ok (.iload_n 2, 1) := by decide +kernel
theorem dX12_item_21 : decode cX12_item 21 = .ok (.invokevirtual 335, 3) := by decide +kernel
theorem dX12_item_24 : decode cX12_item 24 = .ok (.istore 4, 2) := by decide +kernel
theorem dX12_item_26 : decode cX12_item 26 = .ok (.iload 4, 2) := by decide +kernel
theorem dX12_item_28 : decode cX12_item 28 = .ok (.ifCond .eq 8, 3) := by decide +kernel
theorem dX12_item_31 : decode cX12_item 31 = .ok (.iload 4, 2) := by decide +kernel
theorem dX12_item_33 : decode cX12_item 33 = .ok (.goto 35, 3) := by decide +kernel
theorem dX12_item_36 : decode cX12_item 36 = .ok (.iload_n 3, 1) := by decide +kernel
theorem dX12_item_37 : decode cX12_item 37 = .ok (.iconst 0, 1) := by decide +kernel
theorem dX12_item_38 : decode cX12_item 38 = .ok (.aload_n 0, 1) := by decide +kernel
theorem dX12_item_39 : decode cX12_item 39 = .ok (.getfield 56, 3) := by decide +kernel
theorem dX12_item_42 : decode cX12_item 42 = .ok (.iload_n 1, 1) := by decide +kernel
theorem dX12_item_43 : decode cX12_item 43 = .ok (.iaload, 1) := by decide +kernel
theorem dX12_item_44 : decode cX12_item 44 = .ok (.iconst 1, 1) := by decide +kernel
theorem dX12_item_45 : decode cX12_item 45 = .ok (.isub, 1) := by decide +kernel
theorem dX12_item_46 : decode cX12_item 46 = .ok (.invokestatic 71, 3) := by decide +kernel
theorem dX12_item_49 : decode cX12_item 49 = .ok (.ifCond .eq 17, 3) := by decide +kernel
theorem dX12_item_52 : decode cX12_item 52 = .ok (.aload_n 0, 1) := by decide +kernel
theorem dX12_item_53 : decode cX12_item 53 = .ok (.getfield 59, 3) := by decide +kernel
theorem dX12_item_56 : decode cX12_item 56 = .ok (.bipush 40, 2) := by decide +kernel
theorem dX12_item_58 : decode cX12_item 58 = .ok (.iload_n 1, 1) := by decide +kernel
theorem dX12_item_59 : decode cX12_item 59 = .ok (.imul, 1) := by decide +kernel
theorem dX12_item_60 : decode cX12_item 60 = .ok (.iload_n 3, 1) := by decide +kernel
theorem dX12_item_61 : decode cX12_item 61 = .ok (.iadd, 1) := by decide +kernel
theorem dX12_item_62 : decode cX12_item 62 = .ok (.iaload, 1) := by decide +kernel
theorem dX12_item_63 : decode cX12_item 63 = .ok (.goto 5, 3) := by decide +kernel
theorem dX12_item_66 : decode cX12_item 66 = .ok (.bipush (-12), 2) := by decide +kernel
theorem dX12_item_68 : decode cX12_item 68 = .ok (.ireturn, 1) := by decide +kernel
theorem dX12_isItem_0 : decode cX12_isItem 0 = .ok (.iload_n 2, 1) := by decide +kernel
theorem dX12_isItem_1 : decode cX12_isItem 1 = .ok (.ifCond .lt 19, 3) := by decide +kernel
theorem dX12_isItem_4 : decode cX12_isItem 4 = .ok (.iload_n 2, 1) := by decide +kernel
theorem dX12_isItem_5 : decode cX12_isItem 5 = .ok (.aload_n 0, 1) := by decide +kernel
theorem dX12_isItem_6 : decode cX12_isItem 6 = .ok (.getfield 56, 3) := by decide +kernel
theorem dX12_isItem_9 : decode cX12_isItem 9 = .ok (.iload_n 1, 1) := by decide +kernel
theorem dX12_isItem_10 : decode cX12_isItem 10 = .ok (.iaload, 1) := by decide +kernel
theorem dX12_isItem_11 : decode cX12_isItem 11 = .ok (.iload_n 3, 1) := by decide +kernel
theorem dX12_isItem_12 : decode cX12_isItem 12 = .ok (.isub, 1) := by decide +kernel
theorem dX12_isItem_13 : decode cX12_isItem 13 = .ok (.if_icmp .ge 7, 3) := by decide +kernel
theorem dX12_isItem_16 : decode cX12_isItem 16 = .ok (.iconst 1, 1) := by decide +kernel
theorem dX12_isItem_17 : decode cX12_isItem 17 = .ok (.goto 4, 3) := by decide +kernel
theorem dX12_isItem_20 : decode cX12_isItem 20 = .ok (.iconst 0, 1) := by decide +kernel
theorem dX12_isItem_21 : decode cX12_isItem 21 = .ok (.ireturn, 1) := by decide +kernel
theorem dX12_goAll_0 : decode cX12_goAll 0 = .ok (.iload_n 1, 1) := by decide +kernel
theorem dX12_goAll_1 : decode cX12_goAll 1 = .ok (.invokestatic 329, 3) := by decide +kernel
theorem dX12_goAll_4 : decode cX12_goAll 4 = .ok (.ifCond .eq 13, 3) := by decide +kernel
theorem dX12_goAll_7 : decode cX12_goAll 7 = .ok (.iload_n 3, 1) := by decide +kernel
theorem dX12_goAll_8 : decode cX12_goAll 8 = .ok (.iconst 0, 1) := by decide +kernel
theorem dX12_goAll_9 : decode cX12_goAll 9 = .ok (.bipush 20, 2) := by decide +kernel
theorem dX12_goAll_11 : decode cX12_goAll 11 = .ok (.invokestatic 71, 3) := by decide +kernel
theorem dX12_goAll_14 : decode cX12_goAll 14 = .ok (.ifCond .ne 5, 3) := by decide +kernel
theorem dX12_goAll_17 : decode cX12_goAll 17 = .ok (.iconst (-1), 1) := by decide +kernel
theorem dX12_goAll_18 : decode cX12_goAll 18 = .ok (.ireturn, 1) := by decide +kernel
theorem dX12_goAll_19 : decode cX12_goAll 19 = .ok (.aload_n 0, 1) := by decide +kernel
theorem dX12_goAll_20 : decode cX12_goAll 20 = .ok (.iload_n 1, 1) := by decide +kernel
theorem dX12_goAll_21 : decode cX12_goAll 21 = .ok (.iconst 0, 1) := by decide +kernel
theorem dX12_goAll_22 : decode cX12_goAll 22 = .ok (.invokevirtual 335, 3) := by decide +kernel
theorem dX12_goAll_25 : decode cX12_goAll 25 = .ok (.istore 4, 2) := by decide +kernel
theorem dX12_goAll_27 : decode cX12_goAll 27 = .ok (.iload 4, 2) := by decide +kernel
theorem dX12_goAll_29 : decode cX12_goAll 29 = .ok (.ifCond .eq 6, 3) := by decide +kernel
theorem dX12_goAll_32 : decode cX12_goAll 32 = .ok (.iload 4, 2) := by decide +kernel
theorem dX12_goAll_34 : decode cX12_goAll 34 = .ok (.ireturn, 1) := by decide +kernel
theorem dX12_goAll_35 : decode cX12_goAll 35 = .ok (.iconst 0, 1) := by decide +kernel
theorem dX12_goAll_36 : decode cX12_goAll 36 = .ok (.istore 5, 2) := by decide +kernel
theorem dX12_goAll_38 : decode cX12_goAll 38 = .ok (.iconst 0, 1) := by decide +kernel
theorem dX12_goAll_39 : decode cX12_goAll 39 = .ok (.istore 6, 2) := by decide +kernel
theorem dX12_goAll_41 : decode cX12_goAll 41 = .ok (.iload 6, 2) := by decide +kernel
theorem dX12_goAll_43 : decode cX12_goAll 43 = .ok (.iload_n 3, 1) := by decide +kernel
theorem dX12_goAll_44 : decode cX12_goAll 44 = .ok (.if_icmp .ge 70, 3) := by decide +kernel
theorem dX12_goAll_47 : decode cX12_goAll 47 = .ok (.aload_n 0, 1) := by decide +kernel
theorem dX12_goAll_48 : decode cX12_goAll 48 = .ok (.iload_n 1, 1) := by decide +kernel
theorem dX12_goAll_49 : decode cX12_goAll 49 = .ok (.iload_n 2, 1) := by decide +kernel
theorem dX12_goAll_50 : decode cX12_goAll 50 = .ok (.iload 6, 2) := by decide +kernel
theorem dX12_goAll_52 : decode cX12_goAll 52 = .ok (.invokevirtual 338, 3) := by decide +kernel
theorem dX12_goAll_55 : decode cX12_goAll 55 = .ok (.ifCond .ne 6, 3) := by decide +kernel
theorem dX12_goAll_58 : decode cX12_goAll 58 = .ok (.bipush (-12), 2) := by decide +kernel
theorem dX12_goAll_60 : decode cX12_goAll 60 = .ok (.ireturn, 1) := by decide +kernel
theorem dX12_goAll_61 : decode cX12_goAll 61 = .ok (.aload_n 0, 1) := by decide +kernel
theorem dX12_goAll_62 : decode cX12_goAll 62 = .ok (.getfield 59, 3) := by decide +kernel
theorem dX12_goAll_65 : decode cX12_goAll 65 = .ok (.bipush 40, 2) := by decide +kernel
theorem dX12_goAll_67 : decode cX12_goAll 67 = .ok (.iload_n 1, 1) := by decide +kernel
theorem dX12_goAll_68 : decode cX12_goAll 68 = .ok (.imul, 1) := by decide +kernel
theorem dX12_goAll_69 : decode cX12_goAll 69 = .ok (.iload_n 2, 1) := by decide +kernel
theorem dX12_goAll_70 : decode cX12_goAll 70 = .ok (.iadd, 1) := by decide +kernel
theorem dX12_goAll_71 : decode cX12_goAll 71 = .ok (.iload 6, 2) := by decide +kernel
theorem dX12_goAll_73 : decode cX12_goAll 73 = .ok (.iadd, 1) := by decide +kernel
theorem dX12_goAll_74 : decode cX12_goAll 74 = .ok (.iaload, 1) := by decide +kernel
theorem dX12_goAll_75 : decode cX12_goAll 75 = .ok (.istore 7, 2) := by decide +kernel
theorem dX12_goAll_77 : decode cX12_goAll 77 = .ok (.iload 5, 2) := by decide +kernel
theorem dX12_goAll_79 : decode cX12_goAll 79 = .ok (.aload_n 0, 1) := by decide +kernel
theorem dX12_goAll_80 : decode cX12_goAll 80 = .ok (.iload 7, 2) := by decide +kernel
theorem dX12_goAll_82 : decode cX12_goAll 82 = .ok (.invokevirtual 326, 3) := by decide +kernel
theorem dX12_goAll_85 : decode cX12_goAll 85 = .ok (.ifCond .eq 19, 3) := by decide +kernel
theorem dX12_goAll_88 : decode cX12_goAll 88 = .ok (.aload_n 0, 1) := by decide +kernel
theorem dX12_goAll_89 : decode cX12_goAll 89 = .ok (.invokevirtual 226, 3) := by decide +kernel
theorem dX12_goAll_92 : decode cX12_goAll 92 = .ok (.ifCond .ne 12, 3) := by decide +kernel
theorem dX12_goAll_95 : decode cX12_goAll 95 = .ok (.aload_n 0, 1) := by decide +kernel
theorem dX12_goAll_96 : decode cX12_goAll 96 = .ok (.iload 7, 2) := by decide +kernel
theorem dX12_goAll_98 : decode cX12_goAll 98 = .ok (.invokevirtual 232, 3) := by decide +kernel
theorem dX12_goAll_101 : decode cX12_goAll 101 = .ok (.goto 4, 3) := by decide +kernel
theorem dX12_goAll_104 : decode cX12_goAll 104 = .ok (.iconst 0, 1) := by decide +kernel
theorem dX12_goAll_105 : decode cX12_goAll 105 = .ok (.iadd, 1) := by decide +kernel
theorem dX12_goAll_106 : decode cX12_goAll 106 = .ok (.istore 5, 2) := by decide +kernel
theorem dX12_goAll_108 : decode cX12_goAll 108 = .ok (.iinc 6 1, 3) := by decide +kernel
theorem dX12_goAll_111 : decode cX12_goAll 111 = .ok (.goto (-70), 3) := by decide +kernel
theorem dX12_goAll_114 : decode cX12_goAll 114 = .ok (.iload 5, 2) := by decide +kernel
theorem dX12_goAll_116 : decode cX12_goAll 116 = .ok (.ireturn, 1) := by decide +kernel
theorem dX12_wouldBe_0 : decode cX12_wouldBe 0 = .ok (.iload_n 1, 1) := by decide +kernel
theorem dX12_wouldBe_1 : decode cX12_wouldBe 1 = .ok (.invokestatic 329, 3) := by decide +kernel
theorem dX12_wouldBe_4 : decode cX12_wouldBe 4 = .ok (.ifCond .eq 13, 3) := by decide +kernel
theorem dX12_wouldBe_7 : decode cX12_wouldBe 7 = .ok (.iload_n 3, 1) := by decide +kernel
theorem dX12_wouldBe_8 : decode cX12_wouldBe 8 = .ok (.iconst 0, 1) := by decide +kernel
theorem dX12_wouldBe_9 : decode cX12_wouldBe 9 = .ok (.bipush 20, 2) := by decide +kernel
theorem dX12_wouldBe_11 : decode cX12_wouldBe 11 = .ok (.invokestatic 71, 3) := by decide +kernel
theorem dX12_wouldBe_14 : decode cX12_wouldBe 14 = .ok (.ifCond .ne 5, 3) := by decide +kernel
theorem dX12_wouldBe_17 : decode cX12_wouldBe 17 = .ok (.iconst (-1), 1) := by decide +kernel
theorem dX12_wouldBe_18 : decode cX12_wouldBe 18 = .ok (.ireturn, 1) := by decide +kernel
theorem dX12_wouldBe_19 : decode cX12_wouldBe 19 = .ok (.aload_n 0, 1) := by decide +kernel
theorem dX12_wouldBe_20 : decode cX12_wouldBe 20 = .ok (.iload_n 1, 1) := by decide +kernel
theorem dX12_wouldBe_21 : decode cX12_wouldBe 21 = .ok (.iconst 0, 1) := by decide +kernel
theorem dX12_wouldBe_22 : decode cX12_wouldBe 22 = .ok (.invokevirtual 335, 3) := by decide +kernel
theorem dX12_wouldBe_25 : decode cX12_wouldBe 25 = .ok (.istore 4, 2) := by decide +kernel
theorem dX12_wouldBe_27 : decode cX12_wouldBe 27 = .ok (.iconst 0, 1) := by decide +kernel
theorem dX12_wouldBe_28 : decode cX12_wouldBe 28 = .ok (.istore 5, 2) := by decide +kernel
theorem dX12_wouldBe_30 : decode cX12_wouldBe 30 = .ok (.aload_n 0, 1) := by decide +kernel
theorem dX12_wouldBe_31 : decode cX12_wouldBe 31 = .ok (.invokevirtual 235, 3) := by decide +kernel
theorem dX12_wouldBe_34 : decode cX12_wouldBe 34 = .ok (.iconst 0, 1) := by decide +kernel
theorem dX12_wouldBe_35 : decode cX12_wouldBe 35 = .ok (.istore 6, 2) := by decide +kernel
theorem dX12_wouldBe_37 : decode cX12_wouldBe 37 = .ok (.iload 6, 2) := by decide +kernel
theorem dX12_wouldBe_39 : decode cX12_wouldBe 39 = .ok (.iload_n 3, 1) := by decide +kernel
theorem dX12_wouldBe_40 : decode cX12_wouldBe 40 = .ok (.if_icmp .ge 105, 3) := by decide +kernel
theorem dX12_wouldBe_43 : decode cX12_wouldBe 43 = .ok (.iload 4, 2) := by decide +kernel
theorem dX12_wouldBe_45 : decode cX12_wouldBe 45 = .ok (.ifCond .ne 100, 3) := by decide +kernel
theorem dX12_wouldBe_48 : decode cX12_wouldBe 48 = .ok (.aload_n 0, 1) := by decide +kernel
theorem dX12_wouldBe_49 : decode cX12_wouldBe 49 = .ok (.iload_n 1, 1) := by decide +kernel
theorem dX12_wouldBe_50 : decode cX12_wouldBe 50 = .ok (.iload_n 2, 1) := by decide +kernel
theorem dX12_wouldBe_51 : decode cX12_wouldBe 51 = .ok (.iload 6, 2) := by decide +kernel
theorem dX12_wouldBe_53 : decode cX12_wouldBe 53 = .ok (.invokevirtual 338, 3) := by decide +kernel
theorem dX12_wouldBe_56 : decode cX12_wouldBe 56 = .ok (.ifCond .eq 20, 3) := by decide +kernel
theorem dX12_wouldBe_59 : decode cX12_wouldBe 59 = .ok (.aload_n 0, 1) := by decide +kernel
theorem dX12_wouldBe_60 : decode cX12_wouldBe 60 = .ok (.getfield 59, 3) := by decide +kernel
theorem dX12_wouldBe_63 : decode cX12_wouldBe 63 = .ok (.bipush 40, 2) := by decide +kernel
theorem dX12_wouldBe_65 : decode cX12_wouldBe 65 = .ok (.iload_n 1, 1) := by decide +kernel
theorem dX12_wouldBe_66 : decode cX12_wouldBe 66 = .ok (.imul, 1) := by decide +kernel
theorem dX12_wouldBe_67 : decode cX12_wouldBe 67 = .ok (.iload_n 2, 1) := by decide +kernel
theorem dX12_wouldBe_68 : decode cX12_wouldBe 68 = .ok (.iadd, 1) := by decide +kernel
theorem dX12_wouldBe_69 : decode cX12_wouldBe 69 = .ok (.iload 6, 2) := by decide +kernel
theorem dX12_wouldBe_71 : decode cX12_wouldBe 71 = .ok (.iadd, 1) := by decide +kernel
theorem dX12_wouldBe_72 : decode cX12_wouldBe 72 = .ok (.iaload, 1) := by decide +kernel
theorem dX12_wouldBe_73 : decode cX12_wouldBe 73 = .ok (.goto 4, 3) := by decide +kernel
theorem dX12_wouldBe_76 : decode cX12_wouldBe 76 = .ok (.iconst (-1), 1) := by decide +kernel
theorem dX12_wouldBe_77 : decode cX12_wouldBe 77 = .ok (.istore 7, 2) := by decide +kernel
theorem dX12_wouldBe_79 : decode cX12_wouldBe 79 = .ok (.aload_n 0, 1) := by decide +kernel
theorem dX12_wouldBe_80 : decode cX12_wouldBe 80 = .ok (.iload_n 1, 1) := by decide +kernel
theorem dX12_wouldBe_81 : decode cX12_wouldBe 81 = .ok (.iload_n 2, 1) := by decide +kernel
theorem dX12_wouldBe_82 : decode cX12_wouldBe 82 = .ok (.iload 6, 2) := by decide +kernel
theorem dX12_wouldBe_84 : decode cX12_wouldBe 84 = .ok (.invokevirtual 338, 3) := by decide +kernel
theorem dX12_wouldBe_87 : decode cX12_wouldBe 87 = .ok (.ifCond .ne 8, 3) := by decide +kernel
theorem dX12_wouldBe_90 : decode cX12_wouldBe 90 = .ok (.bipush (-12), 2) := by decide +kernel
theorem dX12_wouldBe_92 : decode cX12_wouldBe 92 = .ok (.goto 25, 3) := by decide +kernel
theorem dX12_wouldBe_95 : decode cX12_wouldBe 95 = .ok (.aload_n 0, 1) := by decide +kernel
theorem dX12_wouldBe_96 : decode cX12_wouldBe 96 = .ok (.iload 7, 2) := by decide +kernel
theorem dX12_wouldBe_98 : decode cX12_wouldBe 98 = .ok (.invokevirtual 326, 3) := by decide +kernel
theorem dX12_wouldBe_101 : decode cX12_wouldBe 101 = .ok (.ifCond .eq 10, 3) := by decide +kernel
theorem dX12_wouldBe_104 : decode cX12_wouldBe 104 = .ok (.aload_n 0, 1) := by decide +kernel
theorem dX12_wouldBe_105 : decode cX12_wouldBe 105 = .ok (.invokevirtual 226, 3) := by decide +kernel
theorem dX12_wouldBe_108 : decode cX12_wouldBe 108 = .ok (.ifCond .eq 8, 3) := by decide +kernel
theorem dX12_wouldBe_111 : decode cX12_wouldBe 111 = .ok (.bipush (-4), 2) := by decide +kernel
theorem dX12_wouldBe_113 : decode cX12_wouldBe 113 = .ok (.goto 4, 3) := by decide +kernel
theorem dX12_wouldBe_116 : decode cX12_wouldBe 116 = .ok (.iconst 0, 1) := by decide +kernel
theorem dX12_wouldBe_117 : decode cX12_wouldBe 117 = .ok (.istore 4, 2) := by decide +kernel
theorem dX12_wouldBe_119 : decode cX12_wouldBe 119 = .ok (.iload 5, 2) := by decide +kernel
theorem dX12_wouldBe_121 : decode cX12_wouldBe 121 = .ok (.iload 4, 2) := by decide +kernel
theorem dX12_wouldBe_123 : decode cX12_wouldBe 123 = .ok (.ifCond .ne 12, 3) := by decide +kernel
theorem dX12_wouldBe_126 : decode cX12_wouldBe 126 = .ok (.aload_n 0, 1) := by decide +kernel
theorem dX12_wouldBe_127 : decode cX12_wouldBe 127 = .ok (.iload 7, 2) := by decide +kernel
theorem dX12_wouldBe_129 : decode cX12_wouldBe 129 = .ok (.invokevirtual 232, 3) := by decide +kernel
theorem dX12_wouldBe_132 : decode cX12_wouldBe 132 = .ok (.goto 4, 3) := by decide +kernel
theorem dX12_wouldBe_135 : decode cX12_wouldBe 135 = .ok (.iconst 0, 1) := by decide +kernel
theorem dX12_wouldBe_136 : decode cX12_wouldBe 136 = .ok (.iadd, 1) := by decide +kernel
theorem dX12_wouldBe_137 : decode cX12_wouldBe 137 = .ok (.istore 5, 2) := by decide +kernel
theorem dX12_wouldBe_139 : decode cX12_wouldBe 139 = .ok (.iinc 6 1, 3) := by decide +kernel
theorem dX12_wouldBe_142 : decode cX12_wouldBe 142 = .ok (.goto (-105), 3) := by decide +kernel
theorem dX12_wouldBe_145 : decode cX12_wouldBe 145 = .ok (.aload_n 0, 1) := by decide +kernel
theorem dX12_wouldBe_146 : decode cX12_wouldBe 146 = .ok (.invokevirtual 241, 3) := by decide +kernel
theorem dX12_wouldBe_149 : decode cX12_wouldBe 149 = .ok (.iload 4, 2) := by decide +kernel
theorem dX12_wouldBe_151 : decode cX12_wouldBe 151 = .ok (.ifCond .eq 8, 3) := by decide +kernel
theorem dX12_wouldBe_154 : decode cX12_wouldBe 154 = .ok (.iload 4, 2) := by decide +kernel
theorem dX12_wouldBe_156 : decode cX12_wouldBe 156 = .ok (.goto 5, 3) := by decide +kernel
theorem dX12_wouldBe_159 : decode cX12_wouldBe 159 = .ok (.iload 5, 2) := by decide +kernel
theorem dX12_wouldBe_161 : decode cX12_wouldBe 161 = .ok (.ireturn, 1) := by decide +kernel
theorem dX12_shelf_0 : decode cX12_shelf 0 = .ok (.iload_n 1, 1) := by decide +kernel
theorem dX12_shelf_1 : decode cX12_shelf 1 = .ok (.invokestatic 329, 3) := by decide +kernel
theorem dX12_shelf_4 : decode cX12_shelf 4 = .ok (.ifCond .eq 36, 3) := by decide +kernel
theorem dX12_shelf_7 : decode cX12_shelf 7 = .ok (.iload_n 2, 1) := by decide +kernel
theorem dX12_shelf_8 : decode cX12_shelf 8 = .ok (.iconst 0, 1) := by decide +kernel
theorem dX12_shelf_9 : decode cX12_shelf 9 = .ok (.iconst 2, 1) := by decide +kernel
theorem dX12_shelf_10 : decode cX12_shelf 10 = .ok (.invokestatic 71, 3) := by decide +kernel
theorem dX12_shelf_13 : decode cX12_shelf 13 = .ok (.ifCond .eq 27, 3) := by decide +kernel
theorem dX12_shelf_16 : decode cX12_shelf 16 = .ok (.iload_n 2, 1) := by decide +kernel
theorem dX12_shelf_17 : decode cX12_shelf 17 = .ok (.ifCond .ne 11, 3) := by decide +kernel
theorem dX12_shelf_20 : decode cX12_shelf 20 = .ok (.aload_n 0, 1) := by decide +kernel
theorem dX12_shelf_21 : decode cX12_shelf 21 = .ok (.iload_n 3, 1) := by decide +kernel
theorem dX12_shelf_22 : decode cX12_shelf 22 = .ok (.invokevirtual 220, 3) := by decide +kernel
theorem dX12_shelf_25 : decode cX12_shelf 25 = .ok (.ifCond .eq 15, 3) := by decide +kernel
theorem dX12_shelf_28 : decode cX12_shelf 28 = .ok (.iload_n 2, 1) := by decide +kernel
theorem dX12_shelf_29 : decode cX12_shelf 29 = .ok (.iconst 1, 1) := by decide +kernel
theorem dX12_shelf_30 : decode cX12_shelf 30 = .ok (.if_icmp .ne 12, 3) := by decide +kernel
theorem dX12_shelf_33 : decode cX12_shelf 33 = .ok (.iload_n 3, 1) := by decide +kernel
theorem dX12_shelf_34 : decode cX12_shelf 34 = .ok (.invokestatic 329, 3) := by decide +kernel
theorem dX12_shelf_37 : decode cX12_shelf 37 = .ok (.ifCond .ne 5, 3) := by decide +kernel
theorem dX12_shelf_40 : decode cX12_shelf 40 = .ok (.iconst (-1), 1) := by decide +kernel
theorem dX12_shelf_41 : decode cX12_shelf 41 = .ok (.ireturn, 1) := by decide +kernel
theorem dX12_shelf_42 : decode cX12_shelf 42 = .ok (.aload_n 0, 1) := by decide +kernel
theorem dX12_shelf_43 : decode cX12_shelf 43 = .ok (.getfield 62, 3) := by decide +kernel
theorem dX12_shelf_46 : decode cX12_shelf 46 = .ok (.iload_n 1, 1) := by decide +kernel
theorem dX12_shelf_47 : decode cX12_shelf 47 = .ok (.iload_n 2, 1) := by decide +kernel
theorem dX12_shelf_48 : decode cX12_shelf 48 = .ok (.ifCond .ne 7, 3) := by decide +kernel
theorem dX12_shelf_51 : decode cX12_shelf 51 = .ok (.iconst 0, 1) := by decide +kernel
theorem dX12_shelf_52 : decode cX12_shelf 52 = .ok (.goto 30, 3) := by decide +kernel
theorem dX12_shelf_55 : decode cX12_shelf 55 = .ok (.iload_n 2, 1) := by decide +kernel
theorem dX12_shelf_56 : decode cX12_shelf 56 = .ok (.iconst 1, 1) := by decide +kernel
theorem dX12_shelf_57 : decode cX12_shelf 57 = .ok (.if_icmp .ne 24, 3) := by decide +kernel
theorem dX12_shelf_60 : decode cX12_shelf 60 = .ok (.aload_n 0, 1) := by decide +kernel
theorem dX12_shelf_61 : decode cX12_shelf 61 = .ok (.getfield 53, 3) := by decide +kernel
theorem dX12_shelf_64 : decode cX12_shelf 64 = .ok (.iload_n 3, 1) := by decide +kernel
theorem dX12_shelf_65 : decode cX12_shelf 65 = .ok (.iaload, 1) := by decide +kernel
theorem dX12_shelf_66 : decode cX12_shelf 66 = .ok (.ifCond .lt 15, 3) := by decide +kernel
theorem dX12_shelf_69 : decode cX12_shelf 69 = .ok (.bipush 10, 2) := by decide +kernel
theorem dX12_shelf_71 : decode cX12_shelf 71 = .ok (.aload_n 0, 1) := by decide +kernel
theorem dX12_shelf_72 : decode cX12_shelf 72 = .ok (.getfield 53, 3) := by decide +kernel
theorem dX12_shelf_75 : decode cX12_shelf 75 = .ok (.iload_n 3, 1) := by decide +kernel
theorem dX12_shelf_76 : decode cX12_shelf 76 = .ok (.iaload, 1) := by decide +kernel
theorem dX12_shelf_77 : decode cX12_shelf 77 = .ok (.iadd, 1) := by decide +kernel
theorem dX12_shelf_78 : decode cX12_shelf 78 = .ok (.goto 4, 3) := by decide +kernel
theorem dX12_shelf_81 : decode cX12_shelf 81 = .ok (.iconst (-1), 1) := by decide +kernel
theorem dX12_shelf_82 : decode cX12_shelf 82 = .ok (.iastore, 1) := by decide +kernel
theorem dX12_shelf_83 : decode cX12_shelf 83 = .ok (.aload_n 0, 1) := by decide +kernel
theorem dX12_shelf_84 : decode cX12_shelf 84 = .ok (.getfield 65, 3) := by decide +kernel
theorem dX12_shelf_87 : decode cX12_shelf 87 = .ok (.iload_n 1, 1) := by decide +kernel
theorem dX12_shelf_88 : decode cX12_shelf 88 = .ok (.iload_n 2, 1) := by decide +kernel
theorem dX12_shelf_89 : decode cX12_shelf 89 = .ok (.ifCond .ne 7, 3) := by decide +kernel
theorem dX12_shelf_92 : decode cX12_shelf 92 = .ok (.iload_n 3, 1) := by decide +kernel
theorem dX12_shelf_93 : decode cX12_shelf 93 = .ok (.goto 18, 3) := by decide +kernel
theorem dX12_shelf_96 : decode cX12_shelf 96 = .ok (.iload_n 2, 1) := by decide +kernel
theorem dX12_shelf_97 : decode cX12_shelf 97 = .ok (.iconst 1, 1) := by decide +kernel
theorem dX12_shelf_98 : decode cX12_shelf 98 = .ok (.if_icmp .ne 12, 3) := by decide +kernel
theorem dX12_shelf_101 : decode cX12_shelf 101 = .ok (.aload_n 0, 1) := by decide +kernel
theorem dX12_shelf_102 : decode cX12_shelf 102 = .ok (.getfield 56, 3) := by decide +kernel
theorem dX12_shelf_105 : decode cX12_shelf 105 = .ok (.iload_n 3, 1) := by decide +kernel
theorem dX12_shelf_106 : decode cX12_shelf 106 = .ok (.iaload, 1) := by decide +kernel
theorem dX12_shelf_107 : decode cX12_shelf 107 = .ok (.goto 4, 3) := by decide +kernel
theorem dX12_shelf_110 : decode cX12_shelf 110 = .ok (.iconst 0, 1) := by decide +kernel
theorem dX12_shelf_111 : decode cX12_shelf 111 = .ok (.iastore, 1) := by decide +kernel
theorem dX12_shelf_112 : decode cX12_shelf 112 = .ok (.iconst 1, 1) := by decide +kernel
theorem dX12_shelf_113 : decode cX12_shelf 113 = .ok (.ireturn, 1) := by decide +kernel
theorem dX12_heldOn_0 : decode cX12_heldOn 0 = .ok (.aload_n 0, 1) := by decide +kernel
theorem dX12_heldOn_1 : decode cX12_heldOn 1 = .ok (.getfield 62, 3) := by decide +kernel
theorem dX12_heldOn_4 : decode cX12_heldOn 4 = .ok (.iload_n 1, 1) := by decide +kernel
theorem dX12_heldOn_5 : decode cX12_heldOn 5 = .ok (.iaload, 1) := by decide +kernel
theorem dX12_heldOn_6 : decode cX12_heldOn 6 = .ok (.ifCond .ne 20, 3) := by decide +kernel
theorem dX12_heldOn_9 : decode cX12_heldOn 9 = .ok (.aload_n 0, 1) := by decide +kernel
theorem dX12_heldOn_10 : decode cX12_heldOn 10 = .ok (.aload_n 0, 1) := by decide +kernel
theorem dX12_heldOn_11 : decode cX12_heldOn 11 = .ok (.getfield 65, 3) := by decide +kernel
theorem dX12_heldOn_14 : decode cX12_heldOn 14 = .ok (.iload_n 1, 1) := by decide +kernel
theorem dX12_heldOn_15 : decode cX12_heldOn 15 = .ok (.iaload, 1) := by decide +kernel
theorem dX12_heldOn_16 : decode cX12_heldOn 16 = .ok (.invokevirtual 220, 3) := by decide +kernel
theorem dX12_heldOn_19 : decode cX12_heldOn 19 = .ok (.ifCond .ne 7, 3) := by decide +kernel
theorem dX12_heldOn_22 : decode cX12_heldOn 22 = .ok (.iconst (-1), 1) := by decide +kernel
theorem dX12_heldOn_23 : decode cX12_heldOn 23 = .ok (.goto 9, 3) := by decide +kernel
theorem dX12_heldOn_26 : decode cX12_heldOn 26 = .ok (.aload_n 0, 1) := by decide +kernel
theorem dX12_heldOn_27 : decode cX12_heldOn 27 = .ok (.getfield 62, 3) := by decide +kernel
theorem dX12_heldOn_30 : decode cX12_heldOn 30 = .ok (.iload_n 1, 1) := by decide +kernel
theorem dX12_heldOn_31 : decode cX12_heldOn 31 = .ok (.iaload, 1) := by decide +kernel
theorem dX12_heldOn_32 : decode cX12_heldOn 32 = .ok (.ireturn, 1) := by decide +kernel
theorem dX12_taken_0 : decode cX12_taken 0 = .ok (.iload_n 1, 1) := by decide +kernel
theorem dX12_taken_1 : decode cX12_taken 1 = .ok (.invokestatic 329, 3) := by decide +kernel
theorem dX12_taken_4 : decode cX12_taken 4 = .ok (.ifCond .eq 23, 3) := by decide +kernel
theorem dX12_taken_7 : decode cX12_taken 7 = .ok (.iload_n 2, 1) := by decide +kernel
theorem dX12_taken_8 : decode cX12_taken 8 = .ok (.iconst 0, 1) := by decide +kernel
theorem dX12_taken_9 : decode cX12_taken 9 = .ok (.iconst 5, 1) := by decide +kernel
theorem dX12_taken_10 : decode cX12_taken 10 = .ok (.invokestatic 71, 3) := by decide +kernel
theorem dX12_taken_13 : decode cX12_taken 13 = .ok (.ifCond .ne 16, 3) := by decide +kernel
theorem dX12_taken_16 : decode cX12_taken 16 = .ok (.iload_n 2, 1) := by decide +kernel
theorem dX12_taken_17 : decode cX12_taken 17 = .ok (.bipush 10, 2) := by decide +kernel
theorem dX12_taken_19 : decode cX12_taken 19 = .ok (.bipush 14, 2) := by decide +kernel
theorem dX12_taken_21 : decode cX12_taken 21 = .ok (.invokestatic 71, 3) := by decide +kernel
theorem dX12_taken_24 : decode cX12_taken 24 = .ok (.ifCond .ne 5, 3) := by decide +kernel
theorem dX12_taken_27 : decode cX12_taken 27 = .ok (.iconst (-1), 1) := by decide +kernel
theorem dX12_taken_28 : decode cX12_taken 28 = .ok (.ireturn, 1) := by decide +kernel
theorem dX12_taken_29 : decode cX12_taken 29 = .ok (.aload_n 0, 1) := by decide +kernel
theorem dX12_taken_30 : decode cX12_taken 30 = .ok (.iload_n 1, 1) := by decide +kernel
theorem dX12_taken_31 : decode cX12_taken 31 = .ok (.invokevirtual 341, 3) := by decide +kernel
theorem dX12_taken_34 : decode cX12_taken 34 = .ok (.istore_n 3, 1) := by decide +kernel
theorem dX12_taken_35 : decode cX12_taken 35 = .ok (.iload_n 3, 1) := by decide +kernel
theorem dX12_taken_36 : decode cX12_taken 36 = .ok (.ifCond .ge 6, 3) := by decide +kernel
theorem dX12_taken_39 : decode cX12_taken 39 = .ok (.bipush (-11), 2) := by decide +kernel
theorem dX12_taken_41 : decode cX12_taken 41 = .ok (.ireturn, 1) := by decide +kernel
theorem dX12_taken_42 : decode cX12_taken 42 = .ok (.iload_n 3, 1) := by decide +kernel
theorem dX12_taken_43 : decode cX12_taken 43 = .ok (.ifCond .ne 35, 3) := by decide +kernel
theorem dX12_taken_46 : decode cX12_taken 46 = .ok (.iload_n 2, 1) := by decide +kernel
theorem dX12_taken_47 : decode cX12_taken 47 = .ok (.bipush 10, 2) := by decide +kernel
theorem dX12_taken_49 : decode cX12_taken 49 = .ok (.if_icmp .ge 25, 3) := by decide +kernel
theorem dX12_taken_52 : decode cX12_taken 52 = .ok (.aload_n 0, 1) := by decide +kernel
theorem dX12_taken_53 : decode cX12_taken 53 = .ok (.aload_n 0, 1) := by decide +kernel
theorem dX12_taken_54 : decode cX12_taken 54 = .ok (.getfield 65, 3) := by decide +kernel
theorem dX12_taken_57 : decode cX12_taken 57 = .ok (.iload_n 1, 1) := by decide +kernel
theorem dX12_taken_58 : decode cX12_taken 58 = .ok (.iaload, 1) := by decide +kernel
theorem dX12_taken_59 : decode cX12_taken 59 = .ok (.iconst 0, 1) := by decide +kernel
theorem dX12_taken_60 : decode cX12_taken 60 = .ok (.invokevirtual 79, 3) := by decide +kernel
theorem dX12_taken_63 : decode cX12_taken 63 = .ok (.iload_n 2, 1) := by decide +kernel
theorem dX12_taken_64 : decode cX12_taken 64 = .ok (.invokestatic 106, 3) := by decide +kernel
theorem dX12_taken_67 : decode cX12_taken 67 = .ok (.ifCond .eq 7, 3) := by decide +kernel
theorem dX12_taken_70 : decode cX12_taken 70 = .ok (.iconst 1, 1) := by decide +kernel
theorem dX12_taken_71 : decode cX12_taken 71 = .ok (.goto 17, 3) := by decide +kernel
theorem dX12_taken_74 : decode cX12_taken 74 = .ok (.iconst 0, 1) := by decide +kernel
theorem dX12_taken_75 : decode cX12_taken 75 = .ok (.goto 13, 3) := by decide +kernel
theorem dX12_taken_78 : decode cX12_taken 78 = .ok (.iload_n 3, 1) := by decide +kernel
theorem dX12_taken_79 : decode cX12_taken 79 = .ok (.iload_n 2, 1) := by decide +kernel
theorem dX12_taken_80 : decode cX12_taken 80 = .ok (.if_icmp .ne 7, 3) := by decide +kernel
theorem dX12_taken_83 : decode cX12_taken 83 = .ok (.iconst 1, 1) := by decide +kernel
theorem dX12_taken_84 : decode cX12_taken 84 = .ok (.goto 4, 3) := by decide +kernel
theorem dX12_taken_87 : decode cX12_taken 87 = .ok (.iconst 0, 1) := by decide +kernel
theorem dX12_taken_88 : decode cX12_taken 88 = .ok (.istore 4, 2) := by decide +kernel
theorem dX12_taken_90 : decode cX12_taken 90 = .ok (.iload 4, 2) := by decide +kernel
theorem dX12_taken_92 : decode cX12_taken 92 = .ok (.ifCond .eq 12, 3) := by decide +kernel
theorem dX12_taken_95 : decode cX12_taken 95 = .ok (.aload_n 0, 1) := by decide +kernel
theorem dX12_taken_96 : decode cX12_taken 96 = .ok (.getfield 65, 3) := by decide +kernel
theorem dX12_taken_99 : decode cX12_taken 99 = .ok (.iload_n 1, 1) := by decide +kernel
theorem dX12_taken_100 : decode cX12_taken 100 = .ok (.iaload, 1) := by decide +kernel
theorem dX12_taken_101 : decode cX12_taken 101 = .ok (.goto 5, 3) := by decide +kernel
theorem dX12_taken_104 : decode cX12_taken 104 = .ok (.bipush (-13), 2) := by decide +kernel
theorem dX12_taken_106 : decode cX12_taken 106 = .ok (.ireturn, 1) := by decide +kernel
theorem dX12_starts_0 : decode cX12_starts 0 = .ok (.aload_n 0, 1) := by decide +kernel
theorem dX12_starts_1 : decode cX12_starts 1 = .ok (.getfield 344, 3) := by decide +kernel
theorem dX12_starts_4 : decode cX12_starts 4 = .ok (.bipush 30, 2) := by decide +kernel
theorem dX12_starts_6 : decode cX12_starts 6 = .ok (.if_icmp .ge 23, 3) := by decide +kernel
theorem dX12_starts_9 : decode cX12_starts 9 = .ok (.aload_n 0, 1) := by decide +kernel
theorem dX12_starts_10 : decode cX12_starts 10 = .ok (.getfield 68, 3) := by decide +kernel
theorem dX12_starts_13 : decode cX12_starts 13 = .ok (.aload_n 0, 1) := by decide +kernel
theorem dX12_starts_14 : decode cX12_starts 14 = .ok (.getfield 344, 3) := by decide +kernel
theorem dX12_starts_17 : decode cX12_starts 17 = .ok (.iload_n 1, 1) := by decide +kernel
theorem dX12_starts_18 : decode cX12_starts 18 = .ok (.iastore, 1) := by decide +kernel
theorem dX12_starts_19 : decode cX12_starts 19 = .ok (.aload_n 0, 1) := by decide +kernel
theorem dX12_starts_20 : decode cX12_starts 20 = .ok (.dup, 1) := by decide +kernel
theorem dX12_starts_21 : decode cX12_starts 21 = .ok (.getfield 344, 3) := by decide +kernel
theorem dX12_starts_24 : decode cX12_starts 24 = .ok (.iconst 1, 1) := by decide +kernel
theorem dX12_starts_25 : decode cX12_starts 25 = .ok (.iadd, 1) := by decide +kernel
theorem dX12_starts_26 : decode cX12_starts 26 = .ok (.putfield 344, 3) := by decide +kernel
theorem dX12_starts_29 : decode cX12_starts 29 = .ok (.return_, 1) := by decide +kernel
theorem dX12_knocksAs_0 : decode cX12_knocksAs 0 = .ok (.iload_n 1, 1) := by decide +kernel
theorem dX12_knocksAs_1 : decode cX12_knocksAs 1 = .ok (.iconst 1, 1) := by decide +kernel
theorem dX12_knocksAs_2 : decode cX12_knocksAs 2 = .ok (.if_icmp .ne 19, 3) := by decide +kernel
theorem dX12_knocksAs_5 : decode cX12_knocksAs 5 = .ok (.aload_n 0, 1) := by decide +kernel
theorem dX12_knocksAs_6 : decode cX12_knocksAs 6 = .ok (.bipush 20, 2) := by decide +kernel
theorem dX12_knocksAs_8 : decode cX12_knocksAs 8 = .ok (.invokevirtual 347, 3) := by decide +kernel
theorem dX12_knocksAs_11 : decode cX12_knocksAs 11 = .ok (.aload_n 0, 1) := by decide +kernel
theorem dX12_knocksAs_12 : decode cX12_knocksAs 12 = .ok (.iconst 0, 1) := by decide +kernel
theorem dX12_knocksAs_13 : decode cX12_knocksAs 13 = .ok (.iload_n 2, 1) := by decide +kernel
theorem dX12_knocksAs_14 : decode cX12_knocksAs 14 = .ok (.invokevirtual 350, 3) := by decide +kernel
theorem dX12_knocksAs_17 : decode cX12_knocksAs 17 = .ok (.bipush 13, 2) := by decide +kernel
theorem dX12_knocksAs_19 : decode cX12_knocksAs 19 = .ok (.iadd, 1) := by decide +kernel
theorem dX12_knocksAs_20 : decode cX12_knocksAs 20 = .ok (.ireturn, 1) := by decide +kernel
theorem dX12_knocksAs_21 : decode cX12_knocksAs 21 = .ok (.iload_n 1, 1) := by decide +kernel
theorem dX12_knocksAs_22 : decode cX12_knocksAs 22 = .ok (.iconst 3, 1) := by decide +kernel
theorem dX12_knocksAs_23 : decode cX12_knocksAs 23 = .ok (.if_icmp .ne 18, 3) := by decide +kernel
theorem dX12_knocksAs_26 : decode cX12_knocksAs 26 = .ok (.aload_n 0, 1) := by decide +kernel
theorem dX12_knocksAs_27 : decode cX12_knocksAs 27 = .ok (.bipush 50, 2) := by decide +kernel
theorem dX12_knocksAs_29 : decode cX12_knocksAs 29 = .ok (.invokevirtual 347, 3) := by decide +kernel
theorem dX12_knocksAs_32 : decode cX12_knocksAs 32 = .ok (.aload_n 0, 1) := by decide +kernel
theorem dX12_knocksAs_33 : decode cX12_knocksAs 33 = .ok (.iconst 2, 1) := by decide +kernel
theorem dX12_knocksAs_34 : decode cX12_knocksAs 34 = .ok (.iload_n 2, 1) := by decide +kernel
theorem dX12_knocksAs_35 : decode cX12_knocksAs 35 = .ok (.invokevirtual 350, 3) := by decide +kernel
theorem dX12_knocksAs_38 : decode cX12_knocksAs 38 = .ok (.iconst 2, 1) := by decide +kernel
theorem dX12_knocksAs_39 : decode cX12_knocksAs 39 = .ok (.imul, 1) := by decide +kernel
theorem dX12_knocksAs_40 : decode cX12_knocksAs 40 = .ok (.ireturn, 1) := by decide +kernel
theorem dX12_knocksAs_41 : decode cX12_knocksAs 41 = .ok (.aload_n 0, 1) := by decide +kernel
theorem dX12_knocksAs_42 : decode cX12_knocksAs 42 = .ok (.bipush 10, 2) := by decide +kernel
theorem dX12_knocksAs_44 : decode cX12_knocksAs 44 = .ok (.invokevirtual 347, 3) := by decide +kernel
theorem dX12_knocksAs_47 : decode cX12_knocksAs 47 = .ok (.iload_n 2, 1) := by decide +kernel
theorem dX12_knocksAs_48 : decode cX12_knocksAs 48 = .ok (.iconst 2, 1) := by decide +kernel
theorem dX12_knocksAs_49 : decode cX12_knocksAs 49 = .ok (.aload_n 0, 1) := by decide +kernel
theorem dX12_knocksAs_50 : decode cX12_knocksAs 50 = .ok (.getfield 353, 3) := by decide +kernel
theorem dX12_knocksAs_53 : decode cX12_knocksAs 53 = .ok (.imul, 1) := by decide +kernel
theorem dX12_knocksAs_54 : decode cX12_knocksAs 54 = .ok (.isub, 1) := by decide +kernel
theorem dX12_knocksAs_55 : decode cX12_knocksAs 55 = .ok (.ireturn, 1) := by decide +kernel
theorem dX12_waitsAs_0 : decode cX12_waitsAs 0 = .ok (.iload_n 1, 1) := by decide +kernel
theorem dX12_waitsAs_1 : decode cX12_waitsAs 1 = .ok (.iconst 2, 1) := by decide +kernel
theorem dX12_waitsAs_2 : decode cX12_waitsAs 2 = .ok (.if_icmp .eq 8, 3) := by decide +kernel
theorem dX12_waitsAs_5 : decode cX12_waitsAs 5 = .ok (.iload_n 1, 1) := by decide +kernel
theorem dX12_waitsAs_6 : decode cX12_waitsAs 6 = .ok (.iconst 3, 1) := by decide +kernel
theorem dX12_waitsAs_7 : decode cX12_waitsAs 7 = .ok (.if_icmp .ne 26, 3) := by decide +kernel
theorem dX12_waitsAs_10 : decode cX12_waitsAs 10 = .ok (.aload_n 0, 1) := by decide +kernel
theorem dX12_waitsAs_11 : decode cX12_waitsAs 11 = .ok (.bipush 30, 2) := by decide +kernel
theorem dX12_waitsAs_13 : decode cX12_waitsAs 13 = .ok (.invokevirtual 347, 3) := by decide +kernel
theorem dX12_waitsAs_16 : decode cX12_waitsAs 16 = .ok (.aload_n 0, 1) := by decide +kernel
theorem dX12_waitsAs_17 : decode cX12_waitsAs 17 = .ok (.iconst 0, 1) := by decide +kernel
theorem dX12_waitsAs_18 : decode cX12_waitsAs 18 = .ok (.iload_n 2, 1) := by decide +kernel
theorem dX12_waitsAs_19 : decode cX12_waitsAs 19 = .ok (.aload_n 0, 1) := by decide +kernel
theorem dX12_waitsAs_20 : decode cX12_waitsAs 20 = .ok (.aload_n 0, 1) := by decide +kernel
theorem dX12_waitsAs_21 : decode cX12_waitsAs 21 = .ok (.getfield 353, 3) := by decide +kernel
theorem dX12_waitsAs_24 : decode cX12_waitsAs 24 = .ok (.iconst 3, 1) := by decide +kernel
theorem dX12_waitsAs_25 : decode cX12_waitsAs 25 = .ok (.invokevirtual 79, 3) := by decide +kernel
theorem dX12_waitsAs_28 : decode cX12_waitsAs 28 = .ok (.isub, 1) := by decide +kernel
theorem dX12_waitsAs_29 : decode cX12_waitsAs 29 = .ok (.invokevirtual 356, 3) := by decide +kernel
theorem dX12_waitsAs_32 : decode cX12_waitsAs 32 = .ok (.ireturn, 1) := by decide +kernel
theorem dX12_waitsAs_33 : decode cX12_waitsAs 33 = .ok (.iload_n 1, 1) := by decide +kernel
theorem dX12_waitsAs_34 : decode cX12_waitsAs 34 = .ok (.iconst 5, 1) := by decide +kernel
theorem dX12_waitsAs_35 : decode cX12_waitsAs 35 = .ok (.if_icmp .ne 19, 3) := by decide +kernel
theorem dX12_waitsAs_38 : decode cX12_waitsAs 38 = .ok (.aload_n 0, 1) := by decide +kernel
theorem dX12_waitsAs_39 : decode cX12_waitsAs 39 = .ok (.bipush 60, 2) := by decide +kernel
theorem dX12_waitsAs_41 : decode cX12_waitsAs 41 = .ok (.invokevirtual 347, 3) := by decide +kernel
theorem dX12_waitsAs_44 : decode cX12_waitsAs 44 = .ok (.aload_n 0, 1) := by decide +kernel
theorem dX12_waitsAs_45 : decode cX12_waitsAs 45 = .ok (.iconst 4, 1) := by decide +kernel
theorem dX12_waitsAs_46 : decode cX12_waitsAs 46 = .ok (.iload_n 2, 1) := by decide +kernel
theorem dX12_waitsAs_47 : decode cX12_waitsAs 47 = .ok (.invokevirtual 356, 3) := by decide +kernel
theorem dX12_waitsAs_50 : decode cX12_waitsAs 50 = .ok (.bipush 12, 2) := by decide +kernel
theorem dX12_waitsAs_52 : decode cX12_waitsAs 52 = .ok (.ixor, 1) := by decide +kernel
theorem dX12_waitsAs_53 : decode cX12_waitsAs 53 = .ok (.ireturn, 1) := by decide +kernel
theorem dX12_waitsAs_54 : decode cX12_waitsAs 54 = .ok (.aload_n 0, 1) := by decide +kernel
theorem dX12_waitsAs_55 : decode cX12_waitsAs 55 = .ok (.bipush 11, 2) := by decide +kernel
theorem dX12_waitsAs_57 : decode cX12_waitsAs 57 = .ok (.invokevirtual 347, 3) := by decide +kernel
theorem dX12_waitsAs_60 : decode cX12_waitsAs 60 = .ok (.aload_n 0, 1) := by decide +kernel
theorem dX12_waitsAs_61 : decode cX12_waitsAs 61 = .ok (.aload_n 0, 1) := by decide +kernel
theorem dX12_waitsAs_62 : decode cX12_waitsAs 62 = .ok (.aload_n 0, 1) := by decide +kernel
theorem dX12_waitsAs_63 : decode cX12_waitsAs 63 = .ok (.getfield 353, 3) := by decide +kernel
theorem dX12_waitsAs_66 : decode cX12_waitsAs 66 = .ok (.iconst 0, 1) := by decide +kernel
theorem dX12_waitsAs_67 : decode cX12_waitsAs 67 = .ok (.invokevirtual 79, 3) := by decide +kernel
theorem dX12_waitsAs_70 : decode cX12_waitsAs 70 = .ok (.iload_n 2, 1) := by decide +kernel
theorem dX12_waitsAs_71 : decode cX12_waitsAs 71 = .ok (.invokevirtual 350, 3) := by decide +kernel
theorem dX12_waitsAs_74 : decode cX12_waitsAs 74 = .ok (.aload_n 0, 1) := by decide +kernel
theorem dX12_waitsAs_75 : decode cX12_waitsAs 75 = .ok (.aload_n 0, 1) := by decide +kernel
theorem dX12_waitsAs_76 : decode cX12_waitsAs 76 = .ok (.getfield 353, 3) := by decide +kernel
theorem dX12_waitsAs_79 : decode cX12_waitsAs 79 = .ok (.iconst 3, 1) := by decide +kernel
theorem dX12_waitsAs_80 : decode cX12_waitsAs 80 = .ok (.invokevirtual 79, 3) := by decide +kernel
theorem dX12_waitsAs_83 : decode cX12_waitsAs 83 = .ok (.ixor, 1) := by decide +kernel
theorem dX12_waitsAs_84 : decode cX12_waitsAs 84 = .ok (.ireturn, 1) := by decide +kernel
theorem dX12_countsAs_0 : decode cX12_countsAs 0 = .ok (.iload_n 1, 1) := by decide +kernel
theorem dX12_countsAs_1 : decode cX12_countsAs 1 = .ok (.iconst 5, 1) := by decide +kernel
theorem dX12_countsAs_2 : decode cX12_countsAs 2 = .ok (.if_icmp .ne 39, 3) := by decide +kernel
theorem dX12_countsAs_5 : decode cX12_countsAs 5 = .ok (.aload_n 0, 1) := by decide +kernel
theorem dX12_countsAs_6 : decode cX12_countsAs 6 = .ok (.bipush 61, 2) := by decide +kernel
theorem dX12_countsAs_8 : decode cX12_countsAs 8 = .ok (.invokevirtual 347, 3) := by decide +kernel
theorem dX12_countsAs_11 : decode cX12_countsAs 11 = .ok (.aload_n 0, 1) := by decide +kernel
theorem dX12_countsAs_12 : decode cX12_countsAs 12 = .ok (.iconst 4, 1) := by decide +kernel
theorem dX12_countsAs_13 : decode cX12_countsAs 13 = .ok (.iload_n 2, 1) := by decide +kernel
theorem dX12_countsAs_14 : decode cX12_countsAs 14 = .ok (.invokevirtual 359, 3) := by decide +kernel
theorem dX12_countsAs_17 : decode cX12_countsAs 17 = .ok (.istore_n 3, 1) := by decide +kernel
theorem dX12_countsAs_18 : decode cX12_countsAs 18 = .ok (.aload_n 0, 1) := by decide +kernel
theorem dX12_countsAs_19 : decode cX12_countsAs 19 = .ok (.getfield 362, 3) := by decide +kernel
theorem dX12_countsAs_22 : decode cX12_countsAs 22 = .ok (.ifCond .eq 7, 3) := by decide +kernel
theorem dX12_countsAs_25 : decode cX12_countsAs 25 = .ok (.iconst 0, 1) := by decide +kernel
theorem dX12_countsAs_26 : decode cX12_countsAs 26 = .ok (.goto 14, 3) := by decide +kernel
theorem dX12_countsAs_29 : decode cX12_countsAs 29 = .ok (.iload_n 3, 1) := by decide +kernel
theorem dX12_countsAs_30 : decode cX12_countsAs 30 = .ok (.aload_n 0, 1) := by decide +kernel
theorem dX12_countsAs_31 : decode cX12_countsAs 31 = .ok (.iconst 5, 1) := by decide +kernel
theorem dX12_countsAs_32 : decode cX12_countsAs 32 = .ok (.aload_n 0, 1) := by decide +kernel
theorem dX12_countsAs_33 : decode cX12_countsAs 33 = .ok (.getfield 353, 3) := by decide +kernel
theorem dX12_countsAs_36 : decode cX12_countsAs 36 = .ok (.invokevirtual 350, 3) := by decide +kernel
theorem dX12_countsAs_39 : decode cX12_countsAs 39 = .ok (.iadd, 1) := by decide +kernel
theorem dX12_countsAs_40 : decode cX12_countsAs 40 = .ok (.ireturn, 1) := by decide +kernel
theorem dX12_countsAs_41 : decode cX12_countsAs 41 = .ok (.iload_n 1, 1) := by decide +kernel
theorem dX12_countsAs_42 : decode cX12_countsAs 42 = .ok (.iconst 4, 1) := by decide +kernel
theorem dX12_countsAs_43 : decode cX12_countsAs 43 = .ok (.if_icmp .ne 18, 3) := by decide +kernel
theorem dX12_countsAs_46 : decode cX12_countsAs 46 = .ok (.aload_n 0, 1) := by decide +kernel
theorem dX12_countsAs_47 : decode cX12_countsAs 47 = .ok (.bipush 40, 2) := by decide +kernel
theorem dX12_countsAs_49 : decode cX12_countsAs 49 = .ok (.invokevirtual 347, 3) := by decide +kernel
theorem dX12_countsAs_52 : decode cX12_countsAs 52 = .ok (.aload_n 0, 1) := by decide +kernel
theorem dX12_countsAs_53 : decode cX12_countsAs 53 = .ok (.iconst 0, 1) := by decide +kernel
theorem dX12_countsAs_54 : decode cX12_countsAs 54 = .ok (.iload_n 2, 1) := by decide +kernel
theorem dX12_countsAs_55 : decode cX12_countsAs 55 = .ok (.invokevirtual 359, 3) := by decide +kernel
