theorem dX12_countsAs_58 : decode cX12_countsAs 58 = .ok (.iconst 1, 1) := by decide +kernel
theorem dX12_countsAs_59 : decode cX12_countsAs 59 = .ok (.isub, 1) := by decide +kernel
theorem dX12_countsAs_60 : decode cX12_countsAs 60 = .ok (.ireturn, 1) := by decide +kernel
theorem dX12_countsAs_61 : decode cX12_countsAs 61 = .ok (.aload_n 0, 1) := by decide +kernel
theorem dX12_countsAs_62 : decode cX12_countsAs 62 = .ok (.bipush 12, 2) := by decide +kernel
theorem dX12_countsAs_64 : decode cX12_countsAs 64 = .ok (.invokevirtual 347, 3) := by decide +kernel
theorem dX12_countsAs_67 : decode cX12_countsAs 67 = .ok (.iconst 2, 1) := by decide +kernel
theorem dX12_countsAs_68 : decode cX12_countsAs 68 = .ok (.aload_n 0, 1) := by decide +kernel
theorem dX12_countsAs_69 : decode cX12_countsAs 69 = .ok (.getfield 353, 3) := by decide +kernel
theorem dX12_countsAs_72 : decode cX12_countsAs 72 = .ok (.imul, 1) := by decide +kernel
theorem dX12_countsAs_73 : decode cX12_countsAs 73 = .ok (.aload_n 0, 1) := by decide +kernel
theorem dX12_countsAs_74 : decode cX12_countsAs 74 = .ok (.aload_n 0, 1) := by decide +kernel
theorem dX12_countsAs_75 : decode cX12_countsAs 75 = .ok (.getfield 353, 3) := by decide +kernel
theorem dX12_countsAs_78 : decode cX12_countsAs 78 = .ok (.iconst 3, 1) := by decide +kernel
theorem dX12_countsAs_79 : decode cX12_countsAs 79 = .ok (.invokevirtual 79, 3) := by decide +kernel
theorem dX12_countsAs_82 : decode cX12_countsAs 82 = .ok (.isub, 1) := by decide +kernel
theorem dX12_countsAs_83 : decode cX12_countsAs 83 = .ok (.istore_n 3, 1) := by decide +kernel
theorem dX12_countsAs_84 : decode cX12_countsAs 84 = .ok (.aload_n 0, 1) := by decide +kernel
theorem dX12_countsAs_85 : decode cX12_countsAs 85 = .ok (.aload_n 0, 1) := by decide +kernel
theorem dX12_countsAs_86 : decode cX12_countsAs 86 = .ok (.getfield 362, 3) := by decide +kernel
theorem dX12_countsAs_89 : decode cX12_countsAs 89 = .ok (.ifCond .ne 7, 3) := by decide +kernel
theorem dX12_countsAs_92 : decode cX12_countsAs 92 = .ok (.iload_n 3, 1) := by decide +kernel
theorem dX12_countsAs_93 : decode cX12_countsAs 93 = .ok (.ifCond .ne 7, 3) := by decide +kernel
theorem dX12_countsAs_96 : decode cX12_countsAs 96 = .ok (.iconst 1, 1) := by decide +kernel
theorem dX12_countsAs_97 : decode cX12_countsAs 97 = .ok (.goto 4, 3) := by decide +kernel
theorem dX12_countsAs_100 : decode cX12_countsAs 100 = .ok (.iconst 0, 1) := by decide +kernel
theorem dX12_countsAs_101 : decode cX12_countsAs 101 = .ok (.putfield 362, 3) := by decide +kernel
theorem dX12_countsAs_104 : decode cX12_countsAs 104 = .ok (.aload_n 0, 1) := by decide +kernel
theorem dX12_countsAs_105 : decode cX12_countsAs 105 = .ok (.getfield 362, 3) := by decide +kernel
theorem dX12_countsAs_108 : decode cX12_countsAs 108 = .ok (.ifCond .eq 7, 3) := by decide +kernel
theorem dX12_countsAs_111 : decode cX12_countsAs 111 = .ok (.iconst 0, 1) := by decide +kernel
theorem dX12_countsAs_112 : decode cX12_countsAs 112 = .ok (.goto 6, 3) := by decide +kernel
theorem dX12_countsAs_115 : decode cX12_countsAs 115 = .ok (.iload_n 2, 1) := by decide +kernel
theorem dX12_countsAs_116 : decode cX12_countsAs 116 = .ok (.iload_n 3, 1) := by decide +kernel
theorem dX12_countsAs_117 : decode cX12_countsAs 117 = .ok (.irem, 1) := by decide +kernel
theorem dX12_countsAs_118 : decode cX12_countsAs 118 = .ok (.ireturn, 1) := by decide +kernel
theorem dX12_sitsAs_0 : decode cX12_sitsAs 0 = .ok (.iload_n 1, 1) := by decide +kernel
theorem dX12_sitsAs_1 : decode cX12_sitsAs 1 = .ok (.iconst 3, 1) := by decide +kernel
theorem dX12_sitsAs_2 : decode cX12_sitsAs 2 = .ok (.if_icmp .ne 39, 3) := by decide +kernel
theorem dX12_sitsAs_5 : decode cX12_sitsAs 5 = .ok (.aload_n 0, 1) := by decide +kernel
theorem dX12_sitsAs_6 : decode cX12_sitsAs 6 = .ok (.bipush 51, 2) := by decide +kernel
theorem dX12_sitsAs_8 : decode cX12_sitsAs 8 = .ok (.invokevirtual 347, 3) := by decide +kernel
theorem dX12_sitsAs_11 : decode cX12_sitsAs 11 = .ok (.aload_n 0, 1) := by decide +kernel
theorem dX12_sitsAs_12 : decode cX12_sitsAs 12 = .ok (.iconst 2, 1) := by decide +kernel
theorem dX12_sitsAs_13 : decode cX12_sitsAs 13 = .ok (.iload_n 2, 1) := by decide +kernel
theorem dX12_sitsAs_14 : decode cX12_sitsAs 14 = .ok (.invokevirtual 366, 3) := by decide +kernel
theorem dX12_sitsAs_17 : decode cX12_sitsAs 17 = .ok (.istore_n 3, 1) := by decide +kernel
theorem dX12_sitsAs_18 : decode cX12_sitsAs 18 = .ok (.aload_n 0, 1) := by decide +kernel
theorem dX12_sitsAs_19 : decode cX12_sitsAs 19 = .ok (.getfield 362, 3) := by decide +kernel
theorem dX12_sitsAs_22 : decode cX12_sitsAs 22 = .ok (.ifCond .eq 7, 3) := by decide +kernel
theorem dX12_sitsAs_25 : decode cX12_sitsAs 25 = .ok (.iconst 0, 1) := by decide +kernel
theorem dX12_sitsAs_26 : decode cX12_sitsAs 26 = .ok (.goto 14, 3) := by decide +kernel
theorem dX12_sitsAs_29 : decode cX12_sitsAs 29 = .ok (.iload_n 3, 1) := by decide +kernel
theorem dX12_sitsAs_30 : decode cX12_sitsAs 30 = .ok (.aload_n 0, 1) := by decide +kernel
theorem dX12_sitsAs_31 : decode cX12_sitsAs 31 = .ok (.iconst 3, 1) := by decide +kernel
theorem dX12_sitsAs_32 : decode cX12_sitsAs 32 = .ok (.aload_n 0, 1) := by decide +kernel
theorem dX12_sitsAs_33 : decode cX12_sitsAs 33 = .ok (.getfield 353, 3) := by decide +kernel
theorem dX12_sitsAs_36 : decode cX12_sitsAs 36 = .ok (.invokevirtual 356, 3) := by decide +kernel
theorem dX12_sitsAs_39 : decode cX12_sitsAs 39 = .ok (.isub, 1) := by decide +kernel
theorem dX12_sitsAs_40 : decode cX12_sitsAs 40 = .ok (.ireturn, 1) := by decide +kernel
theorem dX12_sitsAs_41 : decode cX12_sitsAs 41 = .ok (.aload_n 0, 1) := by decide +kernel
theorem dX12_sitsAs_42 : decode cX12_sitsAs 42 = .ok (.bipush 13, 2) := by decide +kernel
theorem dX12_sitsAs_44 : decode cX12_sitsAs 44 = .ok (.invokevirtual 347, 3) := by decide +kernel
theorem dX12_sitsAs_47 : decode cX12_sitsAs 47 = .ok (.aload_n 0, 1) := by decide +kernel
theorem dX12_sitsAs_48 : decode cX12_sitsAs 48 = .ok (.aload_n 0, 1) := by decide +kernel
theorem dX12_sitsAs_49 : decode cX12_sitsAs 49 = .ok (.aload_n 0, 1) := by decide +kernel
theorem dX12_sitsAs_50 : decode cX12_sitsAs 50 = .ok (.getfield 353, 3) := by decide +kernel
theorem dX12_sitsAs_53 : decode cX12_sitsAs 53 = .ok (.iconst 0, 1) := by decide +kernel
theorem dX12_sitsAs_54 : decode cX12_sitsAs 54 = .ok (.invokevirtual 79, 3) := by decide +kernel
theorem dX12_sitsAs_57 : decode cX12_sitsAs 57 = .ok (.iload_n 2, 1) := by decide +kernel
theorem dX12_sitsAs_58 : decode cX12_sitsAs 58 = .ok (.invokevirtual 356, 3) := by decide +kernel
theorem dX12_sitsAs_61 : decode cX12_sitsAs 61 = .ok (.istore_n 3, 1) := by decide +kernel
theorem dX12_sitsAs_62 : decode cX12_sitsAs 62 = .ok (.iload_n 3, 1) := by decide +kernel
theorem dX12_sitsAs_63 : decode cX12_sitsAs 63 = .ok (.iconst 2, 1) := by decide +kernel
theorem dX12_sitsAs_64 : decode cX12_sitsAs 64 = .ok (.aload_n 0, 1) := by decide +kernel
theorem dX12_sitsAs_65 : decode cX12_sitsAs 65 = .ok (.aload_n 0, 1) := by decide +kernel
theorem dX12_sitsAs_66 : decode cX12_sitsAs 66 = .ok (.aload_n 0, 1) := by decide +kernel
theorem dX12_sitsAs_67 : decode cX12_sitsAs 67 = .ok (.getfield 353, 3) := by decide +kernel
theorem dX12_sitsAs_70 : decode cX12_sitsAs 70 = .ok (.iconst 0, 1) := by decide +kernel
theorem dX12_sitsAs_71 : decode cX12_sitsAs 71 = .ok (.invokevirtual 79, 3) := by decide +kernel
theorem dX12_sitsAs_74 : decode cX12_sitsAs 74 = .ok (.iload_n 2, 1) := by decide +kernel
theorem dX12_sitsAs_75 : decode cX12_sitsAs 75 = .ok (.invokevirtual 359, 3) := by decide +kernel
theorem dX12_sitsAs_78 : decode cX12_sitsAs 78 = .ok (.imul, 1) := by decide +kernel
theorem dX12_sitsAs_79 : decode cX12_sitsAs 79 = .ok (.iadd, 1) := by decide +kernel
theorem dX12_sitsAs_80 : decode cX12_sitsAs 80 = .ok (.ireturn, 1) := by decide +kernel
theorem dX12_act_0 : decode cX12_act 0 = .ok (.aload_n 0, 1) := by decide +kernel
theorem dX12_act_1 : decode cX12_act 1 = .ok (.iconst 0, 1) := by decide +kernel
theorem dX12_act_2 : decode cX12_act 2 = .ok (.putfield 344, 3) := by decide +kernel
theorem dX12_act_5 : decode cX12_act 5 = .ok (.iload_n 1, 1) := by decide +kernel
theorem dX12_act_6 : decode cX12_act 6 = .ok (.invokestatic 329, 3) := by decide +kernel
theorem dX12_act_9 : decode cX12_act 9 = .ok (.ifCond .eq 20, 3) := by decide +kernel
theorem dX12_act_12 : decode cX12_act 12 = .ok (.iload_n 2, 1) := by decide +kernel
theorem dX12_act_13 : decode cX12_act 13 = .ok (.iconst 0, 1) := by decide +kernel
theorem dX12_act_14 : decode cX12_act 14 = .ok (.iconst 3, 1) := by decide +kernel
theorem dX12_act_15 : decode cX12_act 15 = .ok (.invokestatic 71, 3) := by decide +kernel
theorem dX12_act_18 : decode cX12_act 18 = .ok (.ifCond .eq 11, 3) := by decide +kernel
theorem dX12_act_21 : decode cX12_act 21 = .ok (.aload_n 0, 1) := by decide +kernel
theorem dX12_act_22 : decode cX12_act 22 = .ok (.iload_n 1, 1) := by decide +kernel
theorem dX12_act_23 : decode cX12_act 23 = .ok (.invokevirtual 341, 3) := by decide +kernel
theorem dX12_act_26 : decode cX12_act 26 = .ok (.ifCond .eq 5, 3) := by decide +kernel
theorem dX12_act_29 : decode cX12_act 29 = .ok (.iconst 0, 1) := by decide +kernel
theorem dX12_act_30 : decode cX12_act 30 = .ok (.ireturn, 1) := by decide +kernel
theorem dX12_act_31 : decode cX12_act 31 = .ok (.aload_n 0, 1) := by decide +kernel
theorem dX12_act_32 : decode cX12_act 32 = .ok (.aload_n 0, 1) := by decide +kernel
theorem dX12_act_33 : decode cX12_act 33 = .ok (.getfield 65, 3) := by decide +kernel
theorem dX12_act_36 : decode cX12_act 36 = .ok (.iload_n 1, 1) := by decide +kernel
theorem dX12_act_37 : decode cX12_act 37 = .ok (.iaload, 1) := by decide +kernel
theorem dX12_act_38 : decode cX12_act 38 = .ok (.putfield 353, 3) := by decide +kernel
theorem dX12_act_41 : decode cX12_act 41 = .ok (.aload_n 0, 1) := by decide +kernel
theorem dX12_act_42 : decode cX12_act 42 = .ok (.iconst 0, 1) := by decide +kernel
theorem dX12_act_43 : decode cX12_act 43 = .ok (.putfield 362, 3) := by decide +kernel
theorem dX12_act_46 : decode cX12_act 46 = .ok (.aload_n 0, 1) := by decide +kernel
theorem dX12_act_47 : decode cX12_act 47 = .ok (.aload_n 0, 1) := by decide +kernel
theorem dX12_act_48 : decode cX12_act 48 = .ok (.getfield 353, 3) := by decide +kernel
theorem dX12_act_51 : decode cX12_act 51 = .ok (.iconst 0, 1) := by decide +kernel
theorem dX12_act_52 : decode cX12_act 52 = .ok (.invokevirtual 79, 3) := by decide +kernel
theorem dX12_act_55 : decode cX12_act 55 = .ok (.istore 4, 2) := by decide +kernel
theorem dX12_act_57 : decode cX12_act 57 = .ok (.iload_n 2, 1) := by decide +kernel
theorem dX12_act_58 : decode cX12_act 58 = .ok (.ifCond .ne 13, 3) := by decide +kernel
theorem dX12_act_61 : decode cX12_act 61 = .ok (.aload_n 0, 1) := by decide +kernel
theorem dX12_act_62 : decode cX12_act 62 = .ok (.iload 4, 2) := by decide +kernel
theorem dX12_act_64 : decode cX12_act 64 = .ok (.iload_n 3, 1) := by decide +kernel
theorem dX12_act_65 : decode cX12_act 65 = .ok (.invokevirtual 350, 3) := by decide +kernel
theorem dX12_act_68 : decode cX12_act 68 = .ok (.goto 40, 3) := by decide +kernel
theorem dX12_act_71 : decode cX12_act 71 = .ok (.iload_n 2, 1) := by decide +kernel
theorem dX12_act_72 : decode cX12_act 72 = .ok (.iconst 1, 1) := by decide +kernel
theorem dX12_act_73 : decode cX12_act 73 = .ok (.if_icmp .ne 13, 3) := by decide +kernel
theorem dX12_act_76 : decode cX12_act 76 = .ok (.aload_n 0, 1) := by decide +kernel
theorem dX12_act_77 : decode cX12_act 77 = .ok (.iload 4, 2) := by decide +kernel
theorem dX12_act_79 : decode cX12_act 79 = .ok (.iload_n 3, 1) := by decide +kernel
theorem dX12_act_80 : decode cX12_act 80 = .ok (.invokevirtual 356, 3) := by decide +kernel
theorem dX12_act_83 : decode cX12_act 83 = .ok (.goto 25, 3) := by decide +kernel
theorem dX12_act_86 : decode cX12_act 86 = .ok (.iload_n 2, 1) := by decide +kernel
theorem dX12_act_87 : decode cX12_act 87 = .ok (.iconst 2, 1) := by decide +kernel
theorem dX12_act_88 : decode cX12_act 88 = .ok (.if_icmp .ne 13, 3) := by decide +kernel
theorem dX12_act_91 : decode cX12_act 91 = .ok (.aload_n 0, 1) := by decide +kernel
theorem dX12_act_92 : decode cX12_act 92 = .ok (.iload 4, 2) := by decide +kernel
theorem dX12_act_94 : decode cX12_act 94 = .ok (.iload_n 3, 1) := by decide +kernel
theorem dX12_act_95 : decode cX12_act 95 = .ok (.invokevirtual 359, 3) := by decide +kernel
theorem dX12_act_98 : decode cX12_act 98 = .ok (.goto 10, 3) := by decide +kernel
theorem dX12_act_101 : decode cX12_act 101 = .ok (.aload_n 0, 1) := by decide +kernel
theorem dX12_act_102 : decode cX12_act 102 = .ok (.iload 4, 2) := by decide +kernel
theorem dX12_act_104 : decode cX12_act 104 = .ok (.iload_n 3, 1) := by decide +kernel
theorem dX12_act_105 : decode cX12_act 105 = .ok (.invokevirtual 366, 3) := by decide +kernel
theorem dX12_act_108 : decode cX12_act 108 = .ok (.istore 5, 2) := by decide +kernel
theorem dX12_act_110 : decode cX12_act 110 = .ok (.aload_n 0, 1) := by decide +kernel
theorem dX12_act_111 : decode cX12_act 111 = .ok (.getfield 362, 3) := by decide +kernel
theorem dX12_act_114 : decode cX12_act 114 = .ok (.ifCond .eq 8, 3) := by decide +kernel
theorem dX12_act_117 : decode cX12_act 117 = .ok (.bipush (-15), 2) := by decide +kernel
theorem dX12_act_119 : decode cX12_act 119 = .ok (.goto 5, 3) := by decide +kernel
theorem dX12_act_122 : decode cX12_act 122 = .ok (.iload 5, 2) := by decide +kernel
theorem dX12_act_124 : decode cX12_act 124 = .ok (.ireturn, 1) := by decide +kernel
theorem dX12_trace_0 : decode cX12_trace 0 = .ok (.iload_n 1, 1) := by decide +kernel
theorem dX12_trace_1 : decode cX12_trace 1 = .ok (.iconst 0, 1) := by decide +kernel
theorem dX12_trace_2 : decode cX12_trace 2 = .ok (.aload_n 0, 1) := by decide +kernel
theorem dX12_trace_3 : decode cX12_trace 3 = .ok (.getfield 344, 3) := by decide +kernel
theorem dX12_trace_6 : decode cX12_trace 6 = .ok (.iconst 1, 1) := by decide +kernel
theorem dX12_trace_7 : decode cX12_trace 7 = .ok (.isub, 1) := by decide +kernel
theorem dX12_trace_8 : decode cX12_trace 8 = .ok (.invokestatic 71, 3) := by decide +kernel
theorem dX12_trace_11 : decode cX12_trace 11 = .ok (.ifCond .eq 12, 3) := by decide +kernel
theorem dX12_trace_14 : decode cX12_trace 14 = .ok (.aload_n 0, 1) := by decide +kernel
theorem dX12_trace_15 : decode cX12_trace 15 = .ok (.getfield 68, 3) := by decide +kernel
theorem dX12_trace_18 : decode cX12_trace 18 = .ok (.iload_n 1, 1) := by decide +kernel
theorem dX12_trace_19 : decode cX12_trace 19 = .ok (.iaload, 1) := by decide +kernel
theorem dX12_trace_20 : decode cX12_trace 20 = .ok (.goto 5, 3) := by decide +kernel
theorem dX12_trace_23 : decode cX12_trace 23 = .ok (.bipush (-3), 2) := by decide +kernel
theorem dX12_trace_25 : decode cX12_trace 25 = .ok (.ireturn, 1) := by decide +kernel
theorem dX12_ones_0 : decode cX12_ones 0 = .ok (.iconst 0, 1) := by decide +kernel
theorem dX12_ones_1 : decode cX12_ones 1 = .ok (.istore_n 1, 1) := by decide +kernel
theorem dX12_ones_2 : decode cX12_ones 2 = .ok (.iload_n 0, 1) := by decide +kernel
theorem dX12_ones_3 : decode cX12_ones 3 = .ok (.istore_n 2, 1) := by decide +kernel
theorem dX12_ones_4 : decode cX12_ones 4 = .ok (.iload_n 2, 1) := by decide +kernel
theorem dX12_ones_5 : decode cX12_ones 5 = .ok (.ifCond .eq 15, 3) := by decide +kernel
theorem dX12_ones_8 : decode cX12_ones 8 = .ok (.iinc 1 1, 3) := by decide +kernel
theorem dX12_ones_11 : decode cX12_ones 11 = .ok (.iload_n 2, 1) := by decide +kernel
theorem dX12_ones_12 : decode cX12_ones 12 = .ok (.iload_n 2, 1) := by decide +kernel
theorem dX12_ones_13 : decode cX12_ones 13 = .ok (.iconst 1, 1) := by decide +kernel
theorem dX12_ones_14 : decode cX12_ones 14 = .ok (.isub, 1) := by decide +kernel
theorem dX12_ones_15 : decode cX12_ones 15 = .ok (.iand, 1) := by decide +kernel
theorem dX12_ones_16 : decode cX12_ones 16 = .ok (.istore_n 2, 1) := by decide +kernel
theorem dX12_ones_17 : decode cX12_ones 17 = .ok (.goto (-13), 3) := by decide +kernel
theorem dX12_ones_20 : decode cX12_ones 20 = .ok (.iload_n 1, 1) := by decide +kernel
theorem dX12_ones_21 : decode cX12_ones 21 = .ok (.ireturn, 1) := by decide +kernel
theorem dX12_many_0 : decode cX12_many 0 = .ok (.iload_n 1, 1) := by decide +kernel
theorem dX12_many_1 : decode cX12_many 1 = .ok (.tableswitch 91 0 6 #[43, 51, 59, 68, 76, 81, 86], 43) := by decide +kernel
theorem dX12_many_44 : decode cX12_many 44 = .ok (.aload_n 0, 1) := by decide +kernel
theorem dX12_many_45 : decode cX12_many 45 = .ok (.getfield 9, 3) := by decide +kernel
theorem dX12_many_48 : decode cX12_many 48 = .ok (.bipush 6, 2) := by decide +kernel
theorem dX12_many_50 : decode cX12_many 50 = .ok (.iaload, 1) := by decide +kernel
theorem dX12_many_51 : decode cX12_many 51 = .ok (.ireturn, 1) := by decide +kernel
theorem dX12_many_52 : decode cX12_many 52 = .ok (.aload_n 0, 1) := by decide +kernel
theorem dX12_many_53 : decode cX12_many 53 = .ok (.getfield 9, 3) := by decide +kernel
theorem dX12_many_56 : decode cX12_many 56 = .ok (.bipush 7, 2) := by decide +kernel
theorem dX12_many_58 : decode cX12_many 58 = .ok (.iaload, 1) := by decide +kernel
theorem dX12_many_59 : decode cX12_many 59 = .ok (.ireturn, 1) := by decide +kernel
theorem dX12_many_60 : decode cX12_many 60 = .ok (.aload_n 0, 1) := by decide +kernel
theorem dX12_many_61 : decode cX12_many 61 = .ok (.iconst 5, 1) := by decide +kernel
theorem dX12_many_62 : decode cX12_many 62 = .ok (.invokevirtual 229, 3) := by decide +kernel
theorem dX12_many_65 : decode cX12_many 65 = .ok (.invokestatic 369, 3) := by decide +kernel
theorem dX12_many_68 : decode cX12_many 68 = .ok (.ireturn, 1) := by decide +kernel
theorem dX12_many_69 : decode cX12_many 69 = .ok (.aload_n 0, 1) := by decide +kernel
theorem dX12_many_70 : decode cX12_many 70 = .ok (.getfield 9, 3) := by decide +kernel
theorem dX12_many_73 : decode cX12_many 73 = .ok (.bipush 8, 2) := by decide +kernel
theorem dX12_many_75 : decode cX12_many 75 = .ok (.iaload, 1) := by decide +kernel
theorem dX12_many_76 : decode cX12_many 76 = .ok (.ireturn, 1) := by decide +kernel
theorem dX12_many_77 : decode cX12_many 77 = .ok (.aload_n 0, 1) := by decide +kernel
theorem dX12_many_78 : decode cX12_many 78 = .ok (.getfield 320, 3) := by decide +kernel
theorem dX12_many_81 : decode cX12_many 81 = .ok (.ireturn, 1) := by decide +kernel
theorem dX12_many_82 : decode cX12_many 82 = .ok (.aload_n 0, 1) := by decide +kernel
theorem dX12_many_83 : decode cX12_many 83 = .ok (.getfield 113, 3) := by decide +kernel
theorem dX12_many_86 : decode cX12_many 86 = .ok (.ireturn, 1) := by decide +kernel
theorem dX12_many_87 : decode cX12_many 87 = .ok (.aload_n 0, 1) := by decide +kernel
theorem dX12_many_88 : decode cX12_many 88 = .ok (.getfield 344, 3) := by decide +kernel
theorem dX12_many_91 : decode cX12_many 91 = .ok (.ireturn, 1) := by decide +kernel
theorem dX12_many_92 : decode cX12_many 92 = .ok (.iconst (-1), 1) := by decide +kernel
theorem dX12_many_93 : decode cX12_many 93 = .ok (.ireturn, 1) := by decide +kernel
theorem dX12_keep_0 : decode cX12_keep 0 = .ok (.iconst 0, 1) := by decide +kernel
theorem dX12_keep_1 : decode cX12_keep 1 = .ok (.istore_n 1, 1) := by decide +kernel
theorem dX12_keep_2 : decode cX12_keep 2 = .ok (.iload_n 1, 1) := by decide +kernel
theorem dX12_keep_3 : decode cX12_keep 3 = .ok (.sipush 322, 3) := by decide +kernel
theorem dX12_keep_6 : decode cX12_keep 6 = .ok (.if_icmp .ge 21, 3) := by decide +kernel
theorem dX12_keep_9 : decode cX12_keep 9 = .ok (.aload_n 0, 1) := by decide +kernel
theorem dX12_keep_10 : decode cX12_keep 10 = .ok (.getfield 13, 3) := by decide +kernel
theorem dX12_keep_13 : decode cX12_keep 13 = .ok (.iload_n 1, 1) := by decide +kernel
theorem dX12_keep_14 : decode cX12_keep 14 = .ok (.aload_n 0, 1) := by decide +kernel
theorem dX12_keep_15 : decode cX12_keep 15 = .ok (.getfield 9, 3) := by decide +kernel
theorem dX12_keep_18 : decode cX12_keep 18 = .ok (.iload_n 1, 1) := by decide +kernel
theorem dX12_keep_19 : decode cX12_keep 19 = .ok (.iaload, 1) := by decide +kernel
theorem dX12_keep_20 : decode cX12_keep 20 = .ok (.iastore, 1) := by decide +kernel
theorem dX12_keep_21 : decode cX12_keep 21 = .ok (.iinc 1 1, 3) := by decide +kernel
theorem dX12_keep_24 : decode cX12_keep 24 = .ok (.goto (-22), 3) := by decide +kernel
theorem dX12_keep_27 : decode cX12_keep 27 = .ok (.aload_n 0, 1) := by decide +kernel
theorem dX12_keep_28 : decode cX12_keep 28 = .ok (.iconst 1, 1) := by decide +kernel
theorem dX12_keep_29 : decode cX12_keep 29 = .ok (.putfield 372, 3) := by decide +kernel
theorem dX12_keep_32 : decode cX12_keep 32 = .ok (.iconst 1, 1) := by decide +kernel
theorem dX12_keep_33 : decode cX12_keep 33 = .ok (.ireturn, 1) := by decide +kernel
theorem dX12_again_0 : decode cX12_again 0 = .ok (.aload_n 0, 1) := by decide +kernel
theorem dX12_again_1 : decode cX12_again 1 = .ok (.getfield 372, 3) := by decide +kernel
theorem dX12_again_4 : decode cX12_again 4 = .ok (.ifCond .ne 6, 3) := by decide +kernel
theorem dX12_again_7 : decode cX12_again 7 = .ok (.bipush (-3), 2) := by decide +kernel
theorem dX12_again_9 : decode cX12_again 9 = .ok (.ireturn, 1) := by decide +kernel
theorem dX12_again_10 : decode cX12_again 10 = .ok (.iconst 0, 1) := by decide +kernel
theorem dX12_again_11 : decode cX12_again 11 = .ok (.istore_n 1, 1) := by decide +kernel
theorem dX12_again_12 : decode cX12_again 12 = .ok (.iload_n 1, 1) := by decide +kernel
theorem dX12_again_13 : decode cX12_again 13 = .ok (.sipush 322, 3) := by decide +kernel
theorem dX12_again_16 : decode cX12_again 16 = .ok (.if_icmp .ge 21, 3) := by decide +kernel
theorem dX12_again_19 : decode cX12_again 19 = .ok (.aload_n 0, 1) := by decide +kernel
theorem dX12_again_20 : decode cX12_again 20 = .ok (.getfield 9, 3) := by decide +kernel
theorem dX12_again_23 : decode cX12_again 23 = .ok (.iload_n 1, 1) := by decide +kernel
theorem dX12_again_24 : decode cX12_again 24 = .ok (.aload_n 0, 1) := by decide +kernel
theorem dX12_again_25 : decode cX12_again 25 = .ok (.getfield 13, 3) := by decide +kernel
theorem dX12_again_28 : decode cX12_again 28 = .ok (.iload_n 1, 1) := by decide +kernel
theorem dX12_again_29 : decode cX12_again 29 = .ok (.iaload, 1) := by decide +kernel
theorem dX12_again_30 : decode cX12_again 30 = .ok (.iastore, 1) := by decide +kernel
theorem dX12_again_31 : decode cX12_again 31 = .ok (.iinc 1 1, 3) := by decide +kernel
theorem dX12_again_34 : decode cX12_again 34 = .ok (.goto (-22), 3) := by decide +kernel
theorem dX12_again_37 : decode cX12_again 37 = .ok (.aload_n 0, 1) := by decide +kernel
theorem dX12_again_38 : decode cX12_again 38 = .ok (.getfield 9, 3) := by decide +kernel
theorem dX12_again_41 : decode cX12_again 41 = .ok (.bipush 6, 2) := by decide +kernel
theorem dX12_again_43 : decode cX12_again 43 = .ok (.iaload, 1) := by decide +kernel
theorem dX12_again_44 : decode cX12_again 44 = .ok (.ireturn, 1) := by decide +kernel
theorem dJ6_bitCount_0f7a4_0 : decode cJ6_bitCount_0f7a4 0 = .ok (.iload_n 0, 1) := by decide +kernel
theorem dJ6_bitCount_0f7a4_1 : decode cJ6_bitCount_0f7a4 1 = .ok (.iload_n 0, 1) := by decide +kernel
theorem dJ6_bitCount_0f7a4_2 : decode cJ6_bitCount_0f7a4 2 = .ok (.iconst 1, 1) := by decide +kernel
theorem dJ6_bitCount_0f7a4_3 : decode cJ6_bitCount_0f7a4 3 = .ok (.iushr, 1) := by decide +kernel
theorem dJ6_bitCount_0f7a4_4 : decode cJ6_bitCount_0f7a4 4 = .ok (.ldc_w 265, 3) := by decide +kernel
theorem dJ6_bitCount_0f7a4_7 : decode cJ6_bitCount_0f7a4 7 = .ok (.iand, 1) := by decide +kernel
theorem dJ6_bitCount_0f7a4_8 : decode cJ6_bitCount_0f7a4 8 = .ok (.isub, 1) := by decide +kernel
theorem dJ6_bitCount_0f7a4_9 : decode cJ6_bitCount_0f7a4 9 = .ok (.istore_n 0, 1) := by decide +kernel
theorem dJ6_bitCount_0f7a4_10 : decode cJ6_bitCount_0f7a4 10 = .ok (.iload_n 0, 1) := by decide +kernel
theorem dJ6_bitCount_0f7a4_11 : decode cJ6_bitCount_0f7a4 11 = .ok (.ldc_w 266, 3) := by decide +kernel
theorem dJ6_bitCount_0f7a4_14 : decode cJ6_bitCount_0f7a4 14 = .ok (.iand, 1) := by decide +kernel
theorem dJ6_bitCount_0f7a4_15 : decode cJ6_bitCount_0f7a4 15 = .ok (.iload_n 0, 1) := by decide +kernel
theorem dJ6_bitCount_0f7a4_16 : decode cJ6_bitCount_0f7a4 16 = .ok (.iconst 2, 1) := by decide +kernel
theorem dJ6_bitCount_0f7a4_17 : decode cJ6_bitCount_0f7a4 17 = .ok (.iushr, 1) := by decide +kernel
theorem dJ6_bitCount_0f7a4_18 : decode cJ6_bitCount_0f7a4 18 = .ok (.ldc_w 266, 3) := by decide +kernel
theorem dJ6_bitCount_0f7a4_21 : decode cJ6_bitCount_0f7a4 21 = .ok (.iand, 1) := by decide +kernel
theorem dJ6_bitCount_0f7a4_22 : decode cJ6_bitCount_0f7a4 22 = .ok (.iadd, 1) := by decide +kernel
theorem dJ6_bitCount_0f7a4_23 : decode cJ6_bitCount_0f7a4 23 = .ok (.istore_n 0, 1) := by decide +kernel
theorem dJ6_bitCount_0f7a4_24 : decode cJ6_bitCount_0f7a4 24 = .ok (.iload_n 0, 1) := by decide +kernel
theorem dJ6_bitCount_0f7a4_25 : decode cJ6_bitCount_0f7a4 25 = .ok (.iload_n 0, 1) := by decide +kernel
theorem dJ6_bitCount_0f7a4_26 : decode cJ6_bitCount_0f7a4 26 = .ok (.iconst 4, 1) := by decide +kernel
theorem dJ6_bitCount_0f7a4_27 : decode cJ6_bitCount_0f7a4 27 = .ok (.iushr, 1) := by decide +kernel
theorem dJ6_bitCount_0f7a4_28 : decode cJ6_bitCount_0f7a4 28 = .ok (.iadd, 1) := by decide +kernel
theorem dJ6_bitCount_0f7a4_29 : decode cJ6_bitCount_0f7a4 29 = .ok (.ldc_w 267, 3) := by decide +kernel
theorem dJ6_bitCount_0f7a4_32 : decode cJ6_bitCount_0f7a4 32 = .ok (.iand, 1) := by decide +kernel
theorem dJ6_bitCount_0f7a4_33 : decode cJ6_bitCount_0f7a4 33 = .ok (.istore_n 0, 1) := by decide +kernel
theorem dJ6_bitCount_0f7a4_34 : decode cJ6_bitCount_0f7a4 34 = .ok (.iload_n 0, 1) := by decide +kernel
theorem dJ6_bitCount_0f7a4_35 : decode cJ6_bitCount_0f7a4 35 = .ok (.iload_n 0, 1) := by decide +kernel
theorem dJ6_bitCount_0f7a4_36 : decode cJ6_bitCount_0f7a4 36 = .ok (.bipush 8, 2) := by decide +kernel
theorem dJ6_bitCount_0f7a4_38 : decode cJ6_bitCount_0f7a4 38 = .ok (.iushr, 1) := by decide +kernel
theorem dJ6_bitCount_0f7a4_39 : decode cJ6_bitCount_0f7a4 39 = .ok (.iadd, 1) := by decide +kernel
theorem dJ6_bitCount_0f7a4_40 : decode cJ6_bitCount_0f7a4 40 = .ok (.istore_n 0, 1) := by decide +kernel
theorem dJ6_bitCount_0f7a4_41 : decode cJ6_bitCount_0f7a4 41 = .ok (.iload_n 0, 1) := by decide +kernel
theorem dJ6_bitCount_0f7a4_42 : decode cJ6_bitCount_0f7a4 42 = .ok (.iload_n 0, 1) := by decide +kernel
theorem dJ6_bitCount_0f7a4_43 : decode cJ6_bitCount_0f7a4 43 = .ok (.bipush 16, 2) := by decide +kernel
theorem dJ6_bitCount_0f7a4_45 : decode cJ6_bitCount_0f7a4 45 = .ok (.iushr, 1) := by decide +kernel
theorem dJ6_bitCount_0f7a4_46 : decode cJ6_bitCount_0f7a4 46 = .ok (.iadd, 1) := by decide +kernel
theorem dJ6_bitCount_0f7a4_47 : decode cJ6_bitCount_0f7a4 47 = .ok (.istore_n 0, 1) := by decide +kernel
theorem dJ6_bitCount_0f7a4_48 : decode cJ6_bitCount_0f7a4 48 = .ok (.iload_n 0, 1) := by decide +kernel
theorem dJ6_bitCount_0f7a4_49 : decode cJ6_bitCount_0f7a4 49 = .ok (.bipush 63, 2) := by decide +kernel
theorem dJ6_bitCount_0f7a4_51 : decode cJ6_bitCount_0f7a4 51 = .ok (.iand, 1) := by decide +kernel
theorem dJ6_bitCount_0f7a4_52 : decode cJ6_bitCount_0f7a4 52 = .ok (.ireturn, 1) := by decide +kernel
theorem dJ7_fill_d0a16_0 : decode cJ7_fill_d0a16 0 = .ok (.iconst 0, 1) := by decide +kernel
theorem dJ7_fill_d0a16_1 : decode cJ7_fill_d0a16 1 = .ok (.istore_n 3, 1) := by decide +kernel
theorem dJ7_fill_d0a16_2 : decode cJ7_fill_d0a16 2 = .ok (.aload_n 0, 1) := by decide +kernel
theorem dJ7_fill_d0a16_3 : decode cJ7_fill_d0a16 3 = .ok (.arraylength, 1) := by decide +kernel
theorem dJ7_fill_d0a16_4 : decode cJ7_fill_d0a16 4 = .ok (.istore 4, 2) := by decide +kernel
theorem dJ7_fill_d0a16_6 : decode cJ7_fill_d0a16 6 = .ok (.iload_n 3, 1) := by decide +kernel
theorem dJ7_fill_d0a16_7 : decode cJ7_fill_d0a16 7 = .ok (.iload 4, 2) := by decide +kernel
theorem dJ7_fill_d0a16_9 : decode cJ7_fill_d0a16 9 = .ok (.if_icmp .ge 13, 3) := by decide +kernel
theorem dJ7_fill_d0a16_12 : decode cJ7_fill_d0a16 12 = .ok (.aload_n 0, 1) := by decide +kernel
theorem dJ7_fill_d0a16_13 : decode cJ7_fill_d0a16 13 = .ok (.iload_n 3, 1) := by decide +kernel
theorem dJ7_fill_d0a16_14 : decode cJ7_fill_d0a16 14 = .ok (.lload_n 1, 1) := by decide +kernel
theorem dJ7_fill_d0a16_15 : decode cJ7_fill_d0a16 15 = .ok (.lastore, 1) := by decide +kernel
theorem dJ7_fill_d0a16_16 : decode cJ7_fill_d0a16 16 = .ok (.iinc 3 1, 3) := by decide +kernel
theorem dJ7_fill_d0a16_19 : decode cJ7_fill_d0a16 19 = .ok (.goto (-13), 3) := by decide +kernel
theorem dJ7_fill_d0a16_22 : decode cJ7_fill_d0a16 22 = .ok (.return_, 1) := by decide +kernel
theorem dJ7_fill_53178_0 : decode cJ7_fill_53178 0 = .ok (.iconst 0, 1) := by decide +kernel
theorem dJ7_fill_53178_1 : decode cJ7_fill_53178 1 = .ok (.istore_n 2, 1) := by decide +kernel
theorem dJ7_fill_53178_2 : decode cJ7_fill_53178 2 = .ok (.aload_n 0, 1) := by decide +kernel
theorem dJ7_fill_53178_3 : decode cJ7_fill_53178 3 = .ok (.arraylength, 1) := by decide +kernel
theorem dJ7_fill_53178_4 : decode cJ7_fill_53178 4 = .ok (.istore_n 3, 1) := by decide +kernel
theorem dJ7_fill_53178_5 : decode cJ7_fill_53178 5 = .ok (.iload_n 2, 1) := by decide +kernel
theorem dJ7_fill_53178_6 : decode cJ7_fill_53178 6 = .ok (.iload_n 3, 1) := by decide +kernel
theorem dJ7_fill_53178_7 : decode cJ7_fill_53178 7 = .ok (.if_icmp .ge 13, 3) := by decide +kernel
theorem dJ7_fill_53178_10 : decode cJ7_fill_53178 10 = .ok (.aload_n 0, 1) := by decide +kernel
theorem dJ7_fill_53178_11 : decode cJ7_fill_53178 11 = .ok (.iload_n 2, 1) := by decide +kernel
theorem dJ7_fill_53178_12 : decode cJ7_fill_53178 12 = .ok (.iload_n 1, 1) := by decide +kernel
theorem dJ7_fill_53178_13 : decode cJ7_fill_53178 13 = .ok (.iastore, 1) := by decide +kernel
theorem dJ7_fill_53178_14 : decode cJ7_fill_53178 14 = .ok (.iinc 2 1, 3) := by decide +kernel
theorem dJ7_fill_53178_17 : decode cJ7_fill_53178 17 = .ok (.goto (-12), 3) := by decide +kernel
theorem dJ7_fill_53178_20 : decode cJ7_fill_53178 20 = .ok (.return_, 1) := by decide +kernel
