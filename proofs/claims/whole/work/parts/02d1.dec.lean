theorem dX7_holds_12 : decode cX7_holds 12 = .ok (.iconst 1, 1) := by decide +kernel
theorem dX7_holds_13 : decode cX7_holds 13 = .ok (.ishr, 1) := by decide +kernel
theorem dX7_holds_14 : decode cX7_holds 14 = .ok (.istore 5, 2) := by decide +kernel
theorem dX7_holds_16 : decode cX7_holds 16 = .ok (.aload_n 0, 1) := by decide +kernel
theorem dX7_holds_17 : decode cX7_holds 17 = .ok (.getfield 21, 3) := by decide +kernel
theorem dX7_holds_20 : decode cX7_holds 20 = .ok (.iload 4, 2) := by decide +kernel
theorem dX7_holds_22 : decode cX7_holds 22 = .ok (.iaload, 1) := by decide +kernel
theorem dX7_holds_23 : decode cX7_holds 23 = .ok (.tableswitch 63 1 3 #[25, 32, 53], 25) := by decide +kernel
theorem dX7_holds_48 : decode cX7_holds 48 = .ok (.iload_n 3, 1) := by decide +kernel
theorem dX7_holds_49 : decode cX7_holds 49 = .ok (.iconst 1, 1) := by decide +kernel
theorem dX7_holds_50 : decode cX7_holds 50 = .ok (.ixor, 1) := by decide +kernel
theorem dX7_holds_51 : decode cX7_holds 51 = .ok (.istore_n 3, 1) := by decide +kernel
theorem dX7_holds_52 : decode cX7_holds 52 = .ok (.goto 79, 3) := by decide +kernel
theorem dX7_holds_55 : decode cX7_holds 55 = .ok (.iload_n 3, 1) := by decide +kernel
theorem dX7_holds_56 : decode cX7_holds 56 = .ok (.iconst 1, 1) := by decide +kernel
theorem dX7_holds_57 : decode cX7_holds 57 = .ok (.iand, 1) := by decide +kernel
theorem dX7_holds_58 : decode cX7_holds 58 = .ok (.iconst 1, 1) := by decide +kernel
theorem dX7_holds_59 : decode cX7_holds 59 = .ok (.if_icmp .ne 8, 3) := by decide +kernel
theorem dX7_holds_62 : decode cX7_holds 62 = .ok (.iload 5, 2) := by decide +kernel
theorem dX7_holds_64 : decode cX7_holds 64 = .ok (.goto 8, 3) := by decide +kernel
theorem dX7_holds_67 : decode cX7_holds 67 = .ok (.iload 5, 2) := by decide +kernel
theorem dX7_holds_69 : decode cX7_holds 69 = .ok (.bipush (-2), 2) := by decide +kernel
theorem dX7_holds_71 : decode cX7_holds 71 = .ok (.iand, 1) := by decide +kernel
theorem dX7_holds_72 : decode cX7_holds 72 = .ok (.istore_n 3, 1) := by decide +kernel
theorem dX7_holds_73 : decode cX7_holds 73 = .ok (.goto 58, 3) := by decide +kernel
theorem dX7_holds_76 : decode cX7_holds 76 = .ok (.iload 5, 2) := by decide +kernel
theorem dX7_holds_78 : decode cX7_holds 78 = .ok (.iload_n 3, 1) := by decide +kernel
theorem dX7_holds_79 : decode cX7_holds 79 = .ok (.iconst 1, 1) := by decide +kernel
theorem dX7_holds_80 : decode cX7_holds 80 = .ok (.iand, 1) := by decide +kernel
theorem dX7_holds_81 : decode cX7_holds 81 = .ok (.ior, 1) := by decide +kernel
theorem dX7_holds_82 : decode cX7_holds 82 = .ok (.istore_n 3, 1) := by decide +kernel
theorem dX7_holds_83 : decode cX7_holds 83 = .ok (.goto 48, 3) := by decide +kernel
theorem dX7_holds_86 : decode cX7_holds 86 = .ok (.iload_n 3, 1) := by decide +kernel
theorem dX7_holds_87 : decode cX7_holds 87 = .ok (.iconst 1, 1) := by decide +kernel
theorem dX7_holds_88 : decode cX7_holds 88 = .ok (.ishl, 1) := by decide +kernel
theorem dX7_holds_89 : decode cX7_holds 89 = .ok (.aload_n 0, 1) := by decide +kernel
theorem dX7_holds_90 : decode cX7_holds 90 = .ok (.getfield 21, 3) := by decide +kernel
theorem dX7_holds_93 : decode cX7_holds 93 = .ok (.iload 4, 2) := by decide +kernel
theorem dX7_holds_95 : decode cX7_holds 95 = .ok (.iaload, 1) := by decide +kernel
theorem dX7_holds_96 : decode cX7_holds 96 = .ok (.aload_n 0, 1) := by decide +kernel
theorem dX7_holds_97 : decode cX7_holds 97 = .ok (.aload_n 0, 1) := by decide +kernel
theorem dX7_holds_98 : decode cX7_holds 98 = .ok (.getfield 24, 3) := by decide +kernel
theorem dX7_holds_101 : decode cX7_holds 101 = .ok (.iload 4, 2) := by decide +kernel
theorem dX7_holds_103 : decode cX7_holds 103 = .ok (.iaload, 1) := by decide +kernel
theorem dX7_holds_104 : decode cX7_holds 104 = .ok (.invokevirtual 53, 3) := by decide +kernel
theorem dX7_holds_107 : decode cX7_holds 107 = .ok (.aload_n 0, 1) := by decide +kernel
theorem dX7_holds_108 : decode cX7_holds 108 = .ok (.aload_n 0, 1) := by decide +kernel
theorem dX7_holds_109 : decode cX7_holds 109 = .ok (.getfield 27, 3) := by decide +kernel
theorem dX7_holds_112 : decode cX7_holds 112 = .ok (.iload 4, 2) := by decide +kernel
theorem dX7_holds_114 : decode cX7_holds 114 = .ok (.iaload, 1) := by decide +kernel
theorem dX7_holds_115 : decode cX7_holds 115 = .ok (.invokevirtual 53, 3) := by decide +kernel
theorem dX7_holds_118 : decode cX7_holds 118 = .ok (.invokestatic 57, 3) := by decide +kernel
theorem dX7_holds_121 : decode cX7_holds 121 = .ok (.ifCond .eq 7, 3) := by decide +kernel
theorem dX7_holds_124 : decode cX7_holds 124 = .ok (.iconst 1, 1) := by decide +kernel
theorem dX7_holds_125 : decode cX7_holds 125 = .ok (.goto 4, 3) := by decide +kernel
theorem dX7_holds_128 : decode cX7_holds 128 = .ok (.iconst 0, 1) := by decide +kernel
theorem dX7_holds_129 : decode cX7_holds 129 = .ok (.ior, 1) := by decide +kernel
theorem dX7_holds_130 : decode cX7_holds 130 = .ok (.istore_n 3, 1) := by decide +kernel
theorem dX7_holds_131 : decode cX7_holds 131 = .ok (.iinc 4 1, 3) := by decide +kernel
theorem dX7_holds_134 : decode cX7_holds 134 = .ok (.goto (-129), 3) := by decide +kernel
theorem dX7_holds_137 : decode cX7_holds 137 = .ok (.iload_n 3, 1) := by decide +kernel
theorem dX7_holds_138 : decode cX7_holds 138 = .ok (.iconst 1, 1) := by decide +kernel
theorem dX7_holds_139 : decode cX7_holds 139 = .ok (.iand, 1) := by decide +kernel
theorem dX7_holds_140 : decode cX7_holds 140 = .ok (.iconst 1, 1) := by decide +kernel
theorem dX7_holds_141 : decode cX7_holds 141 = .ok (.if_icmp .ne 7, 3) := by decide +kernel
theorem dX7_holds_144 : decode cX7_holds 144 = .ok (.iconst 1, 1) := by decide +kernel
theorem dX7_holds_145 : decode cX7_holds 145 = .ok (.goto 4, 3) := by decide +kernel
theorem dX7_holds_148 : decode cX7_holds 148 = .ok (.iconst 0, 1) := by decide +kernel
theorem dX7_holds_149 : decode cX7_holds 149 = .ok (.ireturn, 1) := by decide +kernel
theorem dX7_side_0 : decode cX7_side 0 = .ok (.iload_n 1, 1) := by decide +kernel
theorem dX7_side_1 : decode cX7_side 1 = .ok (.ifCond .lt 7, 3) := by decide +kernel
theorem dX7_side_4 : decode cX7_side 4 = .ok (.iload_n 1, 1) := by decide +kernel
theorem dX7_side_5 : decode cX7_side 5 = .ok (.goto 11, 3) := by decide +kernel
theorem dX7_side_8 : decode cX7_side 8 = .ok (.aload_n 0, 1) := by decide +kernel
theorem dX7_side_9 : decode cX7_side 9 = .ok (.getfield 30, 3) := by decide +kernel
theorem dX7_side_12 : decode cX7_side 12 = .ok (.iconst (-1), 1) := by decide +kernel
theorem dX7_side_13 : decode cX7_side 13 = .ok (.iload_n 1, 1) := by decide +kernel
theorem dX7_side_14 : decode cX7_side 14 = .ok (.isub, 1) := by decide +kernel
theorem dX7_side_15 : decode cX7_side 15 = .ok (.iaload, 1) := by decide +kernel
theorem dX7_side_16 : decode cX7_side 16 = .ok (.ireturn, 1) := by decide +kernel
theorem dX7_isTrue_0 : decode cX7_isTrue 0 = .ok (.iload_n 0, 1) := by decide +kernel
theorem dX7_isTrue_1 : decode cX7_isTrue 1 = .ok (.iconst 4, 1) := by decide +kernel
theorem dX7_isTrue_2 : decode cX7_isTrue 2 = .ok (.if_icmp .ne 16, 3) := by decide +kernel
theorem dX7_isTrue_5 : decode cX7_isTrue 5 = .ok (.iload_n 1, 1) := by decide +kernel
theorem dX7_isTrue_6 : decode cX7_isTrue 6 = .ok (.iload_n 2, 1) := by decide +kernel
theorem dX7_isTrue_7 : decode cX7_isTrue 7 = .ok (.if_icmp .ge 7, 3) := by decide +kernel
theorem dX7_isTrue_10 : decode cX7_isTrue 10 = .ok (.iconst 1, 1) := by decide +kernel
theorem dX7_isTrue_11 : decode cX7_isTrue 11 = .ok (.goto 35, 3) := by decide +kernel
theorem dX7_isTrue_14 : decode cX7_isTrue 14 = .ok (.iconst 0, 1) := by decide +kernel
theorem dX7_isTrue_15 : decode cX7_isTrue 15 = .ok (.goto 31, 3) := by decide +kernel
theorem dX7_isTrue_18 : decode cX7_isTrue 18 = .ok (.iload_n 0, 1) := by decide +kernel
theorem dX7_isTrue_19 : decode cX7_isTrue 19 = .ok (.iconst 5, 1) := by decide +kernel
theorem dX7_isTrue_20 : decode cX7_isTrue 20 = .ok (.if_icmp .ne 16, 3) := by decide +kernel
theorem dX7_isTrue_23 : decode cX7_isTrue 23 = .ok (.iload_n 1, 1) := by decide +kernel
theorem dX7_isTrue_24 : decode cX7_isTrue 24 = .ok (.iload_n 2, 1) := by decide +kernel
theorem dX7_isTrue_25 : decode cX7_isTrue 25 = .ok (.if_icmp .ne 7, 3) := by decide +kernel
theorem dX7_isTrue_28 : decode cX7_isTrue 28 = .ok (.iconst 1, 1) := by decide +kernel
theorem dX7_isTrue_29 : decode cX7_isTrue 29 = .ok (.goto 17, 3) := by decide +kernel
theorem dX7_isTrue_32 : decode cX7_isTrue 32 = .ok (.iconst 0, 1) := by decide +kernel
theorem dX7_isTrue_33 : decode cX7_isTrue 33 = .ok (.goto 13, 3) := by decide +kernel
theorem dX7_isTrue_36 : decode cX7_isTrue 36 = .ok (.iload_n 1, 1) := by decide +kernel
theorem dX7_isTrue_37 : decode cX7_isTrue 37 = .ok (.iload_n 2, 1) := by decide +kernel
theorem dX7_isTrue_38 : decode cX7_isTrue 38 = .ok (.if_icmp .le 7, 3) := by decide +kernel
theorem dX7_isTrue_41 : decode cX7_isTrue 41 = .ok (.iconst 1, 1) := by decide +kernel
theorem dX7_isTrue_42 : decode cX7_isTrue 42 = .ok (.goto 4, 3) := by decide +kernel
theorem dX7_isTrue_45 : decode cX7_isTrue 45 = .ok (.iconst 0, 1) := by decide +kernel
theorem dX7_isTrue_46 : decode cX7_isTrue 46 = .ok (.ireturn, 1) := by decide +kernel
theorem dX8_waits_0 : decode cX8_waits 0 = .ok (.aload_n 0, 1) := by decide +kernel
theorem dX8_waits_1 : decode cX8_waits 1 = .ok (.bipush 30, 2) := by decide +kernel
theorem dX8_waits_3 : decode cX8_waits 3 = .ok (.invokevirtual 7, 3) := by decide +kernel
theorem dX8_waits_6 : decode cX8_waits 6 = .ok (.aload_n 0, 1) := by decide +kernel
theorem dX8_waits_7 : decode cX8_waits 7 = .ok (.iload_n 1, 1) := by decide +kernel
theorem dX8_waits_8 : decode cX8_waits 8 = .ok (.aload_n 0, 1) := by decide +kernel
theorem dX8_waits_9 : decode cX8_waits 9 = .ok (.getfield 13, 3) := by decide +kernel
theorem dX8_waits_12 : decode cX8_waits 12 = .ok (.isub, 1) := by decide +kernel
theorem dX8_waits_13 : decode cX8_waits 13 = .ok (.invokespecial 17, 3) := by decide +kernel
theorem dX8_waits_16 : decode cX8_waits 16 = .ok (.ireturn, 1) := by decide +kernel
theorem dX9_knocks_0 : decode cX9_knocks 0 = .ok (.aload_n 0, 1) := by decide +kernel
theorem dX9_knocks_1 : decode cX9_knocks 1 = .ok (.bipush 50, 2) := by decide +kernel
theorem dX9_knocks_3 : decode cX9_knocks 3 = .ok (.invokevirtual 7, 3) := by decide +kernel
theorem dX9_knocks_6 : decode cX9_knocks 6 = .ok (.aload_n 0, 1) := by decide +kernel
theorem dX9_knocks_7 : decode cX9_knocks 7 = .ok (.iload_n 1, 1) := by decide +kernel
theorem dX9_knocks_8 : decode cX9_knocks 8 = .ok (.invokespecial 13, 3) := by decide +kernel
theorem dX9_knocks_11 : decode cX9_knocks 11 = .ok (.iconst 2, 1) := by decide +kernel
theorem dX9_knocks_12 : decode cX9_knocks 12 = .ok (.imul, 1) := by decide +kernel
theorem dX9_knocks_13 : decode cX9_knocks 13 = .ok (.ireturn, 1) := by decide +kernel
theorem dX9_sits_0 : decode cX9_sits 0 = .ok (.aload_n 0, 1) := by decide +kernel
theorem dX9_sits_1 : decode cX9_sits 1 = .ok (.bipush 51, 2) := by decide +kernel
theorem dX9_sits_3 : decode cX9_sits 3 = .ok (.invokevirtual 7, 3) := by decide +kernel
theorem dX9_sits_6 : decode cX9_sits 6 = .ok (.aload_n 0, 1) := by decide +kernel
theorem dX9_sits_7 : decode cX9_sits 7 = .ok (.iload_n 1, 1) := by decide +kernel
theorem dX9_sits_8 : decode cX9_sits 8 = .ok (.invokespecial 17, 3) := by decide +kernel
theorem dX9_sits_11 : decode cX9_sits 11 = .ok (.istore_n 2, 1) := by decide +kernel
theorem dX9_sits_12 : decode cX9_sits 12 = .ok (.iload_n 2, 1) := by decide +kernel
theorem dX9_sits_13 : decode cX9_sits 13 = .ok (.aload_n 0, 1) := by decide +kernel
theorem dX9_sits_14 : decode cX9_sits 14 = .ok (.aload_n 0, 1) := by decide +kernel
theorem dX9_sits_15 : decode cX9_sits 15 = .ok (.getfield 20, 3) := by decide +kernel
theorem dX9_sits_18 : decode cX9_sits 18 = .ok (.invokevirtual 24, 3) := by decide +kernel
theorem dX9_sits_21 : decode cX9_sits 21 = .ok (.isub, 1) := by decide +kernel
theorem dX9_sits_22 : decode cX9_sits 22 = .ok (.ireturn, 1) := by decide +kernel
theorem dX10_become_0 : decode cX10_become 0 = .ok (.aload_n 1, 1) := by decide +kernel
theorem dX10_become_1 : decode cX10_become 1 = .ok (.getfield 9, 3) := by decide +kernel
theorem dX10_become_4 : decode cX10_become 4 = .ok (.iconst 0, 1) := by decide +kernel
theorem dX10_become_5 : decode cX10_become 5 = .ok (.aload_n 0, 1) := by decide +kernel
theorem dX10_become_6 : decode cX10_become 6 = .ok (.getfield 9, 3) := by decide +kernel
theorem dX10_become_9 : decode cX10_become 9 = .ok (.iconst 0, 1) := by decide +kernel
theorem dX10_become_10 : decode cX10_become 10 = .ok (.bipush 6, 2) := by decide +kernel
theorem dX10_become_12 : decode cX10_become 12 = .ok (.invokestatic 66, 3) := by decide +kernel
theorem dX10_become_15 : decode cX10_become 15 = .ok (.aload_n 1, 1) := by decide +kernel
theorem dX10_become_16 : decode cX10_become 16 = .ok (.getfield 15, 3) := by decide +kernel
theorem dX10_become_19 : decode cX10_become 19 = .ok (.iconst 0, 1) := by decide +kernel
theorem dX10_become_20 : decode cX10_become 20 = .ok (.aload_n 0, 1) := by decide +kernel
theorem dX10_become_21 : decode cX10_become 21 = .ok (.getfield 15, 3) := by decide +kernel
theorem dX10_become_24 : decode cX10_become 24 = .ok (.iconst 0, 1) := by decide +kernel
theorem dX10_become_25 : decode cX10_become 25 = .ok (.bipush 6, 2) := by decide +kernel
theorem dX10_become_27 : decode cX10_become 27 = .ok (.invokestatic 66, 3) := by decide +kernel
theorem dX10_become_30 : decode cX10_become 30 = .ok (.aload_n 1, 1) := by decide +kernel
theorem dX10_become_31 : decode cX10_become 31 = .ok (.getfield 18, 3) := by decide +kernel
theorem dX10_become_34 : decode cX10_become 34 = .ok (.iconst 0, 1) := by decide +kernel
theorem dX10_become_35 : decode cX10_become 35 = .ok (.aload_n 0, 1) := by decide +kernel
theorem dX10_become_36 : decode cX10_become 36 = .ok (.getfield 18, 3) := by decide +kernel
theorem dX10_become_39 : decode cX10_become 39 = .ok (.iconst 0, 1) := by decide +kernel
theorem dX10_become_40 : decode cX10_become 40 = .ok (.bipush 6, 2) := by decide +kernel
theorem dX10_become_42 : decode cX10_become 42 = .ok (.invokestatic 66, 3) := by decide +kernel
theorem dX10_become_45 : decode cX10_become 45 = .ok (.aload_n 1, 1) := by decide +kernel
theorem dX10_become_46 : decode cX10_become 46 = .ok (.getfield 21, 3) := by decide +kernel
theorem dX10_become_49 : decode cX10_become 49 = .ok (.iconst 0, 1) := by decide +kernel
theorem dX10_become_50 : decode cX10_become 50 = .ok (.aload_n 0, 1) := by decide +kernel
theorem dX10_become_51 : decode cX10_become 51 = .ok (.getfield 21, 3) := by decide +kernel
theorem dX10_become_54 : decode cX10_become 54 = .ok (.iconst 0, 1) := by decide +kernel
theorem dX10_become_55 : decode cX10_become 55 = .ok (.bipush 6, 2) := by decide +kernel
theorem dX10_become_57 : decode cX10_become 57 = .ok (.invokestatic 66, 3) := by decide +kernel
theorem dX10_become_60 : decode cX10_become 60 = .ok (.aload_n 1, 1) := by decide +kernel
theorem dX10_become_61 : decode cX10_become 61 = .ok (.getfield 24, 3) := by decide +kernel
theorem dX10_become_64 : decode cX10_become 64 = .ok (.iconst 0, 1) := by decide +kernel
theorem dX10_become_65 : decode cX10_become 65 = .ok (.aload_n 0, 1) := by decide +kernel
theorem dX10_become_66 : decode cX10_become 66 = .ok (.getfield 24, 3) := by decide +kernel
theorem dX10_become_69 : decode cX10_become 69 = .ok (.iconst 0, 1) := by decide +kernel
theorem dX10_become_70 : decode cX10_become 70 = .ok (.bipush 6, 2) := by decide +kernel
theorem dX10_become_72 : decode cX10_become 72 = .ok (.invokestatic 66, 3) := by decide +kernel
theorem dX10_become_75 : decode cX10_become 75 = .ok (.aload_n 1, 1) := by decide +kernel
theorem dX10_become_76 : decode cX10_become 76 = .ok (.getfield 27, 3) := by decide +kernel
theorem dX10_become_79 : decode cX10_become 79 = .ok (.iconst 0, 1) := by decide +kernel
theorem dX10_become_80 : decode cX10_become 80 = .ok (.aload_n 0, 1) := by decide +kernel
theorem dX10_become_81 : decode cX10_become 81 = .ok (.getfield 27, 3) := by decide +kernel
theorem dX10_become_84 : decode cX10_become 84 = .ok (.iconst 0, 1) := by decide +kernel
theorem dX10_become_85 : decode cX10_become 85 = .ok (.bipush 6, 2) := by decide +kernel
theorem dX10_become_87 : decode cX10_become 87 = .ok (.invokestatic 66, 3) := by decide +kernel
theorem dX10_become_90 : decode cX10_become 90 = .ok (.aload_n 1, 1) := by decide +kernel
theorem dX10_become_91 : decode cX10_become 91 = .ok (.getfield 30, 3) := by decide +kernel
theorem dX10_become_94 : decode cX10_become 94 = .ok (.iconst 0, 1) := by decide +kernel
theorem dX10_become_95 : decode cX10_become 95 = .ok (.aload_n 0, 1) := by decide +kernel
theorem dX10_become_96 : decode cX10_become 96 = .ok (.getfield 30, 3) := by decide +kernel
theorem dX10_become_99 : decode cX10_become 99 = .ok (.iconst 0, 1) := by decide +kernel
theorem dX10_become_100 : decode cX10_become 100 = .ok (.bipush 6, 2) := by decide +kernel
theorem dX10_become_102 : decode cX10_become 102 = .ok (.invokestatic 66, 3) := by decide +kernel
theorem dX10_become_105 : decode cX10_become 105 = .ok (.aload_n 1, 1) := by decide +kernel
theorem dX10_become_106 : decode cX10_become 106 = .ok (.getfield 33, 3) := by decide +kernel
theorem dX10_become_109 : decode cX10_become 109 = .ok (.iconst 0, 1) := by decide +kernel
theorem dX10_become_110 : decode cX10_become 110 = .ok (.aload_n 0, 1) := by decide +kernel
theorem dX10_become_111 : decode cX10_become 111 = .ok (.getfield 33, 3) := by decide +kernel
theorem dX10_become_114 : decode cX10_become 114 = .ok (.iconst 0, 1) := by decide +kernel
theorem dX10_become_115 : decode cX10_become 115 = .ok (.bipush 16, 2) := by decide +kernel
theorem dX10_become_117 : decode cX10_become 117 = .ok (.invokestatic 66, 3) := by decide +kernel
theorem dX10_become_120 : decode cX10_become 120 = .ok (.aload_n 0, 1) := by decide +kernel
theorem dX10_become_121 : decode cX10_become 121 = .ok (.getfield 39, 3) := by decide +kernel
theorem dX10_become_124 : decode cX10_become 124 = .ok (.aload_n 1, 1) := by decide +kernel
theorem dX10_become_125 : decode cX10_become 125 = .ok (.getfield 39, 3) := by decide +kernel
theorem dX10_become_128 : decode cX10_become 128 = .ok (.invokevirtual 72, 3) := by decide +kernel
theorem dX10_become_131 : decode cX10_become 131 = .ok (.aload_n 0, 1) := by decide +kernel
theorem dX10_become_132 : decode cX10_become 132 = .ok (.getfield 46, 3) := by decide +kernel
theorem dX10_become_135 : decode cX10_become 135 = .ok (.aload_n 1, 1) := by decide +kernel
theorem dX10_become_136 : decode cX10_become 136 = .ok (.getfield 46, 3) := by decide +kernel
theorem dX10_become_139 : decode cX10_become 139 = .ok (.invokevirtual 76, 3) := by decide +kernel
theorem dX10_become_142 : decode cX10_become 142 = .ok (.aload_n 0, 1) := by decide +kernel
theorem dX10_become_143 : decode cX10_become 143 = .ok (.aload_n 1, 1) := by decide +kernel
theorem dX10_become_144 : decode cX10_become 144 = .ok (.getfield 79, 3) := by decide +kernel
theorem dX10_become_147 : decode cX10_become 147 = .ok (.putfield 79, 3) := by decide +kernel
theorem dX10_become_150 : decode cX10_become 150 = .ok (.aload_n 0, 1) := by decide +kernel
theorem dX10_become_151 : decode cX10_become 151 = .ok (.aload_n 1, 1) := by decide +kernel
theorem dX10_become_152 : decode cX10_become 152 = .ok (.getfield 82, 3) := by decide +kernel
theorem dX10_become_155 : decode cX10_become 155 = .ok (.putfield 82, 3) := by decide +kernel
theorem dX10_become_158 : decode cX10_become 158 = .ok (.aload_n 0, 1) := by decide +kernel
theorem dX10_become_159 : decode cX10_become 159 = .ok (.aload_n 1, 1) := by decide +kernel
theorem dX10_become_160 : decode cX10_become 160 = .ok (.getfield 85, 3) := by decide +kernel
theorem dX10_become_163 : decode cX10_become 163 = .ok (.putfield 85, 3) := by decide +kernel
theorem dX10_become_166 : decode cX10_become 166 = .ok (.aload_n 0, 1) := by decide +kernel
theorem dX10_become_167 : decode cX10_become 167 = .ok (.aload_n 1, 1) := by decide +kernel
theorem dX10_become_168 : decode cX10_become 168 = .ok (.getfield 50, 3) := by decide +kernel
theorem dX10_become_171 : decode cX10_become 171 = .ok (.putfield 50, 3) := by decide +kernel
theorem dX10_become_174 : decode cX10_become 174 = .ok (.aload_n 0, 1) := by decide +kernel
theorem dX10_become_175 : decode cX10_become 175 = .ok (.aload_n 1, 1) := by decide +kernel
theorem dX10_become_176 : decode cX10_become 176 = .ok (.getfield 88, 3) := by decide +kernel
theorem dX10_become_179 : decode cX10_become 179 = .ok (.putfield 88, 3) := by decide +kernel
theorem dX10_become_182 : decode cX10_become 182 = .ok (.aload_n 0, 1) := by decide +kernel
theorem dX10_become_183 : decode cX10_become 183 = .ok (.aload_n 1, 1) := by decide +kernel
theorem dX10_become_184 : decode cX10_become 184 = .ok (.getfield 54, 3) := by decide +kernel
theorem dX10_become_187 : decode cX10_become 187 = .ok (.putfield 54, 3) := by decide +kernel
theorem dX10_become_190 : decode cX10_become 190 = .ok (.aload_n 0, 1) := by decide +kernel
theorem dX10_become_191 : decode cX10_become 191 = .ok (.aload_n 1, 1) := by decide +kernel
theorem dX10_become_192 : decode cX10_become 192 = .ok (.getfield 91, 3) := by decide +kernel
theorem dX10_become_195 : decode cX10_become 195 = .ok (.putfield 91, 3) := by decide +kernel
theorem dX10_become_198 : decode cX10_become 198 = .ok (.aload_n 0, 1) := by decide +kernel
theorem dX10_become_199 : decode cX10_become 199 = .ok (.aload_n 1, 1) := by decide +kernel
theorem dX10_become_200 : decode cX10_become 200 = .ok (.getfield 57, 3) := by decide +kernel
theorem dX10_become_203 : decode cX10_become 203 = .ok (.putfield 57, 3) := by decide +kernel
theorem dX10_become_206 : decode cX10_become 206 = .ok (.return_, 1) := by decide +kernel
theorem dX10_startAnew_0 : decode cX10_startAnew 0 = .ok (.aload_n 0, 1) := by decide +kernel
theorem dX10_startAnew_1 : decode cX10_startAnew 1 = .ok (.iconst 0, 1) := by decide +kernel
theorem dX10_startAnew_2 : decode cX10_startAnew 2 = .ok (.putfield 85, 3) := by decide +kernel
theorem dX10_startAnew_5 : decode cX10_startAnew 5 = .ok (.aload_n 0, 1) := by decide +kernel
theorem dX10_startAnew_6 : decode cX10_startAnew 6 = .ok (.iconst 0, 1) := by decide +kernel
theorem dX10_startAnew_7 : decode cX10_startAnew 7 = .ok (.putfield 91, 3) := by decide +kernel
theorem dX10_startAnew_10 : decode cX10_startAnew 10 = .ok (.aload_n 0, 1) := by decide +kernel
theorem dX10_startAnew_11 : decode cX10_startAnew 11 = .ok (.iconst 0, 1) := by decide +kernel
theorem dX10_startAnew_12 : decode cX10_startAnew 12 = .ok (.putfield 88, 3) := by decide +kernel
theorem dX10_startAnew_15 : decode cX10_startAnew 15 = .ok (.aload_n 0, 1) := by decide +kernel
theorem dX10_startAnew_16 : decode cX10_startAnew 16 = .ok (.bipush 26, 2) := by decide +kernel
theorem dX10_startAnew_18 : decode cX10_startAnew 18 = .ok (.putfield 54, 3) := by decide +kernel
theorem dX10_startAnew_21 : decode cX10_startAnew 21 = .ok (.aload_n 0, 1) := by decide +kernel
theorem dX10_startAnew_22 : decode cX10_startAnew 22 = .ok (.iconst 0, 1) := by decide +kernel
theorem dX10_startAnew_23 : decode cX10_startAnew 23 = .ok (.putfield 82, 3) := by decide +kernel
theorem dX10_startAnew_26 : decode cX10_startAnew 26 = .ok (.aload_n 0, 1) := by decide +kernel
theorem dX10_startAnew_27 : decode cX10_startAnew 27 = .ok (.getfield 24, 3) := by decide +kernel
theorem dX10_startAnew_30 : decode cX10_startAnew 30 = .ok (.iconst 0, 1) := by decide +kernel
theorem dX10_startAnew_31 : decode cX10_startAnew 31 = .ok (.invokestatic 60, 3) := by decide +kernel
theorem dX10_startAnew_34 : decode cX10_startAnew 34 = .ok (.return_, 1) := by decide +kernel
theorem dX10_add_0 : decode cX10_add 0 = .ok (.aload_n 0, 1) := by decide +kernel
theorem dX10_add_1 : decode cX10_add 1 = .ok (.getfield 79, 3) := by decide +kernel
theorem dX10_add_4 : decode cX10_add 4 = .ok (.istore 5, 2) := by decide +kernel
theorem dX10_add_6 : decode cX10_add 6 = .ok (.aload_n 0, 1) := by decide +kernel
theorem dX10_add_7 : decode cX10_add 7 = .ok (.dup, 1) := by decide +kernel
theorem dX10_add_8 : decode cX10_add 8 = .ok (.getfield 79, 3) := by decide +kernel
theorem dX10_add_11 : decode cX10_add 11 = .ok (.iconst 1, 1) := by decide +kernel
theorem dX10_add_12 : decode cX10_add 12 = .ok (.iadd, 1) := by decide +kernel
theorem dX10_add_13 : decode cX10_add 13 = .ok (.putfield 79, 3) := by decide +kernel
theorem dX10_add_16 : decode cX10_add 16 = .ok (.aload_n 0, 1) := by decide +kernel
theorem dX10_add_17 : decode cX10_add 17 = .ok (.getfield 9, 3) := by decide +kernel
theorem dX10_add_20 : decode cX10_add 20 = .ok (.iload 5, 2) := by decide +kernel
theorem dX10_add_22 : decode cX10_add 22 = .ok (.iload_n 1, 1) := by decide +kernel
theorem dX10_add_23 : decode cX10_add 23 = .ok (.iastore, 1) := by decide +kernel
theorem dX10_add_24 : decode cX10_add 24 = .ok (.aload_n 0, 1) := by decide +kernel
theorem dX10_add_25 : decode cX10_add 25 = .ok (.getfield 15, 3) := by decide +kernel
theorem dX10_add_28 : decode cX10_add 28 = .ok (.iload 5, 2) := by decide +kernel
theorem dX10_add_30 : decode cX10_add 30 = .ok (.iload_n 2, 1) := by decide +kernel
theorem dX10_add_31 : decode cX10_add 31 = .ok (.iastore, 1) := by decide +kernel
theorem dX10_add_32 : decode cX10_add 32 = .ok (.aload_n 0, 1) := by decide +kernel
theorem dX10_add_33 : decode cX10_add 33 = .ok (.getfield 18, 3) := by decide +kernel
theorem dX10_add_36 : decode cX10_add 36 = .ok (.iload 5, 2) := by decide +kernel
theorem dX10_add_38 : decode cX10_add 38 = .ok (.iload_n 3, 1) := by decide +kernel
theorem dX10_add_39 : decode cX10_add 39 = .ok (.iastore, 1) := by decide +kernel
theorem dX10_add_40 : decode cX10_add 40 = .ok (.aload_n 0, 1) := by decide +kernel
theorem dX10_add_41 : decode cX10_add 41 = .ok (.getfield 21, 3) := by decide +kernel
theorem dX10_add_44 : decode cX10_add 44 = .ok (.iload 5, 2) := by decide +kernel
theorem dX10_add_46 : decode cX10_add 46 = .ok (.iload 4, 2) := by decide +kernel
theorem dX10_add_48 : decode cX10_add 48 = .ok (.iastore, 1) := by decide +kernel
theorem dX10_add_49 : decode cX10_add 49 = .ok (.iload 5, 2) := by decide +kernel
theorem dX10_add_51 : decode cX10_add 51 = .ok (.ireturn, 1) := by decide +kernel
theorem dX10_has_0 : decode cX10_has 0 = .ok (.iload_n 1, 1) := by decide +kernel
theorem dX10_has_1 : decode cX10_has 1 = .ok (.ifCond .lt 15, 3) := by decide +kernel
theorem dX10_has_4 : decode cX10_has 4 = .ok (.iload_n 1, 1) := by decide +kernel
theorem dX10_has_5 : decode cX10_has 5 = .ok (.aload_n 0, 1) := by decide +kernel
theorem dX10_has_6 : decode cX10_has 6 = .ok (.getfield 79, 3) := by decide +kernel
theorem dX10_has_9 : decode cX10_has 9 = .ok (.if_icmp .ge 7, 3) := by decide +kernel
theorem dX10_has_12 : decode cX10_has 12 = .ok (.iconst 1, 1) := by decide +kernel
theorem dX10_has_13 : decode cX10_has 13 = .ok (.goto 4, 3) := by decide +kernel
theorem dX10_has_16 : decode cX10_has 16 = .ok (.iconst 0, 1) := by decide +kernel
theorem dX10_has_17 : decode cX10_has 17 = .ok (.ireturn, 1) := by decide +kernel
theorem dX10_isAct_0 : decode cX10_isAct 0 = .ok (.iload_n 1, 1) := by decide +kernel
theorem dX10_isAct_1 : decode cX10_isAct 1 = .ok (.ifCond .lt 15, 3) := by decide +kernel
theorem dX10_isAct_4 : decode cX10_isAct 4 = .ok (.iload_n 1, 1) := by decide +kernel
theorem dX10_isAct_5 : decode cX10_isAct 5 = .ok (.aload_n 0, 1) := by decide +kernel
theorem dX10_isAct_6 : decode cX10_isAct 6 = .ok (.getfield 79, 3) := by decide +kernel
theorem dX10_isAct_9 : decode cX10_isAct 9 = .ok (.if_icmp .gt 7, 3) := by decide +kernel
theorem dX10_isAct_12 : decode cX10_isAct 12 = .ok (.iconst 1, 1) := by decide +kernel
theorem dX10_isAct_13 : decode cX10_isAct 13 = .ok (.goto 4, 3) := by decide +kernel
theorem dX10_isAct_16 : decode cX10_isAct 16 = .ok (.iconst 0, 1) := by decide +kernel
theorem dX10_isAct_17 : decode cX10_isAct 17 = .ok (.ireturn, 1) := by decide +kernel
theorem dX10_all_0 : decode cX10_all 0 = .ok (.iconst 1, 1) := by decide +kernel
theorem dX10_all_1 : decode cX10_all 1 = .ok (.aload_n 0, 1) := by decide +kernel
theorem dX10_all_2 : decode cX10_all 2 = .ok (.getfield 79, 3) := by decide +kernel
theorem dX10_all_5 : decode cX10_all 5 = .ok (.ishl, 1) := by decide +kernel
theorem dX10_all_6 : decode cX10_all 6 = .ok (.iconst 1, 1) := by decide +kernel
theorem dX10_all_7 : decode cX10_all 7 = .ok (.isub, 1) := by decide +kernel
theorem dX10_all_8 : decode cX10_all 8 = .ok (.ireturn, 1) := by decide +kernel
theorem dX10_isOver_0 : decode cX10_isOver 0 = .ok (.aload_n 0, 1) := by decide +kernel
theorem dX10_isOver_1 : decode cX10_isOver 1 = .ok (.getfield 85, 3) := by decide +kernel
theorem dX10_isOver_4 : decode cX10_isOver 4 = .ok (.aload_n 0, 1) := by decide +kernel
theorem dX10_isOver_5 : decode cX10_isOver 5 = .ok (.getfield 50, 3) := by decide +kernel
theorem dX10_isOver_8 : decode cX10_isOver 8 = .ok (.if_icmp .lt 7, 3) := by decide +kernel
theorem dX10_isOver_11 : decode cX10_isOver 11 = .ok (.iconst 1, 1) := by decide +kernel
theorem dX10_isOver_12 : decode cX10_isOver 12 = .ok (.goto 4, 3) := by decide +kernel
theorem dX10_isOver_15 : decode cX10_isOver 15 = .ok (.iconst 0, 1) := by decide +kernel
theorem dX10_isOver_16 : decode cX10_isOver 16 = .ok (.ireturn, 1) := by decide +kernel
theorem dX10_isCalled_0 : decode cX10_isCalled 0 = .ok (.aload_n 0, 1) := by decide +kernel
theorem dX10_isCalled_1 : decode cX10_isCalled 1 = .ok (.getfield 82, 3) := by decide +kernel
theorem dX10_isCalled_4 : decode cX10_isCalled 4 = .ok (.iload_n 1, 1) := by decide +kernel
theorem dX10_isCalled_5 : decode cX10_isCalled 5 = .ok (.ishr, 1) := by decide +kernel
theorem dX10_isCalled_6 : decode cX10_isCalled 6 = .ok (.iconst 1, 1) := by decide +kernel
theorem dX10_isCalled_7 : decode cX10_isCalled 7 = .ok (.iand, 1) := by decide +kernel
theorem dX10_isCalled_8 : decode cX10_isCalled 8 = .ok (.iconst 1, 1) := by decide +kernel
theorem dX10_isCalled_9 : decode cX10_isCalled 9 = .ok (.if_icmp .ne 7, 3) := by decide +kernel
theorem dX10_isCalled_12 : decode cX10_isCalled 12 = .ok (.iconst 1, 1) := by decide +kernel
theorem dX10_isCalled_13 : decode cX10_isCalled 13 = .ok (.goto 4, 3) := by decide +kernel
theorem dX10_isCalled_16 : decode cX10_isCalled 16 = .ok (.iconst 0, 1) := by decide +kernel
theorem dX10_isCalled_17 : decode cX10_isCalled 17 = .ok (.ireturn, 1) := by decide +kernel
theorem dX10_withBuns_0 : decode cX10_withBuns 0 = .ok (.iconst 0, 1) := by decide +kernel
theorem dX10_withBuns_1 : decode cX10_withBuns 1 = .ok (.istore_n 1, 1) := by decide +kernel
theorem dX10_withBuns_2 : decode cX10_withBuns 2 = .ok (.iconst 0, 1) := by decide +kernel
theorem dX10_withBuns_3 : decode cX10_withBuns 3 = .ok (.istore_n 2, 1) := by decide +kernel
theorem dX10_withBuns_4 : decode cX10_withBuns 4 = .ok (.iload_n 2, 1) := by decide +kernel
theorem dX10_withBuns_5 : decode cX10_withBuns 5 = .ok (.aload_n 0, 1) := by decide +kernel
theorem dX10_withBuns_6 : decode cX10_withBuns 6 = .ok (.getfield 79, 3) := by decide +kernel
theorem dX10_withBuns_9 : decode cX10_withBuns 9 = .ok (.if_icmp .ge 28, 3) := by decide +kernel
theorem dX10_withBuns_12 : decode cX10_withBuns 12 = .ok (.iload_n 1, 1) := by decide +kernel
theorem dX10_withBuns_13 : decode cX10_withBuns 13 = .ok (.aload_n 0, 1) := by decide +kernel
theorem dX10_withBuns_14 : decode cX10_withBuns 14 = .ok (.getfield 24, 3) := by decide +kernel
theorem dX10_withBuns_17 : decode cX10_withBuns 17 = .ok (.iload_n 2, 1) := by decide +kernel
theorem dX10_withBuns_18 : decode cX10_withBuns 18 = .ok (.iaload, 1) := by decide +kernel
theorem dX10_withBuns_19 : decode cX10_withBuns 19 = .ok (.ifCond .le 9, 3) := by decide +kernel
theorem dX10_withBuns_22 : decode cX10_withBuns 22 = .ok (.iconst 1, 1) := by decide +kernel
theorem dX10_withBuns_23 : decode cX10_withBuns 23 = .ok (.iload_n 2, 1) := by decide +kernel
theorem dX10_withBuns_24 : decode cX10_withBuns 24 = .ok (.ishl, 1) := by decide +kernel
theorem dX10_withBuns_25 : decode cX10_withBuns 25 = .ok (.goto 4, 3) := by decide +kernel
theorem dX10_withBuns_28 : decode cX10_withBuns 28 = .ok (.iconst 0, 1) := by decide +kernel
theorem dX10_withBuns_29 : decode cX10_withBuns 29 = .ok (.ior, 1) := by decide +kernel
theorem dX10_withBuns_30 : decode cX10_withBuns 30 = .ok (.istore_n 1, 1) := by decide +kernel
theorem dX10_withBuns_31 : decode cX10_withBuns 31 = .ok (.iinc 2 1, 3) := by decide +kernel
theorem dX10_withBuns_34 : decode cX10_withBuns 34 = .ok (.goto (-30), 3) := by decide +kernel
theorem dX10_withBuns_37 : decode cX10_withBuns 37 = .ok (.iload_n 1, 1) := by decide +kernel
theorem dX10_withBuns_38 : decode cX10_withBuns 38 = .ok (.ireturn, 1) := by decide +kernel
theorem dX10_duskNow_0 : decode cX10_duskNow 0 = .ok (.aload_n 0, 1) := by decide +kernel
theorem dX10_duskNow_1 : decode cX10_duskNow 1 = .ok (.getfield 85, 3) := by decide +kernel
theorem dX10_duskNow_4 : decode cX10_duskNow 4 = .ok (.bipush 16, 2) := by decide +kernel
theorem dX10_duskNow_6 : decode cX10_duskNow 6 = .ok (.if_icmp .ge 15, 3) := by decide +kernel
theorem dX10_duskNow_9 : decode cX10_duskNow 9 = .ok (.aload_n 0, 1) := by decide +kernel
theorem dX10_duskNow_10 : decode cX10_duskNow 10 = .ok (.getfield 33, 3) := by decide +kernel
theorem dX10_duskNow_13 : decode cX10_duskNow 13 = .ok (.aload_n 0, 1) := by decide +kernel
theorem dX10_duskNow_14 : decode cX10_duskNow 14 = .ok (.getfield 85, 3) := by decide +kernel
theorem dX10_duskNow_17 : decode cX10_duskNow 17 = .ok (.iaload, 1) := by decide +kernel
theorem dX10_duskNow_18 : decode cX10_duskNow 18 = .ok (.goto 4, 3) := by decide +kernel
theorem dX10_duskNow_21 : decode cX10_duskNow 21 = .ok (.iconst 0, 1) := by decide +kernel
theorem dX10_duskNow_22 : decode cX10_duskNow 22 = .ok (.ireturn, 1) := by decide +kernel
theorem dX10_get_0 : decode cX10_get 0 = .ok (.iload_n 2, 1) := by decide +kernel
theorem dX10_get_1 : decode cX10_get 1 = .ok (.tableswitch 70 0 4 #[35, 42, 49, 56, 63], 35) := by decide +kernel
theorem dX10_get_36 : decode cX10_get 36 = .ok (.aload_n 0, 1) := by decide +kernel
theorem dX10_get_37 : decode cX10_get 37 = .ok (.getfield 9, 3) := by decide +kernel
theorem dX10_get_40 : decode cX10_get 40 = .ok (.iload_n 1, 1) := by decide +kernel
theorem dX10_get_41 : decode cX10_get 41 = .ok (.iaload, 1) := by decide +kernel
theorem dX10_get_42 : decode cX10_get 42 = .ok (.ireturn, 1) := by decide +kernel
theorem dX10_get_43 : decode cX10_get 43 = .ok (.aload_n 0, 1) := by decide +kernel
theorem dX10_get_44 : decode cX10_get 44 = .ok (.getfield 15, 3) := by decide +kernel
theorem dX10_get_47 : decode cX10_get 47 = .ok (.iload_n 1, 1) := by decide +kernel
theorem dX10_get_48 : decode cX10_get 48 = .ok (.iaload, 1) := by decide +kernel
theorem dX10_get_49 : decode cX10_get 49 = .ok (.ireturn, 1) := by decide +kernel
theorem dX10_get_50 : decode cX10_get 50 = .ok (.aload_n 0, 1) := by decide +kernel
theorem dX10_get_51 : decode cX10_get 51 = .ok (.getfield 18, 3) := by decide +kernel
theorem dX10_get_54 : decode cX10_get 54 = .ok (.iload_n 1, 1) := by decide +kernel
theorem dX10_get_55 : decode cX10_get 55 = .ok (.iaload, 1) := by decide +kernel
theorem dX10_get_56 : decode cX10_get 56 = .ok (.ireturn, 1) := by decide +kernel
theorem dX10_get_57 : decode cX10_get 57 = .ok (.aload_n 0, 1) := by decide +kernel
theorem dX10_get_58 : decode cX10_get 58 = .ok (.getfield 21, 3) := by decide +kernel
theorem dX10_get_61 : decode cX10_get 61 = .ok (.iload_n 1, 1) := by decide +kernel
theorem dX10_get_62 : decode cX10_get 62 = .ok (.iaload, 1) := by decide +kernel
theorem dX10_get_63 : decode cX10_get 63 = .ok (.ireturn, 1) := by decide +kernel
theorem dX10_get_64 : decode cX10_get 64 = .ok (.aload_n 0, 1) := by decide +kernel
theorem dX10_get_65 : decode cX10_get 65 = .ok (.getfield 24, 3) := by decide +kernel
theorem dX10_get_68 : decode cX10_get 68 = .ok (.iload_n 1, 1) := by decide +kernel
theorem dX10_get_69 : decode cX10_get 69 = .ok (.iaload, 1) := by decide +kernel
theorem dX10_get_70 : decode cX10_get 70 = .ok (.ireturn, 1) := by decide +kernel
theorem dX10_get_71 : decode cX10_get 71 = .ok (.aload_n 0, 1) := by decide +kernel
theorem dX10_get_72 : decode cX10_get 72 = .ok (.iload_n 1, 1) := by decide +kernel
theorem dX10_get_73 : decode cX10_get 73 = .ok (.invokevirtual 94, 3) := by decide +kernel
theorem dX10_get_76 : decode cX10_get 76 = .ok (.ifCond .eq 7, 3) := by decide +kernel
theorem dX10_get_79 : decode cX10_get 79 = .ok (.iconst 1, 1) := by decide +kernel
theorem dX10_get_80 : decode cX10_get 80 = .ok (.goto 4, 3) := by decide +kernel
theorem dX10_get_83 : decode cX10_get 83 = .ok (.iconst 0, 1) := by decide +kernel
theorem dX10_get_84 : decode cX10_get 84 = .ok (.ireturn, 1) := by decide +kernel
theorem dX10_put_0 : decode cX10_put 0 = .ok (.iload_n 2, 1) := by decide +kernel
theorem dX10_put_1 : decode cX10_put 1 = .ok (.tableswitch 71 1 4 #[31, 41, 51, 61], 31) := by decide +kernel
theorem dX10_put_32 : decode cX10_put 32 = .ok (.aload_n 0, 1) := by decide +kernel
theorem dX10_put_33 : decode cX10_put 33 = .ok (.getfield 15, 3) := by decide +kernel
theorem dX10_put_36 : decode cX10_put 36 = .ok (.iload_n 1, 1) := by decide +kernel
theorem dX10_put_37 : decode cX10_put 37 = .ok (.iload_n 3, 1) := by decide +kernel
theorem dX10_put_38 : decode cX10_put 38 = .ok (.iastore, 1) := by decide +kernel
theorem dX10_put_39 : decode cX10_put 39 = .ok (.goto 51, 3) := by decide +kernel
theorem dX10_put_42 : decode cX10_put 42 = .ok (.aload_n 0, 1) := by decide +kernel
theorem dX10_put_43 : decode cX10_put 43 = .ok (.getfield 18, 3) := by decide +kernel
theorem dX10_put_46 : decode cX10_put 46 = .ok (.iload_n 1, 1) := by decide +kernel
theorem dX10_put_47 : decode cX10_put 47 = .ok (.iload_n 3, 1) := by decide +kernel
theorem dX10_put_48 : decode cX10_put 48 = .ok (.iastore, 1) := by decide +kernel
theorem dX10_put_49 : decode cX10_put 49 = .ok (.goto 41, 3) := by decide +kernel
theorem dX10_put_52 : decode cX10_put 52 = .ok (.aload_n 0, 1) := by decide +kernel
theorem dX10_put_53 : decode cX10_put 53 = .ok (.getfield 21, 3) := by decide +kernel
theorem dX10_put_56 : decode cX10_put 56 = .ok (.iload_n 1, 1) := by decide +kernel
theorem dX10_put_57 : decode cX10_put 57 = .ok (.iload_n 3, 1) := by decide +kernel
theorem dX10_put_58 : decode cX10_put 58 = .ok (.iastore, 1) := by decide +kernel
theorem dX10_put_59 : decode cX10_put 59 = .ok (.goto 31, 3) := by decide +kernel
theorem dX10_put_62 : decode cX10_put 62 = .ok (.aload_n 0, 1) := by decide +kernel
theorem dX10_put_63 : decode cX10_put 63 = .ok (.getfield 24, 3) := by decide +kernel
theorem dX10_put_66 : decode cX10_put 66 = .ok (.iload_n 1, 1) := by decide +kernel
theorem dX10_put_67 : decode cX10_put 67 = .ok (.iload_n 3, 1) := by decide +kernel
theorem dX10_put_68 : decode cX10_put 68 = .ok (.iastore, 1) := by decide +kernel
theorem dX10_put_69 : decode cX10_put 69 = .ok (.goto 21, 3) := by decide +kernel
theorem dX10_put_72 : decode cX10_put 72 = .ok (.aload_n 0, 1) := by decide +kernel
theorem dX10_put_73 : decode cX10_put 73 = .ok (.aload_n 0, 1) := by decide +kernel
theorem dX10_put_74 : decode cX10_put 74 = .ok (.getfield 82, 3) := by decide +kernel
theorem dX10_put_77 : decode cX10_put 77 = .ok (.iconst 1, 1) := by decide +kernel
theorem dX10_put_78 : decode cX10_put 78 = .ok (.iload_n 1, 1) := by decide +kernel
theorem dX10_put_79 : decode cX10_put 79 = .ok (.ishl, 1) := by decide +kernel
theorem dX10_put_80 : decode cX10_put 80 = .ok (.iconst (-1), 1) := by decide +kernel
theorem dX10_put_81 : decode cX10_put 81 = .ok (.ixor, 1) := by decide +kernel
theorem dX10_put_82 : decode cX10_put 82 = .ok (.iand, 1) := by decide +kernel
theorem dX10_put_83 : decode cX10_put 83 = .ok (.iload_n 3, 1) := by decide +kernel
theorem dX10_put_84 : decode cX10_put 84 = .ok (.iload_n 1, 1) := by decide +kernel
theorem dX10_put_85 : decode cX10_put 85 = .ok (.ishl, 1) := by decide +kernel
theorem dX10_put_86 : decode cX10_put 86 = .ok (.ior, 1) := by decide +kernel
theorem dX10_put_87 : decode cX10_put 87 = .ok (.putfield 82, 3) := by decide +kernel
theorem dX10_put_90 : decode cX10_put 90 = .ok (.return_, 1) := by decide +kernel
theorem dX10_asked_0 : decode cX10_asked 0 = .ok (.aload_n 0, 1) := by decide +kernel
theorem dX10_asked_1 : decode cX10_asked 1 = .ok (.getfield 9, 3) := by decide +kernel
theorem dX10_asked_4 : decode cX10_asked 4 = .ok (.iload_n 1, 1) := by decide +kernel
theorem dX10_asked_5 : decode cX10_asked 5 = .ok (.iaload, 1) := by decide +kernel
theorem dX10_asked_6 : decode cX10_asked 6 = .ok (.iload_n 1, 1) := by decide +kernel
theorem dX10_asked_7 : decode cX10_asked 7 = .ok (.aload_n 0, 1) := by decide +kernel
theorem dX10_asked_8 : decode cX10_asked 8 = .ok (.getfield 85, 3) := by decide +kernel
theorem dX10_asked_11 : decode cX10_asked 11 = .ok (.invokestatic 98, 3) := by decide +kernel
theorem dX10_asked_14 : decode cX10_asked 14 = .ok (.ireturn, 1) := by decide +kernel
theorem dX10_drawn_0 : decode cX10_drawn 0 = .ok (.iconst 0, 1) := by decide +kernel
theorem dX10_drawn_1 : decode cX10_drawn 1 = .ok (.aload_n 0, 1) := by decide +kernel
theorem dX10_drawn_2 : decode cX10_drawn 2 = .ok (.getfield 9, 3) := by decide +kernel
theorem dX10_drawn_5 : decode cX10_drawn 5 = .ok (.iload_n 1, 1) := by decide +kernel
theorem dX10_drawn_6 : decode cX10_drawn 6 = .ok (.iaload, 1) := by decide +kernel
theorem dX10_drawn_7 : decode cX10_drawn 7 = .ok (.aload_n 0, 1) := by decide +kernel
theorem dX10_drawn_8 : decode cX10_drawn 8 = .ok (.getfield 18, 3) := by decide +kernel
theorem dX10_drawn_11 : decode cX10_drawn 11 = .ok (.iload_n 1, 1) := by decide +kernel
theorem dX10_drawn_12 : decode cX10_drawn 12 = .ok (.iaload, 1) := by decide +kernel
theorem dX10_drawn_13 : decode cX10_drawn 13 = .ok (.aload_n 0, 1) := by decide +kernel
theorem dX10_drawn_14 : decode cX10_drawn 14 = .ok (.getfield 88, 3) := by decide +kernel
theorem dX10_drawn_17 : decode cX10_drawn 17 = .ok (.aload_n 0, 1) := by decide +kernel
theorem dX10_drawn_18 : decode cX10_drawn 18 = .ok (.getfield 85, 3) := by decide +kernel
theorem dX10_drawn_21 : decode cX10_drawn 21 = .ok (.invokestatic 102, 3) := by decide +kernel
theorem dX10_drawn_24 : decode cX10_drawn 24 = .ok (.aload_n 0, 1) := by decide +kernel
theorem dX10_drawn_25 : decode cX10_drawn 25 = .ok (.getfield 27, 3) := by decide +kernel
theorem dX10_drawn_28 : decode cX10_drawn 28 = .ok (.aload_n 0, 1) := by decide +kernel
theorem dX10_drawn_29 : decode cX10_drawn 29 = .ok (.getfield 21, 3) := by decide +kernel
theorem dX10_drawn_32 : decode cX10_drawn 32 = .ok (.iload_n 1, 1) := by decide +kernel
theorem dX10_drawn_33 : decode cX10_drawn 33 = .ok (.iaload, 1) := by decide +kernel
theorem dX10_drawn_34 : decode cX10_drawn 34 = .ok (.iaload, 1) := by decide +kernel
theorem dX10_drawn_35 : decode cX10_drawn 35 = .ok (.isub, 1) := by decide +kernel
theorem dX10_drawn_36 : decode cX10_drawn 36 = .ok (.invokestatic 106, 3) := by decide +kernel
theorem dX10_drawn_39 : decode cX10_drawn 39 = .ok (.ireturn, 1) := by decide +kernel
theorem dX10_isServed_0 : decode cX10_isServed 0 = .ok (.aload_n 0, 1) := by decide +kernel
theorem dX10_isServed_1 : decode cX10_isServed 1 = .ok (.getfield 54, 3) := by decide +kernel
theorem dX10_isServed_4 : decode cX10_isServed 4 = .ok (.aload_n 0, 1) := by decide +kernel
theorem dX10_isServed_5 : decode cX10_isServed 5 = .ok (.iload_n 1, 1) := by decide +kernel
theorem dX10_isServed_6 : decode cX10_isServed 6 = .ok (.invokevirtual 112, 3) := by decide +kernel
theorem dX10_isServed_9 : decode cX10_isServed 9 = .ok (.if_icmp .lt 20, 3) := by decide +kernel
theorem dX10_isServed_12 : decode cX10_isServed 12 = .ok (.aload_n 0, 1) := by decide +kernel
theorem dX10_isServed_13 : decode cX10_isServed 13 = .ok (.getfield 54, 3) := by decide +kernel
theorem dX10_isServed_16 : decode cX10_isServed 16 = .ok (.aload_n 0, 1) := by decide +kernel
theorem dX10_isServed_17 : decode cX10_isServed 17 = .ok (.getfield 15, 3) := by decide +kernel
theorem dX10_isServed_20 : decode cX10_isServed 20 = .ok (.iload_n 1, 1) := by decide +kernel
theorem dX10_isServed_21 : decode cX10_isServed 21 = .ok (.iaload, 1) := by decide +kernel
theorem dX10_isServed_22 : decode cX10_isServed 22 = .ok (.if_icmp .lt 7, 3) := by decide +kernel
theorem dX10_isServed_25 : decode cX10_isServed 25 = .ok (.iconst 1, 1) := by decide +kernel
theorem dX10_isServed_26 : decode cX10_isServed 26 = .ok (.goto 4, 3) := by decide +kernel
theorem dX10_isServed_29 : decode cX10_isServed 29 = .ok (.iconst 0, 1) := by decide +kernel
theorem dX10_isServed_30 : decode cX10_isServed 30 = .ok (.ireturn, 1) := by decide +kernel
theorem dX10_will_0 : decode cX10_will 0 = .ok (.aload_n 0, 1) := by decide +kernel
theorem dX10_will_1 : decode cX10_will 1 = .ok (.getfield 39, 3) := by decide +kernel
theorem dX10_will_4 : decode cX10_will 4 = .ok (.aload_n 0, 1) := by decide +kernel
theorem dX10_will_5 : decode cX10_will 5 = .ok (.getfield 9, 3) := by decide +kernel
theorem dX10_will_8 : decode cX10_will 8 = .ok (.iload_n 1, 1) := by decide +kernel
theorem dX10_will_9 : decode cX10_will 9 = .ok (.iaload, 1) := by decide +kernel
theorem dX10_will_10 : decode cX10_will 10 = .ok (.aload_n 0, 1) := by decide +kernel
theorem dX10_will_11 : decode cX10_will 11 = .ok (.getfield 85, 3) := by decide +kernel
theorem dX10_will_14 : decode cX10_will 14 = .ok (.aload_n 0, 1) := by decide +kernel
theorem dX10_will_15 : decode cX10_will 15 = .ok (.getfield 18, 3) := by decide +kernel
theorem dX10_will_18 : decode cX10_will 18 = .ok (.iload_n 1, 1) := by decide +kernel
theorem dX10_will_19 : decode cX10_will 19 = .ok (.iaload, 1) := by decide +kernel
theorem dX10_will_20 : decode cX10_will 20 = .ok (.aload_n 0, 1) := by decide +kernel
theorem dX10_will_21 : decode cX10_will 21 = .ok (.iload_n 1, 1) := by decide +kernel
theorem dX10_will_22 : decode cX10_will 22 = .ok (.invokevirtual 116, 3) := by decide +kernel
theorem dX10_will_25 : decode cX10_will 25 = .ok (.aload_n 0, 1) := by decide +kernel
theorem dX10_will_26 : decode cX10_will 26 = .ok (.getfield 88, 3) := by decide +kernel
theorem dX10_will_29 : decode cX10_will 29 = .ok (.iload_n 1, 1) := by decide +kernel
theorem dX10_will_30 : decode cX10_will 30 = .ok (.invokevirtual 119, 3) := by decide +kernel
theorem dX10_will_33 : decode cX10_will 33 = .ok (.ireturn, 1) := by decide +kernel
theorem dX10_goBy_0 : decode cX10_goBy 0 = .ok (.aload_n 0, 1) := by decide +kernel
theorem dX10_goBy_1 : decode cX10_goBy 1 = .ok (.aload_n 0, 1) := by decide +kernel
theorem dX10_goBy_2 : decode cX10_goBy 2 = .ok (.getfield 88, 3) := by decide +kernel
theorem dX10_goBy_5 : decode cX10_goBy 5 = .ok (.aload_n 0, 1) := by decide +kernel
theorem dX10_goBy_6 : decode cX10_goBy 6 = .ok (.invokevirtual 123, 3) := by decide +kernel
theorem dX10_goBy_9 : decode cX10_goBy 9 = .ok (.invokestatic 127, 3) := by decide +kernel
theorem dX10_goBy_12 : decode cX10_goBy 12 = .ok (.putfield 88, 3) := by decide +kernel
theorem dX10_goBy_15 : decode cX10_goBy 15 = .ok (.iload_n 1, 1) := by decide +kernel
theorem dX10_goBy_16 : decode cX10_goBy 16 = .ok (.iconst (-1), 1) := by decide +kernel
theorem dX10_goBy_17 : decode cX10_goBy 17 = .ok (.if_icmp .ne 10, 3) := by decide +kernel
theorem dX10_goBy_20 : decode cX10_goBy 20 = .ok (.aload_n 0, 1) := by decide +kernel
theorem dX10_goBy_21 : decode cX10_goBy 21 = .ok (.invokevirtual 130, 3) := by decide +kernel
theorem dX10_goBy_24 : decode cX10_goBy 24 = .ok (.goto 6, 3) := by decide +kernel
theorem dX10_goBy_27 : decode cX10_goBy 27 = .ok (.iload_n 1, 1) := by decide +kernel
theorem dX10_goBy_28 : decode cX10_goBy 28 = .ok (.iconst 1, 1) := by decide +kernel
theorem dX10_goBy_29 : decode cX10_goBy 29 = .ok (.isub, 1) := by decide +kernel
theorem dX10_goBy_30 : decode cX10_goBy 30 = .ok (.istore_n 2, 1) := by decide +kernel
theorem dX10_goBy_31 : decode cX10_goBy 31 = .ok (.aload_n 0, 1) := by decide +kernel
theorem dX10_goBy_32 : decode cX10_goBy 32 = .ok (.iload_n 2, 1) := by decide +kernel
theorem dX10_goBy_33 : decode cX10_goBy 33 = .ok (.invokevirtual 133, 3) := by decide +kernel
theorem dX10_goBy_36 : decode cX10_goBy 36 = .ok (.ifCond .eq 16, 3) := by decide +kernel
theorem dX10_goBy_39 : decode cX10_goBy 39 = .ok (.aload_n 0, 1) := by decide +kernel
theorem dX10_goBy_40 : decode cX10_goBy 40 = .ok (.iload_n 2, 1) := by decide +kernel
theorem dX10_goBy_41 : decode cX10_goBy 41 = .ok (.aload_n 0, 1) := by decide +kernel
theorem dX10_goBy_42 : decode cX10_goBy 42 = .ok (.iload_n 2, 1) := by decide +kernel
theorem dX10_goBy_43 : decode cX10_goBy 43 = .ok (.invokevirtual 136, 3) := by decide +kernel
theorem dX10_goBy_46 : decode cX10_goBy 46 = .ok (.invokevirtual 139, 3) := by decide +kernel
theorem dX10_goBy_49 : decode cX10_goBy 49 = .ok (.goto 4, 3) := by decide +kernel
theorem dX10_goBy_52 : decode cX10_goBy 52 = .ok (.iconst 0, 1) := by decide +kernel
theorem dX10_goBy_53 : decode cX10_goBy 53 = .ok (.istore_n 3, 1) := by decide +kernel
theorem dX10_goBy_54 : decode cX10_goBy 54 = .ok (.aload_n 0, 1) := by decide +kernel
theorem dX10_goBy_55 : decode cX10_goBy 55 = .ok (.aload_n 0, 1) := by decide +kernel
theorem dX10_goBy_56 : decode cX10_goBy 56 = .ok (.getfield 54, 3) := by decide +kernel
theorem dX10_goBy_59 : decode cX10_goBy 59 = .ok (.aload_n 0, 1) := by decide +kernel
theorem dX10_goBy_60 : decode cX10_goBy 60 = .ok (.getfield 88, 3) := by decide +kernel
theorem dX10_goBy_63 : decode cX10_goBy 63 = .ok (.invokestatic 142, 3) := by decide +kernel
theorem dX10_goBy_66 : decode cX10_goBy 66 = .ok (.putfield 54, 3) := by decide +kernel
theorem dX10_goBy_69 : decode cX10_goBy 69 = .ok (.aload_n 0, 1) := by decide +kernel
theorem dX10_goBy_70 : decode cX10_goBy 70 = .ok (.dup, 1) := by decide +kernel
theorem dX10_goBy_71 : decode cX10_goBy 71 = .ok (.getfield 85, 3) := by decide +kernel
theorem dX10_goBy_74 : decode cX10_goBy 74 = .ok (.iconst 1, 1) := by decide +kernel
theorem dX10_goBy_75 : decode cX10_goBy 75 = .ok (.iadd, 1) := by decide +kernel
theorem dX10_goBy_76 : decode cX10_goBy 76 = .ok (.putfield 85, 3) := by decide +kernel
theorem dX10_goBy_79 : decode cX10_goBy 79 = .ok (.iload_n 3, 1) := by decide +kernel
theorem dX10_goBy_80 : decode cX10_goBy 80 = .ok (.ireturn, 1) := by decide +kernel
theorem dX10_goRest_0 : decode cX10_goRest 0 = .ok (.iconst 0, 1) := by decide +kernel
theorem dX10_goRest_1 : decode cX10_goRest 1 = .ok (.istore_n 2, 1) := by decide +kernel
theorem dX10_goRest_2 : decode cX10_goRest 2 = .ok (.iconst 0, 1) := by decide +kernel
theorem dX10_goRest_3 : decode cX10_goRest 3 = .ok (.istore_n 3, 1) := by decide +kernel
theorem dX10_goRest_4 : decode cX10_goRest 4 = .ok (.iload_n 3, 1) := by decide +kernel
theorem dX10_goRest_5 : decode cX10_goRest 5 = .ok (.iload_n 1, 1) := by decide +kernel
theorem dX10_goRest_6 : decode cX10_goRest 6 = .ok (.if_icmp .ge 24, 3) := by decide +kernel
theorem dX10_goRest_9 : decode cX10_goRest 9 = .ok (.aload_n 0, 1) := by decide +kernel
theorem dX10_goRest_10 : decode cX10_goRest 10 = .ok (.invokevirtual 145, 3) := by decide +kernel
theorem dX10_goRest_13 : decode cX10_goRest 13 = .ok (.ifCond .ne 17, 3) := by decide +kernel
theorem dX10_goRest_16 : decode cX10_goRest 16 = .ok (.iload_n 2, 1) := by decide +kernel
theorem dX10_goRest_17 : decode cX10_goRest 17 = .ok (.aload_n 0, 1) := by decide +kernel
theorem dX10_goRest_18 : decode cX10_goRest 18 = .ok (.iconst (-1), 1) := by decide +kernel
theorem dX10_goRest_19 : decode cX10_goRest 19 = .ok (.invokevirtual 149, 3) := by decide +kernel
theorem dX10_goRest_22 : decode cX10_goRest 22 = .ok (.iadd, 1) := by decide +kernel
theorem dX10_goRest_23 : decode cX10_goRest 23 = .ok (.istore_n 2, 1) := by decide +kernel
theorem dX10_goRest_24 : decode cX10_goRest 24 = .ok (.iinc 3 1, 3) := by decide +kernel
theorem dX10_goRest_27 : decode cX10_goRest 27 = .ok (.goto (-23), 3) := by decide +kernel
theorem dX10_goRest_30 : decode cX10_goRest 30 = .ok (.iload_n 2, 1) := by decide +kernel
theorem dX10_goRest_31 : decode cX10_goRest 31 = .ok (.ireturn, 1) := by decide +kernel
theorem dX10_toldInRest_0 : decode cX10_toldInRest 0 = .ok (.iconst 0, 1) := by decide +kernel
theorem dX10_toldInRest_1 : decode cX10_toldInRest 1 = .ok (.istore_n 1, 1) := by decide +kernel
theorem dX10_toldInRest_2 : decode cX10_toldInRest 2 = .ok (.iload_n 1, 1) := by decide +kernel
theorem dX10_toldInRest_3 : decode cX10_toldInRest 3 = .ok (.aload_n 0, 1) := by decide +kernel
theorem dX10_toldInRest_4 : decode cX10_toldInRest 4 = .ok (.getfield 79, 3) := by decide +kernel
theorem dX10_toldInRest_7 : decode cX10_toldInRest 7 = .ok (.if_icmp .ge 46, 3) := by decide +kernel
theorem dX10_toldInRest_10 : decode cX10_toldInRest 10 = .ok (.aload_n 0, 1) := by decide +kernel
theorem dX10_toldInRest_11 : decode cX10_toldInRest 11 = .ok (.iload_n 1, 1) := by decide +kernel
theorem dX10_toldInRest_12 : decode cX10_toldInRest 12 = .ok (.invokevirtual 94, 3) := by decide +kernel
theorem dX10_toldInRest_15 : decode cX10_toldInRest 15 = .ok (.ifCond .ne 32, 3) := by decide +kernel
theorem dX10_toldInRest_18 : decode cX10_toldInRest 18 = .ok (.aload_n 0, 1) := by decide +kernel
theorem dX10_toldInRest_19 : decode cX10_toldInRest 19 = .ok (.iload_n 1, 1) := by decide +kernel
theorem dX10_toldInRest_20 : decode cX10_toldInRest 20 = .ok (.invokevirtual 152, 3) := by decide +kernel
theorem dX10_toldInRest_23 : decode cX10_toldInRest 23 = .ok (.ifCond .eq 24, 3) := by decide +kernel
theorem dX10_toldInRest_26 : decode cX10_toldInRest 26 = .ok (.aload_n 0, 1) := by decide +kernel
theorem dX10_toldInRest_27 : decode cX10_toldInRest 27 = .ok (.iload_n 1, 1) := by decide +kernel
theorem dX10_toldInRest_28 : decode cX10_toldInRest 28 = .ok (.invokevirtual 116, 3) := by decide +kernel
theorem dX10_toldInRest_31 : decode cX10_toldInRest 31 = .ok (.aload_n 0, 1) := by decide +kernel
theorem dX10_toldInRest_32 : decode cX10_toldInRest 32 = .ok (.getfield 30, 3) := by decide +kernel
theorem dX10_toldInRest_35 : decode cX10_toldInRest 35 = .ok (.aload_n 0, 1) := by decide +kernel
theorem dX10_toldInRest_36 : decode cX10_toldInRest 36 = .ok (.getfield 21, 3) := by decide +kernel
theorem dX10_toldInRest_39 : decode cX10_toldInRest 39 = .ok (.iload_n 1, 1) := by decide +kernel
theorem dX10_toldInRest_40 : decode cX10_toldInRest 40 = .ok (.iaload, 1) := by decide +kernel
theorem dX10_toldInRest_41 : decode cX10_toldInRest 41 = .ok (.iaload, 1) := by decide +kernel
theorem dX10_toldInRest_42 : decode cX10_toldInRest 42 = .ok (.if_icmp .lt 5, 3) := by decide +kernel
theorem dX10_toldInRest_45 : decode cX10_toldInRest 45 = .ok (.iload_n 1, 1) := by decide +kernel
theorem dX10_toldInRest_46 : decode cX10_toldInRest 46 = .ok (.ireturn, 1) := by decide +kernel
theorem dX10_toldInRest_47 : decode cX10_toldInRest 47 = .ok (.iinc 1 1, 3) := by decide +kernel
theorem dX10_toldInRest_50 : decode cX10_toldInRest 50 = .ok (.goto (-48), 3) := by decide +kernel
theorem dX10_toldInRest_53 : decode cX10_toldInRest 53 = .ok (.bipush (-3), 2) := by decide +kernel
theorem dX10_toldInRest_55 : decode cX10_toldInRest 55 = .ok (.ireturn, 1) := by decide +kernel
theorem dX10_worthOf_0 : decode cX10_worthOf 0 = .ok (.iload_n 2, 1) := by decide +kernel
theorem dX10_worthOf_1 : decode cX10_worthOf 1 = .ok (.iconst 2, 1) := by decide +kernel
theorem dX10_worthOf_2 : decode cX10_worthOf 2 = .ok (.if_icmp .ne 30, 3) := by decide +kernel
theorem dX10_worthOf_5 : decode cX10_worthOf 5 = .ok (.aload_n 0, 1) := by decide +kernel
theorem dX10_worthOf_6 : decode cX10_worthOf 6 = .ok (.bipush 99, 2) := by decide +kernel
theorem dX10_worthOf_8 : decode cX10_worthOf 8 = .ok (.aload_n 0, 1) := by decide +kernel
theorem dX10_worthOf_9 : decode cX10_worthOf 9 = .ok (.getfield 54, 3) := by decide +kernel
theorem dX10_worthOf_12 : decode cX10_worthOf 12 = .ok (.aload_n 0, 1) := by decide +kernel
theorem dX10_worthOf_13 : decode cX10_worthOf 13 = .ok (.getfield 24, 3) := by decide +kernel
theorem dX10_worthOf_16 : decode cX10_worthOf 16 = .ok (.iload_n 1, 1) := by decide +kernel
theorem dX10_worthOf_17 : decode cX10_worthOf 17 = .ok (.iaload, 1) := by decide +kernel
theorem dX10_worthOf_18 : decode cX10_worthOf 18 = .ok (.iadd, 1) := by decide +kernel
theorem dX10_worthOf_19 : decode cX10_worthOf 19 = .ok (.invokestatic 155, 3) := by decide +kernel
theorem dX10_worthOf_22 : decode cX10_worthOf 22 = .ok (.putfield 54, 3) := by decide +kernel
theorem dX10_worthOf_25 : decode cX10_worthOf 25 = .ok (.aload_n 0, 1) := by decide +kernel
theorem dX10_worthOf_26 : decode cX10_worthOf 26 = .ok (.getfield 24, 3) := by decide +kernel
theorem dX10_worthOf_29 : decode cX10_worthOf 29 = .ok (.iload_n 1, 1) := by decide +kernel
theorem dX10_worthOf_30 : decode cX10_worthOf 30 = .ok (.iconst 0, 1) := by decide +kernel
theorem dX10_worthOf_31 : decode cX10_worthOf 31 = .ok (.iastore, 1) := by decide +kernel
theorem dX10_worthOf_32 : decode cX10_worthOf 32 = .ok (.iload_n 2, 1) := by decide +kernel
theorem dX10_worthOf_33 : decode cX10_worthOf 33 = .ok (.ifCond .ne 11, 3) := by decide +kernel
theorem dX10_worthOf_36 : decode cX10_worthOf 36 = .ok (.aload_n 0, 1) := by decide +kernel
theorem dX10_worthOf_37 : decode cX10_worthOf 37 = .ok (.iload_n 1, 1) := by decide +kernel
theorem dX10_worthOf_38 : decode cX10_worthOf 38 = .ok (.invokevirtual 152, 3) := by decide +kernel
theorem dX10_worthOf_41 : decode cX10_worthOf 41 = .ok (.ifCond .ne 5, 3) := by decide +kernel
theorem dX10_worthOf_44 : decode cX10_worthOf 44 = .ok (.iconst 0, 1) := by decide +kernel
theorem dX10_worthOf_45 : decode cX10_worthOf 45 = .ok (.ireturn, 1) := by decide +kernel
theorem dX10_worthOf_46 : decode cX10_worthOf 46 = .ok (.aload_n 0, 1) := by decide +kernel
theorem dX10_worthOf_47 : decode cX10_worthOf 47 = .ok (.dup, 1) := by decide +kernel
theorem dX10_worthOf_48 : decode cX10_worthOf 48 = .ok (.getfield 54, 3) := by decide +kernel
theorem dX10_worthOf_51 : decode cX10_worthOf 51 = .ok (.aload_n 0, 1) := by decide +kernel
theorem dX10_worthOf_52 : decode cX10_worthOf 52 = .ok (.iload_n 1, 1) := by decide +kernel
theorem dX10_worthOf_53 : decode cX10_worthOf 53 = .ok (.invokevirtual 112, 3) := by decide +kernel
theorem dX10_worthOf_56 : decode cX10_worthOf 56 = .ok (.isub, 1) := by decide +kernel
theorem dX10_worthOf_57 : decode cX10_worthOf 57 = .ok (.putfield 54, 3) := by decide +kernel
theorem dX10_worthOf_60 : decode cX10_worthOf 60 = .ok (.aload_n 0, 1) := by decide +kernel
theorem dX10_worthOf_61 : decode cX10_worthOf 61 = .ok (.getfield 24, 3) := by decide +kernel
theorem dX10_worthOf_64 : decode cX10_worthOf 64 = .ok (.iload_n 1, 1) := by decide +kernel
theorem dX10_worthOf_65 : decode cX10_worthOf 65 = .ok (.bipush 9, 2) := by decide +kernel
theorem dX10_worthOf_67 : decode cX10_worthOf 67 = .ok (.aload_n 0, 1) := by decide +kernel
theorem dX10_worthOf_68 : decode cX10_worthOf 68 = .ok (.getfield 24, 3) := by decide +kernel
theorem dX10_worthOf_71 : decode cX10_worthOf 71 = .ok (.iload_n 1, 1) := by decide +kernel
theorem dX10_worthOf_72 : decode cX10_worthOf 72 = .ok (.iaload, 1) := by decide +kernel
theorem dX10_worthOf_73 : decode cX10_worthOf 73 = .ok (.iconst 1, 1) := by decide +kernel
theorem dX10_worthOf_74 : decode cX10_worthOf 74 = .ok (.iadd, 1) := by decide +kernel
theorem dX10_worthOf_75 : decode cX10_worthOf 75 = .ok (.invokestatic 155, 3) := by decide +kernel
theorem dX10_worthOf_78 : decode cX10_worthOf 78 = .ok (.iastore, 1) := by decide +kernel
theorem dX10_worthOf_79 : decode cX10_worthOf 79 = .ok (.aload_n 0, 1) := by decide +kernel
theorem dX10_worthOf_80 : decode cX10_worthOf 80 = .ok (.iload_n 1, 1) := by decide +kernel
theorem dX10_worthOf_81 : decode cX10_worthOf 81 = .ok (.invokevirtual 116, 3) := by decide +kernel
theorem dX10_worthOf_84 : decode cX10_worthOf 84 = .ok (.aload_n 0, 1) := by decide +kernel
theorem dX10_worthOf_85 : decode cX10_worthOf 85 = .ok (.getfield 30, 3) := by decide +kernel
theorem dX10_worthOf_88 : decode cX10_worthOf 88 = .ok (.aload_n 0, 1) := by decide +kernel
theorem dX10_worthOf_89 : decode cX10_worthOf 89 = .ok (.getfield 21, 3) := by decide +kernel
theorem dX10_worthOf_92 : decode cX10_worthOf 92 = .ok (.iload_n 1, 1) := by decide +kernel
theorem dX10_worthOf_93 : decode cX10_worthOf 93 = .ok (.iaload, 1) := by decide +kernel
theorem dX10_worthOf_94 : decode cX10_worthOf 94 = .ok (.iaload, 1) := by decide +kernel
theorem dX10_worthOf_95 : decode cX10_worthOf 95 = .ok (.if_icmp .ge 5, 3) := by decide +kernel
theorem dX10_worthOf_98 : decode cX10_worthOf 98 = .ok (.iconst 1, 1) := by decide +kernel
theorem dX10_worthOf_99 : decode cX10_worthOf 99 = .ok (.ireturn, 1) := by decide +kernel
theorem dX10_worthOf_100 : decode cX10_worthOf 100 = .ok (.iconst 2, 1) := by decide +kernel
theorem dX10_worthOf_101 : decode cX10_worthOf 101 = .ok (.aload_n 0, 1) := by decide +kernel
theorem dX10_worthOf_102 : decode cX10_worthOf 102 = .ok (.getfield 24, 3) := by decide +kernel
theorem dX10_worthOf_105 : decode cX10_worthOf 105 = .ok (.iload_n 1, 1) := by decide +kernel
theorem dX10_worthOf_106 : decode cX10_worthOf 106 = .ok (.iaload, 1) := by decide +kernel
theorem dX10_worthOf_107 : decode cX10_worthOf 107 = .ok (.imul, 1) := by decide +kernel
theorem dX10_worthOf_108 : decode cX10_worthOf 108 = .ok (.aload_n 0, 1) := by decide +kernel
theorem dX10_worthOf_109 : decode cX10_worthOf 109 = .ok (.iload_n 1, 1) := by decide +kernel
theorem dX10_worthOf_110 : decode cX10_worthOf 110 = .ok (.invokevirtual 94, 3) := by decide +kernel
theorem dX10_worthOf_113 : decode cX10_worthOf 113 = .ok (.ifCond .eq 7, 3) := by decide +kernel
theorem dX10_worthOf_116 : decode cX10_worthOf 116 = .ok (.iconst 0, 1) := by decide +kernel
theorem dX10_worthOf_117 : decode cX10_worthOf 117 = .ok (.goto 5, 3) := by decide +kernel
theorem dX10_worthOf_120 : decode cX10_worthOf 120 = .ok (.bipush 9, 2) := by decide +kernel
theorem dX10_worthOf_122 : decode cX10_worthOf 122 = .ok (.iadd, 1) := by decide +kernel
theorem dX10_worthOf_123 : decode cX10_worthOf 123 = .ok (.istore_n 3, 1) := by decide +kernel
theorem dX10_worthOf_124 : decode cX10_worthOf 124 = .ok (.aload_n 0, 1) := by decide +kernel
theorem dX10_worthOf_125 : decode cX10_worthOf 125 = .ok (.dup, 1) := by decide +kernel
theorem dX10_worthOf_126 : decode cX10_worthOf 126 = .ok (.getfield 82, 3) := by decide +kernel
theorem dX10_worthOf_129 : decode cX10_worthOf 129 = .ok (.iconst 1, 1) := by decide +kernel
theorem dX10_worthOf_130 : decode cX10_worthOf 130 = .ok (.iload_n 1, 1) := by decide +kernel
theorem dX10_worthOf_131 : decode cX10_worthOf 131 = .ok (.ishl, 1) := by decide +kernel
theorem dX10_worthOf_132 : decode cX10_worthOf 132 = .ok (.ior, 1) := by decide +kernel
theorem dX10_worthOf_133 : decode cX10_worthOf 133 = .ok (.putfield 82, 3) := by decide +kernel
theorem dX10_worthOf_136 : decode cX10_worthOf 136 = .ok (.aload_n 0, 1) := by decide +kernel
theorem dX10_worthOf_137 : decode cX10_worthOf 137 = .ok (.getfield 24, 3) := by decide +kernel
theorem dX10_worthOf_140 : decode cX10_worthOf 140 = .ok (.iload_n 1, 1) := by decide +kernel
theorem dX10_worthOf_141 : decode cX10_worthOf 141 = .ok (.iconst 0, 1) := by decide +kernel
theorem dX10_worthOf_142 : decode cX10_worthOf 142 = .ok (.iastore, 1) := by decide +kernel
theorem dX10_worthOf_143 : decode cX10_worthOf 143 = .ok (.iload_n 3, 1) := by decide +kernel
theorem dX10_worthOf_144 : decode cX10_worthOf 144 = .ok (.ireturn, 1) := by decide +kernel
theorem dX10_takeBack_0 : decode cX10_takeBack 0 = .ok (.aload_n 0, 1) := by decide +kernel
theorem dX10_takeBack_1 : decode cX10_takeBack 1 = .ok (.dup, 1) := by decide +kernel
theorem dX10_takeBack_2 : decode cX10_takeBack 2 = .ok (.getfield 85, 3) := by decide +kernel
theorem dX10_takeBack_5 : decode cX10_takeBack 5 = .ok (.iconst 1, 1) := by decide +kernel
theorem dX10_takeBack_6 : decode cX10_takeBack 6 = .ok (.isub, 1) := by decide +kernel
theorem dX10_takeBack_7 : decode cX10_takeBack 7 = .ok (.putfield 85, 3) := by decide +kernel
theorem dX10_takeBack_10 : decode cX10_takeBack 10 = .ok (.aload_n 0, 1) := by decide +kernel
theorem dX10_takeBack_11 : decode cX10_takeBack 11 = .ok (.iload_n 2, 1) := by decide +kernel
theorem dX10_takeBack_12 : decode cX10_takeBack 12 = .ok (.putfield 88, 3) := by decide +kernel
theorem dX10_takeBack_15 : decode cX10_takeBack 15 = .ok (.aload_n 0, 1) := by decide +kernel
theorem dX10_takeBack_16 : decode cX10_takeBack 16 = .ok (.iload_n 3, 1) := by decide +kernel
theorem dX10_takeBack_17 : decode cX10_takeBack 17 = .ok (.putfield 54, 3) := by decide +kernel
theorem dX10_takeBack_20 : decode cX10_takeBack 20 = .ok (.aload_n 0, 1) := by decide +kernel
theorem dX10_takeBack_21 : decode cX10_takeBack 21 = .ok (.iload 4, 2) := by decide +kernel
theorem dX10_takeBack_23 : decode cX10_takeBack 23 = .ok (.putfield 82, 3) := by decide +kernel
theorem dX10_takeBack_26 : decode cX10_takeBack 26 = .ok (.aload_n 0, 1) := by decide +kernel
theorem dX10_takeBack_27 : decode cX10_takeBack 27 = .ok (.iload_n 1, 1) := by decide +kernel
theorem dX10_takeBack_28 : decode cX10_takeBack 28 = .ok (.iconst 1, 1) := by decide +kernel
theorem dX10_takeBack_29 : decode cX10_takeBack 29 = .ok (.isub, 1) := by decide +kernel
theorem dX10_takeBack_30 : decode cX10_takeBack 30 = .ok (.invokevirtual 133, 3) := by decide +kernel
theorem dX10_takeBack_33 : decode cX10_takeBack 33 = .ok (.ifCond .eq 13, 3) := by decide +kernel
theorem dX10_takeBack_36 : decode cX10_takeBack 36 = .ok (.aload_n 0, 1) := by decide +kernel
theorem dX10_takeBack_37 : decode cX10_takeBack 37 = .ok (.getfield 24, 3) := by decide +kernel
theorem dX10_takeBack_40 : decode cX10_takeBack 40 = .ok (.iload_n 1, 1) := by decide +kernel
theorem dX10_takeBack_41 : decode cX10_takeBack 41 = .ok (.iconst 1, 1) := by decide +kernel
theorem dX10_takeBack_42 : decode cX10_takeBack 42 = .ok (.isub, 1) := by decide +kernel
theorem dX10_takeBack_43 : decode cX10_takeBack 43 = .ok (.iload 5, 2) := by decide +kernel
theorem dX10_takeBack_45 : decode cX10_takeBack 45 = .ok (.iastore, 1) := by decide +kernel
theorem dX10_takeBack_46 : decode cX10_takeBack 46 = .ok (.return_, 1) := by decide +kernel
theorem dX10_bunsFor_0 : decode cX10_bunsFor 0 = .ok (.aload_n 0, 1) := by decide +kernel
theorem dX10_bunsFor_1 : decode cX10_bunsFor 1 = .ok (.iload_n 1, 1) := by decide +kernel
theorem dX10_bunsFor_2 : decode cX10_bunsFor 2 = .ok (.iconst 1, 1) := by decide +kernel
theorem dX10_bunsFor_3 : decode cX10_bunsFor 3 = .ok (.isub, 1) := by decide +kernel
theorem dX10_bunsFor_4 : decode cX10_bunsFor 4 = .ok (.invokevirtual 133, 3) := by decide +kernel
theorem dX10_bunsFor_7 : decode cX10_bunsFor 7 = .ok (.ifCond .eq 14, 3) := by decide +kernel
theorem dX10_bunsFor_10 : decode cX10_bunsFor 10 = .ok (.aload_n 0, 1) := by decide +kernel
theorem dX10_bunsFor_11 : decode cX10_bunsFor 11 = .ok (.getfield 24, 3) := by decide +kernel
theorem dX10_bunsFor_14 : decode cX10_bunsFor 14 = .ok (.iload_n 1, 1) := by decide +kernel
theorem dX10_bunsFor_15 : decode cX10_bunsFor 15 = .ok (.iconst 1, 1) := by decide +kernel
theorem dX10_bunsFor_16 : decode cX10_bunsFor 16 = .ok (.isub, 1) := by decide +kernel
theorem dX10_bunsFor_17 : decode cX10_bunsFor 17 = .ok (.iaload, 1) := by decide +kernel
theorem dX10_bunsFor_18 : decode cX10_bunsFor 18 = .ok (.goto 4, 3) := by decide +kernel
theorem dX10_bunsFor_21 : decode cX10_bunsFor 21 = .ok (.iconst 0, 1) := by decide +kernel
theorem dX10_bunsFor_22 : decode cX10_bunsFor 22 = .ok (.ireturn, 1) := by decide +kernel
theorem dX10_drawLot_0 : decode cX10_drawLot 0 = .ok (.aload_n 0, 1) := by decide +kernel
theorem dX10_drawLot_1 : decode cX10_drawLot 1 = .ok (.aload_n 0, 1) := by decide +kernel
theorem dX10_drawLot_2 : decode cX10_drawLot 2 = .ok (.getfield 57, 3) := by decide +kernel
theorem dX10_drawLot_5 : decode cX10_drawLot 5 = .ok (.ldc 158, 2) := by decide +kernel
theorem dX10_drawLot_7 : decode cX10_drawLot 7 = .ok (.imul, 1) := by decide +kernel
theorem dX10_drawLot_8 : decode cX10_drawLot 8 = .ok (.sipush 12345, 3) := by decide +kernel
theorem dX10_drawLot_11 : decode cX10_drawLot 11 = .ok (.iadd, 1) := by decide +kernel
theorem dX10_drawLot_12 : decode cX10_drawLot 12 = .ok (.putfield 57, 3) := by decide +kernel
theorem dX10_drawLot_15 : decode cX10_drawLot 15 = .ok (.aload_n 0, 1) := by decide +kernel
theorem dX10_drawLot_16 : decode cX10_drawLot 16 = .ok (.getfield 57, 3) := by decide +kernel
theorem dX10_drawLot_19 : decode cX10_drawLot 19 = .ok (.bipush 16, 2) := by decide +kernel
theorem dX10_drawLot_21 : decode cX10_drawLot 21 = .ok (.iushr, 1) := by decide +kernel
theorem dX10_drawLot_22 : decode cX10_drawLot 22 = .ok (.aload_n 0, 1) := by decide +kernel
theorem dX10_drawLot_23 : decode cX10_drawLot 23 = .ok (.getfield 79, 3) := by decide +kernel
theorem dX10_drawLot_26 : decode cX10_drawLot 26 = .ok (.iconst 1, 1) := by decide +kernel
theorem dX10_drawLot_27 : decode cX10_drawLot 27 = .ok (.iadd, 1) := by decide +kernel
theorem dX10_drawLot_28 : decode cX10_drawLot 28 = .ok (.irem, 1) := by decide +kernel
theorem dX10_drawLot_29 : decode cX10_drawLot 29 = .ok (.ireturn, 1) := by decide +kernel
theorem dX10_kinOf_0 : decode cX10_kinOf 0 = .ok (.iconst 1, 1) := by decide +kernel
theorem dX10_kinOf_1 : decode cX10_kinOf 1 = .ok (.iload_n 1, 1) := by decide +kernel
theorem dX10_kinOf_2 : decode cX10_kinOf 2 = .ok (.ishl, 1) := by decide +kernel
theorem dX10_kinOf_3 : decode cX10_kinOf 3 = .ok (.istore_n 2, 1) := by decide +kernel
theorem dX10_kinOf_4 : decode cX10_kinOf 4 = .ok (.iconst 0, 1) := by decide +kernel
theorem dX10_kinOf_5 : decode cX10_kinOf 5 = .ok (.istore_n 3, 1) := by decide +kernel
theorem dX10_kinOf_6 : decode cX10_kinOf 6 = .ok (.iload_n 3, 1) := by decide +kernel
theorem dX10_kinOf_7 : decode cX10_kinOf 7 = .ok (.aload_n 0, 1) := by decide +kernel
theorem dX10_kinOf_8 : decode cX10_kinOf 8 = .ok (.getfield 79, 3) := by decide +kernel
theorem dX10_kinOf_11 : decode cX10_kinOf 11 = .ok (.if_icmp .ge 48, 3) := by decide +kernel
theorem dX10_kinOf_14 : decode cX10_kinOf 14 = .ok (.iconst 0, 1) := by decide +kernel
theorem dX10_kinOf_15 : decode cX10_kinOf 15 = .ok (.istore 4, 2) := by decide +kernel
theorem dX10_kinOf_17 : decode cX10_kinOf 17 = .ok (.iload 4, 2) := by decide +kernel
theorem dX10_kinOf_19 : decode cX10_kinOf 19 = .ok (.aload_n 0, 1) := by decide +kernel
theorem dX10_kinOf_20 : decode cX10_kinOf 20 = .ok (.getfield 79, 3) := by decide +kernel
theorem dX10_kinOf_23 : decode cX10_kinOf 23 = .ok (.if_icmp .ge 30, 3) := by decide +kernel
theorem dX10_kinOf_26 : decode cX10_kinOf 26 = .ok (.iload_n 2, 1) := by decide +kernel
theorem dX10_kinOf_27 : decode cX10_kinOf 27 = .ok (.aload_n 0, 1) := by decide +kernel
theorem dX10_kinOf_28 : decode cX10_kinOf 28 = .ok (.iload 4, 2) := by decide +kernel
theorem dX10_kinOf_30 : decode cX10_kinOf 30 = .ok (.iload_n 2, 1) := by decide +kernel
theorem dX10_kinOf_31 : decode cX10_kinOf 31 = .ok (.invokevirtual 159, 3) := by decide +kernel
theorem dX10_kinOf_34 : decode cX10_kinOf 34 = .ok (.ifCond .eq 10, 3) := by decide +kernel
theorem dX10_kinOf_37 : decode cX10_kinOf 37 = .ok (.iconst 1, 1) := by decide +kernel
theorem dX10_kinOf_38 : decode cX10_kinOf 38 = .ok (.iload 4, 2) := by decide +kernel
theorem dX10_kinOf_40 : decode cX10_kinOf 40 = .ok (.ishl, 1) := by decide +kernel
theorem dX10_kinOf_41 : decode cX10_kinOf 41 = .ok (.goto 4, 3) := by decide +kernel
theorem dX10_kinOf_44 : decode cX10_kinOf 44 = .ok (.iconst 0, 1) := by decide +kernel
theorem dX10_kinOf_45 : decode cX10_kinOf 45 = .ok (.ior, 1) := by decide +kernel
theorem dX10_kinOf_46 : decode cX10_kinOf 46 = .ok (.istore_n 2, 1) := by decide +kernel
theorem dX10_kinOf_47 : decode cX10_kinOf 47 = .ok (.iinc 4 1, 3) := by decide +kernel
theorem dX10_kinOf_50 : decode cX10_kinOf 50 = .ok (.goto (-33), 3) := by decide +kernel
theorem dX10_kinOf_53 : decode cX10_kinOf 53 = .ok (.iinc 3 1, 3) := by decide +kernel
theorem dX10_kinOf_56 : decode cX10_kinOf 56 = .ok (.goto (-50), 3) := by decide +kernel
theorem dX10_kinOf_59 : decode cX10_kinOf 59 = .ok (.iload_n 2, 1) := by decide +kernel
theorem dX10_kinOf_60 : decode cX10_kinOf 60 = .ok (.ireturn, 1) := by decide +kernel
theorem dX10_isCloseToOne_0 : decode cX10_isCloseToOne 0 = .ok (.aload_n 0, 1) := by decide +kernel
theorem dX10_isCloseToOne_1 : decode cX10_isCloseToOne 1 = .ok (.iload_n 1, 1) := by decide +kernel
theorem dX10_isCloseToOne_2 : decode cX10_isCloseToOne 2 = .ok (.invokevirtual 94, 3) := by decide +kernel
theorem dX10_isCloseToOne_5 : decode cX10_isCloseToOne 5 = .ok (.ifCond .eq 5, 3) := by decide +kernel
theorem dX10_isCloseToOne_8 : decode cX10_isCloseToOne 8 = .ok (.iconst 0, 1) := by decide +kernel
theorem dX10_isCloseToOne_9 : decode cX10_isCloseToOne 9 = .ok (.ireturn, 1) := by decide +kernel
theorem dX10_isCloseToOne_10 : decode cX10_isCloseToOne 10 = .ok (.iconst 0, 1) := by decide +kernel
theorem dX10_isCloseToOne_11 : decode cX10_isCloseToOne 11 = .ok (.istore_n 3, 1) := by decide +kernel
theorem dX10_isCloseToOne_12 : decode cX10_isCloseToOne 12 = .ok (.iload_n 3, 1) := by decide +kernel
theorem dX10_isCloseToOne_13 : decode cX10_isCloseToOne 13 = .ok (.aload_n 0, 1) := by decide +kernel
theorem dX10_isCloseToOne_14 : decode cX10_isCloseToOne 14 = .ok (.getfield 79, 3) := by decide +kernel
theorem dX10_isCloseToOne_17 : decode cX10_isCloseToOne 17 = .ok (.if_icmp .ge 67, 3) := by decide +kernel
theorem dX10_isCloseToOne_20 : decode cX10_isCloseToOne 20 = .ok (.aload_n 0, 1) := by decide +kernel
theorem dX10_isCloseToOne_21 : decode cX10_isCloseToOne 21 = .ok (.getfield 21, 3) := by decide +kernel
theorem dX10_isCloseToOne_24 : decode cX10_isCloseToOne 24 = .ok (.iload_n 3, 1) := by decide +kernel
theorem dX10_isCloseToOne_25 : decode cX10_isCloseToOne 25 = .ok (.iaload, 1) := by decide +kernel
theorem dX10_isCloseToOne_26 : decode cX10_isCloseToOne 26 = .ok (.aload_n 0, 1) := by decide +kernel
theorem dX10_isCloseToOne_27 : decode cX10_isCloseToOne 27 = .ok (.getfield 21, 3) := by decide +kernel
theorem dX10_isCloseToOne_30 : decode cX10_isCloseToOne 30 = .ok (.iload_n 1, 1) := by decide +kernel
theorem dX10_isCloseToOne_31 : decode cX10_isCloseToOne 31 = .ok (.iaload, 1) := by decide +kernel
theorem dX10_isCloseToOne_32 : decode cX10_isCloseToOne 32 = .ok (.if_icmp .eq 23, 3) := by decide +kernel
theorem dX10_isCloseToOne_35 : decode cX10_isCloseToOne 35 = .ok (.aload_n 0, 1) := by decide +kernel
theorem dX10_isCloseToOne_36 : decode cX10_isCloseToOne 36 = .ok (.getfield 18, 3) := by decide +kernel
theorem dX10_isCloseToOne_39 : decode cX10_isCloseToOne 39 = .ok (.iload_n 3, 1) := by decide +kernel
theorem dX10_isCloseToOne_40 : decode cX10_isCloseToOne 40 = .ok (.iaload, 1) := by decide +kernel
theorem dX10_isCloseToOne_41 : decode cX10_isCloseToOne 41 = .ok (.aload_n 0, 1) := by decide +kernel
theorem dX10_isCloseToOne_42 : decode cX10_isCloseToOne 42 = .ok (.getfield 18, 3) := by decide +kernel
theorem dX10_isCloseToOne_45 : decode cX10_isCloseToOne 45 = .ok (.iload_n 1, 1) := by decide +kernel
theorem dX10_isCloseToOne_46 : decode cX10_isCloseToOne 46 = .ok (.iaload, 1) := by decide +kernel
theorem dX10_isCloseToOne_47 : decode cX10_isCloseToOne 47 = .ok (.isub, 1) := by decide +kernel
theorem dX10_isCloseToOne_48 : decode cX10_isCloseToOne 48 = .ok (.invokestatic 163, 3) := by decide +kernel
theorem dX10_isCloseToOne_51 : decode cX10_isCloseToOne 51 = .ok (.iconst 1, 1) := by decide +kernel
theorem dX10_isCloseToOne_52 : decode cX10_isCloseToOne 52 = .ok (.if_icmp .gt 7, 3) := by decide +kernel
theorem dX10_isCloseToOne_55 : decode cX10_isCloseToOne 55 = .ok (.iconst 1, 1) := by decide +kernel
theorem dX10_isCloseToOne_56 : decode cX10_isCloseToOne 56 = .ok (.goto 4, 3) := by decide +kernel
theorem dX10_isCloseToOne_59 : decode cX10_isCloseToOne 59 = .ok (.iconst 0, 1) := by decide +kernel
theorem dX10_isCloseToOne_60 : decode cX10_isCloseToOne 60 = .ok (.istore 4, 2) := by decide +kernel
theorem dX10_isCloseToOne_62 : decode cX10_isCloseToOne 62 = .ok (.iload_n 2, 1) := by decide +kernel
theorem dX10_isCloseToOne_63 : decode cX10_isCloseToOne 63 = .ok (.iload_n 3, 1) := by decide +kernel
theorem dX10_isCloseToOne_64 : decode cX10_isCloseToOne 64 = .ok (.ishr, 1) := by decide +kernel
theorem dX10_isCloseToOne_65 : decode cX10_isCloseToOne 65 = .ok (.iconst 1, 1) := by decide +kernel
theorem dX10_isCloseToOne_66 : decode cX10_isCloseToOne 66 = .ok (.iand, 1) := by decide +kernel
theorem dX10_isCloseToOne_67 : decode cX10_isCloseToOne 67 = .ok (.iconst 1, 1) := by decide +kernel
theorem dX10_isCloseToOne_68 : decode cX10_isCloseToOne 68 = .ok (.if_icmp .ne 10, 3) := by decide +kernel
theorem dX10_isCloseToOne_71 : decode cX10_isCloseToOne 71 = .ok (.iload 4, 2) := by decide +kernel
theorem dX10_isCloseToOne_73 : decode cX10_isCloseToOne 73 = .ok (.ifCond .eq 5, 3) := by decide +kernel
theorem dX10_isCloseToOne_76 : decode cX10_isCloseToOne 76 = .ok (.iconst 1, 1) := by decide +kernel
theorem dX10_isCloseToOne_77 : decode cX10_isCloseToOne 77 = .ok (.ireturn, 1) := by decide +kernel
theorem dX10_isCloseToOne_78 : decode cX10_isCloseToOne 78 = .ok (.iinc 3 1, 3) := by decide +kernel
theorem dX10_isCloseToOne_81 : decode cX10_isCloseToOne 81 = .ok (.goto (-69), 3) := by decide +kernel
theorem dX10_isCloseToOne_84 : decode cX10_isCloseToOne 84 = .ok (.iconst 0, 1) := by decide +kernel
theorem dX10_isCloseToOne_85 : decode cX10_isCloseToOne 85 = .ok (.ireturn, 1) := by decide +kernel
theorem dX11_house_0 : decode cX11_house 0 = .ok (.iload_n 1, 1) := by decide +kernel
theorem dX11_house_1 : decode cX11_house 1 = .ok (.invokestatic 82, 3) := by decide +kernel
theorem dX11_house_4 : decode cX11_house 4 = .ok (.ifCond .eq 30, 3) := by decide +kernel
theorem dX11_house_7 : decode cX11_house 7 = .ok (.iload_n 2, 1) := by decide +kernel
theorem dX11_house_8 : decode cX11_house 8 = .ok (.bipush 60, 2) := by decide +kernel
theorem dX11_house_10 : decode cX11_house 10 = .ok (.invokestatic 86, 3) := by decide +kernel
theorem dX11_house_13 : decode cX11_house 13 = .ok (.ifCond .eq 21, 3) := by decide +kernel
theorem dX11_house_16 : decode cX11_house 16 = .ok (.iload_n 3, 1) := by decide +kernel
theorem dX11_house_17 : decode cX11_house 17 = .ok (.bipush 9, 2) := by decide +kernel
theorem dX11_house_19 : decode cX11_house 19 = .ok (.invokestatic 86, 3) := by decide +kernel
theorem dX11_house_22 : decode cX11_house 22 = .ok (.ifCond .eq 12, 3) := by decide +kernel
theorem dX11_house_25 : decode cX11_house 25 = .ok (.iload 4, 2) := by decide +kernel
theorem dX11_house_27 : decode cX11_house 27 = .ok (.iconst 5, 1) := by decide +kernel
theorem dX11_house_28 : decode cX11_house 28 = .ok (.invokestatic 86, 3) := by decide +kernel
theorem dX11_house_31 : decode cX11_house 31 = .ok (.ifCond .ne 5, 3) := by decide +kernel
theorem dX11_house_34 : decode cX11_house 34 = .ok (.iconst (-1), 1) := by decide +kernel
theorem dX11_house_35 : decode cX11_house 35 = .ok (.ireturn, 1) := by decide +kernel
theorem dX11_house_36 : decode cX11_house 36 = .ok (.aload_n 0, 1) := by decide +kernel
theorem dX11_house_37 : decode cX11_house 37 = .ok (.getfield 34, 3) := by decide +kernel
theorem dX11_house_40 : decode cX11_house 40 = .ok (.getfield 90, 3) := by decide +kernel
theorem dX11_house_43 : decode cX11_house 43 = .ok (.bipush 6, 2) := by decide +kernel
theorem dX11_house_45 : decode cX11_house 45 = .ok (.if_icmp .lt 6, 3) := by decide +kernel
theorem dX11_house_48 : decode cX11_house 48 = .ok (.bipush (-2), 2) := by decide +kernel
theorem dX11_house_50 : decode cX11_house 50 = .ok (.ireturn, 1) := by decide +kernel
theorem dX11_house_51 : decode cX11_house 51 = .ok (.aload_n 0, 1) := by decide +kernel
theorem dX11_house_52 : decode cX11_house 52 = .ok (.getfield 34, 3) := by decide +kernel
theorem dX11_house_55 : decode cX11_house 55 = .ok (.iload_n 1, 1) := by decide +kernel
theorem dX11_house_56 : decode cX11_house 56 = .ok (.iload_n 2, 1) := by decide +kernel
theorem dX11_house_57 : decode cX11_house 57 = .ok (.iload_n 3, 1) := by decide +kernel
theorem dX11_house_58 : decode cX11_house 58 = .ok (.iload 4, 2) := by decide +kernel
theorem dX11_house_60 : decode cX11_house 60 = .ok (.invokevirtual 94, 3) := by decide +kernel
theorem dX11_house_63 : decode cX11_house 63 = .ok (.ireturn, 1) := by decide +kernel
theorem dX11_houseOf_0 : decode cX11_houseOf 0 = .ok (.aload_n 0, 1) := by decide +kernel
theorem dX11_houseOf_1 : decode cX11_houseOf 1 = .ok (.getfield 34, 3) := by decide +kernel
theorem dX11_houseOf_4 : decode cX11_houseOf 4 = .ok (.iload_n 1, 1) := by decide +kernel
theorem dX11_houseOf_5 : decode cX11_houseOf 5 = .ok (.invokevirtual 98, 3) := by decide +kernel
theorem dX11_houseOf_8 : decode cX11_houseOf 8 = .ok (.ifCond .ne 5, 3) := by decide +kernel
theorem dX11_houseOf_11 : decode cX11_houseOf 11 = .ok (.iconst (-1), 1) := by decide +kernel
theorem dX11_houseOf_12 : decode cX11_houseOf 12 = .ok (.ireturn, 1) := by decide +kernel
theorem dX11_houseOf_13 : decode cX11_houseOf 13 = .ok (.iload_n 2, 1) := by decide +kernel
theorem dX11_houseOf_14 : decode cX11_houseOf 14 = .ok (.tableswitch 74 6 9 #[30, 39, 48, 57], 30) := by decide +kernel
theorem dX11_houseOf_44 : decode cX11_houseOf 44 = .ok (.aload_n 0, 1) := by decide +kernel
theorem dX11_houseOf_45 : decode cX11_houseOf 45 = .ok (.getfield 34, 3) := by decide +kernel
theorem dX11_houseOf_48 : decode cX11_houseOf 48 = .ok (.iload_n 1, 1) := by decide +kernel
theorem dX11_houseOf_49 : decode cX11_houseOf 49 = .ok (.invokevirtual 101, 3) := by decide +kernel
theorem dX11_houseOf_52 : decode cX11_houseOf 52 = .ok (.ireturn, 1) := by decide +kernel
theorem dX11_houseOf_53 : decode cX11_houseOf 53 = .ok (.aload_n 0, 1) := by decide +kernel
theorem dX11_houseOf_54 : decode cX11_houseOf 54 = .ok (.getfield 34, 3) := by decide +kernel
theorem dX11_houseOf_57 : decode cX11_houseOf 57 = .ok (.iload_n 1, 1) := by decide +kernel
theorem dX11_houseOf_58 : decode cX11_houseOf 58 = .ok (.invokevirtual 105, 3) := by decide +kernel
theorem dX11_houseOf_61 : decode cX11_houseOf 61 = .ok (.ireturn, 1) := by decide +kernel
theorem dX11_houseOf_62 : decode cX11_houseOf 62 = .ok (.aload_n 0, 1) := by decide +kernel
theorem dX11_houseOf_63 : decode cX11_houseOf 63 = .ok (.getfield 34, 3) := by decide +kernel
theorem dX11_houseOf_66 : decode cX11_houseOf 66 = .ok (.iload_n 1, 1) := by decide +kernel
theorem dX11_houseOf_67 : decode cX11_houseOf 67 = .ok (.invokevirtual 108, 3) := by decide +kernel
theorem dX11_houseOf_70 : decode cX11_houseOf 70 = .ok (.ireturn, 1) := by decide +kernel
theorem dX11_houseOf_71 : decode cX11_houseOf 71 = .ok (.aload_n 0, 1) := by decide +kernel
theorem dX11_houseOf_72 : decode cX11_houseOf 72 = .ok (.getfield 34, 3) := by decide +kernel
theorem dX11_houseOf_75 : decode cX11_houseOf 75 = .ok (.iload_n 1, 1) := by decide +kernel
theorem dX11_houseOf_76 : decode cX11_houseOf 76 = .ok (.invokevirtual 111, 3) := by decide +kernel
theorem dX11_houseOf_79 : decode cX11_houseOf 79 = .ok (.ifCond .eq 7, 3) := by decide +kernel
theorem dX11_houseOf_82 : decode cX11_houseOf 82 = .ok (.iconst 1, 1) := by decide +kernel
theorem dX11_houseOf_83 : decode cX11_houseOf 83 = .ok (.goto 4, 3) := by decide +kernel
theorem dX11_houseOf_86 : decode cX11_houseOf 86 = .ok (.iconst 0, 1) := by decide +kernel
theorem dX11_houseOf_87 : decode cX11_houseOf 87 = .ok (.ireturn, 1) := by decide +kernel
theorem dX11_houseOf_88 : decode cX11_houseOf 88 = .ok (.iload_n 2, 1) := by decide +kernel
theorem dX11_houseOf_89 : decode cX11_houseOf 89 = .ok (.ifCond .eq 10, 3) := by decide +kernel
theorem dX11_houseOf_92 : decode cX11_houseOf 92 = .ok (.iload_n 2, 1) := by decide +kernel
theorem dX11_houseOf_93 : decode cX11_houseOf 93 = .ok (.invokestatic 114, 3) := by decide +kernel
theorem dX11_houseOf_96 : decode cX11_houseOf 96 = .ok (.ifCond .lt 15, 3) := by decide +kernel
theorem dX11_houseOf_99 : decode cX11_houseOf 99 = .ok (.aload_n 0, 1) := by decide +kernel
theorem dX11_houseOf_100 : decode cX11_houseOf 100 = .ok (.getfield 34, 3) := by decide +kernel
theorem dX11_houseOf_103 : decode cX11_houseOf 103 = .ok (.iload_n 1, 1) := by decide +kernel
theorem dX11_houseOf_104 : decode cX11_houseOf 104 = .ok (.iload_n 2, 1) := by decide +kernel
theorem dX11_houseOf_105 : decode cX11_houseOf 105 = .ok (.invokevirtual 117, 3) := by decide +kernel
theorem dX11_houseOf_108 : decode cX11_houseOf 108 = .ok (.goto 4, 3) := by decide +kernel
theorem dX11_houseOf_111 : decode cX11_houseOf 111 = .ok (.iconst (-1), 1) := by decide +kernel
theorem dX11_houseOf_112 : decode cX11_houseOf 112 = .ok (.ireturn, 1) := by decide +kernel
theorem dX11_change_0 : decode cX11_change 0 = .ok (.aload_n 0, 1) := by decide +kernel
theorem dX11_change_1 : decode cX11_change 1 = .ok (.getfield 34, 3) := by decide +kernel
theorem dX11_change_4 : decode cX11_change 4 = .ok (.iload_n 1, 1) := by decide +kernel
theorem dX11_change_5 : decode cX11_change 5 = .ok (.invokevirtual 98, 3) := by decide +kernel
theorem dX11_change_8 : decode cX11_change 8 = .ok (.ifCond .eq 14, 3) := by decide +kernel
theorem dX11_change_11 : decode cX11_change 11 = .ok (.iload_n 3, 1) := by decide +kernel
theorem dX11_change_12 : decode cX11_change 12 = .ok (.iload_n 2, 1) := by decide +kernel
theorem dX11_change_13 : decode cX11_change 13 = .ok (.invokestatic 114, 3) := by decide +kernel
theorem dX11_change_16 : decode cX11_change 16 = .ok (.invokestatic 86, 3) := by decide +kernel
theorem dX11_change_19 : decode cX11_change 19 = .ok (.ifCond .ne 5, 3) := by decide +kernel
theorem dX11_change_22 : decode cX11_change 22 = .ok (.iconst (-1), 1) := by decide +kernel
theorem dX11_change_23 : decode cX11_change 23 = .ok (.ireturn, 1) := by decide +kernel
theorem dX11_change_24 : decode cX11_change 24 = .ok (.aload_n 0, 1) := by decide +kernel
theorem dX11_change_25 : decode cX11_change 25 = .ok (.getfield 34, 3) := by decide +kernel
theorem dX11_change_28 : decode cX11_change 28 = .ok (.iload_n 1, 1) := by decide +kernel
theorem dX11_change_29 : decode cX11_change 29 = .ok (.iload_n 2, 1) := by decide +kernel
theorem dX11_change_30 : decode cX11_change 30 = .ok (.invokevirtual 117, 3) := by decide +kernel
theorem dX11_change_33 : decode cX11_change 33 = .ok (.istore 4, 2) := by decide +kernel
theorem dX11_change_35 : decode cX11_change 35 = .ok (.aload_n 0, 1) := by decide +kernel
theorem dX11_change_36 : decode cX11_change 36 = .ok (.getfield 34, 3) := by decide +kernel
theorem dX11_change_39 : decode cX11_change 39 = .ok (.iload_n 1, 1) := by decide +kernel
theorem dX11_change_40 : decode cX11_change 40 = .ok (.iload_n 2, 1) := by decide +kernel
theorem dX11_change_41 : decode cX11_change 41 = .ok (.iload_n 3, 1) := by decide +kernel
theorem dX11_change_42 : decode cX11_change 42 = .ok (.invokevirtual 121, 3) := by decide +kernel
theorem dX11_change_45 : decode cX11_change 45 = .ok (.iload 4, 2) := by decide +kernel
theorem dX11_change_47 : decode cX11_change 47 = .ok (.ireturn, 1) := by decide +kernel
theorem dX11_remake_0 : decode cX11_remake 0 = .ok (.aload_n 0, 1) := by decide +kernel
theorem dX11_remake_1 : decode cX11_remake 1 = .ok (.getfield 34, 3) := by decide +kernel
theorem dX11_remake_4 : decode cX11_remake 4 = .ok (.iload_n 1, 1) := by decide +kernel
theorem dX11_remake_5 : decode cX11_remake 5 = .ok (.invokevirtual 98, 3) := by decide +kernel
theorem dX11_remake_8 : decode cX11_remake 8 = .ok (.ifCond .eq 10, 3) := by decide +kernel
theorem dX11_remake_11 : decode cX11_remake 11 = .ok (.iload_n 2, 1) := by decide +kernel
theorem dX11_remake_12 : decode cX11_remake 12 = .ok (.invokestatic 82, 3) := by decide +kernel
theorem dX11_remake_15 : decode cX11_remake 15 = .ok (.ifCond .ne 5, 3) := by decide +kernel
theorem dX11_remake_18 : decode cX11_remake 18 = .ok (.iconst (-1), 1) := by decide +kernel
theorem dX11_remake_19 : decode cX11_remake 19 = .ok (.ireturn, 1) := by decide +kernel
theorem dX11_remake_20 : decode cX11_remake 20 = .ok (.aload_n 0, 1) := by decide +kernel
theorem dX11_remake_21 : decode cX11_remake 21 = .ok (.getfield 34, 3) := by decide +kernel
theorem dX11_remake_24 : decode cX11_remake 24 = .ok (.getfield 125, 3) := by decide +kernel
theorem dX11_remake_27 : decode cX11_remake 27 = .ok (.iload_n 1, 1) := by decide +kernel
theorem dX11_remake_28 : decode cX11_remake 28 = .ok (.iaload, 1) := by decide +kernel
theorem dX11_remake_29 : decode cX11_remake 29 = .ok (.istore_n 3, 1) := by decide +kernel
theorem dX11_remake_30 : decode cX11_remake 30 = .ok (.aload_n 0, 1) := by decide +kernel
theorem dX11_remake_31 : decode cX11_remake 31 = .ok (.getfield 34, 3) := by decide +kernel
theorem dX11_remake_34 : decode cX11_remake 34 = .ok (.getfield 125, 3) := by decide +kernel
theorem dX11_remake_37 : decode cX11_remake 37 = .ok (.iload_n 1, 1) := by decide +kernel
theorem dX11_remake_38 : decode cX11_remake 38 = .ok (.iload_n 2, 1) := by decide +kernel
theorem dX11_remake_39 : decode cX11_remake 39 = .ok (.iastore, 1) := by decide +kernel
theorem dX11_remake_40 : decode cX11_remake 40 = .ok (.iload_n 3, 1) := by decide +kernel
theorem dX11_remake_41 : decode cX11_remake 41 = .ok (.ireturn, 1) := by decide +kernel
theorem dX11_dusk_0 : decode cX11_dusk 0 = .ok (.iload_n 1, 1) := by decide +kernel
theorem dX11_dusk_1 : decode cX11_dusk 1 = .ok (.bipush 15, 2) := by decide +kernel
theorem dX11_dusk_3 : decode cX11_dusk 3 = .ok (.invokestatic 86, 3) := by decide +kernel
theorem dX11_dusk_6 : decode cX11_dusk 6 = .ok (.ifCond .eq 12, 3) := by decide +kernel
theorem dX11_dusk_9 : decode cX11_dusk 9 = .ok (.iload_n 2, 1) := by decide +kernel
theorem dX11_dusk_10 : decode cX11_dusk 10 = .ok (.bipush 15, 2) := by decide +kernel
theorem dX11_dusk_12 : decode cX11_dusk 12 = .ok (.invokestatic 86, 3) := by decide +kernel
theorem dX11_dusk_15 : decode cX11_dusk 15 = .ok (.ifCond .ne 5, 3) := by decide +kernel
theorem dX11_dusk_18 : decode cX11_dusk 18 = .ok (.iconst (-1), 1) := by decide +kernel
theorem dX11_dusk_19 : decode cX11_dusk 19 = .ok (.ireturn, 1) := by decide +kernel
theorem dX11_dusk_20 : decode cX11_dusk 20 = .ok (.aload_n 0, 1) := by decide +kernel
theorem dX11_dusk_21 : decode cX11_dusk 21 = .ok (.getfield 34, 3) := by decide +kernel
theorem dX11_dusk_24 : decode cX11_dusk 24 = .ok (.getfield 128, 3) := by decide +kernel
theorem dX11_dusk_27 : decode cX11_dusk 27 = .ok (.iload_n 1, 1) := by decide +kernel
theorem dX11_dusk_28 : decode cX11_dusk 28 = .ok (.iaload, 1) := by decide +kernel
theorem dX11_dusk_29 : decode cX11_dusk 29 = .ok (.istore_n 3, 1) := by decide +kernel
theorem dX11_dusk_30 : decode cX11_dusk 30 = .ok (.aload_n 0, 1) := by decide +kernel
theorem dX11_dusk_31 : decode cX11_dusk 31 = .ok (.getfield 34, 3) := by decide +kernel
theorem dX11_dusk_34 : decode cX11_dusk 34 = .ok (.getfield 128, 3) := by decide +kernel
theorem dX11_dusk_37 : decode cX11_dusk 37 = .ok (.iload_n 1, 1) := by decide +kernel
theorem dX11_dusk_38 : decode cX11_dusk 38 = .ok (.iload_n 2, 1) := by decide +kernel
theorem dX11_dusk_39 : decode cX11_dusk 39 = .ok (.iastore, 1) := by decide +kernel
theorem dX11_dusk_40 : decode cX11_dusk 40 = .ok (.iload_n 3, 1) := by decide +kernel
theorem dX11_dusk_41 : decode cX11_dusk 41 = .ok (.ireturn, 1) := by decide +kernel
theorem dX11_lane_0 : decode cX11_lane 0 = .ok (.aload_n 0, 1) := by decide +kernel
theorem dX11_lane_1 : decode cX11_lane 1 = .ok (.iload_n 1, 1) := by decide +kernel
theorem dX11_lane_2 : decode cX11_lane 2 = .ok (.iload_n 2, 1) := by decide +kernel
theorem dX11_lane_3 : decode cX11_lane 3 = .ok (.invokevirtual 131, 3) := by decide +kernel
theorem dX11_lane_6 : decode cX11_lane 6 = .ok (.istore 4, 2) := by decide +kernel
theorem dX11_lane_8 : decode cX11_lane 8 = .ok (.iload 4, 2) := by decide +kernel
theorem dX11_lane_10 : decode cX11_lane 10 = .ok (.iconst (-1), 1) := by decide +kernel
theorem dX11_lane_11 : decode cX11_lane 11 = .ok (.if_icmp .eq 21, 3) := by decide +kernel
theorem dX11_lane_14 : decode cX11_lane 14 = .ok (.iload_n 3, 1) := by decide +kernel
theorem dX11_lane_15 : decode cX11_lane 15 = .ok (.iload_n 2, 1) := by decide +kernel
theorem dX11_lane_16 : decode cX11_lane 16 = .ok (.ifCond .ne 8, 3) := by decide +kernel
theorem dX11_lane_19 : decode cX11_lane 19 = .ok (.bipush 9, 2) := by decide +kernel
theorem dX11_lane_21 : decode cX11_lane 21 = .ok (.goto 5, 3) := by decide +kernel
theorem dX11_lane_24 : decode cX11_lane 24 = .ok (.bipush 14, 2) := by decide +kernel
theorem dX11_lane_26 : decode cX11_lane 26 = .ok (.invokestatic 86, 3) := by decide +kernel
theorem dX11_lane_29 : decode cX11_lane 29 = .ok (.ifCond .ne 5, 3) := by decide +kernel
theorem dX11_lane_32 : decode cX11_lane 32 = .ok (.iconst (-1), 1) := by decide +kernel
theorem dX11_lane_33 : decode cX11_lane 33 = .ok (.ireturn, 1) := by decide +kernel
theorem dX11_lane_34 : decode cX11_lane 34 = .ok (.iload_n 2, 1) := by decide +kernel
theorem dX11_lane_35 : decode cX11_lane 35 = .ok (.ifCond .ne 16, 3) := by decide +kernel
theorem dX11_lane_38 : decode cX11_lane 38 = .ok (.aload_n 0, 1) := by decide +kernel
theorem dX11_lane_39 : decode cX11_lane 39 = .ok (.getfield 34, 3) := by decide +kernel
theorem dX11_lane_42 : decode cX11_lane 42 = .ok (.getfield 134, 3) := by decide +kernel
theorem dX11_lane_45 : decode cX11_lane 45 = .ok (.iload_n 1, 1) := by decide +kernel
theorem dX11_lane_46 : decode cX11_lane 46 = .ok (.iload_n 3, 1) := by decide +kernel
theorem dX11_lane_47 : decode cX11_lane 47 = .ok (.iastore, 1) := by decide +kernel
theorem dX11_lane_48 : decode cX11_lane 48 = .ok (.goto 13, 3) := by decide +kernel
theorem dX11_lane_51 : decode cX11_lane 51 = .ok (.aload_n 0, 1) := by decide +kernel
theorem dX11_lane_52 : decode cX11_lane 52 = .ok (.getfield 34, 3) := by decide +kernel
theorem dX11_lane_55 : decode cX11_lane 55 = .ok (.getfield 137, 3) := by decide +kernel
theorem dX11_lane_58 : decode cX11_lane 58 = .ok (.iload_n 1, 1) := by decide +kernel
theorem dX11_lane_59 : decode cX11_lane 59 = .ok (.iload_n 3, 1) := by decide +kernel
theorem dX11_lane_60 : decode cX11_lane 60 = .ok (.iastore, 1) := by decide +kernel
theorem dX11_lane_61 : decode cX11_lane 61 = .ok (.iload 4, 2) := by decide +kernel
theorem dX11_lane_63 : decode cX11_lane 63 = .ok (.ireturn, 1) := by decide +kernel
theorem dX11_laneOf_0 : decode cX11_laneOf 0 = .ok (.iload_n 1, 1) := by decide +kernel
theorem dX11_laneOf_1 : decode cX11_laneOf 1 = .ok (.iconst 5, 1) := by decide +kernel
theorem dX11_laneOf_2 : decode cX11_laneOf 2 = .ok (.invokestatic 86, 3) := by decide +kernel
theorem dX11_laneOf_5 : decode cX11_laneOf 5 = .ok (.ifCond .eq 11, 3) := by decide +kernel
theorem dX11_laneOf_8 : decode cX11_laneOf 8 = .ok (.iload_n 2, 1) := by decide +kernel
theorem dX11_laneOf_9 : decode cX11_laneOf 9 = .ok (.iconst 1, 1) := by decide +kernel
theorem dX11_laneOf_10 : decode cX11_laneOf 10 = .ok (.invokestatic 86, 3) := by decide +kernel
theorem dX11_laneOf_13 : decode cX11_laneOf 13 = .ok (.ifCond .ne 5, 3) := by decide +kernel
theorem dX11_laneOf_16 : decode cX11_laneOf 16 = .ok (.iconst (-1), 1) := by decide +kernel
theorem dX11_laneOf_17 : decode cX11_laneOf 17 = .ok (.ireturn, 1) := by decide +kernel
theorem dX11_laneOf_18 : decode cX11_laneOf 18 = .ok (.iload_n 2, 1) := by decide +kernel
theorem dX11_laneOf_19 : decode cX11_laneOf 19 = .ok (.ifCond .ne 15, 3) := by decide +kernel
theorem dX11_laneOf_22 : decode cX11_laneOf 22 = .ok (.aload_n 0, 1) := by decide +kernel
theorem dX11_laneOf_23 : decode cX11_laneOf 23 = .ok (.getfield 34, 3) := by decide +kernel
theorem dX11_laneOf_26 : decode cX11_laneOf 26 = .ok (.getfield 134, 3) := by decide +kernel
theorem dX11_laneOf_29 : decode cX11_laneOf 29 = .ok (.iload_n 1, 1) := by decide +kernel
theorem dX11_laneOf_30 : decode cX11_laneOf 30 = .ok (.iaload, 1) := by decide +kernel
theorem dX11_laneOf_31 : decode cX11_laneOf 31 = .ok (.goto 12, 3) := by decide +kernel
theorem dX11_laneOf_34 : decode cX11_laneOf 34 = .ok (.aload_n 0, 1) := by decide +kernel
theorem dX11_laneOf_35 : decode cX11_laneOf 35 = .ok (.getfield 34, 3) := by decide +kernel
theorem dX11_laneOf_38 : decode cX11_laneOf 38 = .ok (.getfield 137, 3) := by decide +kernel
theorem dX11_laneOf_41 : decode cX11_laneOf 41 = .ok (.iload_n 1, 1) := by decide +kernel
theorem dX11_laneOf_42 : decode cX11_laneOf 42 = .ok (.iaload, 1) := by decide +kernel
theorem dX11_laneOf_43 : decode cX11_laneOf 43 = .ok (.ireturn, 1) := by decide +kernel
theorem dX11_shop_0 : decode cX11_shop 0 = .ok (.iload_n 1, 1) := by decide +kernel
theorem dX11_shop_1 : decode cX11_shop 1 = .ok (.iconst 1, 1) := by decide +kernel
theorem dX11_shop_2 : decode cX11_shop 2 = .ok (.invokestatic 86, 3) := by decide +kernel
theorem dX11_shop_5 : decode cX11_shop 5 = .ok (.ifCond .eq 21, 3) := by decide +kernel
theorem dX11_shop_8 : decode cX11_shop 8 = .ok (.iload_n 2, 1) := by decide +kernel
theorem dX11_shop_9 : decode cX11_shop 9 = .ok (.iload_n 1, 1) := by decide +kernel
theorem dX11_shop_10 : decode cX11_shop 10 = .ok (.ifCond .ne 8, 3) := by decide +kernel
theorem dX11_shop_13 : decode cX11_shop 13 = .ok (.bipush 9, 2) := by decide +kernel
theorem dX11_shop_15 : decode cX11_shop 15 = .ok (.goto 5, 3) := by decide +kernel
theorem dX11_shop_18 : decode cX11_shop 18 = .ok (.bipush 99, 2) := by decide +kernel
theorem dX11_shop_20 : decode cX11_shop 20 = .ok (.invokestatic 86, 3) := by decide +kernel
theorem dX11_shop_23 : decode cX11_shop 23 = .ok (.ifCond .ne 5, 3) := by decide +kernel
theorem dX11_shop_26 : decode cX11_shop 26 = .ok (.iconst (-1), 1) := by decide +kernel
theorem dX11_shop_27 : decode cX11_shop 27 = .ok (.ireturn, 1) := by decide +kernel
theorem dX11_shop_28 : decode cX11_shop 28 = .ok (.iload_n 1, 1) := by decide +kernel
theorem dX11_shop_29 : decode cX11_shop 29 = .ok (.ifCond .ne 13, 3) := by decide +kernel
theorem dX11_shop_32 : decode cX11_shop 32 = .ok (.aload_n 0, 1) := by decide +kernel
theorem dX11_shop_33 : decode cX11_shop 33 = .ok (.getfield 34, 3) := by decide +kernel
theorem dX11_shop_36 : decode cX11_shop 36 = .ok (.getfield 140, 3) := by decide +kernel
theorem dX11_shop_39 : decode cX11_shop 39 = .ok (.goto 10, 3) := by decide +kernel
theorem dX11_shop_42 : decode cX11_shop 42 = .ok (.aload_n 0, 1) := by decide +kernel
theorem dX11_shop_43 : decode cX11_shop 43 = .ok (.getfield 34, 3) := by decide +kernel
theorem dX11_shop_46 : decode cX11_shop 46 = .ok (.getfield 143, 3) := by decide +kernel
theorem dX11_shop_49 : decode cX11_shop 49 = .ok (.istore_n 3, 1) := by decide +kernel
theorem dX11_shop_50 : decode cX11_shop 50 = .ok (.iload_n 1, 1) := by decide +kernel
theorem dX11_shop_51 : decode cX11_shop 51 = .ok (.ifCond .ne 14, 3) := by decide +kernel
theorem dX11_shop_54 : decode cX11_shop 54 = .ok (.aload_n 0, 1) := by decide +kernel
theorem dX11_shop_55 : decode cX11_shop 55 = .ok (.getfield 34, 3) := by decide +kernel
theorem dX11_shop_58 : decode cX11_shop 58 = .ok (.iload_n 2, 1) := by decide +kernel
theorem dX11_shop_59 : decode cX11_shop 59 = .ok (.putfield 140, 3) := by decide +kernel
theorem dX11_shop_62 : decode cX11_shop 62 = .ok (.goto 11, 3) := by decide +kernel
theorem dX11_shop_65 : decode cX11_shop 65 = .ok (.aload_n 0, 1) := by decide +kernel
theorem dX11_shop_66 : decode cX11_shop 66 = .ok (.getfield 34, 3) := by decide +kernel
theorem dX11_shop_69 : decode cX11_shop 69 = .ok (.iload_n 2, 1) := by decide +kernel
theorem dX11_shop_70 : decode cX11_shop 70 = .ok (.putfield 143, 3) := by decide +kernel
theorem dX11_shop_73 : decode cX11_shop 73 = .ok (.iload_n 3, 1) := by decide +kernel
theorem dX11_shop_74 : decode cX11_shop 74 = .ok (.ireturn, 1) := by decide +kernel
theorem dX11_ends_0 : decode cX11_ends 0 = .ok (.iload_n 1, 1) := by decide +kernel
theorem dX11_ends_1 : decode cX11_ends 1 = .ok (.iconst 1, 1) := by decide +kernel
theorem dX11_ends_2 : decode cX11_ends 2 = .ok (.if_icmp .lt 9, 3) := by decide +kernel
theorem dX11_ends_5 : decode cX11_ends 5 = .ok (.iload_n 1, 1) := by decide +kernel
theorem dX11_ends_6 : decode cX11_ends 6 = .ok (.bipush 16, 2) := by decide +kernel
theorem dX11_ends_8 : decode cX11_ends 8 = .ok (.if_icmp .le 5, 3) := by decide +kernel
theorem dX11_ends_11 : decode cX11_ends 11 = .ok (.iconst (-1), 1) := by decide +kernel
theorem dX11_ends_12 : decode cX11_ends 12 = .ok (.ireturn, 1) := by decide +kernel
theorem dX11_ends_13 : decode cX11_ends 13 = .ok (.iload_n 1, 1) := by decide +kernel
theorem dX11_ends_14 : decode cX11_ends 14 = .ok (.aload_n 0, 1) := by decide +kernel
theorem dX11_ends_15 : decode cX11_ends 15 = .ok (.getfield 34, 3) := by decide +kernel
theorem dX11_ends_18 : decode cX11_ends 18 = .ok (.getfield 146, 3) := by decide +kernel
theorem dX11_ends_21 : decode cX11_ends 21 = .ok (.if_icmp .ge 6, 3) := by decide +kernel
theorem dX11_ends_24 : decode cX11_ends 24 = .ok (.bipush (-4), 2) := by decide +kernel
theorem dX11_ends_26 : decode cX11_ends 26 = .ok (.ireturn, 1) := by decide +kernel
theorem dX11_ends_27 : decode cX11_ends 27 = .ok (.aload_n 0, 1) := by decide +kernel
theorem dX11_ends_28 : decode cX11_ends 28 = .ok (.getfield 34, 3) := by decide +kernel
theorem dX11_ends_31 : decode cX11_ends 31 = .ok (.getfield 149, 3) := by decide +kernel
theorem dX11_ends_34 : decode cX11_ends 34 = .ok (.istore_n 2, 1) := by decide +kernel
theorem dX11_ends_35 : decode cX11_ends 35 = .ok (.aload_n 0, 1) := by decide +kernel
theorem dX11_ends_36 : decode cX11_ends 36 = .ok (.getfield 34, 3) := by decide +kernel
theorem dX11_ends_39 : decode cX11_ends 39 = .ok (.iload_n 1, 1) := by decide +kernel
theorem dX11_ends_40 : decode cX11_ends 40 = .ok (.putfield 149, 3) := by decide +kernel
theorem dX11_ends_43 : decode cX11_ends 43 = .ok (.iload_n 2, 1) := by decide +kernel
theorem dX11_ends_44 : decode cX11_ends 44 = .ok (.ireturn, 1) := by decide +kernel
theorem dX11_anew_0 : decode cX11_anew 0 = .ok (.aload_n 0, 1) := by decide +kernel
theorem dX11_anew_1 : decode cX11_anew 1 = .ok (.getfield 34, 3) := by decide +kernel
theorem dX11_anew_4 : decode cX11_anew 4 = .ok (.getfield 146, 3) := by decide +kernel
theorem dX11_anew_7 : decode cX11_anew 7 = .ok (.istore_n 1, 1) := by decide +kernel
theorem dX11_anew_8 : decode cX11_anew 8 = .ok (.aload_n 0, 1) := by decide +kernel
theorem dX11_anew_9 : decode cX11_anew 9 = .ok (.getfield 34, 3) := by decide +kernel
theorem dX11_anew_12 : decode cX11_anew 12 = .ok (.invokevirtual 152, 3) := by decide +kernel
theorem dX11_anew_15 : decode cX11_anew 15 = .ok (.iload_n 1, 1) := by decide +kernel
theorem dX11_anew_16 : decode cX11_anew 16 = .ok (.ireturn, 1) := by decide +kernel
theorem dX11_state_0 : decode cX11_state 0 = .ok (.iload_n 1, 1) := by decide +kernel
theorem dX11_state_1 : decode cX11_state 1 = .ok (.tableswitch 131 0 8 #[51, 59, 67, 75, 91, 99, 107, 115, 123], 51) := by decide +kernel
theorem dX11_state_52 : decode cX11_state 52 = .ok (.aload_n 0, 1) := by decide +kernel
theorem dX11_state_53 : decode cX11_state 53 = .ok (.getfield 34, 3) := by decide +kernel
theorem dX11_state_56 : decode cX11_state 56 = .ok (.getfield 146, 3) := by decide +kernel
theorem dX11_state_59 : decode cX11_state 59 = .ok (.ireturn, 1) := by decide +kernel
theorem dX11_state_60 : decode cX11_state 60 = .ok (.aload_n 0, 1) := by decide +kernel
theorem dX11_state_61 : decode cX11_state 61 = .ok (.getfield 34, 3) := by decide +kernel
theorem dX11_state_64 : decode cX11_state 64 = .ok (.getfield 149, 3) := by decide +kernel
theorem dX11_state_67 : decode cX11_state 67 = .ok (.ireturn, 1) := by decide +kernel
theorem dX11_state_68 : decode cX11_state 68 = .ok (.aload_n 0, 1) := by decide +kernel
theorem dX11_state_69 : decode cX11_state 69 = .ok (.getfield 34, 3) := by decide +kernel
theorem dX11_state_72 : decode cX11_state 72 = .ok (.getfield 155, 3) := by decide +kernel
theorem dX11_state_75 : decode cX11_state 75 = .ok (.ireturn, 1) := by decide +kernel
theorem dX11_state_76 : decode cX11_state 76 = .ok (.aload_n 0, 1) := by decide +kernel
theorem dX11_state_77 : decode cX11_state 77 = .ok (.getfield 34, 3) := by decide +kernel
theorem dX11_state_80 : decode cX11_state 80 = .ok (.invokevirtual 158, 3) := by decide +kernel
theorem dX11_state_83 : decode cX11_state 83 = .ok (.ifCond .eq 7, 3) := by decide +kernel
theorem dX11_state_86 : decode cX11_state 86 = .ok (.iconst 1, 1) := by decide +kernel
theorem dX11_state_87 : decode cX11_state 87 = .ok (.goto 4, 3) := by decide +kernel
theorem dX11_state_90 : decode cX11_state 90 = .ok (.iconst 0, 1) := by decide +kernel
theorem dX11_state_91 : decode cX11_state 91 = .ok (.ireturn, 1) := by decide +kernel
theorem dX11_state_92 : decode cX11_state 92 = .ok (.aload_n 0, 1) := by decide +kernel
theorem dX11_state_93 : decode cX11_state 93 = .ok (.getfield 34, 3) := by decide +kernel
theorem dX11_state_96 : decode cX11_state 96 = .ok (.invokevirtual 162, 3) := by decide +kernel
theorem dX11_state_99 : decode cX11_state 99 = .ok (.ireturn, 1) := by decide +kernel
theorem dX11_state_100 : decode cX11_state 100 = .ok (.aload_n 0, 1) := by decide +kernel
theorem dX11_state_101 : decode cX11_state 101 = .ok (.getfield 34, 3) := by decide +kernel
theorem dX11_state_104 : decode cX11_state 104 = .ok (.getfield 166, 3) := by decide +kernel
theorem dX11_state_107 : decode cX11_state 107 = .ok (.ireturn, 1) := by decide +kernel
theorem dX11_state_108 : decode cX11_state 108 = .ok (.aload_n 0, 1) := by decide +kernel
theorem dX11_state_109 : decode cX11_state 109 = .ok (.getfield 34, 3) := by decide +kernel
theorem dX11_state_112 : decode cX11_state 112 = .ok (.invokevirtual 169, 3) := by decide +kernel
theorem dX11_state_115 : decode cX11_state 115 = .ok (.ireturn, 1) := by decide +kernel
theorem dX11_state_116 : decode cX11_state 116 = .ok (.aload_n 0, 1) := by decide +kernel
theorem dX11_state_117 : decode cX11_state 117 = .ok (.getfield 34, 3) := by decide +kernel
theorem dX11_state_120 : decode cX11_state 120 = .ok (.getfield 140, 3) := by decide +kernel
theorem dX11_state_123 : decode cX11_state 123 = .ok (.ireturn, 1) := by decide +kernel
theorem dX11_state_124 : decode cX11_state 124 = .ok (.aload_n 0, 1) := by decide +kernel
theorem dX11_state_125 : decode cX11_state 125 = .ok (.getfield 34, 3) := by decide +kernel
theorem dX11_state_128 : decode cX11_state 128 = .ok (.getfield 143, 3) := by decide +kernel
theorem dX11_state_131 : decode cX11_state 131 = .ok (.ireturn, 1) := by decide +kernel
theorem dX11_state_132 : decode cX11_state 132 = .ok (.iconst (-1), 1) := by decide +kernel
theorem dX11_state_133 : decode cX11_state 133 = .ok (.ireturn, 1) := by decide +kernel
theorem dX11_feed_0 : decode cX11_feed 0 = .ok (.iload_n 3, 1) := by decide +kernel
theorem dX11_feed_1 : decode cX11_feed 1 = .ok (.iconst 1, 1) := by decide +kernel
theorem dX11_feed_2 : decode cX11_feed 2 = .ok (.if_icmp .lt 9, 3) := by decide +kernel
theorem dX11_feed_5 : decode cX11_feed 5 = .ok (.iload_n 3, 1) := by decide +kernel
theorem dX11_feed_6 : decode cX11_feed 6 = .ok (.bipush 8, 2) := by decide +kernel
theorem dX11_feed_8 : decode cX11_feed 8 = .ok (.if_icmp .le 5, 3) := by decide +kernel
theorem dX11_feed_11 : decode cX11_feed 11 = .ok (.iconst (-1), 1) := by decide +kernel
theorem dX11_feed_12 : decode cX11_feed 12 = .ok (.ireturn, 1) := by decide +kernel
theorem dX11_feed_13 : decode cX11_feed 13 = .ok (.aload_n 0, 1) := by decide +kernel
theorem dX11_feed_14 : decode cX11_feed 14 = .ok (.getfield 47, 3) := by decide +kernel
theorem dX11_feed_17 : decode cX11_feed 17 = .ok (.lload_n 1, 1) := by decide +kernel
theorem dX11_feed_18 : decode cX11_feed 18 = .ok (.iload_n 3, 1) := by decide +kernel
theorem dX11_feed_19 : decode cX11_feed 19 = .ok (.invokevirtual 172, 3) := by decide +kernel
theorem dX11_feed_22 : decode cX11_feed 22 = .ok (.ifCond .eq 13, 3) := by decide +kernel
theorem dX11_feed_25 : decode cX11_feed 25 = .ok (.aload_n 0, 1) := by decide +kernel
theorem dX11_feed_26 : decode cX11_feed 26 = .ok (.getfield 47, 3) := by decide +kernel
theorem dX11_feed_29 : decode cX11_feed 29 = .ok (.getfield 176, 3) := by decide +kernel
theorem dX11_feed_32 : decode cX11_feed 32 = .ok (.goto 5, 3) := by decide +kernel
theorem dX11_feed_35 : decode cX11_feed 35 = .ok (.bipush (-2), 2) := by decide +kernel
theorem dX11_feed_37 : decode cX11_feed 37 = .ok (.ireturn, 1) := by decide +kernel
theorem dX11_rules_0 : decode cX11_rules 0 = .ok (.aload_n 0, 1) := by decide +kernel
theorem dX11_rules_1 : decode cX11_rules 1 = .ok (.getfield 47, 3) := by decide +kernel
theorem dX11_rules_4 : decode cX11_rules 4 = .ok (.aload_n 0, 1) := by decide +kernel
theorem dX11_rules_5 : decode cX11_rules 5 = .ok (.getfield 34, 3) := by decide +kernel
theorem dX11_rules_8 : decode cX11_rules 8 = .ok (.getfield 179, 3) := by decide +kernel
theorem dX11_rules_11 : decode cX11_rules 11 = .ok (.invokevirtual 183, 3) := by decide +kernel
theorem dX11_rules_14 : decode cX11_rules 14 = .ok (.ireturn, 1) := by decide +kernel
theorem dX11_night_0 : decode cX11_night 0 = .ok (.aload_n 0, 1) := by decide +kernel
theorem dX11_night_1 : decode cX11_night 1 = .ok (.getfield 34, 3) := by decide +kernel
theorem dX11_night_4 : decode cX11_night 4 = .ok (.invokevirtual 158, 3) := by decide +kernel
theorem dX11_night_7 : decode cX11_night 7 = .ok (.ifCond .eq 6, 3) := by decide +kernel
theorem dX11_night_10 : decode cX11_night 10 = .ok (.bipush (-4), 2) := by decide +kernel
theorem dX11_night_12 : decode cX11_night 12 = .ok (.ireturn, 1) := by decide +kernel
theorem dX11_night_13 : decode cX11_night 13 = .ok (.aload_n 0, 1) := by decide +kernel
theorem dX11_night_14 : decode cX11_night 14 = .ok (.getfield 34, 3) := by decide +kernel
theorem dX11_night_17 : decode cX11_night 17 = .ok (.iconst (-1), 1) := by decide +kernel
theorem dX11_night_18 : decode cX11_night 18 = .ok (.invokevirtual 187, 3) := by decide +kernel
theorem dX11_night_21 : decode cX11_night 21 = .ok (.istore_n 1, 1) := by decide +kernel
theorem dX11_night_22 : decode cX11_night 22 = .ok (.aload_n 0, 1) := by decide +kernel
theorem dX11_night_23 : decode cX11_night 23 = .ok (.getfield 34, 3) := by decide +kernel
theorem dX11_night_26 : decode cX11_night 26 = .ok (.dup, 1) := by decide +kernel
theorem dX11_night_27 : decode cX11_night 27 = .ok (.getfield 155, 3) := by decide +kernel
theorem dX11_night_30 : decode cX11_night 30 = .ok (.iload_n 1, 1) := by decide +kernel
theorem dX11_night_31 : decode cX11_night 31 = .ok (.iadd, 1) := by decide +kernel
theorem dX11_night_32 : decode cX11_night 32 = .ok (.putfield 155, 3) := by decide +kernel
theorem dX11_night_35 : decode cX11_night 35 = .ok (.iload_n 1, 1) := by decide +kernel
theorem dX11_night_36 : decode cX11_night 36 = .ok (.ireturn, 1) := by decide +kernel
theorem dX11_on_0 : decode cX11_on 0 = .ok (.iload_n 1, 1) := by decide +kernel
theorem dX11_on_1 : decode cX11_on 1 = .ok (.bipush 16, 2) := by decide +kernel
theorem dX11_on_3 : decode cX11_on 3 = .ok (.invokestatic 86, 3) := by decide +kernel
theorem dX11_on_6 : decode cX11_on 6 = .ok (.ifCond .ne 5, 3) := by decide +kernel
theorem dX11_on_9 : decode cX11_on 9 = .ok (.iconst (-1), 1) := by decide +kernel
theorem dX11_on_10 : decode cX11_on 10 = .ok (.ireturn, 1) := by decide +kernel
theorem dX11_on_11 : decode cX11_on 11 = .ok (.aload_n 0, 1) := by decide +kernel
theorem dX11_on_12 : decode cX11_on 12 = .ok (.invokevirtual 190, 3) := by decide +kernel
theorem dX11_on_15 : decode cX11_on 15 = .ok (.iload_n 1, 1) := by decide +kernel
theorem dX11_on_16 : decode cX11_on 16 = .ok (.invokevirtual 194, 3) := by decide +kernel
theorem dX11_on_19 : decode cX11_on 19 = .ok (.ireturn, 1) := by decide +kernel
theorem dX11_when_0 : decode cX11_when 0 = .ok (.aload_n 0, 1) := by decide +kernel
theorem dX11_when_1 : decode cX11_when 1 = .ok (.getfield 34, 3) := by decide +kernel
theorem dX11_when_4 : decode cX11_when 4 = .ok (.iload_n 1, 1) := by decide +kernel
theorem dX11_when_5 : decode cX11_when 5 = .ok (.invokevirtual 98, 3) := by decide +kernel
theorem dX11_when_8 : decode cX11_when 8 = .ok (.ifCond .ne 5, 3) := by decide +kernel
theorem dX11_when_11 : decode cX11_when 11 = .ok (.iconst (-1), 1) := by decide +kernel
theorem dX11_when_12 : decode cX11_when 12 = .ok (.ireturn, 1) := by decide +kernel
theorem dX11_when_13 : decode cX11_when 13 = .ok (.aload_n 0, 1) := by decide +kernel
theorem dX11_when_14 : decode cX11_when 14 = .ok (.getfield 34, 3) := by decide +kernel
theorem dX11_when_17 : decode cX11_when 17 = .ok (.iload_n 1, 1) := by decide +kernel
theorem dX11_when_18 : decode cX11_when 18 = .ok (.invokevirtual 197, 3) := by decide +kernel
theorem dX11_when_21 : decode cX11_when 21 = .ok (.ifCond .eq 6, 3) := by decide +kernel
theorem dX11_when_24 : decode cX11_when 24 = .ok (.bipush (-3), 2) := by decide +kernel
theorem dX11_when_26 : decode cX11_when 26 = .ok (.ireturn, 1) := by decide +kernel
theorem dX11_when_27 : decode cX11_when 27 = .ok (.aload_n 0, 1) := by decide +kernel
theorem dX11_when_28 : decode cX11_when 28 = .ok (.invokevirtual 190, 3) := by decide +kernel
theorem dX11_when_31 : decode cX11_when 31 = .ok (.astore_n 2, 1) := by decide +kernel
theorem dX11_when_32 : decode cX11_when 32 = .ok (.iconst 0, 1) := by decide +kernel
theorem dX11_when_33 : decode cX11_when 33 = .ok (.istore_n 3, 1) := by decide +kernel
theorem dX11_when_34 : decode cX11_when 34 = .ok (.iload_n 3, 1) := by decide +kernel
theorem dX11_when_35 : decode cX11_when 35 = .ok (.bipush 16, 2) := by decide +kernel
theorem dX11_when_37 : decode cX11_when 37 = .ok (.if_icmp .ge 37, 3) := by decide +kernel
theorem dX11_when_40 : decode cX11_when 40 = .ok (.aload_n 2, 1) := by decide +kernel
theorem dX11_when_41 : decode cX11_when 41 = .ok (.invokevirtual 158, 3) := by decide +kernel
theorem dX11_when_44 : decode cX11_when 44 = .ok (.ifCond .ne 30, 3) := by decide +kernel
theorem dX11_when_47 : decode cX11_when 47 = .ok (.aload_n 2, 1) := by decide +kernel
theorem dX11_when_48 : decode cX11_when 48 = .ok (.iconst (-1), 1) := by decide +kernel
theorem dX11_when_49 : decode cX11_when 49 = .ok (.invokevirtual 187, 3) := by decide +kernel
theorem dX11_when_52 : decode cX11_when 52 = .ok (.pop, 1) := by decide +kernel
theorem dX11_when_53 : decode cX11_when 53 = .ok (.aload_n 2, 1) := by decide +kernel
theorem dX11_when_54 : decode cX11_when 54 = .ok (.iload_n 1, 1) := by decide +kernel
theorem dX11_when_55 : decode cX11_when 55 = .ok (.invokevirtual 197, 3) := by decide +kernel
theorem dX11_when_58 : decode cX11_when 58 = .ok (.ifCond .eq 10, 3) := by decide +kernel
theorem dX11_when_61 : decode cX11_when 61 = .ok (.aload_n 2, 1) := by decide +kernel
theorem dX11_when_62 : decode cX11_when 62 = .ok (.getfield 146, 3) := by decide +kernel
theorem dX11_when_65 : decode cX11_when 65 = .ok (.iconst 1, 1) := by decide +kernel
theorem dX11_when_66 : decode cX11_when 66 = .ok (.isub, 1) := by decide +kernel
theorem dX11_when_67 : decode cX11_when 67 = .ok (.ireturn, 1) := by decide +kernel
theorem dX11_when_68 : decode cX11_when 68 = .ok (.iinc 3 1, 3) := by decide +kernel
theorem dX11_when_71 : decode cX11_when 71 = .ok (.goto (-37), 3) := by decide +kernel
theorem dX11_when_74 : decode cX11_when 74 = .ok (.bipush (-3), 2) := by decide +kernel
theorem dX11_when_76 : decode cX11_when 76 = .ok (.ireturn, 1) := by decide +kernel
theorem dX11_griefFor_0 : decode cX11_griefFor 0 = .ok (.aload_n 0, 1) := by decide +kernel
theorem dX11_griefFor_1 : decode cX11_griefFor 1 = .ok (.getfield 34, 3) := by decide +kernel
theorem dX11_griefFor_4 : decode cX11_griefFor 4 = .ok (.iload_n 1, 1) := by decide +kernel
theorem dX11_griefFor_5 : decode cX11_griefFor 5 = .ok (.invokevirtual 98, 3) := by decide +kernel
theorem dX11_griefFor_8 : decode cX11_griefFor 8 = .ok (.ifCond .eq 12, 3) := by decide +kernel
theorem dX11_griefFor_11 : decode cX11_griefFor 11 = .ok (.aload_n 0, 1) := by decide +kernel
theorem dX11_griefFor_12 : decode cX11_griefFor 12 = .ok (.iload_n 1, 1) := by decide +kernel
theorem dX11_griefFor_13 : decode cX11_griefFor 13 = .ok (.iconst 2, 1) := by decide +kernel
theorem dX11_griefFor_14 : decode cX11_griefFor 14 = .ok (.invokevirtual 200, 3) := by decide +kernel
theorem dX11_griefFor_17 : decode cX11_griefFor 17 = .ok (.goto 4, 3) := by decide +kernel
theorem dX11_griefFor_20 : decode cX11_griefFor 20 = .ok (.iconst (-1), 1) := by decide +kernel
theorem dX11_griefFor_21 : decode cX11_griefFor 21 = .ok (.ireturn, 1) := by decide +kernel
theorem dX11_laneFor_0 : decode cX11_laneFor 0 = .ok (.aload_n 0, 1) := by decide +kernel
theorem dX11_laneFor_1 : decode cX11_laneFor 1 = .ok (.getfield 34, 3) := by decide +kernel
theorem dX11_laneFor_4 : decode cX11_laneFor 4 = .ok (.iload_n 1, 1) := by decide +kernel
theorem dX11_laneFor_5 : decode cX11_laneFor 5 = .ok (.invokevirtual 98, 3) := by decide +kernel
theorem dX11_laneFor_8 : decode cX11_laneFor 8 = .ok (.ifCond .eq 12, 3) := by decide +kernel
theorem dX11_laneFor_11 : decode cX11_laneFor 11 = .ok (.aload_n 0, 1) := by decide +kernel
theorem dX11_laneFor_12 : decode cX11_laneFor 12 = .ok (.iload_n 1, 1) := by decide +kernel
theorem dX11_laneFor_13 : decode cX11_laneFor 13 = .ok (.iconst 3, 1) := by decide +kernel
theorem dX11_laneFor_14 : decode cX11_laneFor 14 = .ok (.invokevirtual 200, 3) := by decide +kernel
theorem dX11_laneFor_17 : decode cX11_laneFor 17 = .ok (.goto 4, 3) := by decide +kernel
theorem dX11_laneFor_20 : decode cX11_laneFor 20 = .ok (.iconst (-1), 1) := by decide +kernel
theorem dX11_laneFor_21 : decode cX11_laneFor 21 = .ok (.ireturn, 1) := by decide +kernel
theorem dX11_worthMost_0 : decode cX11_worthMost 0 = .ok (.iconst (-1), 1) := by decide +kernel
theorem dX11_worthMost_1 : decode cX11_worthMost 1 = .ok (.istore_n 3, 1) := by decide +kernel
theorem dX11_worthMost_2 : decode cX11_worthMost 2 = .ok (.iconst 0, 1) := by decide +kernel
theorem dX11_worthMost_3 : decode cX11_worthMost 3 = .ok (.istore 4, 2) := by decide +kernel
theorem dX11_worthMost_5 : decode cX11_worthMost 5 = .ok (.iconst 0, 1) := by decide +kernel
theorem dX11_worthMost_6 : decode cX11_worthMost 6 = .ok (.istore 5, 2) := by decide +kernel
theorem dX11_worthMost_8 : decode cX11_worthMost 8 = .ok (.iload 5, 2) := by decide +kernel
theorem dX11_worthMost_10 : decode cX11_worthMost 10 = .ok (.iload_n 2, 1) := by decide +kernel
theorem dX11_worthMost_11 : decode cX11_worthMost 11 = .ok (.invokestatic 114, 3) := by decide +kernel
theorem dX11_worthMost_14 : decode cX11_worthMost 14 = .ok (.if_icmp .gt 46, 3) := by decide +kernel
theorem dX11_worthMost_17 : decode cX11_worthMost 17 = .ok (.aload_n 0, 1) := by decide +kernel
theorem dX11_worthMost_18 : decode cX11_worthMost 18 = .ok (.invokevirtual 190, 3) := by decide +kernel
theorem dX11_worthMost_21 : decode cX11_worthMost 21 = .ok (.astore 6, 2) := by decide +kernel
theorem dX11_worthMost_23 : decode cX11_worthMost 23 = .ok (.aload 6, 2) := by decide +kernel
theorem dX11_worthMost_25 : decode cX11_worthMost 25 = .ok (.iload_n 1, 1) := by decide +kernel
theorem dX11_worthMost_26 : decode cX11_worthMost 26 = .ok (.iload_n 2, 1) := by decide +kernel
theorem dX11_worthMost_27 : decode cX11_worthMost 27 = .ok (.iload 5, 2) := by decide +kernel
theorem dX11_worthMost_29 : decode cX11_worthMost 29 = .ok (.invokevirtual 121, 3) := by decide +kernel
theorem dX11_worthMost_32 : decode cX11_worthMost 32 = .ok (.aload 6, 2) := by decide +kernel
theorem dX11_worthMost_34 : decode cX11_worthMost 34 = .ok (.bipush 16, 2) := by decide +kernel
theorem dX11_worthMost_36 : decode cX11_worthMost 36 = .ok (.invokevirtual 194, 3) := by decide +kernel
theorem dX11_worthMost_39 : decode cX11_worthMost 39 = .ok (.istore 7, 2) := by decide +kernel
theorem dX11_worthMost_41 : decode cX11_worthMost 41 = .ok (.iload 7, 2) := by decide +kernel
theorem dX11_worthMost_43 : decode cX11_worthMost 43 = .ok (.iload_n 3, 1) := by decide +kernel
theorem dX11_worthMost_44 : decode cX11_worthMost 44 = .ok (.if_icmp .le 10, 3) := by decide +kernel
theorem dX11_worthMost_47 : decode cX11_worthMost 47 = .ok (.iload 7, 2) := by decide +kernel
theorem dX11_worthMost_49 : decode cX11_worthMost 49 = .ok (.istore_n 3, 1) := by decide +kernel
theorem dX11_worthMost_50 : decode cX11_worthMost 50 = .ok (.iload 5, 2) := by decide +kernel
theorem dX11_worthMost_52 : decode cX11_worthMost 52 = .ok (.istore 4, 2) := by decide +kernel
theorem dX11_worthMost_54 : decode cX11_worthMost 54 = .ok (.iinc 5 1, 3) := by decide +kernel
theorem dX11_worthMost_57 : decode cX11_worthMost 57 = .ok (.goto (-49), 3) := by decide +kernel
theorem dX11_worthMost_60 : decode cX11_worthMost 60 = .ok (.iload 4, 2) := by decide +kernel
theorem dX11_worthMost_62 : decode cX11_worthMost 62 = .ok (.ireturn, 1) := by decide +kernel
theorem dX11_full_0 : decode cX11_full 0 = .ok (.iload_n 1, 1) := by decide +kernel
theorem dX11_full_1 : decode cX11_full 1 = .ok (.bipush 99, 2) := by decide +kernel
theorem dX11_full_3 : decode cX11_full 3 = .ok (.invokestatic 86, 3) := by decide +kernel
theorem dX11_full_6 : decode cX11_full 6 = .ok (.ifCond .ne 5, 3) := by decide +kernel
theorem dX11_full_9 : decode cX11_full 9 = .ok (.iconst (-1), 1) := by decide +kernel
theorem dX11_full_10 : decode cX11_full 10 = .ok (.ireturn, 1) := by decide +kernel
theorem dX11_full_11 : decode cX11_full 11 = .ok (.aload_n 0, 1) := by decide +kernel
theorem dX11_full_12 : decode cX11_full 12 = .ok (.invokevirtual 190, 3) := by decide +kernel
theorem dX11_full_15 : decode cX11_full 15 = .ok (.astore_n 2, 1) := by decide +kernel
theorem dX11_full_16 : decode cX11_full 16 = .ok (.iconst 0, 1) := by decide +kernel
theorem dX11_full_17 : decode cX11_full 17 = .ok (.istore_n 3, 1) := by decide +kernel
theorem dX11_full_18 : decode cX11_full 18 = .ok (.iload_n 3, 1) := by decide +kernel
theorem dX11_full_19 : decode cX11_full 19 = .ok (.bipush 16, 2) := by decide +kernel
theorem dX11_full_21 : decode cX11_full 21 = .ok (.if_icmp .ge 37, 3) := by decide +kernel
theorem dX11_full_24 : decode cX11_full 24 = .ok (.aload_n 2, 1) := by decide +kernel
theorem dX11_full_25 : decode cX11_full 25 = .ok (.invokevirtual 158, 3) := by decide +kernel
theorem dX11_full_28 : decode cX11_full 28 = .ok (.ifCond .ne 30, 3) := by decide +kernel
theorem dX11_full_31 : decode cX11_full 31 = .ok (.aload_n 2, 1) := by decide +kernel
theorem dX11_full_32 : decode cX11_full 32 = .ok (.iconst (-1), 1) := by decide +kernel
theorem dX11_full_33 : decode cX11_full 33 = .ok (.invokevirtual 187, 3) := by decide +kernel
theorem dX11_full_36 : decode cX11_full 36 = .ok (.pop, 1) := by decide +kernel
theorem dX11_full_37 : decode cX11_full 37 = .ok (.aload_n 2, 1) := by decide +kernel
theorem dX11_full_38 : decode cX11_full 38 = .ok (.getfield 143, 3) := by decide +kernel
theorem dX11_full_41 : decode cX11_full 41 = .ok (.iload_n 1, 1) := by decide +kernel
theorem dX11_full_42 : decode cX11_full 42 = .ok (.if_icmp .lt 10, 3) := by decide +kernel
theorem dX11_full_45 : decode cX11_full 45 = .ok (.aload_n 2, 1) := by decide +kernel
theorem dX11_full_46 : decode cX11_full 46 = .ok (.getfield 146, 3) := by decide +kernel
theorem dX11_full_49 : decode cX11_full 49 = .ok (.iconst 1, 1) := by decide +kernel
theorem dX11_full_50 : decode cX11_full 50 = .ok (.isub, 1) := by decide +kernel
theorem dX11_full_51 : decode cX11_full 51 = .ok (.ireturn, 1) := by decide +kernel
theorem dX11_full_52 : decode cX11_full 52 = .ok (.iinc 3 1, 3) := by decide +kernel
theorem dX11_full_55 : decode cX11_full 55 = .ok (.goto (-37), 3) := by decide +kernel
theorem dX11_full_58 : decode cX11_full 58 = .ok (.bipush (-3), 2) := by decide +kernel
theorem dX11_full_60 : decode cX11_full 60 = .ok (.ireturn, 1) := by decide +kernel
theorem dX11_bare_0 : decode cX11_bare 0 = .ok (.iload_n 1, 1) := by decide +kernel
theorem dX11_bare_1 : decode cX11_bare 1 = .ok (.iconst 1, 1) := by decide +kernel
theorem dX11_bare_2 : decode cX11_bare 2 = .ok (.invokestatic 86, 3) := by decide +kernel
theorem dX11_bare_5 : decode cX11_bare 5 = .ok (.ifCond .ne 5, 3) := by decide +kernel
theorem dX11_bare_8 : decode cX11_bare 8 = .ok (.iconst (-1), 1) := by decide +kernel
theorem dX11_bare_9 : decode cX11_bare 9 = .ok (.ireturn, 1) := by decide +kernel
theorem dX11_bare_10 : decode cX11_bare 10 = .ok (.aload_n 0, 1) := by decide +kernel
theorem dX11_bare_11 : decode cX11_bare 11 = .ok (.invokevirtual 190, 3) := by decide +kernel
theorem dX11_bare_14 : decode cX11_bare 14 = .ok (.astore_n 2, 1) := by decide +kernel
theorem dX11_bare_15 : decode cX11_bare 15 = .ok (.iconst 0, 1) := by decide +kernel
theorem dX11_bare_16 : decode cX11_bare 16 = .ok (.istore_n 3, 1) := by decide +kernel
theorem dX11_bare_17 : decode cX11_bare 17 = .ok (.iconst 0, 1) := by decide +kernel
theorem dX11_bare_18 : decode cX11_bare 18 = .ok (.istore 4, 2) := by decide +kernel
theorem dX11_bare_20 : decode cX11_bare 20 = .ok (.iload 4, 2) := by decide +kernel
theorem dX11_bare_22 : decode cX11_bare 22 = .ok (.bipush 16, 2) := by decide +kernel
theorem dX11_bare_24 : decode cX11_bare 24 = .ok (.if_icmp .ge 45, 3) := by decide +kernel
theorem dX11_bare_27 : decode cX11_bare 27 = .ok (.aload_n 2, 1) := by decide +kernel
theorem dX11_bare_28 : decode cX11_bare 28 = .ok (.invokevirtual 158, 3) := by decide +kernel
theorem dX11_bare_31 : decode cX11_bare 31 = .ok (.ifCond .ne 38, 3) := by decide +kernel
