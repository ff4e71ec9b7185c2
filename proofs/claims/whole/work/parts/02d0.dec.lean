theorem dX0_knocks_0 : decode cX0_knocks 0 = .ok (.aload_n 0, 1) := by decide +kernel
theorem dX0_knocks_1 : decode cX0_knocks 1 = .ok (.bipush 20, 2) := by decide +kernel
theorem dX0_knocks_3 : decode cX0_knocks 3 = .ok (.invokevirtual 7, 3) := by decide +kernel
theorem dX0_knocks_6 : decode cX0_knocks 6 = .ok (.aload_n 0, 1) := by decide +kernel
theorem dX0_knocks_7 : decode cX0_knocks 7 = .ok (.iload_n 1, 1) := by decide +kernel
theorem dX0_knocks_8 : decode cX0_knocks 8 = .ok (.invokespecial 13, 3) := by decide +kernel
theorem dX0_knocks_11 : decode cX0_knocks 11 = .ok (.bipush 13, 2) := by decide +kernel
theorem dX0_knocks_13 : decode cX0_knocks 13 = .ok (.iadd, 1) := by decide +kernel
theorem dX0_knocks_14 : decode cX0_knocks 14 = .ok (.ireturn, 1) := by decide +kernel
theorem dX1_counts_0 : decode cX1_counts 0 = .ok (.aload_n 0, 1) := by decide +kernel
theorem dX1_counts_1 : decode cX1_counts 1 = .ok (.bipush 40, 2) := by decide +kernel
theorem dX1_counts_3 : decode cX1_counts 3 = .ok (.invokevirtual 7, 3) := by decide +kernel
theorem dX1_counts_6 : decode cX1_counts 6 = .ok (.aload_n 0, 1) := by decide +kernel
theorem dX1_counts_7 : decode cX1_counts 7 = .ok (.iload_n 1, 1) := by decide +kernel
theorem dX1_counts_8 : decode cX1_counts 8 = .ok (.invokespecial 13, 3) := by decide +kernel
theorem dX1_counts_11 : decode cX1_counts 11 = .ok (.iconst 1, 1) := by decide +kernel
theorem dX1_counts_12 : decode cX1_counts 12 = .ok (.isub, 1) := by decide +kernel
theorem dX1_counts_13 : decode cX1_counts 13 = .ok (.ireturn, 1) := by decide +kernel
theorem dX2_become_0 : decode cX2_become 0 = .ok (.aload_n 0, 1) := by decide +kernel
theorem dX2_become_1 : decode cX2_become 1 = .ok (.iload_n 1, 1) := by decide +kernel
theorem dX2_become_2 : decode cX2_become 2 = .ok (.putfield 15, 3) := by decide +kernel
theorem dX2_become_5 : decode cX2_become 5 = .ok (.aload_n 0, 1) := by decide +kernel
theorem dX2_become_6 : decode cX2_become 6 = .ok (.iload_n 2, 1) := by decide +kernel
theorem dX2_become_7 : decode cX2_become 7 = .ok (.putfield 19, 3) := by decide +kernel
theorem dX2_become_10 : decode cX2_become 10 = .ok (.aload_n 0, 1) := by decide +kernel
theorem dX2_become_11 : decode cX2_become 11 = .ok (.iconst 0, 1) := by decide +kernel
theorem dX2_become_12 : decode cX2_become 12 = .ok (.putfield 22, 3) := by decide +kernel
theorem dX2_become_15 : decode cX2_become 15 = .ok (.aload_n 0, 1) := by decide +kernel
theorem dX2_become_16 : decode cX2_become 16 = .ok (.iconst 0, 1) := by decide +kernel
theorem dX2_become_17 : decode cX2_become 17 = .ok (.putfield 25, 3) := by decide +kernel
theorem dX2_become_20 : decode cX2_become 20 = .ok (.return_, 1) := by decide +kernel
theorem dX2_begin_0 : decode cX2_begin 0 = .ok (.aload_n 0, 1) := by decide +kernel
theorem dX2_begin_1 : decode cX2_begin 1 = .ok (.getfield 25, 3) := by decide +kernel
theorem dX2_begin_4 : decode cX2_begin 4 = .ok (.ifCond .ne 32, 3) := by decide +kernel
theorem dX2_begin_7 : decode cX2_begin 7 = .ok (.aload_n 0, 1) := by decide +kernel
theorem dX2_begin_8 : decode cX2_begin 8 = .ok (.getfield 22, 3) := by decide +kernel
theorem dX2_begin_11 : decode cX2_begin 11 = .ok (.bipush 30, 2) := by decide +kernel
theorem dX2_begin_13 : decode cX2_begin 13 = .ok (.if_icmp .ge 23, 3) := by decide +kernel
theorem dX2_begin_16 : decode cX2_begin 16 = .ok (.aload_n 0, 1) := by decide +kernel
theorem dX2_begin_17 : decode cX2_begin 17 = .ok (.getfield 9, 3) := by decide +kernel
theorem dX2_begin_20 : decode cX2_begin 20 = .ok (.aload_n 0, 1) := by decide +kernel
theorem dX2_begin_21 : decode cX2_begin 21 = .ok (.getfield 22, 3) := by decide +kernel
theorem dX2_begin_24 : decode cX2_begin 24 = .ok (.iload_n 1, 1) := by decide +kernel
theorem dX2_begin_25 : decode cX2_begin 25 = .ok (.iastore, 1) := by decide +kernel
theorem dX2_begin_26 : decode cX2_begin 26 = .ok (.aload_n 0, 1) := by decide +kernel
theorem dX2_begin_27 : decode cX2_begin 27 = .ok (.dup, 1) := by decide +kernel
theorem dX2_begin_28 : decode cX2_begin 28 = .ok (.getfield 22, 3) := by decide +kernel
theorem dX2_begin_31 : decode cX2_begin 31 = .ok (.iconst 1, 1) := by decide +kernel
theorem dX2_begin_32 : decode cX2_begin 32 = .ok (.iadd, 1) := by decide +kernel
theorem dX2_begin_33 : decode cX2_begin 33 = .ok (.putfield 22, 3) := by decide +kernel
theorem dX2_begin_36 : decode cX2_begin 36 = .ok (.return_, 1) := by decide +kernel
theorem dX2_knocks_0 : decode cX2_knocks 0 = .ok (.aload_n 0, 1) := by decide +kernel
theorem dX2_knocks_1 : decode cX2_knocks 1 = .ok (.bipush 10, 2) := by decide +kernel
theorem dX2_knocks_3 : decode cX2_knocks 3 = .ok (.invokevirtual 29, 3) := by decide +kernel
theorem dX2_knocks_6 : decode cX2_knocks 6 = .ok (.iload_n 1, 1) := by decide +kernel
theorem dX2_knocks_7 : decode cX2_knocks 7 = .ok (.iconst 2, 1) := by decide +kernel
theorem dX2_knocks_8 : decode cX2_knocks 8 = .ok (.aload_n 0, 1) := by decide +kernel
theorem dX2_knocks_9 : decode cX2_knocks 9 = .ok (.getfield 15, 3) := by decide +kernel
theorem dX2_knocks_12 : decode cX2_knocks 12 = .ok (.imul, 1) := by decide +kernel
theorem dX2_knocks_13 : decode cX2_knocks 13 = .ok (.isub, 1) := by decide +kernel
theorem dX2_knocks_14 : decode cX2_knocks 14 = .ok (.ireturn, 1) := by decide +kernel
theorem dX2_waits_0 : decode cX2_waits 0 = .ok (.aload_n 0, 1) := by decide +kernel
theorem dX2_waits_1 : decode cX2_waits 1 = .ok (.bipush 11, 2) := by decide +kernel
theorem dX2_waits_3 : decode cX2_waits 3 = .ok (.invokevirtual 29, 3) := by decide +kernel
theorem dX2_waits_6 : decode cX2_waits 6 = .ok (.aload_n 0, 1) := by decide +kernel
theorem dX2_waits_7 : decode cX2_waits 7 = .ok (.iload_n 1, 1) := by decide +kernel
theorem dX2_waits_8 : decode cX2_waits 8 = .ok (.invokevirtual 33, 3) := by decide +kernel
theorem dX2_waits_11 : decode cX2_waits 11 = .ok (.aload_n 0, 1) := by decide +kernel
theorem dX2_waits_12 : decode cX2_waits 12 = .ok (.getfield 19, 3) := by decide +kernel
theorem dX2_waits_15 : decode cX2_waits 15 = .ok (.ixor, 1) := by decide +kernel
theorem dX2_waits_16 : decode cX2_waits 16 = .ok (.ireturn, 1) := by decide +kernel
theorem dX2_counts_0 : decode cX2_counts 0 = .ok (.aload_n 0, 1) := by decide +kernel
theorem dX2_counts_1 : decode cX2_counts 1 = .ok (.bipush 12, 2) := by decide +kernel
theorem dX2_counts_3 : decode cX2_counts 3 = .ok (.invokevirtual 29, 3) := by decide +kernel
theorem dX2_counts_6 : decode cX2_counts 6 = .ok (.iconst 2, 1) := by decide +kernel
theorem dX2_counts_7 : decode cX2_counts 7 = .ok (.aload_n 0, 1) := by decide +kernel
theorem dX2_counts_8 : decode cX2_counts 8 = .ok (.getfield 15, 3) := by decide +kernel
theorem dX2_counts_11 : decode cX2_counts 11 = .ok (.imul, 1) := by decide +kernel
theorem dX2_counts_12 : decode cX2_counts 12 = .ok (.aload_n 0, 1) := by decide +kernel
theorem dX2_counts_13 : decode cX2_counts 13 = .ok (.getfield 19, 3) := by decide +kernel
theorem dX2_counts_16 : decode cX2_counts 16 = .ok (.isub, 1) := by decide +kernel
theorem dX2_counts_17 : decode cX2_counts 17 = .ok (.istore_n 2, 1) := by decide +kernel
theorem dX2_counts_18 : decode cX2_counts 18 = .ok (.iload_n 2, 1) := by decide +kernel
theorem dX2_counts_19 : decode cX2_counts 19 = .ok (.ifCond .ne 10, 3) := by decide +kernel
theorem dX2_counts_22 : decode cX2_counts 22 = .ok (.aload_n 0, 1) := by decide +kernel
theorem dX2_counts_23 : decode cX2_counts 23 = .ok (.iconst 1, 1) := by decide +kernel
theorem dX2_counts_24 : decode cX2_counts 24 = .ok (.putfield 25, 3) := by decide +kernel
theorem dX2_counts_27 : decode cX2_counts 27 = .ok (.iconst 0, 1) := by decide +kernel
theorem dX2_counts_28 : decode cX2_counts 28 = .ok (.ireturn, 1) := by decide +kernel
theorem dX2_counts_29 : decode cX2_counts 29 = .ok (.iload_n 1, 1) := by decide +kernel
theorem dX2_counts_30 : decode cX2_counts 30 = .ok (.iload_n 2, 1) := by decide +kernel
theorem dX2_counts_31 : decode cX2_counts 31 = .ok (.irem, 1) := by decide +kernel
theorem dX2_counts_32 : decode cX2_counts 32 = .ok (.ireturn, 1) := by decide +kernel
theorem dX2_sits_0 : decode cX2_sits 0 = .ok (.aload_n 0, 1) := by decide +kernel
theorem dX2_sits_1 : decode cX2_sits 1 = .ok (.bipush 13, 2) := by decide +kernel
theorem dX2_sits_3 : decode cX2_sits 3 = .ok (.invokevirtual 29, 3) := by decide +kernel
theorem dX2_sits_6 : decode cX2_sits 6 = .ok (.aload_n 0, 1) := by decide +kernel
theorem dX2_sits_7 : decode cX2_sits 7 = .ok (.iload_n 1, 1) := by decide +kernel
theorem dX2_sits_8 : decode cX2_sits 8 = .ok (.invokevirtual 37, 3) := by decide +kernel
theorem dX2_sits_11 : decode cX2_sits 11 = .ok (.istore_n 2, 1) := by decide +kernel
theorem dX2_sits_12 : decode cX2_sits 12 = .ok (.iload_n 2, 1) := by decide +kernel
theorem dX2_sits_13 : decode cX2_sits 13 = .ok (.iconst 2, 1) := by decide +kernel
theorem dX2_sits_14 : decode cX2_sits 14 = .ok (.aload_n 0, 1) := by decide +kernel
theorem dX2_sits_15 : decode cX2_sits 15 = .ok (.iload_n 1, 1) := by decide +kernel
theorem dX2_sits_16 : decode cX2_sits 16 = .ok (.invokevirtual 40, 3) := by decide +kernel
theorem dX2_sits_19 : decode cX2_sits 19 = .ok (.imul, 1) := by decide +kernel
theorem dX2_sits_20 : decode cX2_sits 20 = .ok (.iadd, 1) := by decide +kernel
theorem dX2_sits_21 : decode cX2_sits 21 = .ok (.ireturn, 1) := by decide +kernel
theorem dX3_waits_0 : decode cX3_waits 0 = .ok (.aload_n 0, 1) := by decide +kernel
theorem dX3_waits_1 : decode cX3_waits 1 = .ok (.bipush 60, 2) := by decide +kernel
theorem dX3_waits_3 : decode cX3_waits 3 = .ok (.invokevirtual 7, 3) := by decide +kernel
theorem dX3_waits_6 : decode cX3_waits 6 = .ok (.aload_n 0, 1) := by decide +kernel
theorem dX3_waits_7 : decode cX3_waits 7 = .ok (.iload_n 1, 1) := by decide +kernel
theorem dX3_waits_8 : decode cX3_waits 8 = .ok (.invokespecial 13, 3) := by decide +kernel
theorem dX3_waits_11 : decode cX3_waits 11 = .ok (.bipush 12, 2) := by decide +kernel
theorem dX3_waits_13 : decode cX3_waits 13 = .ok (.ixor, 1) := by decide +kernel
theorem dX3_waits_14 : decode cX3_waits 14 = .ok (.ireturn, 1) := by decide +kernel
theorem dX3_counts_0 : decode cX3_counts 0 = .ok (.aload_n 0, 1) := by decide +kernel
theorem dX3_counts_1 : decode cX3_counts 1 = .ok (.bipush 61, 2) := by decide +kernel
theorem dX3_counts_3 : decode cX3_counts 3 = .ok (.invokevirtual 7, 3) := by decide +kernel
theorem dX3_counts_6 : decode cX3_counts 6 = .ok (.aload_n 0, 1) := by decide +kernel
theorem dX3_counts_7 : decode cX3_counts 7 = .ok (.iload_n 1, 1) := by decide +kernel
theorem dX3_counts_8 : decode cX3_counts 8 = .ok (.invokespecial 17, 3) := by decide +kernel
theorem dX3_counts_11 : decode cX3_counts 11 = .ok (.istore_n 2, 1) := by decide +kernel
theorem dX3_counts_12 : decode cX3_counts 12 = .ok (.iload_n 2, 1) := by decide +kernel
theorem dX3_counts_13 : decode cX3_counts 13 = .ok (.aload_n 0, 1) := by decide +kernel
theorem dX3_counts_14 : decode cX3_counts 14 = .ok (.aload_n 0, 1) := by decide +kernel
theorem dX3_counts_15 : decode cX3_counts 15 = .ok (.getfield 20, 3) := by decide +kernel
theorem dX3_counts_18 : decode cX3_counts 18 = .ok (.invokevirtual 24, 3) := by decide +kernel
theorem dX3_counts_21 : decode cX3_counts 21 = .ok (.iadd, 1) := by decide +kernel
theorem dX3_counts_22 : decode cX3_counts 22 = .ok (.ireturn, 1) := by decide +kernel
theorem dX4_lookAll_0 : decode cX4_lookAll 0 = .ok (.aload_n 0, 1) := by decide +kernel
theorem dX4_lookAll_1 : decode cX4_lookAll 1 = .ok (.iconst (-1), 1) := by decide +kernel
theorem dX4_lookAll_2 : decode cX4_lookAll 2 = .ok (.putfield 18, 3) := by decide +kernel
theorem dX4_lookAll_5 : decode cX4_lookAll 5 = .ok (.aload_n 0, 1) := by decide +kernel
theorem dX4_lookAll_6 : decode cX4_lookAll 6 = .ok (.iconst 0, 1) := by decide +kernel
theorem dX4_lookAll_7 : decode cX4_lookAll 7 = .ok (.putfield 22, 3) := by decide +kernel
theorem dX4_lookAll_10 : decode cX4_lookAll 10 = .ok (.aload_n 0, 1) := by decide +kernel
theorem dX4_lookAll_11 : decode cX4_lookAll 11 = .ok (.iconst 0, 1) := by decide +kernel
theorem dX4_lookAll_12 : decode cX4_lookAll 12 = .ok (.iload_n 2, 1) := by decide +kernel
theorem dX4_lookAll_13 : decode cX4_lookAll 13 = .ok (.aload_n 1, 1) := by decide +kernel
theorem dX4_lookAll_14 : decode cX4_lookAll 14 = .ok (.getfield 25, 3) := by decide +kernel
theorem dX4_lookAll_17 : decode cX4_lookAll 17 = .ok (.aload_n 1, 1) := by decide +kernel
theorem dX4_lookAll_18 : decode cX4_lookAll 18 = .ok (.getfield 30, 3) := by decide +kernel
theorem dX4_lookAll_21 : decode cX4_lookAll 21 = .ok (.isub, 1) := by decide +kernel
theorem dX4_lookAll_22 : decode cX4_lookAll 22 = .ok (.invokestatic 33, 3) := by decide +kernel
theorem dX4_lookAll_25 : decode cX4_lookAll 25 = .ok (.invokestatic 39, 3) := by decide +kernel
theorem dX4_lookAll_28 : decode cX4_lookAll 28 = .ok (.putfield 42, 3) := by decide +kernel
theorem dX4_lookAll_31 : decode cX4_lookAll 31 = .ok (.aload_n 0, 1) := by decide +kernel
theorem dX4_lookAll_32 : decode cX4_lookAll 32 = .ok (.iconst 5, 1) := by decide +kernel
theorem dX4_lookAll_33 : decode cX4_lookAll 33 = .ok (.putfield 45, 3) := by decide +kernel
theorem dX4_lookAll_36 : decode cX4_lookAll 36 = .ok (.aload_n 0, 1) := by decide +kernel
theorem dX4_lookAll_37 : decode cX4_lookAll 37 = .ok (.iconst 0, 1) := by decide +kernel
theorem dX4_lookAll_38 : decode cX4_lookAll 38 = .ok (.putfield 48, 3) := by decide +kernel
theorem dX4_lookAll_41 : decode cX4_lookAll 41 = .ok (.aload_n 0, 1) := by decide +kernel
theorem dX4_lookAll_42 : decode cX4_lookAll 42 = .ok (.iload_n 3, 1) := by decide +kernel
theorem dX4_lookAll_43 : decode cX4_lookAll 43 = .ok (.putfield 51, 3) := by decide +kernel
theorem dX4_lookAll_46 : decode cX4_lookAll 46 = .ok (.aload_n 0, 1) := by decide +kernel
theorem dX4_lookAll_47 : decode cX4_lookAll 47 = .ok (.aload_n 1, 1) := by decide +kernel
theorem dX4_lookAll_48 : decode cX4_lookAll 48 = .ok (.iconst 0, 1) := by decide +kernel
theorem dX4_lookAll_49 : decode cX4_lookAll 49 = .ok (.iconst 0, 1) := by decide +kernel
theorem dX4_lookAll_50 : decode cX4_lookAll 50 = .ok (.iconst 0, 1) := by decide +kernel
theorem dX4_lookAll_51 : decode cX4_lookAll 51 = .ok (.invokestatic 54, 3) := by decide +kernel
theorem dX4_lookAll_54 : decode cX4_lookAll 54 = .ok (.return_, 1) := by decide +kernel
theorem dX4_look_0 : decode cX4_look 0 = .ok (.iload_n 2, 1) := by decide +kernel
theorem dX4_look_1 : decode cX4_look 1 = .ok (.aload_n 0, 1) := by decide +kernel
theorem dX4_look_2 : decode cX4_look 2 = .ok (.getfield 42, 3) := by decide +kernel
theorem dX4_look_5 : decode cX4_look 5 = .ok (.if_icmp .ge 8, 3) := by decide +kernel
theorem dX4_look_8 : decode cX4_look 8 = .ok (.iload_n 2, 1) := by decide +kernel
theorem dX4_look_9 : decode cX4_look 9 = .ok (.iconst 4, 1) := by decide +kernel
theorem dX4_look_10 : decode cX4_look 10 = .ok (.if_icmp .lt 15, 3) := by decide +kernel
theorem dX4_look_13 : decode cX4_look 13 = .ok (.aload_n 0, 1) := by decide +kernel
theorem dX4_look_14 : decode cX4_look 14 = .ok (.aload_n 1, 1) := by decide +kernel
theorem dX4_look_15 : decode cX4_look 15 = .ok (.getfield 58, 3) := by decide +kernel
theorem dX4_look_18 : decode cX4_look 18 = .ok (.iload_n 3, 1) := by decide +kernel
theorem dX4_look_19 : decode cX4_look 19 = .ok (.iload 4, 2) := by decide +kernel
theorem dX4_look_21 : decode cX4_look 21 = .ok (.invokevirtual 61, 3) := by decide +kernel
theorem dX4_look_24 : decode cX4_look 24 = .ok (.return_, 1) := by decide +kernel
theorem dX4_look_25 : decode cX4_look 25 = .ok (.aload_n 1, 1) := by decide +kernel
theorem dX4_look_26 : decode cX4_look 26 = .ok (.getfield 65, 3) := by decide +kernel
theorem dX4_look_29 : decode cX4_look 29 = .ok (.istore 5, 2) := by decide +kernel
theorem dX4_look_31 : decode cX4_look 31 = .ok (.aload_n 1, 1) := by decide +kernel
theorem dX4_look_32 : decode cX4_look 32 = .ok (.getfield 68, 3) := by decide +kernel
theorem dX4_look_35 : decode cX4_look 35 = .ok (.istore 6, 2) := by decide +kernel
theorem dX4_look_37 : decode cX4_look 37 = .ok (.aload_n 1, 1) := by decide +kernel
theorem dX4_look_38 : decode cX4_look 38 = .ok (.getfield 58, 3) := by decide +kernel
theorem dX4_look_41 : decode cX4_look 41 = .ok (.istore 7, 2) := by decide +kernel
theorem dX4_look_43 : decode cX4_look 43 = .ok (.iconst 0, 1) := by decide +kernel
theorem dX4_look_44 : decode cX4_look 44 = .ok (.istore 8, 2) := by decide +kernel
theorem dX4_look_46 : decode cX4_look 46 = .ok (.iload 8, 2) := by decide +kernel
theorem dX4_look_48 : decode cX4_look 48 = .ok (.aload_n 1, 1) := by decide +kernel
theorem dX4_look_49 : decode cX4_look 49 = .ok (.getfield 71, 3) := by decide +kernel
theorem dX4_look_52 : decode cX4_look 52 = .ok (.if_icmp .gt 73, 3) := by decide +kernel
theorem dX4_look_55 : decode cX4_look 55 = .ok (.aload_n 1, 1) := by decide +kernel
theorem dX4_look_56 : decode cX4_look 56 = .ok (.iload 8, 2) := by decide +kernel
theorem dX4_look_58 : decode cX4_look 58 = .ok (.invokevirtual 74, 3) := by decide +kernel
theorem dX4_look_61 : decode cX4_look 61 = .ok (.istore 9, 2) := by decide +kernel
theorem dX4_look_63 : decode cX4_look 63 = .ok (.aload_n 0, 1) := by decide +kernel
theorem dX4_look_64 : decode cX4_look 64 = .ok (.getfield 15, 3) := by decide +kernel
theorem dX4_look_67 : decode cX4_look 67 = .ok (.iload_n 2, 1) := by decide +kernel
theorem dX4_look_68 : decode cX4_look 68 = .ok (.iload 8, 2) := by decide +kernel
theorem dX4_look_70 : decode cX4_look 70 = .ok (.iastore, 1) := by decide +kernel
theorem dX4_look_71 : decode cX4_look 71 = .ok (.aload_n 1, 1) := by decide +kernel
theorem dX4_look_72 : decode cX4_look 72 = .ok (.iload 8, 2) := by decide +kernel
theorem dX4_look_74 : decode cX4_look 74 = .ok (.invokevirtual 78, 3) := by decide +kernel
theorem dX4_look_77 : decode cX4_look 77 = .ok (.istore 10, 2) := by decide +kernel
theorem dX4_look_79 : decode cX4_look 79 = .ok (.aload_n 0, 1) := by decide +kernel
theorem dX4_look_80 : decode cX4_look 80 = .ok (.aload_n 1, 1) := by decide +kernel
theorem dX4_look_81 : decode cX4_look 81 = .ok (.iload_n 2, 1) := by decide +kernel
theorem dX4_look_82 : decode cX4_look 82 = .ok (.iconst 1, 1) := by decide +kernel
theorem dX4_look_83 : decode cX4_look 83 = .ok (.iadd, 1) := by decide +kernel
theorem dX4_look_84 : decode cX4_look 84 = .ok (.iload_n 3, 1) := by decide +kernel
theorem dX4_look_85 : decode cX4_look 85 = .ok (.iload 10, 2) := by decide +kernel
theorem dX4_look_87 : decode cX4_look 87 = .ok (.iadd, 1) := by decide +kernel
theorem dX4_look_88 : decode cX4_look 88 = .ok (.iload 8, 2) := by decide +kernel
theorem dX4_look_90 : decode cX4_look 90 = .ok (.ifCond .ne 8, 3) := by decide +kernel
theorem dX4_look_93 : decode cX4_look 93 = .ok (.iload 4, 2) := by decide +kernel
theorem dX4_look_95 : decode cX4_look 95 = .ok (.goto 7, 3) := by decide +kernel
theorem dX4_look_98 : decode cX4_look 98 = .ok (.iload 4, 2) := by decide +kernel
theorem dX4_look_100 : decode cX4_look 100 = .ok (.iconst 1, 1) := by decide +kernel
theorem dX4_look_101 : decode cX4_look 101 = .ok (.iadd, 1) := by decide +kernel
theorem dX4_look_102 : decode cX4_look 102 = .ok (.invokestatic 54, 3) := by decide +kernel
theorem dX4_look_105 : decode cX4_look 105 = .ok (.aload_n 1, 1) := by decide +kernel
theorem dX4_look_106 : decode cX4_look 106 = .ok (.iload 8, 2) := by decide +kernel
theorem dX4_look_108 : decode cX4_look 108 = .ok (.iload 5, 2) := by decide +kernel
theorem dX4_look_110 : decode cX4_look 110 = .ok (.iload 6, 2) := by decide +kernel
theorem dX4_look_112 : decode cX4_look 112 = .ok (.iload 7, 2) := by decide +kernel
theorem dX4_look_114 : decode cX4_look 114 = .ok (.iload 9, 2) := by decide +kernel
theorem dX4_look_116 : decode cX4_look 116 = .ok (.invokevirtual 81, 3) := by decide +kernel
theorem dX4_look_119 : decode cX4_look 119 = .ok (.iinc 8 1, 3) := by decide +kernel
theorem dX4_look_122 : decode cX4_look 122 = .ok (.goto (-76), 3) := by decide +kernel
theorem dX4_look_125 : decode cX4_look 125 = .ok (.return_, 1) := by decide +kernel
theorem dX4_takeIn_0 : decode cX4_takeIn 0 = .ok (.aload_n 0, 1) := by decide +kernel
theorem dX4_takeIn_1 : decode cX4_takeIn 1 = .ok (.dup, 1) := by decide +kernel
theorem dX4_takeIn_2 : decode cX4_takeIn 2 = .ok (.getfield 48, 3) := by decide +kernel
theorem dX4_takeIn_5 : decode cX4_takeIn 5 = .ok (.iload_n 1, 1) := by decide +kernel
theorem dX4_takeIn_6 : decode cX4_takeIn 6 = .ok (.ior, 1) := by decide +kernel
theorem dX4_takeIn_7 : decode cX4_takeIn 7 = .ok (.putfield 48, 3) := by decide +kernel
theorem dX4_takeIn_10 : decode cX4_takeIn 10 = .ok (.aload_n 0, 1) := by decide +kernel
theorem dX4_takeIn_11 : decode cX4_takeIn 11 = .ok (.getfield 51, 3) := by decide +kernel
theorem dX4_takeIn_14 : decode cX4_takeIn 14 = .ok (.iload_n 1, 1) := by decide +kernel
theorem dX4_takeIn_15 : decode cX4_takeIn 15 = .ok (.iconst (-1), 1) := by decide +kernel
theorem dX4_takeIn_16 : decode cX4_takeIn 16 = .ok (.ixor, 1) := by decide +kernel
theorem dX4_takeIn_17 : decode cX4_takeIn 17 = .ok (.iand, 1) := by decide +kernel
theorem dX4_takeIn_18 : decode cX4_takeIn 18 = .ok (.ifCond .ne 15, 3) := by decide +kernel
theorem dX4_takeIn_21 : decode cX4_takeIn 21 = .ok (.aload_n 0, 1) := by decide +kernel
theorem dX4_takeIn_22 : decode cX4_takeIn 22 = .ok (.aload_n 0, 1) := by decide +kernel
theorem dX4_takeIn_23 : decode cX4_takeIn 23 = .ok (.getfield 45, 3) := by decide +kernel
theorem dX4_takeIn_26 : decode cX4_takeIn 26 = .ok (.iload_n 3, 1) := by decide +kernel
theorem dX4_takeIn_27 : decode cX4_takeIn 27 = .ok (.invokestatic 33, 3) := by decide +kernel
theorem dX4_takeIn_30 : decode cX4_takeIn 30 = .ok (.putfield 45, 3) := by decide +kernel
theorem dX4_takeIn_33 : decode cX4_takeIn 33 = .ok (.iload_n 2, 1) := by decide +kernel
theorem dX4_takeIn_34 : decode cX4_takeIn 34 = .ok (.aload_n 0, 1) := by decide +kernel
theorem dX4_takeIn_35 : decode cX4_takeIn 35 = .ok (.getfield 18, 3) := by decide +kernel
theorem dX4_takeIn_38 : decode cX4_takeIn 38 = .ok (.if_icmp .le 27, 3) := by decide +kernel
theorem dX4_takeIn_41 : decode cX4_takeIn 41 = .ok (.aload_n 0, 1) := by decide +kernel
theorem dX4_takeIn_42 : decode cX4_takeIn 42 = .ok (.iload_n 2, 1) := by decide +kernel
theorem dX4_takeIn_43 : decode cX4_takeIn 43 = .ok (.putfield 18, 3) := by decide +kernel
theorem dX4_takeIn_46 : decode cX4_takeIn 46 = .ok (.aload_n 0, 1) := by decide +kernel
theorem dX4_takeIn_47 : decode cX4_takeIn 47 = .ok (.iconst 0, 1) := by decide +kernel
theorem dX4_takeIn_48 : decode cX4_takeIn 48 = .ok (.putfield 22, 3) := by decide +kernel
theorem dX4_takeIn_51 : decode cX4_takeIn 51 = .ok (.aload_n 0, 1) := by decide +kernel
theorem dX4_takeIn_52 : decode cX4_takeIn 52 = .ok (.getfield 15, 3) := by decide +kernel
theorem dX4_takeIn_55 : decode cX4_takeIn 55 = .ok (.iconst 0, 1) := by decide +kernel
theorem dX4_takeIn_56 : decode cX4_takeIn 56 = .ok (.aload_n 0, 1) := by decide +kernel
theorem dX4_takeIn_57 : decode cX4_takeIn 57 = .ok (.getfield 9, 3) := by decide +kernel
theorem dX4_takeIn_60 : decode cX4_takeIn 60 = .ok (.iconst 0, 1) := by decide +kernel
theorem dX4_takeIn_61 : decode cX4_takeIn 61 = .ok (.iconst 4, 1) := by decide +kernel
theorem dX4_takeIn_62 : decode cX4_takeIn 62 = .ok (.invokestatic 85, 3) := by decide +kernel
theorem dX4_takeIn_65 : decode cX4_takeIn 65 = .ok (.aload_n 0, 1) := by decide +kernel
theorem dX4_takeIn_66 : decode cX4_takeIn 66 = .ok (.dup, 1) := by decide +kernel
theorem dX4_takeIn_67 : decode cX4_takeIn 67 = .ok (.getfield 22, 3) := by decide +kernel
theorem dX4_takeIn_70 : decode cX4_takeIn 70 = .ok (.iload_n 2, 1) := by decide +kernel
theorem dX4_takeIn_71 : decode cX4_takeIn 71 = .ok (.aload_n 0, 1) := by decide +kernel
theorem dX4_takeIn_72 : decode cX4_takeIn 72 = .ok (.getfield 18, 3) := by decide +kernel
theorem dX4_takeIn_75 : decode cX4_takeIn 75 = .ok (.if_icmp .ne 7, 3) := by decide +kernel
theorem dX4_takeIn_78 : decode cX4_takeIn 78 = .ok (.iconst 1, 1) := by decide +kernel
theorem dX4_takeIn_79 : decode cX4_takeIn 79 = .ok (.goto 4, 3) := by decide +kernel
theorem dX4_takeIn_82 : decode cX4_takeIn 82 = .ok (.iconst 0, 1) := by decide +kernel
theorem dX4_takeIn_83 : decode cX4_takeIn 83 = .ok (.iadd, 1) := by decide +kernel
theorem dX4_takeIn_84 : decode cX4_takeIn 84 = .ok (.putfield 22, 3) := by decide +kernel
theorem dX4_takeIn_87 : decode cX4_takeIn 87 = .ok (.return_, 1) := by decide +kernel
theorem dX4_playOut_0 : decode cX4_playOut 0 = .ok (.aload_n 0, 1) := by decide +kernel
theorem dX4_playOut_1 : decode cX4_playOut 1 = .ok (.aload_n 1, 1) := by decide +kernel
theorem dX4_playOut_2 : decode cX4_playOut 2 = .ok (.iload_n 2, 1) := by decide +kernel
theorem dX4_playOut_3 : decode cX4_playOut 3 = .ok (.iconst 1, 1) := by decide +kernel
theorem dX4_playOut_4 : decode cX4_playOut 4 = .ok (.invokestatic 91, 3) := by decide +kernel
theorem dX4_playOut_7 : decode cX4_playOut 7 = .ok (.ireturn, 1) := by decide +kernel
theorem dX4_playOn_0 : decode cX4_playOn 0 = .ok (.iload_n 2, 1) := by decide +kernel
theorem dX4_playOn_1 : decode cX4_playOn 1 = .ok (.ifCond .le 10, 3) := by decide +kernel
theorem dX4_playOn_4 : decode cX4_playOn 4 = .ok (.aload_n 1, 1) := by decide +kernel
theorem dX4_playOn_5 : decode cX4_playOn 5 = .ok (.invokevirtual 95, 3) := by decide +kernel
theorem dX4_playOn_8 : decode cX4_playOn 8 = .ok (.ifCond .eq 5, 3) := by decide +kernel
theorem dX4_playOn_11 : decode cX4_playOn 11 = .ok (.iconst 0, 1) := by decide +kernel
theorem dX4_playOn_12 : decode cX4_playOn 12 = .ok (.ireturn, 1) := by decide +kernel
theorem dX4_playOn_13 : decode cX4_playOn 13 = .ok (.aload_n 1, 1) := by decide +kernel
theorem dX4_playOn_14 : decode cX4_playOn 14 = .ok (.getfield 65, 3) := by decide +kernel
theorem dX4_playOn_17 : decode cX4_playOn 17 = .ok (.istore 4, 2) := by decide +kernel
theorem dX4_playOn_19 : decode cX4_playOn 19 = .ok (.aload_n 1, 1) := by decide +kernel
theorem dX4_playOn_20 : decode cX4_playOn 20 = .ok (.getfield 68, 3) := by decide +kernel
theorem dX4_playOn_23 : decode cX4_playOn 23 = .ok (.istore 5, 2) := by decide +kernel
theorem dX4_playOn_25 : decode cX4_playOn 25 = .ok (.aload_n 1, 1) := by decide +kernel
theorem dX4_playOn_26 : decode cX4_playOn 26 = .ok (.getfield 58, 3) := by decide +kernel
theorem dX4_playOn_29 : decode cX4_playOn 29 = .ok (.istore 6, 2) := by decide +kernel
theorem dX4_playOn_31 : decode cX4_playOn 31 = .ok (.iconst 0, 1) := by decide +kernel
theorem dX4_playOn_32 : decode cX4_playOn 32 = .ok (.istore 7, 2) := by decide +kernel
theorem dX4_playOn_34 : decode cX4_playOn 34 = .ok (.iconst (-1), 1) := by decide +kernel
theorem dX4_playOn_35 : decode cX4_playOn 35 = .ok (.istore 8, 2) := by decide +kernel
theorem dX4_playOn_37 : decode cX4_playOn 37 = .ok (.iconst 0, 1) := by decide +kernel
theorem dX4_playOn_38 : decode cX4_playOn 38 = .ok (.istore 9, 2) := by decide +kernel
theorem dX4_playOn_40 : decode cX4_playOn 40 = .ok (.iload 9, 2) := by decide +kernel
theorem dX4_playOn_42 : decode cX4_playOn 42 = .ok (.aload_n 1, 1) := by decide +kernel
theorem dX4_playOn_43 : decode cX4_playOn 43 = .ok (.getfield 71, 3) := by decide +kernel
theorem dX4_playOn_46 : decode cX4_playOn 46 = .ok (.if_icmp .gt 95, 3) := by decide +kernel
theorem dX4_playOn_49 : decode cX4_playOn 49 = .ok (.aload_n 1, 1) := by decide +kernel
theorem dX4_playOn_50 : decode cX4_playOn 50 = .ok (.iload 9, 2) := by decide +kernel
theorem dX4_playOn_52 : decode cX4_playOn 52 = .ok (.invokevirtual 74, 3) := by decide +kernel
theorem dX4_playOn_55 : decode cX4_playOn 55 = .ok (.istore 10, 2) := by decide +kernel
theorem dX4_playOn_57 : decode cX4_playOn 57 = .ok (.aload_n 1, 1) := by decide +kernel
theorem dX4_playOn_58 : decode cX4_playOn 58 = .ok (.iload 9, 2) := by decide +kernel
theorem dX4_playOn_60 : decode cX4_playOn 60 = .ok (.invokevirtual 78, 3) := by decide +kernel
theorem dX4_playOn_63 : decode cX4_playOn 63 = .ok (.istore 11, 2) := by decide +kernel
theorem dX4_playOn_65 : decode cX4_playOn 65 = .ok (.iload 11, 2) := by decide +kernel
theorem dX4_playOn_67 : decode cX4_playOn 67 = .ok (.aload_n 0, 1) := by decide +kernel
theorem dX4_playOn_68 : decode cX4_playOn 68 = .ok (.aload_n 1, 1) := by decide +kernel
theorem dX4_playOn_69 : decode cX4_playOn 69 = .ok (.iload_n 2, 1) := by decide +kernel
theorem dX4_playOn_70 : decode cX4_playOn 70 = .ok (.iconst 1, 1) := by decide +kernel
theorem dX4_playOn_71 : decode cX4_playOn 71 = .ok (.isub, 1) := by decide +kernel
theorem dX4_playOn_72 : decode cX4_playOn 72 = .ok (.iload_n 3, 1) := by decide +kernel
theorem dX4_playOn_73 : decode cX4_playOn 73 = .ok (.ifCond .ne 7, 3) := by decide +kernel
theorem dX4_playOn_76 : decode cX4_playOn 76 = .ok (.iconst 1, 1) := by decide +kernel
theorem dX4_playOn_77 : decode cX4_playOn 77 = .ok (.goto 4, 3) := by decide +kernel
theorem dX4_playOn_80 : decode cX4_playOn 80 = .ok (.iconst 0, 1) := by decide +kernel
theorem dX4_playOn_81 : decode cX4_playOn 81 = .ok (.invokestatic 91, 3) := by decide +kernel
theorem dX4_playOn_84 : decode cX4_playOn 84 = .ok (.iadd, 1) := by decide +kernel
theorem dX4_playOn_85 : decode cX4_playOn 85 = .ok (.istore 11, 2) := by decide +kernel
theorem dX4_playOn_87 : decode cX4_playOn 87 = .ok (.aload_n 1, 1) := by decide +kernel
theorem dX4_playOn_88 : decode cX4_playOn 88 = .ok (.iload 9, 2) := by decide +kernel
theorem dX4_playOn_90 : decode cX4_playOn 90 = .ok (.iload 4, 2) := by decide +kernel
theorem dX4_playOn_92 : decode cX4_playOn 92 = .ok (.iload 5, 2) := by decide +kernel
theorem dX4_playOn_94 : decode cX4_playOn 94 = .ok (.iload 6, 2) := by decide +kernel
theorem dX4_playOn_96 : decode cX4_playOn 96 = .ok (.iload 10, 2) := by decide +kernel
theorem dX4_playOn_98 : decode cX4_playOn 98 = .ok (.invokevirtual 81, 3) := by decide +kernel
theorem dX4_playOn_101 : decode cX4_playOn 101 = .ok (.iload 8, 2) := by decide +kernel
theorem dX4_playOn_103 : decode cX4_playOn 103 = .ok (.ifCond .lt 24, 3) := by decide +kernel
theorem dX4_playOn_106 : decode cX4_playOn 106 = .ok (.iload_n 3, 1) := by decide +kernel
theorem dX4_playOn_107 : decode cX4_playOn 107 = .ok (.ifCond .eq 13, 3) := by decide +kernel
theorem dX4_playOn_110 : decode cX4_playOn 110 = .ok (.iload 11, 2) := by decide +kernel
theorem dX4_playOn_112 : decode cX4_playOn 112 = .ok (.iload 7, 2) := by decide +kernel
theorem dX4_playOn_114 : decode cX4_playOn 114 = .ok (.if_icmp .le 21, 3) := by decide +kernel
theorem dX4_playOn_117 : decode cX4_playOn 117 = .ok (.goto 10, 3) := by decide +kernel
theorem dX4_playOn_120 : decode cX4_playOn 120 = .ok (.iload 11, 2) := by decide +kernel
theorem dX4_playOn_122 : decode cX4_playOn 122 = .ok (.iload 7, 2) := by decide +kernel
theorem dX4_playOn_124 : decode cX4_playOn 124 = .ok (.if_icmp .ge 11, 3) := by decide +kernel
theorem dX4_playOn_127 : decode cX4_playOn 127 = .ok (.iload 11, 2) := by decide +kernel
theorem dX4_playOn_129 : decode cX4_playOn 129 = .ok (.istore 7, 2) := by decide +kernel
theorem dX4_playOn_131 : decode cX4_playOn 131 = .ok (.iload 9, 2) := by decide +kernel
theorem dX4_playOn_133 : decode cX4_playOn 133 = .ok (.istore 8, 2) := by decide +kernel
theorem dX4_playOn_135 : decode cX4_playOn 135 = .ok (.iinc 9 1, 3) := by decide +kernel
theorem dX4_playOn_138 : decode cX4_playOn 138 = .ok (.goto (-98), 3) := by decide +kernel
theorem dX4_playOn_141 : decode cX4_playOn 141 = .ok (.aload_n 0, 1) := by decide +kernel
theorem dX4_playOn_142 : decode cX4_playOn 142 = .ok (.iload 8, 2) := by decide +kernel
theorem dX4_playOn_144 : decode cX4_playOn 144 = .ok (.putfield 99, 3) := by decide +kernel
theorem dX4_playOn_147 : decode cX4_playOn 147 = .ok (.iload 7, 2) := by decide +kernel
theorem dX4_playOn_149 : decode cX4_playOn 149 = .ok (.ireturn, 1) := by decide +kernel
theorem dX5_become_0 : decode cX5_become 0 = .ok (.aload_n 0, 1) := by decide +kernel
theorem dX5_become_1 : decode cX5_become 1 = .ok (.aload_n 1, 1) := by decide +kernel
theorem dX5_become_2 : decode cX5_become 2 = .ok (.getfield 27, 3) := by decide +kernel
theorem dX5_become_5 : decode cX5_become 5 = .ok (.putfield 27, 3) := by decide +kernel
theorem dX5_become_8 : decode cX5_become 8 = .ok (.aload_n 1, 1) := by decide +kernel
theorem dX5_become_9 : decode cX5_become 9 = .ok (.getfield 9, 3) := by decide +kernel
theorem dX5_become_12 : decode cX5_become 12 = .ok (.iconst 0, 1) := by decide +kernel
theorem dX5_become_13 : decode cX5_become 13 = .ok (.aload_n 0, 1) := by decide +kernel
theorem dX5_become_14 : decode cX5_become 14 = .ok (.getfield 9, 3) := by decide +kernel
theorem dX5_become_17 : decode cX5_become 17 = .ok (.iconst 0, 1) := by decide +kernel
theorem dX5_become_18 : decode cX5_become 18 = .ok (.aload_n 0, 1) := by decide +kernel
theorem dX5_become_19 : decode cX5_become 19 = .ok (.getfield 27, 3) := by decide +kernel
theorem dX5_become_22 : decode cX5_become 22 = .ok (.invokestatic 31, 3) := by decide +kernel
theorem dX5_become_25 : decode cX5_become 25 = .ok (.aload_n 1, 1) := by decide +kernel
theorem dX5_become_26 : decode cX5_become 26 = .ok (.getfield 15, 3) := by decide +kernel
theorem dX5_become_29 : decode cX5_become 29 = .ok (.iconst 0, 1) := by decide +kernel
theorem dX5_become_30 : decode cX5_become 30 = .ok (.aload_n 0, 1) := by decide +kernel
theorem dX5_become_31 : decode cX5_become 31 = .ok (.getfield 15, 3) := by decide +kernel
theorem dX5_become_34 : decode cX5_become 34 = .ok (.iconst 0, 1) := by decide +kernel
theorem dX5_become_35 : decode cX5_become 35 = .ok (.aload_n 0, 1) := by decide +kernel
theorem dX5_become_36 : decode cX5_become 36 = .ok (.getfield 27, 3) := by decide +kernel
theorem dX5_become_39 : decode cX5_become 39 = .ok (.invokestatic 31, 3) := by decide +kernel
theorem dX5_become_42 : decode cX5_become 42 = .ok (.aload_n 1, 1) := by decide +kernel
theorem dX5_become_43 : decode cX5_become 43 = .ok (.getfield 18, 3) := by decide +kernel
theorem dX5_become_46 : decode cX5_become 46 = .ok (.iconst 0, 1) := by decide +kernel
theorem dX5_become_47 : decode cX5_become 47 = .ok (.aload_n 0, 1) := by decide +kernel
theorem dX5_become_48 : decode cX5_become 48 = .ok (.getfield 18, 3) := by decide +kernel
theorem dX5_become_51 : decode cX5_become 51 = .ok (.iconst 0, 1) := by decide +kernel
theorem dX5_become_52 : decode cX5_become 52 = .ok (.aload_n 0, 1) := by decide +kernel
theorem dX5_become_53 : decode cX5_become 53 = .ok (.getfield 27, 3) := by decide +kernel
theorem dX5_become_56 : decode cX5_become 56 = .ok (.invokestatic 31, 3) := by decide +kernel
theorem dX5_become_59 : decode cX5_become 59 = .ok (.aload_n 1, 1) := by decide +kernel
theorem dX5_become_60 : decode cX5_become 60 = .ok (.getfield 21, 3) := by decide +kernel
theorem dX5_become_63 : decode cX5_become 63 = .ok (.iconst 0, 1) := by decide +kernel
theorem dX5_become_64 : decode cX5_become 64 = .ok (.aload_n 0, 1) := by decide +kernel
theorem dX5_become_65 : decode cX5_become 65 = .ok (.getfield 21, 3) := by decide +kernel
theorem dX5_become_68 : decode cX5_become 68 = .ok (.iconst 0, 1) := by decide +kernel
theorem dX5_become_69 : decode cX5_become 69 = .ok (.aload_n 0, 1) := by decide +kernel
theorem dX5_become_70 : decode cX5_become 70 = .ok (.getfield 27, 3) := by decide +kernel
theorem dX5_become_73 : decode cX5_become 73 = .ok (.invokestatic 31, 3) := by decide +kernel
theorem dX5_become_76 : decode cX5_become 76 = .ok (.return_, 1) := by decide +kernel
theorem dX5_add_0 : decode cX5_add 0 = .ok (.aload_n 0, 1) := by decide +kernel
theorem dX5_add_1 : decode cX5_add 1 = .ok (.getfield 9, 3) := by decide +kernel
theorem dX5_add_4 : decode cX5_add 4 = .ok (.aload_n 0, 1) := by decide +kernel
theorem dX5_add_5 : decode cX5_add 5 = .ok (.getfield 27, 3) := by decide +kernel
theorem dX5_add_8 : decode cX5_add 8 = .ok (.iload_n 1, 1) := by decide +kernel
theorem dX5_add_9 : decode cX5_add 9 = .ok (.iastore, 1) := by decide +kernel
theorem dX5_add_10 : decode cX5_add 10 = .ok (.aload_n 0, 1) := by decide +kernel
theorem dX5_add_11 : decode cX5_add 11 = .ok (.getfield 15, 3) := by decide +kernel
theorem dX5_add_14 : decode cX5_add 14 = .ok (.aload_n 0, 1) := by decide +kernel
theorem dX5_add_15 : decode cX5_add 15 = .ok (.getfield 27, 3) := by decide +kernel
theorem dX5_add_18 : decode cX5_add 18 = .ok (.iload_n 2, 1) := by decide +kernel
theorem dX5_add_19 : decode cX5_add 19 = .ok (.iastore, 1) := by decide +kernel
theorem dX5_add_20 : decode cX5_add 20 = .ok (.aload_n 0, 1) := by decide +kernel
theorem dX5_add_21 : decode cX5_add 21 = .ok (.getfield 18, 3) := by decide +kernel
theorem dX5_add_24 : decode cX5_add 24 = .ok (.aload_n 0, 1) := by decide +kernel
theorem dX5_add_25 : decode cX5_add 25 = .ok (.getfield 27, 3) := by decide +kernel
theorem dX5_add_28 : decode cX5_add 28 = .ok (.iload_n 3, 1) := by decide +kernel
theorem dX5_add_29 : decode cX5_add 29 = .ok (.iastore, 1) := by decide +kernel
theorem dX5_add_30 : decode cX5_add 30 = .ok (.aload_n 0, 1) := by decide +kernel
theorem dX5_add_31 : decode cX5_add 31 = .ok (.getfield 21, 3) := by decide +kernel
theorem dX5_add_34 : decode cX5_add 34 = .ok (.aload_n 0, 1) := by decide +kernel
theorem dX5_add_35 : decode cX5_add 35 = .ok (.getfield 27, 3) := by decide +kernel
theorem dX5_add_38 : decode cX5_add 38 = .ok (.iload 4, 2) := by decide +kernel
theorem dX5_add_40 : decode cX5_add 40 = .ok (.iastore, 1) := by decide +kernel
theorem dX5_add_41 : decode cX5_add 41 = .ok (.aload_n 0, 1) := by decide +kernel
theorem dX5_add_42 : decode cX5_add 42 = .ok (.dup, 1) := by decide +kernel
theorem dX5_add_43 : decode cX5_add 43 = .ok (.getfield 27, 3) := by decide +kernel
theorem dX5_add_46 : decode cX5_add 46 = .ok (.iconst 1, 1) := by decide +kernel
theorem dX5_add_47 : decode cX5_add 47 = .ok (.iadd, 1) := by decide +kernel
theorem dX5_add_48 : decode cX5_add 48 = .ok (.putfield 27, 3) := by decide +kernel
theorem dX5_add_51 : decode cX5_add 51 = .ok (.aload_n 0, 1) := by decide +kernel
theorem dX5_add_52 : decode cX5_add 52 = .ok (.getfield 27, 3) := by decide +kernel
theorem dX5_add_55 : decode cX5_add 55 = .ok (.iconst 1, 1) := by decide +kernel
theorem dX5_add_56 : decode cX5_add 56 = .ok (.isub, 1) := by decide +kernel
theorem dX5_add_57 : decode cX5_add 57 = .ok (.ireturn, 1) := by decide +kernel
theorem dX5_lookAll_0 : decode cX5_lookAll 0 = .ok (.aload_n 0, 1) := by decide +kernel
theorem dX5_lookAll_1 : decode cX5_lookAll 1 = .ok (.iconst 0, 1) := by decide +kernel
theorem dX5_lookAll_2 : decode cX5_lookAll 2 = .ok (.putfield 37, 3) := by decide +kernel
theorem dX5_lookAll_5 : decode cX5_lookAll 5 = .ok (.aload_n 0, 1) := by decide +kernel
theorem dX5_lookAll_6 : decode cX5_lookAll 6 = .ok (.iconst 0, 1) := by decide +kernel
theorem dX5_lookAll_7 : decode cX5_lookAll 7 = .ok (.putfield 40, 3) := by decide +kernel
theorem dX5_lookAll_10 : decode cX5_lookAll 10 = .ok (.iconst 1, 1) := by decide +kernel
theorem dX5_lookAll_11 : decode cX5_lookAll 11 = .ok (.istore_n 2, 1) := by decide +kernel
theorem dX5_lookAll_12 : decode cX5_lookAll 12 = .ok (.iload_n 2, 1) := by decide +kernel
theorem dX5_lookAll_13 : decode cX5_lookAll 13 = .ok (.iconst 5, 1) := by decide +kernel
theorem dX5_lookAll_14 : decode cX5_lookAll 14 = .ok (.if_icmp .gt 56, 3) := by decide +kernel
theorem dX5_lookAll_17 : decode cX5_lookAll 17 = .ok (.iconst 0, 1) := by decide +kernel
theorem dX5_lookAll_18 : decode cX5_lookAll 18 = .ok (.istore_n 3, 1) := by decide +kernel
theorem dX5_lookAll_19 : decode cX5_lookAll 19 = .ok (.iload_n 3, 1) := by decide +kernel
theorem dX5_lookAll_20 : decode cX5_lookAll 20 = .ok (.bipush 9, 2) := by decide +kernel
theorem dX5_lookAll_22 : decode cX5_lookAll 22 = .ok (.if_icmp .gt 42, 3) := by decide +kernel
theorem dX5_lookAll_25 : decode cX5_lookAll 25 = .ok (.iconst 0, 1) := by decide +kernel
theorem dX5_lookAll_26 : decode cX5_lookAll 26 = .ok (.istore 4, 2) := by decide +kernel
theorem dX5_lookAll_28 : decode cX5_lookAll 28 = .ok (.iload 4, 2) := by decide +kernel
theorem dX5_lookAll_30 : decode cX5_lookAll 30 = .ok (.bipush 9, 2) := by decide +kernel
theorem dX5_lookAll_32 : decode cX5_lookAll 32 = .ok (.if_icmp .gt 26, 3) := by decide +kernel
theorem dX5_lookAll_35 : decode cX5_lookAll 35 = .ok (.aload_n 0, 1) := by decide +kernel
theorem dX5_lookAll_36 : decode cX5_lookAll 36 = .ok (.aload_n 0, 1) := by decide +kernel
theorem dX5_lookAll_37 : decode cX5_lookAll 37 = .ok (.iload_n 2, 1) := by decide +kernel
theorem dX5_lookAll_38 : decode cX5_lookAll 38 = .ok (.iload_n 3, 1) := by decide +kernel
theorem dX5_lookAll_39 : decode cX5_lookAll 39 = .ok (.iload 4, 2) := by decide +kernel
theorem dX5_lookAll_41 : decode cX5_lookAll 41 = .ok (.aload_n 1, 1) := by decide +kernel
theorem dX5_lookAll_42 : decode cX5_lookAll 42 = .ok (.invokevirtual 43, 3) := by decide +kernel
theorem dX5_lookAll_45 : decode cX5_lookAll 45 = .ok (.iload_n 2, 1) := by decide +kernel
theorem dX5_lookAll_46 : decode cX5_lookAll 46 = .ok (.iload_n 3, 1) := by decide +kernel
theorem dX5_lookAll_47 : decode cX5_lookAll 47 = .ok (.iload 4, 2) := by decide +kernel
theorem dX5_lookAll_49 : decode cX5_lookAll 49 = .ok (.invokevirtual 47, 3) := by decide +kernel
theorem dX5_lookAll_52 : decode cX5_lookAll 52 = .ok (.iinc 4 1, 3) := by decide +kernel
theorem dX5_lookAll_55 : decode cX5_lookAll 55 = .ok (.goto (-27), 3) := by decide +kernel
theorem dX5_lookAll_58 : decode cX5_lookAll 58 = .ok (.iinc 3 1, 3) := by decide +kernel
theorem dX5_lookAll_61 : decode cX5_lookAll 61 = .ok (.goto (-42), 3) := by decide +kernel
theorem dX5_lookAll_64 : decode cX5_lookAll 64 = .ok (.iinc 2 1, 3) := by decide +kernel
theorem dX5_lookAll_67 : decode cX5_lookAll 67 = .ok (.goto (-55), 3) := by decide +kernel
theorem dX5_lookAll_70 : decode cX5_lookAll 70 = .ok (.return_, 1) := by decide +kernel
theorem dX5_takeIn_0 : decode cX5_takeIn 0 = .ok (.iload_n 1, 1) := by decide +kernel
theorem dX5_takeIn_1 : decode cX5_takeIn 1 = .ok (.ifCond .ne 32, 3) := by decide +kernel
theorem dX5_takeIn_4 : decode cX5_takeIn 4 = .ok (.aload_n 0, 1) := by decide +kernel
theorem dX5_takeIn_5 : decode cX5_takeIn 5 = .ok (.getfield 37, 3) := by decide +kernel
theorem dX5_takeIn_8 : decode cX5_takeIn 8 = .ok (.ifCond .ne 25, 3) := by decide +kernel
theorem dX5_takeIn_11 : decode cX5_takeIn 11 = .ok (.aload_n 0, 1) := by decide +kernel
theorem dX5_takeIn_12 : decode cX5_takeIn 12 = .ok (.getfield 24, 3) := by decide +kernel
theorem dX5_takeIn_15 : decode cX5_takeIn 15 = .ok (.iconst 0, 1) := by decide +kernel
theorem dX5_takeIn_16 : decode cX5_takeIn 16 = .ok (.iload_n 2, 1) := by decide +kernel
theorem dX5_takeIn_17 : decode cX5_takeIn 17 = .ok (.iastore, 1) := by decide +kernel
theorem dX5_takeIn_18 : decode cX5_takeIn 18 = .ok (.aload_n 0, 1) := by decide +kernel
theorem dX5_takeIn_19 : decode cX5_takeIn 19 = .ok (.getfield 24, 3) := by decide +kernel
theorem dX5_takeIn_22 : decode cX5_takeIn 22 = .ok (.iconst 1, 1) := by decide +kernel
theorem dX5_takeIn_23 : decode cX5_takeIn 23 = .ok (.iload_n 3, 1) := by decide +kernel
theorem dX5_takeIn_24 : decode cX5_takeIn 24 = .ok (.iastore, 1) := by decide +kernel
theorem dX5_takeIn_25 : decode cX5_takeIn 25 = .ok (.aload_n 0, 1) := by decide +kernel
theorem dX5_takeIn_26 : decode cX5_takeIn 26 = .ok (.getfield 24, 3) := by decide +kernel
theorem dX5_takeIn_29 : decode cX5_takeIn 29 = .ok (.iconst 2, 1) := by decide +kernel
theorem dX5_takeIn_30 : decode cX5_takeIn 30 = .ok (.iload 4, 2) := by decide +kernel
theorem dX5_takeIn_32 : decode cX5_takeIn 32 = .ok (.iastore, 1) := by decide +kernel
theorem dX5_takeIn_33 : decode cX5_takeIn 33 = .ok (.aload_n 0, 1) := by decide +kernel
theorem dX5_takeIn_34 : decode cX5_takeIn 34 = .ok (.dup, 1) := by decide +kernel
theorem dX5_takeIn_35 : decode cX5_takeIn 35 = .ok (.getfield 37, 3) := by decide +kernel
theorem dX5_takeIn_38 : decode cX5_takeIn 38 = .ok (.iload_n 1, 1) := by decide +kernel
theorem dX5_takeIn_39 : decode cX5_takeIn 39 = .ok (.ifCond .ne 7, 3) := by decide +kernel
theorem dX5_takeIn_42 : decode cX5_takeIn 42 = .ok (.iconst 1, 1) := by decide +kernel
theorem dX5_takeIn_43 : decode cX5_takeIn 43 = .ok (.goto 4, 3) := by decide +kernel
theorem dX5_takeIn_46 : decode cX5_takeIn 46 = .ok (.iconst 0, 1) := by decide +kernel
theorem dX5_takeIn_47 : decode cX5_takeIn 47 = .ok (.iadd, 1) := by decide +kernel
theorem dX5_takeIn_48 : decode cX5_takeIn 48 = .ok (.putfield 37, 3) := by decide +kernel
theorem dX5_takeIn_51 : decode cX5_takeIn 51 = .ok (.aload_n 0, 1) := by decide +kernel
theorem dX5_takeIn_52 : decode cX5_takeIn 52 = .ok (.dup, 1) := by decide +kernel
theorem dX5_takeIn_53 : decode cX5_takeIn 53 = .ok (.getfield 40, 3) := by decide +kernel
theorem dX5_takeIn_56 : decode cX5_takeIn 56 = .ok (.iload_n 1, 1) := by decide +kernel
theorem dX5_takeIn_57 : decode cX5_takeIn 57 = .ok (.invokestatic 51, 3) := by decide +kernel
theorem dX5_takeIn_60 : decode cX5_takeIn 60 = .ok (.iconst 1, 1) := by decide +kernel
theorem dX5_takeIn_61 : decode cX5_takeIn 61 = .ok (.if_icmp .ne 7, 3) := by decide +kernel
theorem dX5_takeIn_64 : decode cX5_takeIn 64 = .ok (.iload_n 1, 1) := by decide +kernel
theorem dX5_takeIn_65 : decode cX5_takeIn 65 = .ok (.goto 4, 3) := by decide +kernel
theorem dX5_takeIn_68 : decode cX5_takeIn 68 = .ok (.iconst 0, 1) := by decide +kernel
theorem dX5_takeIn_69 : decode cX5_takeIn 69 = .ok (.ior, 1) := by decide +kernel
theorem dX5_takeIn_70 : decode cX5_takeIn 70 = .ok (.putfield 40, 3) := by decide +kernel
theorem dX5_takeIn_73 : decode cX5_takeIn 73 = .ok (.return_, 1) := by decide +kernel
theorem dX5_wrongBy_0 : decode cX5_wrongBy 0 = .ok (.iload_n 3, 1) := by decide +kernel
theorem dX5_wrongBy_1 : decode cX5_wrongBy 1 = .ok (.istore 5, 2) := by decide +kernel
theorem dX5_wrongBy_3 : decode cX5_wrongBy 3 = .ok (.bipush 26, 2) := by decide +kernel
theorem dX5_wrongBy_5 : decode cX5_wrongBy 5 = .ok (.istore 6, 2) := by decide +kernel
theorem dX5_wrongBy_7 : decode cX5_wrongBy 7 = .ok (.aload_n 0, 1) := by decide +kernel
theorem dX5_wrongBy_8 : decode cX5_wrongBy 8 = .ok (.iconst 0, 1) := by decide +kernel
theorem dX5_wrongBy_9 : decode cX5_wrongBy 9 = .ok (.iload 6, 2) := by decide +kernel
theorem dX5_wrongBy_11 : decode cX5_wrongBy 11 = .ok (.iload 5, 2) := by decide +kernel
theorem dX5_wrongBy_13 : decode cX5_wrongBy 13 = .ok (.invokevirtual 57, 3) := by decide +kernel
theorem dX5_wrongBy_16 : decode cX5_wrongBy 16 = .ok (.istore 7, 2) := by decide +kernel
theorem dX5_wrongBy_18 : decode cX5_wrongBy 18 = .ok (.iconst 0, 1) := by decide +kernel
theorem dX5_wrongBy_19 : decode cX5_wrongBy 19 = .ok (.istore 8, 2) := by decide +kernel
theorem dX5_wrongBy_21 : decode cX5_wrongBy 21 = .ok (.iload 8, 2) := by decide +kernel
theorem dX5_wrongBy_23 : decode cX5_wrongBy 23 = .ok (.bipush 15, 2) := by decide +kernel
theorem dX5_wrongBy_25 : decode cX5_wrongBy 25 = .ok (.if_icmp .ge 98, 3) := by decide +kernel
theorem dX5_wrongBy_28 : decode cX5_wrongBy 28 = .ok (.iload 5, 2) := by decide +kernel
theorem dX5_wrongBy_30 : decode cX5_wrongBy 30 = .ok (.aload 4, 2) := by decide +kernel
theorem dX5_wrongBy_32 : decode cX5_wrongBy 32 = .ok (.iload 8, 2) := by decide +kernel
theorem dX5_wrongBy_34 : decode cX5_wrongBy 34 = .ok (.iaload, 1) := by decide +kernel
theorem dX5_wrongBy_35 : decode cX5_wrongBy 35 = .ok (.invokestatic 61, 3) := by decide +kernel
theorem dX5_wrongBy_38 : decode cX5_wrongBy 38 = .ok (.istore 5, 2) := by decide +kernel
theorem dX5_wrongBy_40 : decode cX5_wrongBy 40 = .ok (.iload_n 1, 1) := by decide +kernel
theorem dX5_wrongBy_41 : decode cX5_wrongBy 41 = .ok (.iconst 0, 1) := by decide +kernel
theorem dX5_wrongBy_42 : decode cX5_wrongBy 42 = .ok (.iload 8, 2) := by decide +kernel
theorem dX5_wrongBy_44 : decode cX5_wrongBy 44 = .ok (.invokestatic 65, 3) := by decide +kernel
theorem dX5_wrongBy_47 : decode cX5_wrongBy 47 = .ok (.istore 9, 2) := by decide +kernel
theorem dX5_wrongBy_49 : decode cX5_wrongBy 49 = .ok (.iload 8, 2) := by decide +kernel
theorem dX5_wrongBy_51 : decode cX5_wrongBy 51 = .ok (.iconst 2, 1) := by decide +kernel
theorem dX5_wrongBy_52 : decode cX5_wrongBy 52 = .ok (.irem, 1) := by decide +kernel
theorem dX5_wrongBy_53 : decode cX5_wrongBy 53 = .ok (.ifCond .ne 38, 3) := by decide +kernel
theorem dX5_wrongBy_56 : decode cX5_wrongBy 56 = .ok (.iload 6, 2) := by decide +kernel
theorem dX5_wrongBy_58 : decode cX5_wrongBy 58 = .ok (.iload 9, 2) := by decide +kernel
theorem dX5_wrongBy_60 : decode cX5_wrongBy 60 = .ok (.if_icmp .lt 31, 3) := by decide +kernel
theorem dX5_wrongBy_63 : decode cX5_wrongBy 63 = .ok (.iload 6, 2) := by decide +kernel
theorem dX5_wrongBy_65 : decode cX5_wrongBy 65 = .ok (.iload_n 1, 1) := by decide +kernel
theorem dX5_wrongBy_66 : decode cX5_wrongBy 66 = .ok (.iload_n 2, 1) := by decide +kernel
theorem dX5_wrongBy_67 : decode cX5_wrongBy 67 = .ok (.iload 5, 2) := by decide +kernel
theorem dX5_wrongBy_69 : decode cX5_wrongBy 69 = .ok (.iload 8, 2) := by decide +kernel
theorem dX5_wrongBy_71 : decode cX5_wrongBy 71 = .ok (.invokestatic 68, 3) := by decide +kernel
theorem dX5_wrongBy_74 : decode cX5_wrongBy 74 = .ok (.bipush 6, 2) := by decide +kernel
theorem dX5_wrongBy_76 : decode cX5_wrongBy 76 = .ok (.if_icmp .ge 10, 3) := by decide +kernel
theorem dX5_wrongBy_79 : decode cX5_wrongBy 79 = .ok (.iload 9, 2) := by decide +kernel
theorem dX5_wrongBy_81 : decode cX5_wrongBy 81 = .ok (.iconst 1, 1) := by decide +kernel
theorem dX5_wrongBy_82 : decode cX5_wrongBy 82 = .ok (.isub, 1) := by decide +kernel
theorem dX5_wrongBy_83 : decode cX5_wrongBy 83 = .ok (.goto 5, 3) := by decide +kernel
theorem dX5_wrongBy_86 : decode cX5_wrongBy 86 = .ok (.iload 9, 2) := by decide +kernel
theorem dX5_wrongBy_88 : decode cX5_wrongBy 88 = .ok (.isub, 1) := by decide +kernel
theorem dX5_wrongBy_89 : decode cX5_wrongBy 89 = .ok (.istore 6, 2) := by decide +kernel
theorem dX5_wrongBy_91 : decode cX5_wrongBy 91 = .ok (.iload 6, 2) := by decide +kernel
theorem dX5_wrongBy_93 : decode cX5_wrongBy 93 = .ok (.iload 5, 2) := by decide +kernel
theorem dX5_wrongBy_95 : decode cX5_wrongBy 95 = .ok (.invokestatic 72, 3) := by decide +kernel
theorem dX5_wrongBy_98 : decode cX5_wrongBy 98 = .ok (.istore 6, 2) := by decide +kernel
theorem dX5_wrongBy_100 : decode cX5_wrongBy 100 = .ok (.iload 7, 2) := by decide +kernel
theorem dX5_wrongBy_102 : decode cX5_wrongBy 102 = .ok (.aload_n 0, 1) := by decide +kernel
theorem dX5_wrongBy_103 : decode cX5_wrongBy 103 = .ok (.iload 8, 2) := by decide +kernel
theorem dX5_wrongBy_105 : decode cX5_wrongBy 105 = .ok (.iconst 1, 1) := by decide +kernel
theorem dX5_wrongBy_106 : decode cX5_wrongBy 106 = .ok (.iadd, 1) := by decide +kernel
theorem dX5_wrongBy_107 : decode cX5_wrongBy 107 = .ok (.iload 6, 2) := by decide +kernel
theorem dX5_wrongBy_109 : decode cX5_wrongBy 109 = .ok (.iload 5, 2) := by decide +kernel
theorem dX5_wrongBy_111 : decode cX5_wrongBy 111 = .ok (.invokevirtual 57, 3) := by decide +kernel
theorem dX5_wrongBy_114 : decode cX5_wrongBy 114 = .ok (.ior, 1) := by decide +kernel
theorem dX5_wrongBy_115 : decode cX5_wrongBy 115 = .ok (.istore 7, 2) := by decide +kernel
theorem dX5_wrongBy_117 : decode cX5_wrongBy 117 = .ok (.iinc 8 1, 3) := by decide +kernel
theorem dX5_wrongBy_120 : decode cX5_wrongBy 120 = .ok (.goto (-99), 3) := by decide +kernel
theorem dX5_wrongBy_123 : decode cX5_wrongBy 123 = .ok (.iload 7, 2) := by decide +kernel
theorem dX5_wrongBy_125 : decode cX5_wrongBy 125 = .ok (.ireturn, 1) := by decide +kernel
theorem dX5_wrongBehind_0 : decode cX5_wrongBehind 0 = .ok (.iconst 0, 1) := by decide +kernel
theorem dX5_wrongBehind_1 : decode cX5_wrongBehind 1 = .ok (.istore 4, 2) := by decide +kernel
theorem dX5_wrongBehind_3 : decode cX5_wrongBehind 3 = .ok (.iconst 0, 1) := by decide +kernel
theorem dX5_wrongBehind_4 : decode cX5_wrongBehind 4 = .ok (.istore 5, 2) := by decide +kernel
theorem dX5_wrongBehind_6 : decode cX5_wrongBehind 6 = .ok (.iload 5, 2) := by decide +kernel
theorem dX5_wrongBehind_8 : decode cX5_wrongBehind 8 = .ok (.aload_n 0, 1) := by decide +kernel
theorem dX5_wrongBehind_9 : decode cX5_wrongBehind 9 = .ok (.getfield 27, 3) := by decide +kernel
theorem dX5_wrongBehind_12 : decode cX5_wrongBehind 12 = .ok (.if_icmp .ge 86, 3) := by decide +kernel
theorem dX5_wrongBehind_15 : decode cX5_wrongBehind 15 = .ok (.aload_n 0, 1) := by decide +kernel
theorem dX5_wrongBehind_16 : decode cX5_wrongBehind 16 = .ok (.getfield 15, 3) := by decide +kernel
theorem dX5_wrongBehind_19 : decode cX5_wrongBehind 19 = .ok (.iload 5, 2) := by decide +kernel
theorem dX5_wrongBehind_21 : decode cX5_wrongBehind 21 = .ok (.iaload, 1) := by decide +kernel
theorem dX5_wrongBehind_22 : decode cX5_wrongBehind 22 = .ok (.ifCond .ne 7, 3) := by decide +kernel
theorem dX5_wrongBehind_25 : decode cX5_wrongBehind 25 = .ok (.iload_n 2, 1) := by decide +kernel
theorem dX5_wrongBehind_26 : decode cX5_wrongBehind 26 = .ok (.goto 4, 3) := by decide +kernel
theorem dX5_wrongBehind_29 : decode cX5_wrongBehind 29 = .ok (.iload_n 3, 1) := by decide +kernel
theorem dX5_wrongBehind_30 : decode cX5_wrongBehind 30 = .ok (.istore 6, 2) := by decide +kernel
theorem dX5_wrongBehind_32 : decode cX5_wrongBehind 32 = .ok (.iload 6, 2) := by decide +kernel
theorem dX5_wrongBehind_34 : decode cX5_wrongBehind 34 = .ok (.aload_n 0, 1) := by decide +kernel
theorem dX5_wrongBehind_35 : decode cX5_wrongBehind 35 = .ok (.getfield 18, 3) := by decide +kernel
theorem dX5_wrongBehind_38 : decode cX5_wrongBehind 38 = .ok (.iload 5, 2) := by decide +kernel
theorem dX5_wrongBehind_40 : decode cX5_wrongBehind 40 = .ok (.iaload, 1) := by decide +kernel
theorem dX5_wrongBehind_41 : decode cX5_wrongBehind 41 = .ok (.if_icmp .lt 19, 3) := by decide +kernel
theorem dX5_wrongBehind_44 : decode cX5_wrongBehind 44 = .ok (.iload 6, 2) := by decide +kernel
theorem dX5_wrongBehind_46 : decode cX5_wrongBehind 46 = .ok (.aload_n 0, 1) := by decide +kernel
theorem dX5_wrongBehind_47 : decode cX5_wrongBehind 47 = .ok (.getfield 21, 3) := by decide +kernel
theorem dX5_wrongBehind_50 : decode cX5_wrongBehind 50 = .ok (.iload 5, 2) := by decide +kernel
theorem dX5_wrongBehind_52 : decode cX5_wrongBehind 52 = .ok (.iaload, 1) := by decide +kernel
theorem dX5_wrongBehind_53 : decode cX5_wrongBehind 53 = .ok (.if_icmp .gt 7, 3) := by decide +kernel
theorem dX5_wrongBehind_56 : decode cX5_wrongBehind 56 = .ok (.iconst 1, 1) := by decide +kernel
theorem dX5_wrongBehind_57 : decode cX5_wrongBehind 57 = .ok (.goto 4, 3) := by decide +kernel
theorem dX5_wrongBehind_60 : decode cX5_wrongBehind 60 = .ok (.iconst 0, 1) := by decide +kernel
theorem dX5_wrongBehind_61 : decode cX5_wrongBehind 61 = .ok (.istore 7, 2) := by decide +kernel
theorem dX5_wrongBehind_63 : decode cX5_wrongBehind 63 = .ok (.iload 4, 2) := by decide +kernel
theorem dX5_wrongBehind_65 : decode cX5_wrongBehind 65 = .ok (.aload_n 0, 1) := by decide +kernel
theorem dX5_wrongBehind_66 : decode cX5_wrongBehind 66 = .ok (.getfield 9, 3) := by decide +kernel
theorem dX5_wrongBehind_69 : decode cX5_wrongBehind 69 = .ok (.iload 5, 2) := by decide +kernel
theorem dX5_wrongBehind_71 : decode cX5_wrongBehind 71 = .ok (.iaload, 1) := by decide +kernel
theorem dX5_wrongBehind_72 : decode cX5_wrongBehind 72 = .ok (.iload_n 1, 1) := by decide +kernel
theorem dX5_wrongBehind_73 : decode cX5_wrongBehind 73 = .ok (.if_icmp .ne 15, 3) := by decide +kernel
theorem dX5_wrongBehind_76 : decode cX5_wrongBehind 76 = .ok (.iload 7, 2) := by decide +kernel
theorem dX5_wrongBehind_78 : decode cX5_wrongBehind 78 = .ok (.ifCond .ne 10, 3) := by decide +kernel
theorem dX5_wrongBehind_81 : decode cX5_wrongBehind 81 = .ok (.iconst 1, 1) := by decide +kernel
theorem dX5_wrongBehind_82 : decode cX5_wrongBehind 82 = .ok (.iload 5, 2) := by decide +kernel
theorem dX5_wrongBehind_84 : decode cX5_wrongBehind 84 = .ok (.ishl, 1) := by decide +kernel
theorem dX5_wrongBehind_85 : decode cX5_wrongBehind 85 = .ok (.goto 4, 3) := by decide +kernel
theorem dX5_wrongBehind_88 : decode cX5_wrongBehind 88 = .ok (.iconst 0, 1) := by decide +kernel
theorem dX5_wrongBehind_89 : decode cX5_wrongBehind 89 = .ok (.ior, 1) := by decide +kernel
theorem dX5_wrongBehind_90 : decode cX5_wrongBehind 90 = .ok (.istore 4, 2) := by decide +kernel
theorem dX5_wrongBehind_92 : decode cX5_wrongBehind 92 = .ok (.iinc 5 1, 3) := by decide +kernel
theorem dX5_wrongBehind_95 : decode cX5_wrongBehind 95 = .ok (.goto (-89), 3) := by decide +kernel
theorem dX5_wrongBehind_98 : decode cX5_wrongBehind 98 = .ok (.iload 4, 2) := by decide +kernel
theorem dX5_wrongBehind_100 : decode cX5_wrongBehind 100 = .ok (.ireturn, 1) := by decide +kernel
theorem dX6_takes_0 : decode cX6_takes 0 = .ok (.aload_n 0, 1) := by decide +kernel
theorem dX6_takes_1 : decode cX6_takes 1 = .ok (.getfield 28, 3) := by decide +kernel
theorem dX6_takes_4 : decode cX6_takes 4 = .ok (.iload_n 3, 1) := by decide +kernel
theorem dX6_takes_5 : decode cX6_takes 5 = .ok (.iadd, 1) := by decide +kernel
theorem dX6_takes_6 : decode cX6_takes 6 = .ok (.sipush 200, 3) := by decide +kernel
theorem dX6_takes_9 : decode cX6_takes 9 = .ok (.if_icmp .le 5, 3) := by decide +kernel
theorem dX6_takes_12 : decode cX6_takes 12 = .ok (.iconst 0, 1) := by decide +kernel
theorem dX6_takes_13 : decode cX6_takes 13 = .ok (.ireturn, 1) := by decide +kernel
theorem dX6_takes_14 : decode cX6_takes 14 = .ok (.iconst 0, 1) := by decide +kernel
theorem dX6_takes_15 : decode cX6_takes 15 = .ok (.istore 4, 2) := by decide +kernel
theorem dX6_takes_17 : decode cX6_takes 17 = .ok (.iload 4, 2) := by decide +kernel
theorem dX6_takes_19 : decode cX6_takes 19 = .ok (.iload_n 3, 1) := by decide +kernel
theorem dX6_takes_20 : decode cX6_takes 20 = .ok (.if_icmp .ge 33, 3) := by decide +kernel
theorem dX6_takes_23 : decode cX6_takes 23 = .ok (.aload_n 0, 1) := by decide +kernel
theorem dX6_takes_24 : decode cX6_takes 24 = .ok (.getfield 11, 3) := by decide +kernel
theorem dX6_takes_27 : decode cX6_takes 27 = .ok (.aload_n 0, 1) := by decide +kernel
theorem dX6_takes_28 : decode cX6_takes 28 = .ok (.getfield 28, 3) := by decide +kernel
theorem dX6_takes_31 : decode cX6_takes 31 = .ok (.iload 4, 2) := by decide +kernel
theorem dX6_takes_33 : decode cX6_takes 33 = .ok (.iadd, 1) := by decide +kernel
theorem dX6_takes_34 : decode cX6_takes 34 = .ok (.lload_n 1, 1) := by decide +kernel
theorem dX6_takes_35 : decode cX6_takes 35 = .ok (.bipush 8, 2) := by decide +kernel
theorem dX6_takes_37 : decode cX6_takes 37 = .ok (.iload 4, 2) := by decide +kernel
theorem dX6_takes_39 : decode cX6_takes 39 = .ok (.imul, 1) := by decide +kernel
theorem dX6_takes_40 : decode cX6_takes 40 = .ok (.lushr, 1) := by decide +kernel
theorem dX6_takes_41 : decode cX6_takes 41 = .ok (.ldc2_w 32, 3) := by decide +kernel
theorem dX6_takes_44 : decode cX6_takes 44 = .ok (.land, 1) := by decide +kernel
theorem dX6_takes_45 : decode cX6_takes 45 = .ok (.l2i, 1) := by decide +kernel
theorem dX6_takes_46 : decode cX6_takes 46 = .ok (.iastore, 1) := by decide +kernel
theorem dX6_takes_47 : decode cX6_takes 47 = .ok (.iinc 4 1, 3) := by decide +kernel
theorem dX6_takes_50 : decode cX6_takes 50 = .ok (.goto (-33), 3) := by decide +kernel
theorem dX6_takes_53 : decode cX6_takes 53 = .ok (.aload_n 0, 1) := by decide +kernel
theorem dX6_takes_54 : decode cX6_takes 54 = .ok (.dup, 1) := by decide +kernel
theorem dX6_takes_55 : decode cX6_takes 55 = .ok (.getfield 28, 3) := by decide +kernel
theorem dX6_takes_58 : decode cX6_takes 58 = .ok (.iload_n 3, 1) := by decide +kernel
theorem dX6_takes_59 : decode cX6_takes 59 = .ok (.iadd, 1) := by decide +kernel
theorem dX6_takes_60 : decode cX6_takes 60 = .ok (.putfield 28, 3) := by decide +kernel
theorem dX6_takes_63 : decode cX6_takes 63 = .ok (.iconst 1, 1) := by decide +kernel
theorem dX6_takes_64 : decode cX6_takes 64 = .ok (.ireturn, 1) := by decide +kernel
theorem dX6_tell_0 : decode cX6_tell 0 = .ok (.aload_n 0, 1) := by decide +kernel
theorem dX6_tell_1 : decode cX6_tell 1 = .ok (.invokevirtual 34, 3) := by decide +kernel
theorem dX6_tell_4 : decode cX6_tell 4 = .ok (.aload_n 0, 1) := by decide +kernel
theorem dX6_tell_5 : decode cX6_tell 5 = .ok (.iconst 0, 1) := by decide +kernel
theorem dX6_tell_6 : decode cX6_tell 6 = .ok (.putfield 28, 3) := by decide +kernel
theorem dX6_tell_9 : decode cX6_tell 9 = .ok (.aload_n 0, 1) := by decide +kernel
theorem dX6_tell_10 : decode cX6_tell 10 = .ok (.iconst 0, 1) := by decide +kernel
theorem dX6_tell_11 : decode cX6_tell 11 = .ok (.putfield 37, 3) := by decide +kernel
theorem dX6_tell_14 : decode cX6_tell 14 = .ok (.aload_n 0, 1) := by decide +kernel
theorem dX6_tell_15 : decode cX6_tell 15 = .ok (.bipush (-3), 2) := by decide +kernel
theorem dX6_tell_17 : decode cX6_tell 17 = .ok (.putfield 40, 3) := by decide +kernel
theorem dX6_tell_20 : decode cX6_tell 20 = .ok (.aload_n 0, 1) := by decide +kernel
theorem dX6_tell_21 : decode cX6_tell 21 = .ok (.getfield 24, 3) := by decide +kernel
theorem dX6_tell_24 : decode cX6_tell 24 = .ok (.iconst 0, 1) := by decide +kernel
theorem dX6_tell_25 : decode cX6_tell 25 = .ok (.putfield 43, 3) := by decide +kernel
theorem dX6_tell_28 : decode cX6_tell 28 = .ok (.aload_n 0, 1) := by decide +kernel
theorem dX6_tell_29 : decode cX6_tell 29 = .ok (.getfield 24, 3) := by decide +kernel
theorem dX6_tell_32 : decode cX6_tell 32 = .ok (.iconst 0, 1) := by decide +kernel
theorem dX6_tell_33 : decode cX6_tell 33 = .ok (.putfield 44, 3) := by decide +kernel
theorem dX6_tell_36 : decode cX6_tell 36 = .ok (.iconst 0, 1) := by decide +kernel
theorem dX6_tell_37 : decode cX6_tell 37 = .ok (.istore_n 2, 1) := by decide +kernel
theorem dX6_tell_38 : decode cX6_tell 38 = .ok (.iload_n 2, 1) := by decide +kernel
theorem dX6_tell_39 : decode cX6_tell 39 = .ok (.bipush 8, 2) := by decide +kernel
theorem dX6_tell_41 : decode cX6_tell 41 = .ok (.if_icmp .ge 24, 3) := by decide +kernel
theorem dX6_tell_44 : decode cX6_tell 44 = .ok (.aload_n 0, 1) := by decide +kernel
theorem dX6_tell_45 : decode cX6_tell 45 = .ok (.iconst 0, 1) := by decide +kernel
theorem dX6_tell_46 : decode cX6_tell 46 = .ok (.sipush 30000, 3) := by decide +kernel
theorem dX6_tell_49 : decode cX6_tell 49 = .ok (.invokevirtual 47, 3) := by decide +kernel
theorem dX6_tell_52 : decode cX6_tell 52 = .ok (.ifCond .eq 13, 3) := by decide +kernel
theorem dX6_tell_55 : decode cX6_tell 55 = .ok (.aload_n 0, 1) := by decide +kernel
theorem dX6_tell_56 : decode cX6_tell 56 = .ok (.invokevirtual 51, 3) := by decide +kernel
theorem dX6_tell_59 : decode cX6_tell 59 = .ok (.iinc 2 1, 3) := by decide +kernel
theorem dX6_tell_62 : decode cX6_tell 62 = .ok (.goto (-24), 3) := by decide +kernel
theorem dX6_tell_65 : decode cX6_tell 65 = .ok (.aload_n 0, 1) := by decide +kernel
theorem dX6_tell_66 : decode cX6_tell 66 = .ok (.iconst 0, 1) := by decide +kernel
theorem dX6_tell_67 : decode cX6_tell 67 = .ok (.sipush 30000, 3) := by decide +kernel
theorem dX6_tell_70 : decode cX6_tell 70 = .ok (.invokevirtual 47, 3) := by decide +kernel
theorem dX6_tell_73 : decode cX6_tell 73 = .ok (.ifCond .eq 16, 3) := by decide +kernel
theorem dX6_tell_76 : decode cX6_tell 76 = .ok (.aload_n 0, 1) := by decide +kernel
theorem dX6_tell_77 : decode cX6_tell 77 = .ok (.aload_n 0, 1) := by decide +kernel
theorem dX6_tell_78 : decode cX6_tell 78 = .ok (.getfield 18, 3) := by decide +kernel
theorem dX6_tell_81 : decode cX6_tell 81 = .ok (.aload_n 0, 1) := by decide +kernel
theorem dX6_tell_82 : decode cX6_tell 82 = .ok (.getfield 37, 3) := by decide +kernel
theorem dX6_tell_85 : decode cX6_tell 85 = .ok (.iaload, 1) := by decide +kernel
theorem dX6_tell_86 : decode cX6_tell 86 = .ok (.putfield 40, 3) := by decide +kernel
theorem dX6_tell_89 : decode cX6_tell 89 = .ok (.aload_n 0, 1) := by decide +kernel
theorem dX6_tell_90 : decode cX6_tell 90 = .ok (.getfield 40, 3) := by decide +kernel
theorem dX6_tell_93 : decode cX6_tell 93 = .ok (.bipush (-3), 2) := by decide +kernel
theorem dX6_tell_95 : decode cX6_tell 95 = .ok (.if_icmp .eq 11, 3) := by decide +kernel
theorem dX6_tell_98 : decode cX6_tell 98 = .ok (.bipush (-100), 2) := by decide +kernel
theorem dX6_tell_100 : decode cX6_tell 100 = .ok (.aload_n 0, 1) := by decide +kernel
theorem dX6_tell_101 : decode cX6_tell 101 = .ok (.getfield 40, 3) := by decide +kernel
theorem dX6_tell_104 : decode cX6_tell 104 = .ok (.isub, 1) := by decide +kernel
theorem dX6_tell_105 : decode cX6_tell 105 = .ok (.ireturn, 1) := by decide +kernel
theorem dX6_tell_106 : decode cX6_tell 106 = .ok (.aload_n 1, 1) := by decide +kernel
theorem dX6_tell_107 : decode cX6_tell 107 = .ok (.aload_n 0, 1) := by decide +kernel
theorem dX6_tell_108 : decode cX6_tell 108 = .ok (.getfield 24, 3) := by decide +kernel
theorem dX6_tell_111 : decode cX6_tell 111 = .ok (.invokevirtual 54, 3) := by decide +kernel
theorem dX6_tell_114 : decode cX6_tell 114 = .ok (.aload_n 1, 1) := by decide +kernel
theorem dX6_tell_115 : decode cX6_tell 115 = .ok (.getfield 43, 3) := by decide +kernel
theorem dX6_tell_118 : decode cX6_tell 118 = .ok (.ireturn, 1) := by decide +kernel
theorem dX6_divide_0 : decode cX6_divide 0 = .ok (.iconst 0, 1) := by decide +kernel
theorem dX6_divide_1 : decode cX6_divide 1 = .ok (.istore_n 1, 1) := by decide +kernel
theorem dX6_divide_2 : decode cX6_divide 2 = .ok (.iconst 0, 1) := by decide +kernel
theorem dX6_divide_3 : decode cX6_divide 3 = .ok (.istore_n 2, 1) := by decide +kernel
theorem dX6_divide_4 : decode cX6_divide 4 = .ok (.iload_n 2, 1) := by decide +kernel
theorem dX6_divide_5 : decode cX6_divide 5 = .ok (.aload_n 0, 1) := by decide +kernel
theorem dX6_divide_6 : decode cX6_divide 6 = .ok (.getfield 28, 3) := by decide +kernel
theorem dX6_divide_9 : decode cX6_divide 9 = .ok (.if_icmp .ge 103, 3) := by decide +kernel
theorem dX6_divide_12 : decode cX6_divide 12 = .ok (.aload_n 0, 1) := by decide +kernel
theorem dX6_divide_13 : decode cX6_divide 13 = .ok (.iload_n 2, 1) := by decide +kernel
theorem dX6_divide_14 : decode cX6_divide 14 = .ok (.invokevirtual 58, 3) := by decide +kernel
theorem dX6_divide_17 : decode cX6_divide 17 = .ok (.istore_n 3, 1) := by decide +kernel
theorem dX6_divide_18 : decode cX6_divide 18 = .ok (.iload_n 3, 1) := by decide +kernel
theorem dX6_divide_19 : decode cX6_divide 19 = .ok (.iconst 3, 1) := by decide +kernel
theorem dX6_divide_20 : decode cX6_divide 20 = .ok (.if_icmp .eq 22, 3) := by decide +kernel
theorem dX6_divide_23 : decode cX6_divide 23 = .ok (.iload_n 2, 1) := by decide +kernel
theorem dX6_divide_24 : decode cX6_divide 24 = .ok (.ifCond .le 18, 3) := by decide +kernel
theorem dX6_divide_27 : decode cX6_divide 27 = .ok (.aload_n 0, 1) := by decide +kernel
theorem dX6_divide_28 : decode cX6_divide 28 = .ok (.iload_n 2, 1) := by decide +kernel
theorem dX6_divide_29 : decode cX6_divide 29 = .ok (.iconst 1, 1) := by decide +kernel
theorem dX6_divide_30 : decode cX6_divide 30 = .ok (.isub, 1) := by decide +kernel
theorem dX6_divide_31 : decode cX6_divide 31 = .ok (.invokevirtual 58, 3) := by decide +kernel
theorem dX6_divide_34 : decode cX6_divide 34 = .ok (.iload_n 3, 1) := by decide +kernel
theorem dX6_divide_35 : decode cX6_divide 35 = .ok (.if_icmp .ne 7, 3) := by decide +kernel
theorem dX6_divide_38 : decode cX6_divide 38 = .ok (.iconst 1, 1) := by decide +kernel
theorem dX6_divide_39 : decode cX6_divide 39 = .ok (.goto 4, 3) := by decide +kernel
theorem dX6_divide_42 : decode cX6_divide 42 = .ok (.iconst 0, 1) := by decide +kernel
theorem dX6_divide_43 : decode cX6_divide 43 = .ok (.istore 4, 2) := by decide +kernel
theorem dX6_divide_45 : decode cX6_divide 45 = .ok (.iload_n 3, 1) := by decide +kernel
theorem dX6_divide_46 : decode cX6_divide 46 = .ok (.ifCond .eq 60, 3) := by decide +kernel
theorem dX6_divide_49 : decode cX6_divide 49 = .ok (.iload 4, 2) := by decide +kernel
theorem dX6_divide_51 : decode cX6_divide 51 = .ok (.ifCond .ne 55, 3) := by decide +kernel
theorem dX6_divide_54 : decode cX6_divide 54 = .ok (.aload_n 0, 1) := by decide +kernel
theorem dX6_divide_55 : decode cX6_divide 55 = .ok (.getfield 15, 3) := by decide +kernel
theorem dX6_divide_58 : decode cX6_divide 58 = .ok (.iload_n 1, 1) := by decide +kernel
theorem dX6_divide_59 : decode cX6_divide 59 = .ok (.iload_n 3, 1) := by decide +kernel
theorem dX6_divide_60 : decode cX6_divide 60 = .ok (.iconst 1, 1) := by decide +kernel
theorem dX6_divide_61 : decode cX6_divide 61 = .ok (.if_icmp .ne 11, 3) := by decide +kernel
theorem dX6_divide_64 : decode cX6_divide 64 = .ok (.aload_n 0, 1) := by decide +kernel
theorem dX6_divide_65 : decode cX6_divide 65 = .ok (.iload_n 2, 1) := by decide +kernel
theorem dX6_divide_66 : decode cX6_divide 66 = .ok (.invokevirtual 62, 3) := by decide +kernel
theorem dX6_divide_69 : decode cX6_divide 69 = .ok (.goto 26, 3) := by decide +kernel
theorem dX6_divide_72 : decode cX6_divide 72 = .ok (.iload_n 3, 1) := by decide +kernel
theorem dX6_divide_73 : decode cX6_divide 73 = .ok (.iconst 2, 1) := by decide +kernel
theorem dX6_divide_74 : decode cX6_divide 74 = .ok (.if_icmp .ne 11, 3) := by decide +kernel
theorem dX6_divide_77 : decode cX6_divide 77 = .ok (.aload_n 0, 1) := by decide +kernel
theorem dX6_divide_78 : decode cX6_divide 78 = .ok (.iload_n 2, 1) := by decide +kernel
theorem dX6_divide_79 : decode cX6_divide 79 = .ok (.invokevirtual 65, 3) := by decide +kernel
theorem dX6_divide_82 : decode cX6_divide 82 = .ok (.goto 13, 3) := by decide +kernel
theorem dX6_divide_85 : decode cX6_divide 85 = .ok (.sipush 20000, 3) := by decide +kernel
theorem dX6_divide_88 : decode cX6_divide 88 = .ok (.aload_n 0, 1) := by decide +kernel
theorem dX6_divide_89 : decode cX6_divide 89 = .ok (.getfield 11, 3) := by decide +kernel
theorem dX6_divide_92 : decode cX6_divide 92 = .ok (.iload_n 2, 1) := by decide +kernel
theorem dX6_divide_93 : decode cX6_divide 93 = .ok (.iaload, 1) := by decide +kernel
theorem dX6_divide_94 : decode cX6_divide 94 = .ok (.iadd, 1) := by decide +kernel
theorem dX6_divide_95 : decode cX6_divide 95 = .ok (.iastore, 1) := by decide +kernel
theorem dX6_divide_96 : decode cX6_divide 96 = .ok (.aload_n 0, 1) := by decide +kernel
theorem dX6_divide_97 : decode cX6_divide 97 = .ok (.getfield 18, 3) := by decide +kernel
theorem dX6_divide_100 : decode cX6_divide 100 = .ok (.iload_n 1, 1) := by decide +kernel
theorem dX6_divide_101 : decode cX6_divide 101 = .ok (.iload_n 2, 1) := by decide +kernel
theorem dX6_divide_102 : decode cX6_divide 102 = .ok (.iastore, 1) := by decide +kernel
theorem dX6_divide_103 : decode cX6_divide 103 = .ok (.iinc 1 1, 3) := by decide +kernel
theorem dX6_divide_106 : decode cX6_divide 106 = .ok (.iinc 2 1, 3) := by decide +kernel
theorem dX6_divide_109 : decode cX6_divide 109 = .ok (.goto (-105), 3) := by decide +kernel
theorem dX6_divide_112 : decode cX6_divide 112 = .ok (.aload_n 0, 1) := by decide +kernel
theorem dX6_divide_113 : decode cX6_divide 113 = .ok (.getfield 15, 3) := by decide +kernel
theorem dX6_divide_116 : decode cX6_divide 116 = .ok (.iload_n 1, 1) := by decide +kernel
theorem dX6_divide_117 : decode cX6_divide 117 = .ok (.sipush 30001, 3) := by decide +kernel
theorem dX6_divide_120 : decode cX6_divide 120 = .ok (.iastore, 1) := by decide +kernel
theorem dX6_divide_121 : decode cX6_divide 121 = .ok (.aload_n 0, 1) := by decide +kernel
theorem dX6_divide_122 : decode cX6_divide 122 = .ok (.getfield 18, 3) := by decide +kernel
theorem dX6_divide_125 : decode cX6_divide 125 = .ok (.iload_n 1, 1) := by decide +kernel
theorem dX6_divide_126 : decode cX6_divide 126 = .ok (.aload_n 0, 1) := by decide +kernel
theorem dX6_divide_127 : decode cX6_divide 127 = .ok (.getfield 28, 3) := by decide +kernel
theorem dX6_divide_130 : decode cX6_divide 130 = .ok (.iastore, 1) := by decide +kernel
theorem dX6_divide_131 : decode cX6_divide 131 = .ok (.return_, 1) := by decide +kernel
theorem dX6_sortAt_0 : decode cX6_sortAt 0 = .ok (.iload_n 1, 1) := by decide +kernel
theorem dX6_sortAt_1 : decode cX6_sortAt 1 = .ok (.aload_n 0, 1) := by decide +kernel
theorem dX6_sortAt_2 : decode cX6_sortAt 2 = .ok (.getfield 28, 3) := by decide +kernel
theorem dX6_sortAt_5 : decode cX6_sortAt 5 = .ok (.if_icmp .ge 12, 3) := by decide +kernel
theorem dX6_sortAt_8 : decode cX6_sortAt 8 = .ok (.aload_n 0, 1) := by decide +kernel
theorem dX6_sortAt_9 : decode cX6_sortAt 9 = .ok (.getfield 11, 3) := by decide +kernel
theorem dX6_sortAt_12 : decode cX6_sortAt 12 = .ok (.iload_n 1, 1) := by decide +kernel
theorem dX6_sortAt_13 : decode cX6_sortAt 13 = .ok (.iaload, 1) := by decide +kernel
theorem dX6_sortAt_14 : decode cX6_sortAt 14 = .ok (.goto 5, 3) := by decide +kernel
theorem dX6_sortAt_17 : decode cX6_sortAt 17 = .ok (.bipush 32, 2) := by decide +kernel
theorem dX6_sortAt_19 : decode cX6_sortAt 19 = .ok (.istore_n 2, 1) := by decide +kernel
theorem dX6_sortAt_20 : decode cX6_sortAt 20 = .ok (.iload_n 2, 1) := by decide +kernel
theorem dX6_sortAt_21 : decode cX6_sortAt 21 = .ok (.bipush 97, 2) := by decide +kernel
theorem dX6_sortAt_23 : decode cX6_sortAt 23 = .ok (.if_icmp .lt 11, 3) := by decide +kernel
theorem dX6_sortAt_26 : decode cX6_sortAt 26 = .ok (.iload_n 2, 1) := by decide +kernel
theorem dX6_sortAt_27 : decode cX6_sortAt 27 = .ok (.bipush 122, 2) := by decide +kernel
theorem dX6_sortAt_29 : decode cX6_sortAt 29 = .ok (.if_icmp .gt 5, 3) := by decide +kernel
theorem dX6_sortAt_32 : decode cX6_sortAt 32 = .ok (.iconst 1, 1) := by decide +kernel
theorem dX6_sortAt_33 : decode cX6_sortAt 33 = .ok (.ireturn, 1) := by decide +kernel
theorem dX6_sortAt_34 : decode cX6_sortAt 34 = .ok (.iload_n 2, 1) := by decide +kernel
theorem dX6_sortAt_35 : decode cX6_sortAt 35 = .ok (.bipush 48, 2) := by decide +kernel
theorem dX6_sortAt_37 : decode cX6_sortAt 37 = .ok (.if_icmp .lt 11, 3) := by decide +kernel
theorem dX6_sortAt_40 : decode cX6_sortAt 40 = .ok (.iload_n 2, 1) := by decide +kernel
theorem dX6_sortAt_41 : decode cX6_sortAt 41 = .ok (.bipush 57, 2) := by decide +kernel
theorem dX6_sortAt_43 : decode cX6_sortAt 43 = .ok (.if_icmp .gt 5, 3) := by decide +kernel
theorem dX6_sortAt_46 : decode cX6_sortAt 46 = .ok (.iconst 2, 1) := by decide +kernel
theorem dX6_sortAt_47 : decode cX6_sortAt 47 = .ok (.ireturn, 1) := by decide +kernel
theorem dX6_sortAt_48 : decode cX6_sortAt 48 = .ok (.iload_n 2, 1) := by decide +kernel
theorem dX6_sortAt_49 : decode cX6_sortAt 49 = .ok (.bipush 32, 2) := by decide +kernel
theorem dX6_sortAt_51 : decode cX6_sortAt 51 = .ok (.if_icmp .ne 7, 3) := by decide +kernel
theorem dX6_sortAt_54 : decode cX6_sortAt 54 = .ok (.iconst 0, 1) := by decide +kernel
theorem dX6_sortAt_55 : decode cX6_sortAt 55 = .ok (.goto 4, 3) := by decide +kernel
theorem dX6_sortAt_58 : decode cX6_sortAt 58 = .ok (.iconst 3, 1) := by decide +kernel
theorem dX6_sortAt_59 : decode cX6_sortAt 59 = .ok (.ireturn, 1) := by decide +kernel
theorem dX6_wordAt_0 : decode cX6_wordAt 0 = .ok (.iconst 0, 1) := by decide +kernel
theorem dX6_wordAt_1 : decode cX6_wordAt 1 = .ok (.istore_n 2, 1) := by decide +kernel
theorem dX6_wordAt_2 : decode cX6_wordAt 2 = .ok (.iconst 0, 1) := by decide +kernel
theorem dX6_wordAt_3 : decode cX6_wordAt 3 = .ok (.istore_n 3, 1) := by decide +kernel
theorem dX6_wordAt_4 : decode cX6_wordAt 4 = .ok (.iconst 1, 1) := by decide +kernel
theorem dX6_wordAt_5 : decode cX6_wordAt 5 = .ok (.istore 4, 2) := by decide +kernel
theorem dX6_wordAt_7 : decode cX6_wordAt 7 = .ok (.iconst 0, 1) := by decide +kernel
theorem dX6_wordAt_8 : decode cX6_wordAt 8 = .ok (.istore 5, 2) := by decide +kernel
theorem dX6_wordAt_10 : decode cX6_wordAt 10 = .ok (.iload 5, 2) := by decide +kernel
theorem dX6_wordAt_12 : decode cX6_wordAt 12 = .ok (.ldc 68, 2) := by decide +kernel
theorem dX6_wordAt_14 : decode cX6_wordAt 14 = .ok (.invokevirtual 70, 3) := by decide +kernel
theorem dX6_wordAt_17 : decode cX6_wordAt 17 = .ok (.if_icmp .ge 96, 3) := by decide +kernel
theorem dX6_wordAt_20 : decode cX6_wordAt 20 = .ok (.ldc 68, 2) := by decide +kernel
theorem dX6_wordAt_22 : decode cX6_wordAt 22 = .ok (.iload 5, 2) := by decide +kernel
theorem dX6_wordAt_24 : decode cX6_wordAt 24 = .ok (.invokevirtual 76, 3) := by decide +kernel
theorem dX6_wordAt_27 : decode cX6_wordAt 27 = .ok (.istore 6, 2) := by decide +kernel
theorem dX6_wordAt_29 : decode cX6_wordAt 29 = .ok (.iload 6, 2) := by decide +kernel
theorem dX6_wordAt_31 : decode cX6_wordAt 31 = .ok (.bipush 32, 2) := by decide +kernel
theorem dX6_wordAt_33 : decode cX6_wordAt 33 = .ok (.if_icmp .eq 44, 3) := by decide +kernel
theorem dX6_wordAt_36 : decode cX6_wordAt 36 = .ok (.iload 4, 2) := by decide +kernel
theorem dX6_wordAt_38 : decode cX6_wordAt 38 = .ok (.ifCond .eq 30, 3) := by decide +kernel
theorem dX6_wordAt_41 : decode cX6_wordAt 41 = .ok (.iload_n 1, 1) := by decide +kernel
theorem dX6_wordAt_42 : decode cX6_wordAt 42 = .ok (.iload_n 3, 1) := by decide +kernel
theorem dX6_wordAt_43 : decode cX6_wordAt 43 = .ok (.iadd, 1) := by decide +kernel
theorem dX6_wordAt_44 : decode cX6_wordAt 44 = .ok (.aload_n 0, 1) := by decide +kernel
theorem dX6_wordAt_45 : decode cX6_wordAt 45 = .ok (.getfield 28, 3) := by decide +kernel
theorem dX6_wordAt_48 : decode cX6_wordAt 48 = .ok (.if_icmp .ge 20, 3) := by decide +kernel
theorem dX6_wordAt_51 : decode cX6_wordAt 51 = .ok (.aload_n 0, 1) := by decide +kernel
theorem dX6_wordAt_52 : decode cX6_wordAt 52 = .ok (.getfield 11, 3) := by decide +kernel
theorem dX6_wordAt_55 : decode cX6_wordAt 55 = .ok (.iload_n 1, 1) := by decide +kernel
theorem dX6_wordAt_56 : decode cX6_wordAt 56 = .ok (.iload_n 3, 1) := by decide +kernel
theorem dX6_wordAt_57 : decode cX6_wordAt 57 = .ok (.iadd, 1) := by decide +kernel
theorem dX6_wordAt_58 : decode cX6_wordAt 58 = .ok (.iaload, 1) := by decide +kernel
theorem dX6_wordAt_59 : decode cX6_wordAt 59 = .ok (.iload 6, 2) := by decide +kernel
theorem dX6_wordAt_61 : decode cX6_wordAt 61 = .ok (.if_icmp .ne 7, 3) := by decide +kernel
theorem dX6_wordAt_64 : decode cX6_wordAt 64 = .ok (.iconst 1, 1) := by decide +kernel
theorem dX6_wordAt_65 : decode cX6_wordAt 65 = .ok (.goto 4, 3) := by decide +kernel
theorem dX6_wordAt_68 : decode cX6_wordAt 68 = .ok (.iconst 0, 1) := by decide +kernel
theorem dX6_wordAt_69 : decode cX6_wordAt 69 = .ok (.istore 4, 2) := by decide +kernel
theorem dX6_wordAt_71 : decode cX6_wordAt 71 = .ok (.iinc 3 1, 3) := by decide +kernel
theorem dX6_wordAt_74 : decode cX6_wordAt 74 = .ok (.goto 33, 3) := by decide +kernel
theorem dX6_wordAt_77 : decode cX6_wordAt 77 = .ok (.iload 4, 2) := by decide +kernel
theorem dX6_wordAt_79 : decode cX6_wordAt 79 = .ok (.ifCond .eq 20, 3) := by decide +kernel
theorem dX6_wordAt_82 : decode cX6_wordAt 82 = .ok (.aload_n 0, 1) := by decide +kernel
theorem dX6_wordAt_83 : decode cX6_wordAt 83 = .ok (.iload_n 1, 1) := by decide +kernel
theorem dX6_wordAt_84 : decode cX6_wordAt 84 = .ok (.iload_n 3, 1) := by decide +kernel
theorem dX6_wordAt_85 : decode cX6_wordAt 85 = .ok (.iadd, 1) := by decide +kernel
theorem dX6_wordAt_86 : decode cX6_wordAt 86 = .ok (.invokevirtual 58, 3) := by decide +kernel
theorem dX6_wordAt_89 : decode cX6_wordAt 89 = .ok (.iconst 1, 1) := by decide +kernel
theorem dX6_wordAt_90 : decode cX6_wordAt 90 = .ok (.if_icmp .eq 9, 3) := by decide +kernel
theorem dX6_wordAt_93 : decode cX6_wordAt 93 = .ok (.sipush 10000, 3) := by decide +kernel
theorem dX6_wordAt_96 : decode cX6_wordAt 96 = .ok (.iload_n 2, 1) := by decide +kernel
theorem dX6_wordAt_97 : decode cX6_wordAt 97 = .ok (.iadd, 1) := by decide +kernel
theorem dX6_wordAt_98 : decode cX6_wordAt 98 = .ok (.ireturn, 1) := by decide +kernel
theorem dX6_wordAt_99 : decode cX6_wordAt 99 = .ok (.iinc 2 1, 3) := by decide +kernel
theorem dX6_wordAt_102 : decode cX6_wordAt 102 = .ok (.iconst 0, 1) := by decide +kernel
theorem dX6_wordAt_103 : decode cX6_wordAt 103 = .ok (.istore_n 3, 1) := by decide +kernel
theorem dX6_wordAt_104 : decode cX6_wordAt 104 = .ok (.iconst 1, 1) := by decide +kernel
theorem dX6_wordAt_105 : decode cX6_wordAt 105 = .ok (.istore 4, 2) := by decide +kernel
theorem dX6_wordAt_107 : decode cX6_wordAt 107 = .ok (.iinc 5 1, 3) := by decide +kernel
theorem dX6_wordAt_110 : decode cX6_wordAt 110 = .ok (.goto (-100), 3) := by decide +kernel
theorem dX6_wordAt_113 : decode cX6_wordAt 113 = .ok (.sipush 30000, 3) := by decide +kernel
theorem dX6_wordAt_116 : decode cX6_wordAt 116 = .ok (.ireturn, 1) := by decide +kernel
theorem dX6_numberAt_0 : decode cX6_numberAt 0 = .ok (.iconst 0, 1) := by decide +kernel
theorem dX6_numberAt_1 : decode cX6_numberAt 1 = .ok (.istore_n 2, 1) := by decide +kernel
theorem dX6_numberAt_2 : decode cX6_numberAt 2 = .ok (.iconst 0, 1) := by decide +kernel
theorem dX6_numberAt_3 : decode cX6_numberAt 3 = .ok (.istore_n 3, 1) := by decide +kernel
theorem dX6_numberAt_4 : decode cX6_numberAt 4 = .ok (.iconst 0, 1) := by decide +kernel
theorem dX6_numberAt_5 : decode cX6_numberAt 5 = .ok (.istore 4, 2) := by decide +kernel
theorem dX6_numberAt_7 : decode cX6_numberAt 7 = .ok (.iload 4, 2) := by decide +kernel
theorem dX6_numberAt_9 : decode cX6_numberAt 9 = .ok (.iconst 4, 1) := by decide +kernel
theorem dX6_numberAt_10 : decode cX6_numberAt 10 = .ok (.if_icmp .gt 42, 3) := by decide +kernel
theorem dX6_numberAt_13 : decode cX6_numberAt 13 = .ok (.aload_n 0, 1) := by decide +kernel
theorem dX6_numberAt_14 : decode cX6_numberAt 14 = .ok (.iload_n 1, 1) := by decide +kernel
theorem dX6_numberAt_15 : decode cX6_numberAt 15 = .ok (.iload 4, 2) := by decide +kernel
theorem dX6_numberAt_17 : decode cX6_numberAt 17 = .ok (.iadd, 1) := by decide +kernel
theorem dX6_numberAt_18 : decode cX6_numberAt 18 = .ok (.invokevirtual 58, 3) := by decide +kernel
theorem dX6_numberAt_21 : decode cX6_numberAt 21 = .ok (.iconst 2, 1) := by decide +kernel
theorem dX6_numberAt_22 : decode cX6_numberAt 22 = .ok (.if_icmp .ne 30, 3) := by decide +kernel
theorem dX6_numberAt_25 : decode cX6_numberAt 25 = .ok (.iload_n 2, 1) := by decide +kernel
theorem dX6_numberAt_26 : decode cX6_numberAt 26 = .ok (.bipush 10, 2) := by decide +kernel
theorem dX6_numberAt_28 : decode cX6_numberAt 28 = .ok (.imul, 1) := by decide +kernel
theorem dX6_numberAt_29 : decode cX6_numberAt 29 = .ok (.aload_n 0, 1) := by decide +kernel
theorem dX6_numberAt_30 : decode cX6_numberAt 30 = .ok (.getfield 11, 3) := by decide +kernel
theorem dX6_numberAt_33 : decode cX6_numberAt 33 = .ok (.iload_n 1, 1) := by decide +kernel
theorem dX6_numberAt_34 : decode cX6_numberAt 34 = .ok (.iload 4, 2) := by decide +kernel
theorem dX6_numberAt_36 : decode cX6_numberAt 36 = .ok (.iadd, 1) := by decide +kernel
theorem dX6_numberAt_37 : decode cX6_numberAt 37 = .ok (.iaload, 1) := by decide +kernel
theorem dX6_numberAt_38 : decode cX6_numberAt 38 = .ok (.iadd, 1) := by decide +kernel
theorem dX6_numberAt_39 : decode cX6_numberAt 39 = .ok (.bipush 48, 2) := by decide +kernel
theorem dX6_numberAt_41 : decode cX6_numberAt 41 = .ok (.isub, 1) := by decide +kernel
theorem dX6_numberAt_42 : decode cX6_numberAt 42 = .ok (.istore_n 2, 1) := by decide +kernel
theorem dX6_numberAt_43 : decode cX6_numberAt 43 = .ok (.iinc 3 1, 3) := by decide +kernel
theorem dX6_numberAt_46 : decode cX6_numberAt 46 = .ok (.iinc 4 1, 3) := by decide +kernel
theorem dX6_numberAt_49 : decode cX6_numberAt 49 = .ok (.goto (-42), 3) := by decide +kernel
theorem dX6_numberAt_52 : decode cX6_numberAt 52 = .ok (.iload_n 3, 1) := by decide +kernel
theorem dX6_numberAt_53 : decode cX6_numberAt 53 = .ok (.iconst 4, 1) := by decide +kernel
theorem dX6_numberAt_54 : decode cX6_numberAt 54 = .ok (.if_icmp .le 9, 3) := by decide +kernel
theorem dX6_numberAt_57 : decode cX6_numberAt 57 = .ok (.sipush 30000, 3) := by decide +kernel
theorem dX6_numberAt_60 : decode cX6_numberAt 60 = .ok (.goto 4, 3) := by decide +kernel
theorem dX6_numberAt_63 : decode cX6_numberAt 63 = .ok (.iload_n 2, 1) := by decide +kernel
theorem dX6_numberAt_64 : decode cX6_numberAt 64 = .ok (.ireturn, 1) := by decide +kernel
theorem dX6_isNext_0 : decode cX6_isNext 0 = .ok (.aload_n 0, 1) := by decide +kernel
theorem dX6_isNext_1 : decode cX6_isNext 1 = .ok (.getfield 40, 3) := by decide +kernel
theorem dX6_isNext_4 : decode cX6_isNext 4 = .ok (.bipush (-3), 2) := by decide +kernel
theorem dX6_isNext_6 : decode cX6_isNext 6 = .ok (.if_icmp .ne 33, 3) := by decide +kernel
theorem dX6_isNext_9 : decode cX6_isNext 9 = .ok (.aload_n 0, 1) := by decide +kernel
theorem dX6_isNext_10 : decode cX6_isNext 10 = .ok (.getfield 15, 3) := by decide +kernel
theorem dX6_isNext_13 : decode cX6_isNext 13 = .ok (.aload_n 0, 1) := by decide +kernel
theorem dX6_isNext_14 : decode cX6_isNext 14 = .ok (.getfield 37, 3) := by decide +kernel
theorem dX6_isNext_17 : decode cX6_isNext 17 = .ok (.iaload, 1) := by decide +kernel
theorem dX6_isNext_18 : decode cX6_isNext 18 = .ok (.iload_n 1, 1) := by decide +kernel
theorem dX6_isNext_19 : decode cX6_isNext 19 = .ok (.if_icmp .lt 20, 3) := by decide +kernel
theorem dX6_isNext_22 : decode cX6_isNext 22 = .ok (.aload_n 0, 1) := by decide +kernel
theorem dX6_isNext_23 : decode cX6_isNext 23 = .ok (.getfield 15, 3) := by decide +kernel
theorem dX6_isNext_26 : decode cX6_isNext 26 = .ok (.aload_n 0, 1) := by decide +kernel
theorem dX6_isNext_27 : decode cX6_isNext 27 = .ok (.getfield 37, 3) := by decide +kernel
theorem dX6_isNext_30 : decode cX6_isNext 30 = .ok (.iaload, 1) := by decide +kernel
theorem dX6_isNext_31 : decode cX6_isNext 31 = .ok (.iload_n 2, 1) := by decide +kernel
theorem dX6_isNext_32 : decode cX6_isNext 32 = .ok (.if_icmp .gt 7, 3) := by decide +kernel
theorem dX6_isNext_35 : decode cX6_isNext 35 = .ok (.iconst 1, 1) := by decide +kernel
theorem dX6_isNext_36 : decode cX6_isNext 36 = .ok (.goto 4, 3) := by decide +kernel
theorem dX6_isNext_39 : decode cX6_isNext 39 = .ok (.iconst 0, 1) := by decide +kernel
theorem dX6_isNext_40 : decode cX6_isNext 40 = .ok (.ireturn, 1) := by decide +kernel
theorem dX6_pass_0 : decode cX6_pass 0 = .ok (.aload_n 0, 1) := by decide +kernel
theorem dX6_pass_1 : decode cX6_pass 1 = .ok (.getfield 15, 3) := by decide +kernel
theorem dX6_pass_4 : decode cX6_pass 4 = .ok (.aload_n 0, 1) := by decide +kernel
theorem dX6_pass_5 : decode cX6_pass 5 = .ok (.getfield 37, 3) := by decide +kernel
theorem dX6_pass_8 : decode cX6_pass 8 = .ok (.iaload, 1) := by decide +kernel
theorem dX6_pass_9 : decode cX6_pass 9 = .ok (.istore_n 3, 1) := by decide +kernel
theorem dX6_pass_10 : decode cX6_pass 10 = .ok (.aload_n 0, 1) := by decide +kernel
theorem dX6_pass_11 : decode cX6_pass 11 = .ok (.getfield 40, 3) := by decide +kernel
theorem dX6_pass_14 : decode cX6_pass 14 = .ok (.bipush (-3), 2) := by decide +kernel
theorem dX6_pass_16 : decode cX6_pass 16 = .ok (.if_icmp .eq 5, 3) := by decide +kernel
theorem dX6_pass_19 : decode cX6_pass 19 = .ok (.iload_n 3, 1) := by decide +kernel
theorem dX6_pass_20 : decode cX6_pass 20 = .ok (.ireturn, 1) := by decide +kernel
theorem dX6_pass_21 : decode cX6_pass 21 = .ok (.iload_n 3, 1) := by decide +kernel
theorem dX6_pass_22 : decode cX6_pass 22 = .ok (.iload_n 1, 1) := by decide +kernel
theorem dX6_pass_23 : decode cX6_pass 23 = .ok (.if_icmp .lt 21, 3) := by decide +kernel
theorem dX6_pass_26 : decode cX6_pass 26 = .ok (.iload_n 3, 1) := by decide +kernel
theorem dX6_pass_27 : decode cX6_pass 27 = .ok (.iload_n 2, 1) := by decide +kernel
theorem dX6_pass_28 : decode cX6_pass 28 = .ok (.if_icmp .gt 16, 3) := by decide +kernel
theorem dX6_pass_31 : decode cX6_pass 31 = .ok (.aload_n 0, 1) := by decide +kernel
theorem dX6_pass_32 : decode cX6_pass 32 = .ok (.dup, 1) := by decide +kernel
theorem dX6_pass_33 : decode cX6_pass 33 = .ok (.getfield 37, 3) := by decide +kernel
theorem dX6_pass_36 : decode cX6_pass 36 = .ok (.iconst 1, 1) := by decide +kernel
theorem dX6_pass_37 : decode cX6_pass 37 = .ok (.iadd, 1) := by decide +kernel
theorem dX6_pass_38 : decode cX6_pass 38 = .ok (.putfield 37, 3) := by decide +kernel
theorem dX6_pass_41 : decode cX6_pass 41 = .ok (.goto 16, 3) := by decide +kernel
theorem dX6_pass_44 : decode cX6_pass 44 = .ok (.aload_n 0, 1) := by decide +kernel
theorem dX6_pass_45 : decode cX6_pass 45 = .ok (.aload_n 0, 1) := by decide +kernel
theorem dX6_pass_46 : decode cX6_pass 46 = .ok (.getfield 18, 3) := by decide +kernel
theorem dX6_pass_49 : decode cX6_pass 49 = .ok (.aload_n 0, 1) := by decide +kernel
theorem dX6_pass_50 : decode cX6_pass 50 = .ok (.getfield 37, 3) := by decide +kernel
theorem dX6_pass_53 : decode cX6_pass 53 = .ok (.iaload, 1) := by decide +kernel
theorem dX6_pass_54 : decode cX6_pass 54 = .ok (.putfield 40, 3) := by decide +kernel
theorem dX6_pass_57 : decode cX6_pass 57 = .ok (.iload_n 3, 1) := by decide +kernel
theorem dX6_pass_58 : decode cX6_pass 58 = .ok (.ireturn, 1) := by decide +kernel
theorem dX6_readRule_0 : decode cX6_readRule 0 = .ok (.aload_n 0, 1) := by decide +kernel
theorem dX6_readRule_1 : decode cX6_readRule 1 = .ok (.sipush 10000, 3) := by decide +kernel
theorem dX6_readRule_4 : decode cX6_readRule 4 = .ok (.sipush 10005, 3) := by decide +kernel
theorem dX6_readRule_7 : decode cX6_readRule 7 = .ok (.invokevirtual 80, 3) := by decide +kernel
theorem dX6_readRule_10 : decode cX6_readRule 10 = .ok (.sipush 10000, 3) := by decide +kernel
theorem dX6_readRule_13 : decode cX6_readRule 13 = .ok (.isub, 1) := by decide +kernel
theorem dX6_readRule_14 : decode cX6_readRule 14 = .ok (.istore_n 1, 1) := by decide +kernel
theorem dX6_readRule_15 : decode cX6_readRule 15 = .ok (.aload_n 0, 1) := by decide +kernel
theorem dX6_readRule_16 : decode cX6_readRule 16 = .ok (.sipush 10009, 3) := by decide +kernel
theorem dX6_readRule_19 : decode cX6_readRule 19 = .ok (.sipush 10009, 3) := by decide +kernel
theorem dX6_readRule_22 : decode cX6_readRule 22 = .ok (.invokevirtual 47, 3) := by decide +kernel
theorem dX6_readRule_25 : decode cX6_readRule 25 = .ok (.ifCond .eq 18, 3) := by decide +kernel
theorem dX6_readRule_28 : decode cX6_readRule 28 = .ok (.aload_n 0, 1) := by decide +kernel
theorem dX6_readRule_29 : decode cX6_readRule 29 = .ok (.dup, 1) := by decide +kernel
theorem dX6_readRule_30 : decode cX6_readRule 30 = .ok (.getfield 37, 3) := by decide +kernel
theorem dX6_readRule_33 : decode cX6_readRule 33 = .ok (.iconst 1, 1) := by decide +kernel
theorem dX6_readRule_34 : decode cX6_readRule 34 = .ok (.iadd, 1) := by decide +kernel
theorem dX6_readRule_35 : decode cX6_readRule 35 = .ok (.putfield 37, 3) := by decide +kernel
theorem dX6_readRule_38 : decode cX6_readRule 38 = .ok (.aload_n 0, 1) := by decide +kernel
theorem dX6_readRule_39 : decode cX6_readRule 39 = .ok (.iconst 0, 1) := by decide +kernel
theorem dX6_readRule_40 : decode cX6_readRule 40 = .ok (.invokevirtual 84, 3) := by decide +kernel
theorem dX6_readRule_43 : decode cX6_readRule 43 = .ok (.aload_n 0, 1) := by decide +kernel
theorem dX6_readRule_44 : decode cX6_readRule 44 = .ok (.sipush 10006, 3) := by decide +kernel
theorem dX6_readRule_47 : decode cX6_readRule 47 = .ok (.sipush 10008, 3) := by decide +kernel
theorem dX6_readRule_50 : decode cX6_readRule 50 = .ok (.invokevirtual 80, 3) := by decide +kernel
theorem dX6_readRule_53 : decode cX6_readRule 53 = .ok (.sipush 10006, 3) := by decide +kernel
theorem dX6_readRule_56 : decode cX6_readRule 56 = .ok (.isub, 1) := by decide +kernel
theorem dX6_readRule_57 : decode cX6_readRule 57 = .ok (.istore_n 2, 1) := by decide +kernel
theorem dX6_readRule_58 : decode cX6_readRule 58 = .ok (.aload_n 0, 1) := by decide +kernel
theorem dX6_readRule_59 : decode cX6_readRule 59 = .ok (.sipush 20059, 3) := by decide +kernel
theorem dX6_readRule_62 : decode cX6_readRule 62 = .ok (.sipush 20059, 3) := by decide +kernel
theorem dX6_readRule_65 : decode cX6_readRule 65 = .ok (.invokevirtual 80, 3) := by decide +kernel
theorem dX6_readRule_68 : decode cX6_readRule 68 = .ok (.pop, 1) := by decide +kernel
theorem dX6_readRule_69 : decode cX6_readRule 69 = .ok (.aload_n 0, 1) := by decide +kernel
theorem dX6_readRule_70 : decode cX6_readRule 70 = .ok (.getfield 24, 3) := by decide +kernel
theorem dX6_readRule_73 : decode cX6_readRule 73 = .ok (.iload_n 1, 1) := by decide +kernel
theorem dX6_readRule_74 : decode cX6_readRule 74 = .ok (.iload_n 2, 1) := by decide +kernel
theorem dX6_readRule_75 : decode cX6_readRule 75 = .ok (.invokevirtual 88, 3) := by decide +kernel
theorem dX6_readRule_78 : decode cX6_readRule 78 = .ok (.return_, 1) := by decide +kernel
theorem dX6_readAny_0 : decode cX6_readAny 0 = .ok (.aload_n 0, 1) := by decide +kernel
theorem dX6_readAny_1 : decode cX6_readAny 1 = .ok (.iload_n 1, 1) := by decide +kernel
theorem dX6_readAny_2 : decode cX6_readAny 2 = .ok (.invokevirtual 92, 3) := by decide +kernel
theorem dX6_readAny_5 : decode cX6_readAny 5 = .ok (.iconst 0, 1) := by decide +kernel
theorem dX6_readAny_6 : decode cX6_readAny 6 = .ok (.istore_n 2, 1) := by decide +kernel
theorem dX6_readAny_7 : decode cX6_readAny 7 = .ok (.iload_n 2, 1) := by decide +kernel
theorem dX6_readAny_8 : decode cX6_readAny 8 = .ok (.sipush 200, 3) := by decide +kernel
theorem dX6_readAny_11 : decode cX6_readAny 11 = .ok (.if_icmp .ge 47, 3) := by decide +kernel
theorem dX6_readAny_14 : decode cX6_readAny 14 = .ok (.aload_n 0, 1) := by decide +kernel
theorem dX6_readAny_15 : decode cX6_readAny 15 = .ok (.sipush 10010, 3) := by decide +kernel
theorem dX6_readAny_18 : decode cX6_readAny 18 = .ok (.sipush 10010, 3) := by decide +kernel
theorem dX6_readAny_21 : decode cX6_readAny 21 = .ok (.invokevirtual 47, 3) := by decide +kernel
theorem dX6_readAny_24 : decode cX6_readAny 24 = .ok (.ifCond .eq 34, 3) := by decide +kernel
theorem dX6_readAny_27 : decode cX6_readAny 27 = .ok (.aload_n 0, 1) := by decide +kernel
theorem dX6_readAny_28 : decode cX6_readAny 28 = .ok (.dup, 1) := by decide +kernel
theorem dX6_readAny_29 : decode cX6_readAny 29 = .ok (.getfield 37, 3) := by decide +kernel
theorem dX6_readAny_32 : decode cX6_readAny 32 = .ok (.iconst 1, 1) := by decide +kernel
theorem dX6_readAny_33 : decode cX6_readAny 33 = .ok (.iadd, 1) := by decide +kernel
theorem dX6_readAny_34 : decode cX6_readAny 34 = .ok (.putfield 37, 3) := by decide +kernel
theorem dX6_readAny_37 : decode cX6_readAny 37 = .ok (.aload_n 0, 1) := by decide +kernel
theorem dX6_readAny_38 : decode cX6_readAny 38 = .ok (.iload_n 1, 1) := by decide +kernel
theorem dX6_readAny_39 : decode cX6_readAny 39 = .ok (.invokevirtual 92, 3) := by decide +kernel
theorem dX6_readAny_42 : decode cX6_readAny 42 = .ok (.aload_n 0, 1) := by decide +kernel
theorem dX6_readAny_43 : decode cX6_readAny 43 = .ok (.getfield 24, 3) := by decide +kernel
theorem dX6_readAny_46 : decode cX6_readAny 46 = .ok (.iconst 3, 1) := by decide +kernel
theorem dX6_readAny_47 : decode cX6_readAny 47 = .ok (.iconst 0, 1) := by decide +kernel
theorem dX6_readAny_48 : decode cX6_readAny 48 = .ok (.iconst 0, 1) := by decide +kernel
theorem dX6_readAny_49 : decode cX6_readAny 49 = .ok (.invokevirtual 95, 3) := by decide +kernel
theorem dX6_readAny_52 : decode cX6_readAny 52 = .ok (.iinc 2 1, 3) := by decide +kernel
theorem dX6_readAny_55 : decode cX6_readAny 55 = .ok (.goto (-48), 3) := by decide +kernel
theorem dX6_readAny_58 : decode cX6_readAny 58 = .ok (.return_, 1) := by decide +kernel
theorem dX6_readAll_0 : decode cX6_readAll 0 = .ok (.aload_n 0, 1) := by decide +kernel
theorem dX6_readAll_1 : decode cX6_readAll 1 = .ok (.iload_n 1, 1) := by decide +kernel
theorem dX6_readAll_2 : decode cX6_readAll 2 = .ok (.invokevirtual 99, 3) := by decide +kernel
theorem dX6_readAll_5 : decode cX6_readAll 5 = .ok (.iconst 0, 1) := by decide +kernel
theorem dX6_readAll_6 : decode cX6_readAll 6 = .ok (.istore_n 2, 1) := by decide +kernel
theorem dX6_readAll_7 : decode cX6_readAll 7 = .ok (.iload_n 2, 1) := by decide +kernel
theorem dX6_readAll_8 : decode cX6_readAll 8 = .ok (.sipush 200, 3) := by decide +kernel
theorem dX6_readAll_11 : decode cX6_readAll 11 = .ok (.if_icmp .ge 47, 3) := by decide +kernel
theorem dX6_readAll_14 : decode cX6_readAll 14 = .ok (.aload_n 0, 1) := by decide +kernel
theorem dX6_readAll_15 : decode cX6_readAll 15 = .ok (.sipush 10011, 3) := by decide +kernel
theorem dX6_readAll_18 : decode cX6_readAll 18 = .ok (.sipush 10011, 3) := by decide +kernel
theorem dX6_readAll_21 : decode cX6_readAll 21 = .ok (.invokevirtual 47, 3) := by decide +kernel
theorem dX6_readAll_24 : decode cX6_readAll 24 = .ok (.ifCond .eq 34, 3) := by decide +kernel
theorem dX6_readAll_27 : decode cX6_readAll 27 = .ok (.aload_n 0, 1) := by decide +kernel
theorem dX6_readAll_28 : decode cX6_readAll 28 = .ok (.dup, 1) := by decide +kernel
theorem dX6_readAll_29 : decode cX6_readAll 29 = .ok (.getfield 37, 3) := by decide +kernel
theorem dX6_readAll_32 : decode cX6_readAll 32 = .ok (.iconst 1, 1) := by decide +kernel
theorem dX6_readAll_33 : decode cX6_readAll 33 = .ok (.iadd, 1) := by decide +kernel
theorem dX6_readAll_34 : decode cX6_readAll 34 = .ok (.putfield 37, 3) := by decide +kernel
theorem dX6_readAll_37 : decode cX6_readAll 37 = .ok (.aload_n 0, 1) := by decide +kernel
theorem dX6_readAll_38 : decode cX6_readAll 38 = .ok (.iload_n 1, 1) := by decide +kernel
theorem dX6_readAll_39 : decode cX6_readAll 39 = .ok (.invokevirtual 99, 3) := by decide +kernel
theorem dX6_readAll_42 : decode cX6_readAll 42 = .ok (.aload_n 0, 1) := by decide +kernel
theorem dX6_readAll_43 : decode cX6_readAll 43 = .ok (.getfield 24, 3) := by decide +kernel
theorem dX6_readAll_46 : decode cX6_readAll 46 = .ok (.iconst 2, 1) := by decide +kernel
theorem dX6_readAll_47 : decode cX6_readAll 47 = .ok (.iconst 0, 1) := by decide +kernel
theorem dX6_readAll_48 : decode cX6_readAll 48 = .ok (.iconst 0, 1) := by decide +kernel
theorem dX6_readAll_49 : decode cX6_readAll 49 = .ok (.invokevirtual 95, 3) := by decide +kernel
theorem dX6_readAll_52 : decode cX6_readAll 52 = .ok (.iinc 2 1, 3) := by decide +kernel
theorem dX6_readAll_55 : decode cX6_readAll 55 = .ok (.goto (-48), 3) := by decide +kernel
theorem dX6_readAll_58 : decode cX6_readAll 58 = .ok (.return_, 1) := by decide +kernel
theorem dX6_readOne_0 : decode cX6_readOne 0 = .ok (.iconst 0, 1) := by decide +kernel
theorem dX6_readOne_1 : decode cX6_readOne 1 = .ok (.istore_n 2, 1) := by decide +kernel
theorem dX6_readOne_2 : decode cX6_readOne 2 = .ok (.iconst 0, 1) := by decide +kernel
theorem dX6_readOne_3 : decode cX6_readOne 3 = .ok (.istore_n 3, 1) := by decide +kernel
theorem dX6_readOne_4 : decode cX6_readOne 4 = .ok (.iload_n 3, 1) := by decide +kernel
theorem dX6_readOne_5 : decode cX6_readOne 5 = .ok (.sipush 200, 3) := by decide +kernel
theorem dX6_readOne_8 : decode cX6_readOne 8 = .ok (.if_icmp .ge 42, 3) := by decide +kernel
theorem dX6_readOne_11 : decode cX6_readOne 11 = .ok (.aload_n 0, 1) := by decide +kernel
theorem dX6_readOne_12 : decode cX6_readOne 12 = .ok (.sipush 10012, 3) := by decide +kernel
theorem dX6_readOne_15 : decode cX6_readOne 15 = .ok (.sipush 10012, 3) := by decide +kernel
theorem dX6_readOne_18 : decode cX6_readOne 18 = .ok (.invokevirtual 47, 3) := by decide +kernel
theorem dX6_readOne_21 : decode cX6_readOne 21 = .ok (.ifCond .eq 29, 3) := by decide +kernel
theorem dX6_readOne_24 : decode cX6_readOne 24 = .ok (.aload_n 0, 1) := by decide +kernel
theorem dX6_readOne_25 : decode cX6_readOne 25 = .ok (.dup, 1) := by decide +kernel
theorem dX6_readOne_26 : decode cX6_readOne 26 = .ok (.getfield 37, 3) := by decide +kernel
theorem dX6_readOne_29 : decode cX6_readOne 29 = .ok (.iconst 1, 1) := by decide +kernel
theorem dX6_readOne_30 : decode cX6_readOne 30 = .ok (.iadd, 1) := by decide +kernel
theorem dX6_readOne_31 : decode cX6_readOne 31 = .ok (.putfield 37, 3) := by decide +kernel
theorem dX6_readOne_34 : decode cX6_readOne 34 = .ok (.iload_n 2, 1) := by decide +kernel
theorem dX6_readOne_35 : decode cX6_readOne 35 = .ok (.ifCond .ne 7, 3) := by decide +kernel
theorem dX6_readOne_38 : decode cX6_readOne 38 = .ok (.iconst 1, 1) := by decide +kernel
theorem dX6_readOne_39 : decode cX6_readOne 39 = .ok (.goto 4, 3) := by decide +kernel
theorem dX6_readOne_42 : decode cX6_readOne 42 = .ok (.iconst 0, 1) := by decide +kernel
theorem dX6_readOne_43 : decode cX6_readOne 43 = .ok (.istore_n 2, 1) := by decide +kernel
theorem dX6_readOne_44 : decode cX6_readOne 44 = .ok (.iinc 3 1, 3) := by decide +kernel
theorem dX6_readOne_47 : decode cX6_readOne 47 = .ok (.goto (-43), 3) := by decide +kernel
theorem dX6_readOne_50 : decode cX6_readOne 50 = .ok (.iload_n 1, 1) := by decide +kernel
theorem dX6_readOne_51 : decode cX6_readOne 51 = .ok (.iconst 3, 1) := by decide +kernel
theorem dX6_readOne_52 : decode cX6_readOne 52 = .ok (.if_icmp .ge 47, 3) := by decide +kernel
theorem dX6_readOne_55 : decode cX6_readOne 55 = .ok (.aload_n 0, 1) := by decide +kernel
theorem dX6_readOne_56 : decode cX6_readOne 56 = .ok (.sipush 20040, 3) := by decide +kernel
theorem dX6_readOne_59 : decode cX6_readOne 59 = .ok (.sipush 20040, 3) := by decide +kernel
theorem dX6_readOne_62 : decode cX6_readOne 62 = .ok (.invokevirtual 47, 3) := by decide +kernel
theorem dX6_readOne_65 : decode cX6_readOne 65 = .ok (.ifCond .eq 34, 3) := by decide +kernel
theorem dX6_readOne_68 : decode cX6_readOne 68 = .ok (.aload_n 0, 1) := by decide +kernel
theorem dX6_readOne_69 : decode cX6_readOne 69 = .ok (.dup, 1) := by decide +kernel
theorem dX6_readOne_70 : decode cX6_readOne 70 = .ok (.getfield 37, 3) := by decide +kernel
theorem dX6_readOne_73 : decode cX6_readOne 73 = .ok (.iconst 1, 1) := by decide +kernel
theorem dX6_readOne_74 : decode cX6_readOne 74 = .ok (.iadd, 1) := by decide +kernel
theorem dX6_readOne_75 : decode cX6_readOne 75 = .ok (.putfield 37, 3) := by decide +kernel
theorem dX6_readOne_78 : decode cX6_readOne 78 = .ok (.aload_n 0, 1) := by decide +kernel
theorem dX6_readOne_79 : decode cX6_readOne 79 = .ok (.iload_n 1, 1) := by decide +kernel
theorem dX6_readOne_80 : decode cX6_readOne 80 = .ok (.iconst 1, 1) := by decide +kernel
theorem dX6_readOne_81 : decode cX6_readOne 81 = .ok (.iadd, 1) := by decide +kernel
theorem dX6_readOne_82 : decode cX6_readOne 82 = .ok (.invokevirtual 84, 3) := by decide +kernel
theorem dX6_readOne_85 : decode cX6_readOne 85 = .ok (.aload_n 0, 1) := by decide +kernel
theorem dX6_readOne_86 : decode cX6_readOne 86 = .ok (.sipush 20041, 3) := by decide +kernel
theorem dX6_readOne_89 : decode cX6_readOne 89 = .ok (.sipush 20041, 3) := by decide +kernel
theorem dX6_readOne_92 : decode cX6_readOne 92 = .ok (.invokevirtual 80, 3) := by decide +kernel
theorem dX6_readOne_95 : decode cX6_readOne 95 = .ok (.pop, 1) := by decide +kernel
theorem dX6_readOne_96 : decode cX6_readOne 96 = .ok (.goto 40, 3) := by decide +kernel
theorem dX6_readOne_99 : decode cX6_readOne 99 = .ok (.aload_n 0, 1) := by decide +kernel
theorem dX6_readOne_100 : decode cX6_readOne 100 = .ok (.invokevirtual 102, 3) := by decide +kernel
theorem dX6_readOne_103 : decode cX6_readOne 103 = .ok (.istore_n 3, 1) := by decide +kernel
theorem dX6_readOne_104 : decode cX6_readOne 104 = .ok (.aload_n 0, 1) := by decide +kernel
theorem dX6_readOne_105 : decode cX6_readOne 105 = .ok (.sipush 20060, 3) := by decide +kernel
theorem dX6_readOne_108 : decode cX6_readOne 108 = .ok (.sipush 20062, 3) := by decide +kernel
theorem dX6_readOne_111 : decode cX6_readOne 111 = .ok (.invokevirtual 80, 3) := by decide +kernel
theorem dX6_readOne_114 : decode cX6_readOne 114 = .ok (.istore 4, 2) := by decide +kernel
theorem dX6_readOne_116 : decode cX6_readOne 116 = .ok (.aload_n 0, 1) := by decide +kernel
theorem dX6_readOne_117 : decode cX6_readOne 117 = .ok (.getfield 24, 3) := by decide +kernel
theorem dX6_readOne_120 : decode cX6_readOne 120 = .ok (.iconst 4, 1) := by decide +kernel
theorem dX6_readOne_121 : decode cX6_readOne 121 = .ok (.iload 4, 2) := by decide +kernel
theorem dX6_readOne_123 : decode cX6_readOne 123 = .ok (.iadd, 1) := by decide +kernel
theorem dX6_readOne_124 : decode cX6_readOne 124 = .ok (.sipush 20060, 3) := by decide +kernel
theorem dX6_readOne_127 : decode cX6_readOne 127 = .ok (.isub, 1) := by decide +kernel
theorem dX6_readOne_128 : decode cX6_readOne 128 = .ok (.iload_n 3, 1) := by decide +kernel
theorem dX6_readOne_129 : decode cX6_readOne 129 = .ok (.aload_n 0, 1) := by decide +kernel
theorem dX6_readOne_130 : decode cX6_readOne 130 = .ok (.invokevirtual 102, 3) := by decide +kernel
theorem dX6_readOne_133 : decode cX6_readOne 133 = .ok (.invokevirtual 95, 3) := by decide +kernel
theorem dX6_readOne_136 : decode cX6_readOne 136 = .ok (.iload_n 2, 1) := by decide +kernel
theorem dX6_readOne_137 : decode cX6_readOne 137 = .ok (.ifCond .eq 13, 3) := by decide +kernel
theorem dX6_readOne_140 : decode cX6_readOne 140 = .ok (.aload_n 0, 1) := by decide +kernel
theorem dX6_readOne_141 : decode cX6_readOne 141 = .ok (.getfield 24, 3) := by decide +kernel
theorem dX6_readOne_144 : decode cX6_readOne 144 = .ok (.iconst 1, 1) := by decide +kernel
theorem dX6_readOne_145 : decode cX6_readOne 145 = .ok (.iconst 0, 1) := by decide +kernel
theorem dX6_readOne_146 : decode cX6_readOne 146 = .ok (.iconst 0, 1) := by decide +kernel
theorem dX6_readOne_147 : decode cX6_readOne 147 = .ok (.invokevirtual 95, 3) := by decide +kernel
theorem dX6_readOne_150 : decode cX6_readOne 150 = .ok (.return_, 1) := by decide +kernel
theorem dX6_readSide_0 : decode cX6_readSide 0 = .ok (.aload_n 0, 1) := by decide +kernel
theorem dX6_readSide_1 : decode cX6_readSide 1 = .ok (.iconst 0, 1) := by decide +kernel
theorem dX6_readSide_2 : decode cX6_readSide 2 = .ok (.sipush 9999, 3) := by decide +kernel
theorem dX6_readSide_5 : decode cX6_readSide 5 = .ok (.invokevirtual 47, 3) := by decide +kernel
theorem dX6_readSide_8 : decode cX6_readSide 8 = .ok (.ifCond .eq 12, 3) := by decide +kernel
theorem dX6_readSide_11 : decode cX6_readSide 11 = .ok (.aload_n 0, 1) := by decide +kernel
theorem dX6_readSide_12 : decode cX6_readSide 12 = .ok (.iconst 0, 1) := by decide +kernel
theorem dX6_readSide_13 : decode cX6_readSide 13 = .ok (.sipush 9999, 3) := by decide +kernel
theorem dX6_readSide_16 : decode cX6_readSide 16 = .ok (.invokevirtual 80, 3) := by decide +kernel
theorem dX6_readSide_19 : decode cX6_readSide 19 = .ok (.ireturn, 1) := by decide +kernel
theorem dX6_readSide_20 : decode cX6_readSide 20 = .ok (.sipush 10012, 3) := by decide +kernel
theorem dX6_readSide_23 : decode cX6_readSide 23 = .ok (.aload_n 0, 1) := by decide +kernel
theorem dX6_readSide_24 : decode cX6_readSide 24 = .ok (.sipush 10013, 3) := by decide +kernel
theorem dX6_readSide_27 : decode cX6_readSide 27 = .ok (.sipush 10017, 3) := by decide +kernel
theorem dX6_readSide_30 : decode cX6_readSide 30 = .ok (.invokevirtual 80, 3) := by decide +kernel
theorem dX6_readSide_33 : decode cX6_readSide 33 = .ok (.isub, 1) := by decide +kernel
theorem dX6_readSide_34 : decode cX6_readSide 34 = .ok (.ireturn, 1) := by decide +kernel
theorem dX7_become_0 : decode cX7_become 0 = .ok (.aload_n 0, 1) := by decide +kernel
theorem dX7_become_1 : decode cX7_become 1 = .ok (.aload_n 1, 1) := by decide +kernel
theorem dX7_become_2 : decode cX7_become 2 = .ok (.getfield 33, 3) := by decide +kernel
theorem dX7_become_5 : decode cX7_become 5 = .ok (.putfield 33, 3) := by decide +kernel
theorem dX7_become_8 : decode cX7_become 8 = .ok (.aload_n 0, 1) := by decide +kernel
theorem dX7_become_9 : decode cX7_become 9 = .ok (.aload_n 1, 1) := by decide +kernel
theorem dX7_become_10 : decode cX7_become 10 = .ok (.getfield 37, 3) := by decide +kernel
theorem dX7_become_13 : decode cX7_become 13 = .ok (.putfield 37, 3) := by decide +kernel
theorem dX7_become_16 : decode cX7_become 16 = .ok (.aload_n 1, 1) := by decide +kernel
theorem dX7_become_17 : decode cX7_become 17 = .ok (.getfield 9, 3) := by decide +kernel
theorem dX7_become_20 : decode cX7_become 20 = .ok (.iconst 0, 1) := by decide +kernel
theorem dX7_become_21 : decode cX7_become 21 = .ok (.aload_n 0, 1) := by decide +kernel
theorem dX7_become_22 : decode cX7_become 22 = .ok (.getfield 9, 3) := by decide +kernel
theorem dX7_become_25 : decode cX7_become 25 = .ok (.iconst 0, 1) := by decide +kernel
theorem dX7_become_26 : decode cX7_become 26 = .ok (.aload_n 0, 1) := by decide +kernel
theorem dX7_become_27 : decode cX7_become 27 = .ok (.getfield 33, 3) := by decide +kernel
theorem dX7_become_30 : decode cX7_become 30 = .ok (.invokestatic 40, 3) := by decide +kernel
theorem dX7_become_33 : decode cX7_become 33 = .ok (.aload_n 1, 1) := by decide +kernel
theorem dX7_become_34 : decode cX7_become 34 = .ok (.getfield 15, 3) := by decide +kernel
theorem dX7_become_37 : decode cX7_become 37 = .ok (.iconst 0, 1) := by decide +kernel
theorem dX7_become_38 : decode cX7_become 38 = .ok (.aload_n 0, 1) := by decide +kernel
theorem dX7_become_39 : decode cX7_become 39 = .ok (.getfield 15, 3) := by decide +kernel
theorem dX7_become_42 : decode cX7_become 42 = .ok (.iconst 0, 1) := by decide +kernel
theorem dX7_become_43 : decode cX7_become 43 = .ok (.aload_n 0, 1) := by decide +kernel
theorem dX7_become_44 : decode cX7_become 44 = .ok (.getfield 33, 3) := by decide +kernel
theorem dX7_become_47 : decode cX7_become 47 = .ok (.invokestatic 40, 3) := by decide +kernel
theorem dX7_become_50 : decode cX7_become 50 = .ok (.aload_n 1, 1) := by decide +kernel
theorem dX7_become_51 : decode cX7_become 51 = .ok (.getfield 18, 3) := by decide +kernel
theorem dX7_become_54 : decode cX7_become 54 = .ok (.iconst 0, 1) := by decide +kernel
theorem dX7_become_55 : decode cX7_become 55 = .ok (.aload_n 0, 1) := by decide +kernel
theorem dX7_become_56 : decode cX7_become 56 = .ok (.getfield 18, 3) := by decide +kernel
theorem dX7_become_59 : decode cX7_become 59 = .ok (.iconst 0, 1) := by decide +kernel
theorem dX7_become_60 : decode cX7_become 60 = .ok (.aload_n 0, 1) := by decide +kernel
theorem dX7_become_61 : decode cX7_become 61 = .ok (.getfield 33, 3) := by decide +kernel
theorem dX7_become_64 : decode cX7_become 64 = .ok (.invokestatic 40, 3) := by decide +kernel
theorem dX7_become_67 : decode cX7_become 67 = .ok (.aload_n 1, 1) := by decide +kernel
theorem dX7_become_68 : decode cX7_become 68 = .ok (.getfield 21, 3) := by decide +kernel
theorem dX7_become_71 : decode cX7_become 71 = .ok (.iconst 0, 1) := by decide +kernel
theorem dX7_become_72 : decode cX7_become 72 = .ok (.aload_n 0, 1) := by decide +kernel
theorem dX7_become_73 : decode cX7_become 73 = .ok (.getfield 21, 3) := by decide +kernel
theorem dX7_become_76 : decode cX7_become 76 = .ok (.iconst 0, 1) := by decide +kernel
theorem dX7_become_77 : decode cX7_become 77 = .ok (.aload_n 0, 1) := by decide +kernel
theorem dX7_become_78 : decode cX7_become 78 = .ok (.getfield 37, 3) := by decide +kernel
theorem dX7_become_81 : decode cX7_become 81 = .ok (.invokestatic 40, 3) := by decide +kernel
theorem dX7_become_84 : decode cX7_become 84 = .ok (.aload_n 1, 1) := by decide +kernel
theorem dX7_become_85 : decode cX7_become 85 = .ok (.getfield 24, 3) := by decide +kernel
theorem dX7_become_88 : decode cX7_become 88 = .ok (.iconst 0, 1) := by decide +kernel
theorem dX7_become_89 : decode cX7_become 89 = .ok (.aload_n 0, 1) := by decide +kernel
theorem dX7_become_90 : decode cX7_become 90 = .ok (.getfield 24, 3) := by decide +kernel
theorem dX7_become_93 : decode cX7_become 93 = .ok (.iconst 0, 1) := by decide +kernel
theorem dX7_become_94 : decode cX7_become 94 = .ok (.aload_n 0, 1) := by decide +kernel
theorem dX7_become_95 : decode cX7_become 95 = .ok (.getfield 37, 3) := by decide +kernel
theorem dX7_become_98 : decode cX7_become 98 = .ok (.invokestatic 40, 3) := by decide +kernel
theorem dX7_become_101 : decode cX7_become 101 = .ok (.aload_n 1, 1) := by decide +kernel
theorem dX7_become_102 : decode cX7_become 102 = .ok (.getfield 27, 3) := by decide +kernel
theorem dX7_become_105 : decode cX7_become 105 = .ok (.iconst 0, 1) := by decide +kernel
theorem dX7_become_106 : decode cX7_become 106 = .ok (.aload_n 0, 1) := by decide +kernel
theorem dX7_become_107 : decode cX7_become 107 = .ok (.getfield 27, 3) := by decide +kernel
theorem dX7_become_110 : decode cX7_become 110 = .ok (.iconst 0, 1) := by decide +kernel
theorem dX7_become_111 : decode cX7_become 111 = .ok (.aload_n 0, 1) := by decide +kernel
theorem dX7_become_112 : decode cX7_become 112 = .ok (.getfield 37, 3) := by decide +kernel
theorem dX7_become_115 : decode cX7_become 115 = .ok (.invokestatic 40, 3) := by decide +kernel
theorem dX7_become_118 : decode cX7_become 118 = .ok (.return_, 1) := by decide +kernel
theorem dX7_addStep_0 : decode cX7_addStep 0 = .ok (.aload_n 0, 1) := by decide +kernel
theorem dX7_addStep_1 : decode cX7_addStep 1 = .ok (.getfield 37, 3) := by decide +kernel
theorem dX7_addStep_4 : decode cX7_addStep 4 = .ok (.bipush 100, 2) := by decide +kernel
theorem dX7_addStep_6 : decode cX7_addStep 6 = .ok (.if_icmp .ge 43, 3) := by decide +kernel
theorem dX7_addStep_9 : decode cX7_addStep 9 = .ok (.aload_n 0, 1) := by decide +kernel
theorem dX7_addStep_10 : decode cX7_addStep 10 = .ok (.getfield 21, 3) := by decide +kernel
theorem dX7_addStep_13 : decode cX7_addStep 13 = .ok (.aload_n 0, 1) := by decide +kernel
theorem dX7_addStep_14 : decode cX7_addStep 14 = .ok (.getfield 37, 3) := by decide +kernel
theorem dX7_addStep_17 : decode cX7_addStep 17 = .ok (.iload_n 1, 1) := by decide +kernel
theorem dX7_addStep_18 : decode cX7_addStep 18 = .ok (.iastore, 1) := by decide +kernel
theorem dX7_addStep_19 : decode cX7_addStep 19 = .ok (.aload_n 0, 1) := by decide +kernel
theorem dX7_addStep_20 : decode cX7_addStep 20 = .ok (.getfield 24, 3) := by decide +kernel
theorem dX7_addStep_23 : decode cX7_addStep 23 = .ok (.aload_n 0, 1) := by decide +kernel
theorem dX7_addStep_24 : decode cX7_addStep 24 = .ok (.getfield 37, 3) := by decide +kernel
theorem dX7_addStep_27 : decode cX7_addStep 27 = .ok (.iload_n 2, 1) := by decide +kernel
theorem dX7_addStep_28 : decode cX7_addStep 28 = .ok (.iastore, 1) := by decide +kernel
theorem dX7_addStep_29 : decode cX7_addStep 29 = .ok (.aload_n 0, 1) := by decide +kernel
theorem dX7_addStep_30 : decode cX7_addStep 30 = .ok (.getfield 27, 3) := by decide +kernel
theorem dX7_addStep_33 : decode cX7_addStep 33 = .ok (.aload_n 0, 1) := by decide +kernel
theorem dX7_addStep_34 : decode cX7_addStep 34 = .ok (.getfield 37, 3) := by decide +kernel
theorem dX7_addStep_37 : decode cX7_addStep 37 = .ok (.iload_n 3, 1) := by decide +kernel
theorem dX7_addStep_38 : decode cX7_addStep 38 = .ok (.iastore, 1) := by decide +kernel
theorem dX7_addStep_39 : decode cX7_addStep 39 = .ok (.aload_n 0, 1) := by decide +kernel
theorem dX7_addStep_40 : decode cX7_addStep 40 = .ok (.dup, 1) := by decide +kernel
theorem dX7_addStep_41 : decode cX7_addStep 41 = .ok (.getfield 37, 3) := by decide +kernel
theorem dX7_addStep_44 : decode cX7_addStep 44 = .ok (.iconst 1, 1) := by decide +kernel
theorem dX7_addStep_45 : decode cX7_addStep 45 = .ok (.iadd, 1) := by decide +kernel
theorem dX7_addStep_46 : decode cX7_addStep 46 = .ok (.putfield 37, 3) := by decide +kernel
theorem dX7_addStep_49 : decode cX7_addStep 49 = .ok (.return_, 1) := by decide +kernel
theorem dX7_addRule_0 : decode cX7_addRule 0 = .ok (.aload_n 0, 1) := by decide +kernel
theorem dX7_addRule_1 : decode cX7_addRule 1 = .ok (.getfield 33, 3) := by decide +kernel
theorem dX7_addRule_4 : decode cX7_addRule 4 = .ok (.bipush 8, 2) := by decide +kernel
theorem dX7_addRule_6 : decode cX7_addRule 6 = .ok (.if_icmp .ge 46, 3) := by decide +kernel
theorem dX7_addRule_9 : decode cX7_addRule 9 = .ok (.aload_n 0, 1) := by decide +kernel
theorem dX7_addRule_10 : decode cX7_addRule 10 = .ok (.getfield 9, 3) := by decide +kernel
theorem dX7_addRule_13 : decode cX7_addRule 13 = .ok (.aload_n 0, 1) := by decide +kernel
theorem dX7_addRule_14 : decode cX7_addRule 14 = .ok (.getfield 33, 3) := by decide +kernel
theorem dX7_addRule_17 : decode cX7_addRule 17 = .ok (.iload_n 1, 1) := by decide +kernel
theorem dX7_addRule_18 : decode cX7_addRule 18 = .ok (.iastore, 1) := by decide +kernel
theorem dX7_addRule_19 : decode cX7_addRule 19 = .ok (.aload_n 0, 1) := by decide +kernel
theorem dX7_addRule_20 : decode cX7_addRule 20 = .ok (.getfield 15, 3) := by decide +kernel
theorem dX7_addRule_23 : decode cX7_addRule 23 = .ok (.aload_n 0, 1) := by decide +kernel
theorem dX7_addRule_24 : decode cX7_addRule 24 = .ok (.getfield 33, 3) := by decide +kernel
theorem dX7_addRule_27 : decode cX7_addRule 27 = .ok (.iload_n 2, 1) := by decide +kernel
theorem dX7_addRule_28 : decode cX7_addRule 28 = .ok (.iastore, 1) := by decide +kernel
theorem dX7_addRule_29 : decode cX7_addRule 29 = .ok (.aload_n 0, 1) := by decide +kernel
theorem dX7_addRule_30 : decode cX7_addRule 30 = .ok (.getfield 18, 3) := by decide +kernel
theorem dX7_addRule_33 : decode cX7_addRule 33 = .ok (.aload_n 0, 1) := by decide +kernel
theorem dX7_addRule_34 : decode cX7_addRule 34 = .ok (.getfield 33, 3) := by decide +kernel
theorem dX7_addRule_37 : decode cX7_addRule 37 = .ok (.aload_n 0, 1) := by decide +kernel
theorem dX7_addRule_38 : decode cX7_addRule 38 = .ok (.getfield 37, 3) := by decide +kernel
theorem dX7_addRule_41 : decode cX7_addRule 41 = .ok (.iastore, 1) := by decide +kernel
theorem dX7_addRule_42 : decode cX7_addRule 42 = .ok (.aload_n 0, 1) := by decide +kernel
theorem dX7_addRule_43 : decode cX7_addRule 43 = .ok (.dup, 1) := by decide +kernel
theorem dX7_addRule_44 : decode cX7_addRule 44 = .ok (.getfield 33, 3) := by decide +kernel
theorem dX7_addRule_47 : decode cX7_addRule 47 = .ok (.iconst 1, 1) := by decide +kernel
theorem dX7_addRule_48 : decode cX7_addRule 48 = .ok (.iadd, 1) := by decide +kernel
theorem dX7_addRule_49 : decode cX7_addRule 49 = .ok (.putfield 33, 3) := by decide +kernel
theorem dX7_addRule_52 : decode cX7_addRule 52 = .ok (.return_, 1) := by decide +kernel
theorem dX7_willOf_0 : decode cX7_willOf 0 = .ok (.aload_n 0, 1) := by decide +kernel
theorem dX7_willOf_1 : decode cX7_willOf 1 = .ok (.getfield 30, 3) := by decide +kernel
theorem dX7_willOf_4 : decode cX7_willOf 4 = .ok (.iconst 0, 1) := by decide +kernel
theorem dX7_willOf_5 : decode cX7_willOf 5 = .ok (.iload_n 2, 1) := by decide +kernel
theorem dX7_willOf_6 : decode cX7_willOf 6 = .ok (.iastore, 1) := by decide +kernel
theorem dX7_willOf_7 : decode cX7_willOf 7 = .ok (.aload_n 0, 1) := by decide +kernel
theorem dX7_willOf_8 : decode cX7_willOf 8 = .ok (.getfield 30, 3) := by decide +kernel
theorem dX7_willOf_11 : decode cX7_willOf 11 = .ok (.iconst 1, 1) := by decide +kernel
theorem dX7_willOf_12 : decode cX7_willOf 12 = .ok (.iload_n 3, 1) := by decide +kernel
theorem dX7_willOf_13 : decode cX7_willOf 13 = .ok (.iastore, 1) := by decide +kernel
theorem dX7_willOf_14 : decode cX7_willOf 14 = .ok (.aload_n 0, 1) := by decide +kernel
theorem dX7_willOf_15 : decode cX7_willOf 15 = .ok (.getfield 30, 3) := by decide +kernel
theorem dX7_willOf_18 : decode cX7_willOf 18 = .ok (.iconst 2, 1) := by decide +kernel
theorem dX7_willOf_19 : decode cX7_willOf 19 = .ok (.iload 4, 2) := by decide +kernel
theorem dX7_willOf_21 : decode cX7_willOf 21 = .ok (.iastore, 1) := by decide +kernel
theorem dX7_willOf_22 : decode cX7_willOf 22 = .ok (.aload_n 0, 1) := by decide +kernel
theorem dX7_willOf_23 : decode cX7_willOf 23 = .ok (.getfield 30, 3) := by decide +kernel
theorem dX7_willOf_26 : decode cX7_willOf 26 = .ok (.iconst 3, 1) := by decide +kernel
theorem dX7_willOf_27 : decode cX7_willOf 27 = .ok (.iload 5, 2) := by decide +kernel
theorem dX7_willOf_29 : decode cX7_willOf 29 = .ok (.iastore, 1) := by decide +kernel
theorem dX7_willOf_30 : decode cX7_willOf 30 = .ok (.aload_n 0, 1) := by decide +kernel
theorem dX7_willOf_31 : decode cX7_willOf 31 = .ok (.getfield 30, 3) := by decide +kernel
theorem dX7_willOf_34 : decode cX7_willOf 34 = .ok (.iconst 4, 1) := by decide +kernel
theorem dX7_willOf_35 : decode cX7_willOf 35 = .ok (.iload 6, 2) := by decide +kernel
theorem dX7_willOf_37 : decode cX7_willOf 37 = .ok (.iastore, 1) := by decide +kernel
theorem dX7_willOf_38 : decode cX7_willOf 38 = .ok (.iconst 0, 1) := by decide +kernel
theorem dX7_willOf_39 : decode cX7_willOf 39 = .ok (.istore 7, 2) := by decide +kernel
theorem dX7_willOf_41 : decode cX7_willOf 41 = .ok (.iload 7, 2) := by decide +kernel
theorem dX7_willOf_43 : decode cX7_willOf 43 = .ok (.aload_n 0, 1) := by decide +kernel
theorem dX7_willOf_44 : decode cX7_willOf 44 = .ok (.getfield 33, 3) := by decide +kernel
theorem dX7_willOf_47 : decode cX7_willOf 47 = .ok (.if_icmp .ge 63, 3) := by decide +kernel
theorem dX7_willOf_50 : decode cX7_willOf 50 = .ok (.iload_n 1, 1) := by decide +kernel
theorem dX7_willOf_51 : decode cX7_willOf 51 = .ok (.aload_n 0, 1) := by decide +kernel
theorem dX7_willOf_52 : decode cX7_willOf 52 = .ok (.getfield 9, 3) := by decide +kernel
theorem dX7_willOf_55 : decode cX7_willOf 55 = .ok (.iload 7, 2) := by decide +kernel
theorem dX7_willOf_57 : decode cX7_willOf 57 = .ok (.iaload, 1) := by decide +kernel
theorem dX7_willOf_58 : decode cX7_willOf 58 = .ok (.invokestatic 46, 3) := by decide +kernel
theorem dX7_willOf_61 : decode cX7_willOf 61 = .ok (.ifCond .eq 43, 3) := by decide +kernel
theorem dX7_willOf_64 : decode cX7_willOf 64 = .ok (.aload_n 0, 1) := by decide +kernel
theorem dX7_willOf_65 : decode cX7_willOf 65 = .ok (.iload 7, 2) := by decide +kernel
theorem dX7_willOf_67 : decode cX7_willOf 67 = .ok (.ifCond .ne 7, 3) := by decide +kernel
theorem dX7_willOf_70 : decode cX7_willOf 70 = .ok (.iconst 0, 1) := by decide +kernel
theorem dX7_willOf_71 : decode cX7_willOf 71 = .ok (.goto 12, 3) := by decide +kernel
theorem dX7_willOf_74 : decode cX7_willOf 74 = .ok (.aload_n 0, 1) := by decide +kernel
theorem dX7_willOf_75 : decode cX7_willOf 75 = .ok (.getfield 18, 3) := by decide +kernel
theorem dX7_willOf_78 : decode cX7_willOf 78 = .ok (.iload 7, 2) := by decide +kernel
theorem dX7_willOf_80 : decode cX7_willOf 80 = .ok (.iconst 1, 1) := by decide +kernel
theorem dX7_willOf_81 : decode cX7_willOf 81 = .ok (.isub, 1) := by decide +kernel
theorem dX7_willOf_82 : decode cX7_willOf 82 = .ok (.iaload, 1) := by decide +kernel
theorem dX7_willOf_83 : decode cX7_willOf 83 = .ok (.aload_n 0, 1) := by decide +kernel
theorem dX7_willOf_84 : decode cX7_willOf 84 = .ok (.getfield 18, 3) := by decide +kernel
theorem dX7_willOf_87 : decode cX7_willOf 87 = .ok (.iload 7, 2) := by decide +kernel
theorem dX7_willOf_89 : decode cX7_willOf 89 = .ok (.iaload, 1) := by decide +kernel
theorem dX7_willOf_90 : decode cX7_willOf 90 = .ok (.invokevirtual 50, 3) := by decide +kernel
theorem dX7_willOf_93 : decode cX7_willOf 93 = .ok (.ifCond .eq 11, 3) := by decide +kernel
theorem dX7_willOf_96 : decode cX7_willOf 96 = .ok (.aload_n 0, 1) := by decide +kernel
theorem dX7_willOf_97 : decode cX7_willOf 97 = .ok (.getfield 15, 3) := by decide +kernel
theorem dX7_willOf_100 : decode cX7_willOf 100 = .ok (.iload 7, 2) := by decide +kernel
theorem dX7_willOf_102 : decode cX7_willOf 102 = .ok (.iaload, 1) := by decide +kernel
theorem dX7_willOf_103 : decode cX7_willOf 103 = .ok (.ireturn, 1) := by decide +kernel
theorem dX7_willOf_104 : decode cX7_willOf 104 = .ok (.iinc 7 1, 3) := by decide +kernel
theorem dX7_willOf_107 : decode cX7_willOf 107 = .ok (.goto (-66), 3) := by decide +kernel
theorem dX7_willOf_110 : decode cX7_willOf 110 = .ok (.iconst 0, 1) := by decide +kernel
theorem dX7_willOf_111 : decode cX7_willOf 111 = .ok (.ireturn, 1) := by decide +kernel
theorem dX7_holds_0 : decode cX7_holds 0 = .ok (.iconst 1, 1) := by decide +kernel
theorem dX7_holds_1 : decode cX7_holds 1 = .ok (.istore_n 3, 1) := by decide +kernel
theorem dX7_holds_2 : decode cX7_holds 2 = .ok (.iload_n 1, 1) := by decide +kernel
theorem dX7_holds_3 : decode cX7_holds 3 = .ok (.istore 4, 2) := by decide +kernel
theorem dX7_holds_5 : decode cX7_holds 5 = .ok (.iload 4, 2) := by decide +kernel
theorem dX7_holds_7 : decode cX7_holds 7 = .ok (.iload_n 2, 1) := by decide +kernel
theorem dX7_holds_8 : decode cX7_holds 8 = .ok (.if_icmp .ge 129, 3) := by decide +kernel
theorem dX7_holds_11 : decode cX7_holds 11 = .ok (.iload_n 3, 1) := by decide +kernel
