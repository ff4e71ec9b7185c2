theorem dX11_bare_34 : decode cX11_bare 34 = .ok (.aload_n 2, 1) := by decide +kernel
theorem dX11_bare_35 : decode cX11_bare 35 = .ok (.getfield 166, 3) := by decide +kernel
theorem dX11_bare_38 : decode cX11_bare 38 = .ok (.istore 5, 2) := by decide +kernel
theorem dX11_bare_40 : decode cX11_bare 40 = .ok (.aload_n 2, 1) := by decide +kernel
theorem dX11_bare_41 : decode cX11_bare 41 = .ok (.iconst (-1), 1) := by decide +kernel
theorem dX11_bare_42 : decode cX11_bare 42 = .ok (.invokevirtual 187, 3) := by decide +kernel
theorem dX11_bare_45 : decode cX11_bare 45 = .ok (.pop, 1) := by decide +kernel
theorem dX11_bare_46 : decode cX11_bare 46 = .ok (.iload_n 3, 1) := by decide +kernel
theorem dX11_bare_47 : decode cX11_bare 47 = .ok (.aload_n 2, 1) := by decide +kernel
theorem dX11_bare_48 : decode cX11_bare 48 = .ok (.getfield 166, 3) := by decide +kernel
theorem dX11_bare_51 : decode cX11_bare 51 = .ok (.iload 5, 2) := by decide +kernel
theorem dX11_bare_53 : decode cX11_bare 53 = .ok (.if_icmp .ne 7, 3) := by decide +kernel
theorem dX11_bare_56 : decode cX11_bare 56 = .ok (.iconst 1, 1) := by decide +kernel
theorem dX11_bare_57 : decode cX11_bare 57 = .ok (.goto 4, 3) := by decide +kernel
theorem dX11_bare_60 : decode cX11_bare 60 = .ok (.iconst 0, 1) := by decide +kernel
theorem dX11_bare_61 : decode cX11_bare 61 = .ok (.iadd, 1) := by decide +kernel
theorem dX11_bare_62 : decode cX11_bare 62 = .ok (.istore_n 3, 1) := by decide +kernel
theorem dX11_bare_63 : decode cX11_bare 63 = .ok (.iinc 4 1, 3) := by decide +kernel
theorem dX11_bare_66 : decode cX11_bare 66 = .ok (.goto (-46), 3) := by decide +kernel
theorem dX11_bare_69 : decode cX11_bare 69 = .ok (.iload_n 1, 1) := by decide +kernel
theorem dX11_bare_70 : decode cX11_bare 70 = .ok (.ifCond .ne 7, 3) := by decide +kernel
theorem dX11_bare_73 : decode cX11_bare 73 = .ok (.iload_n 3, 1) := by decide +kernel
theorem dX11_bare_74 : decode cX11_bare 74 = .ok (.goto 7, 3) := by decide +kernel
theorem dX11_bare_77 : decode cX11_bare 77 = .ok (.aload_n 2, 1) := by decide +kernel
theorem dX11_bare_78 : decode cX11_bare 78 = .ok (.getfield 143, 3) := by decide +kernel
theorem dX11_bare_81 : decode cX11_bare 81 = .ok (.ireturn, 1) := by decide +kernel
theorem dX11_kin_0 : decode cX11_kin 0 = .ok (.iload_n 1, 1) := by decide +kernel
theorem dX11_kin_1 : decode cX11_kin 1 = .ok (.iconst (-1), 1) := by decide +kernel
theorem dX11_kin_2 : decode cX11_kin 2 = .ok (.if_icmp .ne 8, 3) := by decide +kernel
theorem dX11_kin_5 : decode cX11_kin 5 = .ok (.aload_n 0, 1) := by decide +kernel
theorem dX11_kin_6 : decode cX11_kin 6 = .ok (.invokevirtual 203, 3) := by decide +kernel
theorem dX11_kin_9 : decode cX11_kin 9 = .ok (.ireturn, 1) := by decide +kernel
theorem dX11_kin_10 : decode cX11_kin 10 = .ok (.aload_n 0, 1) := by decide +kernel
theorem dX11_kin_11 : decode cX11_kin 11 = .ok (.getfield 34, 3) := by decide +kernel
theorem dX11_kin_14 : decode cX11_kin 14 = .ok (.iload_n 1, 1) := by decide +kernel
theorem dX11_kin_15 : decode cX11_kin 15 = .ok (.invokevirtual 98, 3) := by decide +kernel
theorem dX11_kin_18 : decode cX11_kin 18 = .ok (.ifCond .ne 5, 3) := by decide +kernel
theorem dX11_kin_21 : decode cX11_kin 21 = .ok (.iconst (-1), 1) := by decide +kernel
theorem dX11_kin_22 : decode cX11_kin 22 = .ok (.ireturn, 1) := by decide +kernel
theorem dX11_kin_23 : decode cX11_kin 23 = .ok (.aload_n 0, 1) := by decide +kernel
theorem dX11_kin_24 : decode cX11_kin 24 = .ok (.getfield 34, 3) := by decide +kernel
theorem dX11_kin_27 : decode cX11_kin 27 = .ok (.iload_n 1, 1) := by decide +kernel
theorem dX11_kin_28 : decode cX11_kin 28 = .ok (.invokevirtual 197, 3) := by decide +kernel
theorem dX11_kin_31 : decode cX11_kin 31 = .ok (.ifCond .eq 7, 3) := by decide +kernel
theorem dX11_kin_34 : decode cX11_kin 34 = .ok (.iconst 0, 1) := by decide +kernel
theorem dX11_kin_35 : decode cX11_kin 35 = .ok (.goto 11, 3) := by decide +kernel
theorem dX11_kin_38 : decode cX11_kin 38 = .ok (.aload_n 0, 1) := by decide +kernel
theorem dX11_kin_39 : decode cX11_kin 39 = .ok (.getfield 34, 3) := by decide +kernel
theorem dX11_kin_42 : decode cX11_kin 42 = .ok (.iload_n 1, 1) := by decide +kernel
theorem dX11_kin_43 : decode cX11_kin 43 = .ok (.invokevirtual 206, 3) := by decide +kernel
theorem dX11_kin_46 : decode cX11_kin 46 = .ok (.ireturn, 1) := by decide +kernel
theorem dX11_countKin_0 : decode cX11_countKin 0 = .ok (.aload_n 0, 1) := by decide +kernel
theorem dX11_countKin_1 : decode cX11_countKin 1 = .ok (.getfield 34, 3) := by decide +kernel
theorem dX11_countKin_4 : decode cX11_countKin 4 = .ok (.getfield 166, 3) := by decide +kernel
theorem dX11_countKin_7 : decode cX11_countKin 7 = .ok (.istore_n 1, 1) := by decide +kernel
theorem dX11_countKin_8 : decode cX11_countKin 8 = .ok (.iconst 0, 1) := by decide +kernel
theorem dX11_countKin_9 : decode cX11_countKin 9 = .ok (.istore_n 2, 1) := by decide +kernel
theorem dX11_countKin_10 : decode cX11_countKin 10 = .ok (.iconst 0, 1) := by decide +kernel
theorem dX11_countKin_11 : decode cX11_countKin 11 = .ok (.istore_n 3, 1) := by decide +kernel
theorem dX11_countKin_12 : decode cX11_countKin 12 = .ok (.iload_n 3, 1) := by decide +kernel
theorem dX11_countKin_13 : decode cX11_countKin 13 = .ok (.aload_n 0, 1) := by decide +kernel
theorem dX11_countKin_14 : decode cX11_countKin 14 = .ok (.getfield 34, 3) := by decide +kernel
theorem dX11_countKin_17 : decode cX11_countKin 17 = .ok (.getfield 90, 3) := by decide +kernel
theorem dX11_countKin_20 : decode cX11_countKin 20 = .ok (.if_icmp .ge 31, 3) := by decide +kernel
theorem dX11_countKin_23 : decode cX11_countKin 23 = .ok (.iload_n 1, 1) := by decide +kernel
theorem dX11_countKin_24 : decode cX11_countKin 24 = .ok (.iload_n 3, 1) := by decide +kernel
theorem dX11_countKin_25 : decode cX11_countKin 25 = .ok (.ishr, 1) := by decide +kernel
theorem dX11_countKin_26 : decode cX11_countKin 26 = .ok (.iconst 1, 1) := by decide +kernel
theorem dX11_countKin_27 : decode cX11_countKin 27 = .ok (.iand, 1) := by decide +kernel
theorem dX11_countKin_28 : decode cX11_countKin 28 = .ok (.ifCond .ne 17, 3) := by decide +kernel
theorem dX11_countKin_31 : decode cX11_countKin 31 = .ok (.iload_n 1, 1) := by decide +kernel
theorem dX11_countKin_32 : decode cX11_countKin 32 = .ok (.aload_n 0, 1) := by decide +kernel
theorem dX11_countKin_33 : decode cX11_countKin 33 = .ok (.getfield 34, 3) := by decide +kernel
theorem dX11_countKin_36 : decode cX11_countKin 36 = .ok (.iload_n 3, 1) := by decide +kernel
theorem dX11_countKin_37 : decode cX11_countKin 37 = .ok (.invokevirtual 206, 3) := by decide +kernel
theorem dX11_countKin_40 : decode cX11_countKin 40 = .ok (.ior, 1) := by decide +kernel
theorem dX11_countKin_41 : decode cX11_countKin 41 = .ok (.istore_n 1, 1) := by decide +kernel
theorem dX11_countKin_42 : decode cX11_countKin 42 = .ok (.iinc 2 1, 3) := by decide +kernel
theorem dX11_countKin_45 : decode cX11_countKin 45 = .ok (.iinc 3 1, 3) := by decide +kernel
theorem dX11_countKin_48 : decode cX11_countKin 48 = .ok (.goto (-36), 3) := by decide +kernel
theorem dX11_countKin_51 : decode cX11_countKin 51 = .ok (.iload_n 2, 1) := by decide +kernel
theorem dX11_countKin_52 : decode cX11_countKin 52 = .ok (.ireturn, 1) := by decide +kernel
theorem dX11_walk_0 : decode cX11_walk 0 = .ok (.iload_n 1, 1) := by decide +kernel
theorem dX11_walk_1 : decode cX11_walk 1 = .ok (.iconst 5, 1) := by decide +kernel
theorem dX11_walk_2 : decode cX11_walk 2 = .ok (.invokestatic 86, 3) := by decide +kernel
theorem dX11_walk_5 : decode cX11_walk 5 = .ok (.ifCond .eq 11, 3) := by decide +kernel
theorem dX11_walk_8 : decode cX11_walk 8 = .ok (.iload_n 2, 1) := by decide +kernel
theorem dX11_walk_9 : decode cX11_walk 9 = .ok (.iconst 1, 1) := by decide +kernel
theorem dX11_walk_10 : decode cX11_walk 10 = .ok (.invokestatic 86, 3) := by decide +kernel
theorem dX11_walk_13 : decode cX11_walk 13 = .ok (.ifCond .ne 5, 3) := by decide +kernel
theorem dX11_walk_16 : decode cX11_walk 16 = .ok (.iconst (-1), 1) := by decide +kernel
theorem dX11_walk_17 : decode cX11_walk 17 = .ok (.ireturn, 1) := by decide +kernel
theorem dX11_walk_18 : decode cX11_walk 18 = .ok (.aload_n 0, 1) := by decide +kernel
theorem dX11_walk_19 : decode cX11_walk 19 = .ok (.getfield 34, 3) := by decide +kernel
theorem dX11_walk_22 : decode cX11_walk 22 = .ok (.invokevirtual 209, 3) := by decide +kernel
theorem dX11_walk_25 : decode cX11_walk 25 = .ok (.aload_n 0, 1) := by decide +kernel
theorem dX11_walk_26 : decode cX11_walk 26 = .ok (.getfield 34, 3) := by decide +kernel
theorem dX11_walk_29 : decode cX11_walk 29 = .ok (.getfield 166, 3) := by decide +kernel
theorem dX11_walk_32 : decode cX11_walk 32 = .ok (.iconst (-1), 1) := by decide +kernel
theorem dX11_walk_33 : decode cX11_walk 33 = .ok (.ixor, 1) := by decide +kernel
theorem dX11_walk_34 : decode cX11_walk 34 = .ok (.iand, 1) := by decide +kernel
theorem dX11_walk_35 : decode cX11_walk 35 = .ok (.istore_n 3, 1) := by decide +kernel
theorem dX11_walk_36 : decode cX11_walk 36 = .ok (.aload_n 0, 1) := by decide +kernel
theorem dX11_walk_37 : decode cX11_walk 37 = .ok (.getfield 34, 3) := by decide +kernel
theorem dX11_walk_40 : decode cX11_walk 40 = .ok (.iload_n 1, 1) := by decide +kernel
theorem dX11_walk_41 : decode cX11_walk 41 = .ok (.iload_n 3, 1) := by decide +kernel
theorem dX11_walk_42 : decode cX11_walk 42 = .ok (.bipush 6, 2) := by decide +kernel
theorem dX11_walk_44 : decode cX11_walk 44 = .ok (.invokestatic 212, 3) := by decide +kernel
theorem dX11_walk_47 : decode cX11_walk 47 = .ok (.istore 4, 2) := by decide +kernel
theorem dX11_walk_49 : decode cX11_walk 49 = .ok (.iload_n 2, 1) := by decide +kernel
theorem dX11_walk_50 : decode cX11_walk 50 = .ok (.ifCond .ne 6, 3) := by decide +kernel
theorem dX11_walk_53 : decode cX11_walk 53 = .ok (.iload 4, 2) := by decide +kernel
theorem dX11_walk_55 : decode cX11_walk 55 = .ok (.ireturn, 1) := by decide +kernel
theorem dX11_walk_56 : decode cX11_walk 56 = .ok (.iconst 0, 1) := by decide +kernel
theorem dX11_walk_57 : decode cX11_walk 57 = .ok (.istore 5, 2) := by decide +kernel
theorem dX11_walk_59 : decode cX11_walk 59 = .ok (.iload 5, 2) := by decide +kernel
theorem dX11_walk_61 : decode cX11_walk 61 = .ok (.aload_n 0, 1) := by decide +kernel
theorem dX11_walk_62 : decode cX11_walk 62 = .ok (.getfield 34, 3) := by decide +kernel
theorem dX11_walk_65 : decode cX11_walk 65 = .ok (.getfield 90, 3) := by decide +kernel
theorem dX11_walk_68 : decode cX11_walk 68 = .ok (.if_icmp .ge 40, 3) := by decide +kernel
theorem dX11_walk_71 : decode cX11_walk 71 = .ok (.iload_n 3, 1) := by decide +kernel
theorem dX11_walk_72 : decode cX11_walk 72 = .ok (.iload 5, 2) := by decide +kernel
theorem dX11_walk_74 : decode cX11_walk 74 = .ok (.ishr, 1) := by decide +kernel
theorem dX11_walk_75 : decode cX11_walk 75 = .ok (.iconst 1, 1) := by decide +kernel
theorem dX11_walk_76 : decode cX11_walk 76 = .ok (.iand, 1) := by decide +kernel
theorem dX11_walk_77 : decode cX11_walk 77 = .ok (.iconst 1, 1) := by decide +kernel
theorem dX11_walk_78 : decode cX11_walk 78 = .ok (.if_icmp .ne 24, 3) := by decide +kernel
theorem dX11_walk_81 : decode cX11_walk 81 = .ok (.aload_n 0, 1) := by decide +kernel
theorem dX11_walk_82 : decode cX11_walk 82 = .ok (.getfield 34, 3) := by decide +kernel
theorem dX11_walk_85 : decode cX11_walk 85 = .ok (.iload_n 1, 1) := by decide +kernel
theorem dX11_walk_86 : decode cX11_walk 86 = .ok (.iload 5, 2) := by decide +kernel
theorem dX11_walk_88 : decode cX11_walk 88 = .ok (.iload_n 3, 1) := by decide +kernel
theorem dX11_walk_89 : decode cX11_walk 89 = .ok (.bipush 6, 2) := by decide +kernel
theorem dX11_walk_91 : decode cX11_walk 91 = .ok (.invokestatic 216, 3) := by decide +kernel
theorem dX11_walk_94 : decode cX11_walk 94 = .ok (.iload 4, 2) := by decide +kernel
theorem dX11_walk_96 : decode cX11_walk 96 = .ok (.if_icmp .ne 6, 3) := by decide +kernel
theorem dX11_walk_99 : decode cX11_walk 99 = .ok (.iload 5, 2) := by decide +kernel
theorem dX11_walk_101 : decode cX11_walk 101 = .ok (.ireturn, 1) := by decide +kernel
theorem dX11_walk_102 : decode cX11_walk 102 = .ok (.iinc 5 1, 3) := by decide +kernel
theorem dX11_walk_105 : decode cX11_walk 105 = .ok (.goto (-46), 3) := by decide +kernel
theorem dX11_walk_108 : decode cX11_walk 108 = .ok (.bipush (-3), 2) := by decide +kernel
theorem dX11_walk_110 : decode cX11_walk 110 = .ok (.ireturn, 1) := by decide +kernel
theorem dX11_walkOver_0 : decode cX11_walkOver 0 = .ok (.iload_n 2, 1) := by decide +kernel
theorem dX11_walkOver_1 : decode cX11_walkOver 1 = .ok (.ifCond .eq 7, 3) := by decide +kernel
theorem dX11_walkOver_4 : decode cX11_walkOver 4 = .ok (.iload_n 3, 1) := by decide +kernel
theorem dX11_walkOver_5 : decode cX11_walkOver 5 = .ok (.ifCond .gt 5, 3) := by decide +kernel
theorem dX11_walkOver_8 : decode cX11_walkOver 8 = .ok (.iconst 0, 1) := by decide +kernel
theorem dX11_walkOver_9 : decode cX11_walkOver 9 = .ok (.ireturn, 1) := by decide +kernel
theorem dX11_walkOver_10 : decode cX11_walkOver 10 = .ok (.bipush 36, 2) := by decide +kernel
theorem dX11_walkOver_12 : decode cX11_walkOver 12 = .ok (.istore 4, 2) := by decide +kernel
theorem dX11_walkOver_14 : decode cX11_walkOver 14 = .ok (.iconst 0, 1) := by decide +kernel
theorem dX11_walkOver_15 : decode cX11_walkOver 15 = .ok (.istore 5, 2) := by decide +kernel
theorem dX11_walkOver_17 : decode cX11_walkOver 17 = .ok (.iload 5, 2) := by decide +kernel
theorem dX11_walkOver_19 : decode cX11_walkOver 19 = .ok (.aload_n 0, 1) := by decide +kernel
theorem dX11_walkOver_20 : decode cX11_walkOver 20 = .ok (.getfield 90, 3) := by decide +kernel
theorem dX11_walkOver_23 : decode cX11_walkOver 23 = .ok (.if_icmp .ge 35, 3) := by decide +kernel
theorem dX11_walkOver_26 : decode cX11_walkOver 26 = .ok (.iload_n 2, 1) := by decide +kernel
theorem dX11_walkOver_27 : decode cX11_walkOver 27 = .ok (.iload 5, 2) := by decide +kernel
theorem dX11_walkOver_29 : decode cX11_walkOver 29 = .ok (.ishr, 1) := by decide +kernel
theorem dX11_walkOver_30 : decode cX11_walkOver 30 = .ok (.iconst 1, 1) := by decide +kernel
theorem dX11_walkOver_31 : decode cX11_walkOver 31 = .ok (.iand, 1) := by decide +kernel
theorem dX11_walkOver_32 : decode cX11_walkOver 32 = .ok (.iconst 1, 1) := by decide +kernel
theorem dX11_walkOver_33 : decode cX11_walkOver 33 = .ok (.if_icmp .ne 19, 3) := by decide +kernel
theorem dX11_walkOver_36 : decode cX11_walkOver 36 = .ok (.iload 4, 2) := by decide +kernel
theorem dX11_walkOver_38 : decode cX11_walkOver 38 = .ok (.aload_n 0, 1) := by decide +kernel
theorem dX11_walkOver_39 : decode cX11_walkOver 39 = .ok (.iload_n 1, 1) := by decide +kernel
theorem dX11_walkOver_40 : decode cX11_walkOver 40 = .ok (.iload 5, 2) := by decide +kernel
theorem dX11_walkOver_42 : decode cX11_walkOver 42 = .ok (.iload_n 2, 1) := by decide +kernel
theorem dX11_walkOver_43 : decode cX11_walkOver 43 = .ok (.iload_n 3, 1) := by decide +kernel
theorem dX11_walkOver_44 : decode cX11_walkOver 44 = .ok (.invokestatic 216, 3) := by decide +kernel
theorem dX11_walkOver_47 : decode cX11_walkOver 47 = .ok (.invokestatic 220, 3) := by decide +kernel
theorem dX11_walkOver_50 : decode cX11_walkOver 50 = .ok (.istore 4, 2) := by decide +kernel
theorem dX11_walkOver_52 : decode cX11_walkOver 52 = .ok (.iinc 5 1, 3) := by decide +kernel
theorem dX11_walkOver_55 : decode cX11_walkOver 55 = .ok (.goto (-38), 3) := by decide +kernel
theorem dX11_walkOver_58 : decode cX11_walkOver 58 = .ok (.iload 4, 2) := by decide +kernel
theorem dX11_walkOver_60 : decode cX11_walkOver 60 = .ok (.ireturn, 1) := by decide +kernel
theorem dX11_walkBy_0 : decode cX11_walkBy 0 = .ok (.iload_n 1, 1) := by decide +kernel
theorem dX11_walkBy_1 : decode cX11_walkBy 1 = .ok (.aload_n 0, 1) := by decide +kernel
theorem dX11_walkBy_2 : decode cX11_walkBy 2 = .ok (.getfield 225, 3) := by decide +kernel
theorem dX11_walkBy_5 : decode cX11_walkBy 5 = .ok (.iload_n 2, 1) := by decide +kernel
theorem dX11_walkBy_6 : decode cX11_walkBy 6 = .ok (.iaload, 1) := by decide +kernel
theorem dX11_walkBy_7 : decode cX11_walkBy 7 = .ok (.isub, 1) := by decide +kernel
theorem dX11_walkBy_8 : decode cX11_walkBy 8 = .ok (.invokestatic 228, 3) := by decide +kernel
theorem dX11_walkBy_11 : decode cX11_walkBy 11 = .ok (.istore 5, 2) := by decide +kernel
theorem dX11_walkBy_13 : decode cX11_walkBy 13 = .ok (.iload 5, 2) := by decide +kernel
theorem dX11_walkBy_15 : decode cX11_walkBy 15 = .ok (.bipush 6, 2) := by decide +kernel
theorem dX11_walkBy_17 : decode cX11_walkBy 17 = .ok (.iload 5, 2) := by decide +kernel
theorem dX11_walkBy_19 : decode cX11_walkBy 19 = .ok (.isub, 1) := by decide +kernel
theorem dX11_walkBy_20 : decode cX11_walkBy 20 = .ok (.invokestatic 220, 3) := by decide +kernel
theorem dX11_walkBy_23 : decode cX11_walkBy 23 = .ok (.aload_n 0, 1) := by decide +kernel
theorem dX11_walkBy_24 : decode cX11_walkBy 24 = .ok (.aload_n 0, 1) := by decide +kernel
theorem dX11_walkBy_25 : decode cX11_walkBy 25 = .ok (.getfield 225, 3) := by decide +kernel
theorem dX11_walkBy_28 : decode cX11_walkBy 28 = .ok (.iload_n 2, 1) := by decide +kernel
theorem dX11_walkBy_29 : decode cX11_walkBy 29 = .ok (.iaload, 1) := by decide +kernel
theorem dX11_walkBy_30 : decode cX11_walkBy 30 = .ok (.iload_n 3, 1) := by decide +kernel
theorem dX11_walkBy_31 : decode cX11_walkBy 31 = .ok (.iconst 1, 1) := by decide +kernel
theorem dX11_walkBy_32 : decode cX11_walkBy 32 = .ok (.iload_n 2, 1) := by decide +kernel
theorem dX11_walkBy_33 : decode cX11_walkBy 33 = .ok (.ishl, 1) := by decide +kernel
theorem dX11_walkBy_34 : decode cX11_walkBy 34 = .ok (.iconst (-1), 1) := by decide +kernel
theorem dX11_walkBy_35 : decode cX11_walkBy 35 = .ok (.ixor, 1) := by decide +kernel
theorem dX11_walkBy_36 : decode cX11_walkBy 36 = .ok (.iand, 1) := by decide +kernel
theorem dX11_walkBy_37 : decode cX11_walkBy 37 = .ok (.iload 4, 2) := by decide +kernel
theorem dX11_walkBy_39 : decode cX11_walkBy 39 = .ok (.iconst 1, 1) := by decide +kernel
theorem dX11_walkBy_40 : decode cX11_walkBy 40 = .ok (.isub, 1) := by decide +kernel
theorem dX11_walkBy_41 : decode cX11_walkBy 41 = .ok (.invokestatic 212, 3) := by decide +kernel
theorem dX11_walkBy_44 : decode cX11_walkBy 44 = .ok (.iadd, 1) := by decide +kernel
theorem dX11_walkBy_45 : decode cX11_walkBy 45 = .ok (.ireturn, 1) := by decide +kernel
theorem dX11_best_0 : decode cX11_best 0 = .ok (.iload_n 1, 1) := by decide +kernel
theorem dX11_best_1 : decode cX11_best 1 = .ok (.iconst 4, 1) := by decide +kernel
theorem dX11_best_2 : decode cX11_best 2 = .ok (.invokestatic 86, 3) := by decide +kernel
theorem dX11_best_5 : decode cX11_best 5 = .ok (.ifCond .ne 5, 3) := by decide +kernel
theorem dX11_best_8 : decode cX11_best 8 = .ok (.iconst (-1), 1) := by decide +kernel
theorem dX11_best_9 : decode cX11_best 9 = .ok (.ireturn, 1) := by decide +kernel
theorem dX11_best_10 : decode cX11_best 10 = .ok (.aload_n 0, 1) := by decide +kernel
theorem dX11_best_11 : decode cX11_best 11 = .ok (.getfield 54, 3) := by decide +kernel
theorem dX11_best_14 : decode cX11_best 14 = .ok (.aload_n 0, 1) := by decide +kernel
theorem dX11_best_15 : decode cX11_best 15 = .ok (.invokevirtual 190, 3) := by decide +kernel
theorem dX11_best_18 : decode cX11_best 18 = .ok (.iload_n 1, 1) := by decide +kernel
theorem dX11_best_19 : decode cX11_best 19 = .ok (.iconst 0, 1) := by decide +kernel
theorem dX11_best_20 : decode cX11_best 20 = .ok (.invokevirtual 231, 3) := by decide +kernel
theorem dX11_best_23 : decode cX11_best 23 = .ok (.aload_n 0, 1) := by decide +kernel
theorem dX11_best_24 : decode cX11_best 24 = .ok (.getfield 54, 3) := by decide +kernel
theorem dX11_best_27 : decode cX11_best 27 = .ok (.getfield 235, 3) := by decide +kernel
theorem dX11_best_30 : decode cX11_best 30 = .ok (.ireturn, 1) := by decide +kernel
theorem dX11_ith_0 : decode cX11_ith 0 = .ok (.iload_n 1, 1) := by decide +kernel
theorem dX11_ith_1 : decode cX11_ith 1 = .ok (.iconst 4, 1) := by decide +kernel
theorem dX11_ith_2 : decode cX11_ith 2 = .ok (.invokestatic 86, 3) := by decide +kernel
theorem dX11_ith_5 : decode cX11_ith 5 = .ok (.ifCond .eq 11, 3) := by decide +kernel
theorem dX11_ith_8 : decode cX11_ith 8 = .ok (.iload_n 2, 1) := by decide +kernel
theorem dX11_ith_9 : decode cX11_ith 9 = .ok (.iconst 3, 1) := by decide +kernel
theorem dX11_ith_10 : decode cX11_ith 10 = .ok (.invokestatic 86, 3) := by decide +kernel
theorem dX11_ith_13 : decode cX11_ith 13 = .ok (.ifCond .ne 5, 3) := by decide +kernel
theorem dX11_ith_16 : decode cX11_ith 16 = .ok (.iconst (-1), 1) := by decide +kernel
theorem dX11_ith_17 : decode cX11_ith 17 = .ok (.ireturn, 1) := by decide +kernel
theorem dX11_ith_18 : decode cX11_ith 18 = .ok (.aload_n 0, 1) := by decide +kernel
theorem dX11_ith_19 : decode cX11_ith 19 = .ok (.getfield 54, 3) := by decide +kernel
theorem dX11_ith_22 : decode cX11_ith 22 = .ok (.aload_n 0, 1) := by decide +kernel
theorem dX11_ith_23 : decode cX11_ith 23 = .ok (.invokevirtual 190, 3) := by decide +kernel
theorem dX11_ith_26 : decode cX11_ith 26 = .ok (.iload_n 1, 1) := by decide +kernel
theorem dX11_ith_27 : decode cX11_ith 27 = .ok (.iconst 0, 1) := by decide +kernel
theorem dX11_ith_28 : decode cX11_ith 28 = .ok (.invokevirtual 231, 3) := by decide +kernel
theorem dX11_ith_31 : decode cX11_ith 31 = .ok (.iload_n 2, 1) := by decide +kernel
theorem dX11_ith_32 : decode cX11_ith 32 = .ok (.aload_n 0, 1) := by decide +kernel
theorem dX11_ith_33 : decode cX11_ith 33 = .ok (.getfield 54, 3) := by decide +kernel
theorem dX11_ith_36 : decode cX11_ith 36 = .ok (.getfield 238, 3) := by decide +kernel
theorem dX11_ith_39 : decode cX11_ith 39 = .ok (.if_icmp .ge 15, 3) := by decide +kernel
theorem dX11_ith_42 : decode cX11_ith 42 = .ok (.aload_n 0, 1) := by decide +kernel
theorem dX11_ith_43 : decode cX11_ith 43 = .ok (.getfield 54, 3) := by decide +kernel
theorem dX11_ith_46 : decode cX11_ith 46 = .ok (.getfield 241, 3) := by decide +kernel
theorem dX11_ith_49 : decode cX11_ith 49 = .ok (.iload_n 2, 1) := by decide +kernel
theorem dX11_ith_50 : decode cX11_ith 50 = .ok (.iaload, 1) := by decide +kernel
theorem dX11_ith_51 : decode cX11_ith 51 = .ok (.goto 5, 3) := by decide +kernel
theorem dX11_ith_54 : decode cX11_ith 54 = .ok (.bipush (-3), 2) := by decide +kernel
theorem dX11_ith_56 : decode cX11_ith 56 = .ok (.ireturn, 1) := by decide +kernel
theorem dX11_ways_0 : decode cX11_ways 0 = .ok (.iload_n 1, 1) := by decide +kernel
theorem dX11_ways_1 : decode cX11_ways 1 = .ok (.iconst 4, 1) := by decide +kernel
theorem dX11_ways_2 : decode cX11_ways 2 = .ok (.invokestatic 86, 3) := by decide +kernel
theorem dX11_ways_5 : decode cX11_ways 5 = .ok (.ifCond .ne 5, 3) := by decide +kernel
theorem dX11_ways_8 : decode cX11_ways 8 = .ok (.iconst (-1), 1) := by decide +kernel
theorem dX11_ways_9 : decode cX11_ways 9 = .ok (.ireturn, 1) := by decide +kernel
theorem dX11_ways_10 : decode cX11_ways 10 = .ok (.aload_n 0, 1) := by decide +kernel
theorem dX11_ways_11 : decode cX11_ways 11 = .ok (.getfield 54, 3) := by decide +kernel
theorem dX11_ways_14 : decode cX11_ways 14 = .ok (.aload_n 0, 1) := by decide +kernel
theorem dX11_ways_15 : decode cX11_ways 15 = .ok (.invokevirtual 190, 3) := by decide +kernel
theorem dX11_ways_18 : decode cX11_ways 18 = .ok (.iload_n 1, 1) := by decide +kernel
theorem dX11_ways_19 : decode cX11_ways 19 = .ok (.iconst 0, 1) := by decide +kernel
theorem dX11_ways_20 : decode cX11_ways 20 = .ok (.invokevirtual 231, 3) := by decide +kernel
theorem dX11_ways_23 : decode cX11_ways 23 = .ok (.aload_n 0, 1) := by decide +kernel
theorem dX11_ways_24 : decode cX11_ways 24 = .ok (.getfield 54, 3) := by decide +kernel
theorem dX11_ways_27 : decode cX11_ways 27 = .ok (.getfield 244, 3) := by decide +kernel
theorem dX11_ways_30 : decode cX11_ways 30 = .ok (.ireturn, 1) := by decide +kernel
theorem dX11_round_0 : decode cX11_round 0 = .ok (.iload_n 1, 1) := by decide +kernel
theorem dX11_round_1 : decode cX11_round 1 = .ok (.iconst 4, 1) := by decide +kernel
theorem dX11_round_2 : decode cX11_round 2 = .ok (.invokestatic 86, 3) := by decide +kernel
theorem dX11_round_5 : decode cX11_round 5 = .ok (.ifCond .eq 17, 3) := by decide +kernel
theorem dX11_round_8 : decode cX11_round 8 = .ok (.iload_n 2, 1) := by decide +kernel
theorem dX11_round_9 : decode cX11_round 9 = .ok (.aload_n 0, 1) := by decide +kernel
theorem dX11_round_10 : decode cX11_round 10 = .ok (.getfield 34, 3) := by decide +kernel
theorem dX11_round_13 : decode cX11_round 13 = .ok (.invokevirtual 209, 3) := by decide +kernel
theorem dX11_round_16 : decode cX11_round 16 = .ok (.invokestatic 86, 3) := by decide +kernel
theorem dX11_round_19 : decode cX11_round 19 = .ok (.ifCond .ne 5, 3) := by decide +kernel
theorem dX11_round_22 : decode cX11_round 22 = .ok (.iconst (-1), 1) := by decide +kernel
theorem dX11_round_23 : decode cX11_round 23 = .ok (.ireturn, 1) := by decide +kernel
theorem dX11_round_24 : decode cX11_round 24 = .ok (.aload_n 0, 1) := by decide +kernel
theorem dX11_round_25 : decode cX11_round 25 = .ok (.getfield 54, 3) := by decide +kernel
theorem dX11_round_28 : decode cX11_round 28 = .ok (.aload_n 0, 1) := by decide +kernel
theorem dX11_round_29 : decode cX11_round 29 = .ok (.invokevirtual 190, 3) := by decide +kernel
theorem dX11_round_32 : decode cX11_round 32 = .ok (.iload_n 1, 1) := by decide +kernel
theorem dX11_round_33 : decode cX11_round 33 = .ok (.iload_n 2, 1) := by decide +kernel
theorem dX11_round_34 : decode cX11_round 34 = .ok (.invokevirtual 231, 3) := by decide +kernel
theorem dX11_round_37 : decode cX11_round 37 = .ok (.aload_n 0, 1) := by decide +kernel
theorem dX11_round_38 : decode cX11_round 38 = .ok (.getfield 54, 3) := by decide +kernel
theorem dX11_round_41 : decode cX11_round 41 = .ok (.getfield 247, 3) := by decide +kernel
theorem dX11_round_44 : decode cX11_round 44 = .ok (.iconst 4, 1) := by decide +kernel
theorem dX11_round_45 : decode cX11_round 45 = .ok (.if_icmp .gt 13, 3) := by decide +kernel
theorem dX11_round_48 : decode cX11_round 48 = .ok (.aload_n 0, 1) := by decide +kernel
theorem dX11_round_49 : decode cX11_round 49 = .ok (.getfield 54, 3) := by decide +kernel
theorem dX11_round_52 : decode cX11_round 52 = .ok (.getfield 247, 3) := by decide +kernel
theorem dX11_round_55 : decode cX11_round 55 = .ok (.goto 5, 3) := by decide +kernel
theorem dX11_round_58 : decode cX11_round 58 = .ok (.bipush (-3), 2) := by decide +kernel
theorem dX11_round_60 : decode cX11_round 60 = .ok (.ireturn, 1) := by decide +kernel
theorem dX11_bars_0 : decode cX11_bars 0 = .ok (.iload_n 1, 1) := by decide +kernel
theorem dX11_bars_1 : decode cX11_bars 1 = .ok (.iconst 4, 1) := by decide +kernel
theorem dX11_bars_2 : decode cX11_bars 2 = .ok (.invokestatic 86, 3) := by decide +kernel
theorem dX11_bars_5 : decode cX11_bars 5 = .ok (.ifCond .eq 17, 3) := by decide +kernel
theorem dX11_bars_8 : decode cX11_bars 8 = .ok (.iload_n 2, 1) := by decide +kernel
theorem dX11_bars_9 : decode cX11_bars 9 = .ok (.aload_n 0, 1) := by decide +kernel
theorem dX11_bars_10 : decode cX11_bars 10 = .ok (.getfield 34, 3) := by decide +kernel
theorem dX11_bars_13 : decode cX11_bars 13 = .ok (.invokevirtual 209, 3) := by decide +kernel
theorem dX11_bars_16 : decode cX11_bars 16 = .ok (.invokestatic 86, 3) := by decide +kernel
theorem dX11_bars_19 : decode cX11_bars 19 = .ok (.ifCond .ne 5, 3) := by decide +kernel
theorem dX11_bars_22 : decode cX11_bars 22 = .ok (.iconst (-1), 1) := by decide +kernel
theorem dX11_bars_23 : decode cX11_bars 23 = .ok (.ireturn, 1) := by decide +kernel
theorem dX11_bars_24 : decode cX11_bars 24 = .ok (.aload_n 0, 1) := by decide +kernel
theorem dX11_bars_25 : decode cX11_bars 25 = .ok (.getfield 54, 3) := by decide +kernel
theorem dX11_bars_28 : decode cX11_bars 28 = .ok (.aload_n 0, 1) := by decide +kernel
theorem dX11_bars_29 : decode cX11_bars 29 = .ok (.invokevirtual 190, 3) := by decide +kernel
theorem dX11_bars_32 : decode cX11_bars 32 = .ok (.iload_n 1, 1) := by decide +kernel
theorem dX11_bars_33 : decode cX11_bars 33 = .ok (.iconst 0, 1) := by decide +kernel
theorem dX11_bars_34 : decode cX11_bars 34 = .ok (.invokevirtual 231, 3) := by decide +kernel
theorem dX11_bars_37 : decode cX11_bars 37 = .ok (.iload_n 2, 1) := by decide +kernel
theorem dX11_bars_38 : decode cX11_bars 38 = .ok (.aload_n 0, 1) := by decide +kernel
theorem dX11_bars_39 : decode cX11_bars 39 = .ok (.getfield 54, 3) := by decide +kernel
theorem dX11_bars_42 : decode cX11_bars 42 = .ok (.getfield 250, 3) := by decide +kernel
theorem dX11_bars_45 : decode cX11_bars 45 = .ok (.iconst (-1), 1) := by decide +kernel
theorem dX11_bars_46 : decode cX11_bars 46 = .ok (.ixor, 1) := by decide +kernel
theorem dX11_bars_47 : decode cX11_bars 47 = .ok (.iand, 1) := by decide +kernel
theorem dX11_bars_48 : decode cX11_bars 48 = .ok (.invokestatic 253, 3) := by decide +kernel
theorem dX11_bars_51 : decode cX11_bars 51 = .ok (.ireturn, 1) := by decide +kernel
theorem dX11_game_0 : decode cX11_game 0 = .ok (.iload_n 1, 1) := by decide +kernel
theorem dX11_game_1 : decode cX11_game 1 = .ok (.iconst 1, 1) := by decide +kernel
theorem dX11_game_2 : decode cX11_game 2 = .ok (.if_icmp .lt 8, 3) := by decide +kernel
theorem dX11_game_5 : decode cX11_game 5 = .ok (.iload_n 1, 1) := by decide +kernel
theorem dX11_game_6 : decode cX11_game 6 = .ok (.iconst 4, 1) := by decide +kernel
theorem dX11_game_7 : decode cX11_game 7 = .ok (.if_icmp .le 5, 3) := by decide +kernel
theorem dX11_game_10 : decode cX11_game 10 = .ok (.iconst (-1), 1) := by decide +kernel
theorem dX11_game_11 : decode cX11_game 11 = .ok (.ireturn, 1) := by decide +kernel
theorem dX11_game_12 : decode cX11_game 12 = .ok (.aload_n 0, 1) := by decide +kernel
theorem dX11_game_13 : decode cX11_game 13 = .ok (.getfield 54, 3) := by decide +kernel
theorem dX11_game_16 : decode cX11_game 16 = .ok (.aload_n 0, 1) := by decide +kernel
theorem dX11_game_17 : decode cX11_game 17 = .ok (.invokevirtual 190, 3) := by decide +kernel
theorem dX11_game_20 : decode cX11_game 20 = .ok (.iload_n 1, 1) := by decide +kernel
theorem dX11_game_21 : decode cX11_game 21 = .ok (.invokevirtual 256, 3) := by decide +kernel
theorem dX11_game_24 : decode cX11_game 24 = .ok (.ireturn, 1) := by decide +kernel
theorem dX11_play_0 : decode cX11_play 0 = .ok (.iload_n 1, 1) := by decide +kernel
theorem dX11_play_1 : decode cX11_play 1 = .ok (.iconst 1, 1) := by decide +kernel
theorem dX11_play_2 : decode cX11_play 2 = .ok (.if_icmp .lt 8, 3) := by decide +kernel
theorem dX11_play_5 : decode cX11_play 5 = .ok (.iload_n 1, 1) := by decide +kernel
theorem dX11_play_6 : decode cX11_play 6 = .ok (.iconst 4, 1) := by decide +kernel
theorem dX11_play_7 : decode cX11_play 7 = .ok (.if_icmp .le 5, 3) := by decide +kernel
theorem dX11_play_10 : decode cX11_play 10 = .ok (.iconst (-1), 1) := by decide +kernel
theorem dX11_play_11 : decode cX11_play 11 = .ok (.ireturn, 1) := by decide +kernel
theorem dX11_play_12 : decode cX11_play 12 = .ok (.aload_n 0, 1) := by decide +kernel
theorem dX11_play_13 : decode cX11_play 13 = .ok (.getfield 34, 3) := by decide +kernel
theorem dX11_play_16 : decode cX11_play 16 = .ok (.invokevirtual 158, 3) := by decide +kernel
theorem dX11_play_19 : decode cX11_play 19 = .ok (.ifCond .eq 6, 3) := by decide +kernel
theorem dX11_play_22 : decode cX11_play 22 = .ok (.bipush (-3), 2) := by decide +kernel
theorem dX11_play_24 : decode cX11_play 24 = .ok (.ireturn, 1) := by decide +kernel
theorem dX11_play_25 : decode cX11_play 25 = .ok (.aload_n 0, 1) := by decide +kernel
theorem dX11_play_26 : decode cX11_play 26 = .ok (.getfield 54, 3) := by decide +kernel
theorem dX11_play_29 : decode cX11_play 29 = .ok (.aload_n 0, 1) := by decide +kernel
theorem dX11_play_30 : decode cX11_play 30 = .ok (.invokevirtual 190, 3) := by decide +kernel
theorem dX11_play_33 : decode cX11_play 33 = .ok (.iload_n 1, 1) := by decide +kernel
theorem dX11_play_34 : decode cX11_play 34 = .ok (.invokevirtual 256, 3) := by decide +kernel
theorem dX11_play_37 : decode cX11_play 37 = .ok (.pop, 1) := by decide +kernel
theorem dX11_play_38 : decode cX11_play 38 = .ok (.aload_n 0, 1) := by decide +kernel
theorem dX11_play_39 : decode cX11_play 39 = .ok (.getfield 54, 3) := by decide +kernel
theorem dX11_play_42 : decode cX11_play 42 = .ok (.getfield 260, 3) := by decide +kernel
theorem dX11_play_45 : decode cX11_play 45 = .ok (.ireturn, 1) := by decide +kernel
theorem dX11_report_0 : decode cX11_report 0 = .ok (.iload_n 2, 1) := by decide +kernel
theorem dX11_report_1 : decode cX11_report 1 = .ok (.ifCond .ne 8, 3) := by decide +kernel
theorem dX11_report_4 : decode cX11_report 4 = .ok (.bipush 99, 2) := by decide +kernel
theorem dX11_report_6 : decode cX11_report 6 = .ok (.goto 5, 3) := by decide +kernel
theorem dX11_report_9 : decode cX11_report 9 = .ok (.bipush 9, 2) := by decide +kernel
theorem dX11_report_11 : decode cX11_report 11 = .ok (.istore 5, 2) := by decide +kernel
theorem dX11_report_13 : decode cX11_report 13 = .ok (.iload_n 1, 1) := by decide +kernel
theorem dX11_report_14 : decode cX11_report 14 = .ok (.bipush 15, 2) := by decide +kernel
theorem dX11_report_16 : decode cX11_report 16 = .ok (.invokestatic 86, 3) := by decide +kernel
theorem dX11_report_19 : decode cX11_report 19 = .ok (.ifCond .eq 28, 3) := by decide +kernel
theorem dX11_report_22 : decode cX11_report 22 = .ok (.iload_n 2, 1) := by decide +kernel
theorem dX11_report_23 : decode cX11_report 23 = .ok (.iconst 1, 1) := by decide +kernel
theorem dX11_report_24 : decode cX11_report 24 = .ok (.invokestatic 86, 3) := by decide +kernel
theorem dX11_report_27 : decode cX11_report 27 = .ok (.ifCond .eq 20, 3) := by decide +kernel
theorem dX11_report_30 : decode cX11_report 30 = .ok (.iload_n 3, 1) := by decide +kernel
theorem dX11_report_31 : decode cX11_report 31 = .ok (.ifCond .lt 16, 3) := by decide +kernel
theorem dX11_report_34 : decode cX11_report 34 = .ok (.iload 4, 2) := by decide +kernel
theorem dX11_report_36 : decode cX11_report 36 = .ok (.iload_n 3, 1) := by decide +kernel
theorem dX11_report_37 : decode cX11_report 37 = .ok (.if_icmp .lt 10, 3) := by decide +kernel
theorem dX11_report_40 : decode cX11_report 40 = .ok (.iload 4, 2) := by decide +kernel
theorem dX11_report_42 : decode cX11_report 42 = .ok (.iload 5, 2) := by decide +kernel
theorem dX11_report_44 : decode cX11_report 44 = .ok (.if_icmp .le 5, 3) := by decide +kernel
theorem dX11_report_47 : decode cX11_report 47 = .ok (.iconst (-1), 1) := by decide +kernel
theorem dX11_report_48 : decode cX11_report 48 = .ok (.ireturn, 1) := by decide +kernel
theorem dX11_report_49 : decode cX11_report 49 = .ok (.aload_n 0, 1) := by decide +kernel
theorem dX11_report_50 : decode cX11_report 50 = .ok (.getfield 34, 3) := by decide +kernel
theorem dX11_report_53 : decode cX11_report 53 = .ok (.getfield 263, 3) := by decide +kernel
theorem dX11_report_56 : decode cX11_report 56 = .ok (.getfield 267, 3) := by decide +kernel
theorem dX11_report_59 : decode cX11_report 59 = .ok (.bipush 6, 2) := by decide +kernel
theorem dX11_report_61 : decode cX11_report 61 = .ok (.if_icmp .lt 6, 3) := by decide +kernel
theorem dX11_report_64 : decode cX11_report 64 = .ok (.bipush (-2), 2) := by decide +kernel
theorem dX11_report_66 : decode cX11_report 66 = .ok (.ireturn, 1) := by decide +kernel
theorem dX11_report_67 : decode cX11_report 67 = .ok (.aload_n 0, 1) := by decide +kernel
theorem dX11_report_68 : decode cX11_report 68 = .ok (.getfield 34, 3) := by decide +kernel
theorem dX11_report_71 : decode cX11_report 71 = .ok (.getfield 263, 3) := by decide +kernel
theorem dX11_report_74 : decode cX11_report 74 = .ok (.iload_n 1, 1) := by decide +kernel
theorem dX11_report_75 : decode cX11_report 75 = .ok (.iload_n 2, 1) := by decide +kernel
theorem dX11_report_76 : decode cX11_report 76 = .ok (.iload_n 3, 1) := by decide +kernel
theorem dX11_report_77 : decode cX11_report 77 = .ok (.iload 4, 2) := by decide +kernel
theorem dX11_report_79 : decode cX11_report 79 = .ok (.invokevirtual 270, 3) := by decide +kernel
theorem dX11_report_82 : decode cX11_report 82 = .ok (.ireturn, 1) := by decide +kernel
theorem dX11_forget_0 : decode cX11_forget 0 = .ok (.aload_n 0, 1) := by decide +kernel
theorem dX11_forget_1 : decode cX11_forget 1 = .ok (.getfield 34, 3) := by decide +kernel
theorem dX11_forget_4 : decode cX11_forget 4 = .ok (.getfield 263, 3) := by decide +kernel
theorem dX11_forget_7 : decode cX11_forget 7 = .ok (.getfield 267, 3) := by decide +kernel
theorem dX11_forget_10 : decode cX11_forget 10 = .ok (.istore_n 1, 1) := by decide +kernel
theorem dX11_forget_11 : decode cX11_forget 11 = .ok (.aload_n 0, 1) := by decide +kernel
theorem dX11_forget_12 : decode cX11_forget 12 = .ok (.getfield 34, 3) := by decide +kernel
theorem dX11_forget_15 : decode cX11_forget 15 = .ok (.getfield 263, 3) := by decide +kernel
theorem dX11_forget_18 : decode cX11_forget 18 = .ok (.iconst 0, 1) := by decide +kernel
theorem dX11_forget_19 : decode cX11_forget 19 = .ok (.putfield 267, 3) := by decide +kernel
theorem dX11_forget_22 : decode cX11_forget 22 = .ok (.iload_n 1, 1) := by decide +kernel
theorem dX11_forget_23 : decode cX11_forget 23 = .ok (.ireturn, 1) := by decide +kernel
theorem dX11_stories_0 : decode cX11_stories 0 = .ok (.iload_n 1, 1) := by decide +kernel
theorem dX11_stories_1 : decode cX11_stories 1 = .ok (.iconst 3, 1) := by decide +kernel
theorem dX11_stories_2 : decode cX11_stories 2 = .ok (.invokestatic 86, 3) := by decide +kernel
theorem dX11_stories_5 : decode cX11_stories 5 = .ok (.ifCond .ne 5, 3) := by decide +kernel
theorem dX11_stories_8 : decode cX11_stories 8 = .ok (.iconst (-1), 1) := by decide +kernel
theorem dX11_stories_9 : decode cX11_stories 9 = .ok (.ireturn, 1) := by decide +kernel
theorem dX11_stories_10 : decode cX11_stories 10 = .ok (.aload_n 0, 1) := by decide +kernel
theorem dX11_stories_11 : decode cX11_stories 11 = .ok (.getfield 34, 3) := by decide +kernel
theorem dX11_stories_14 : decode cX11_stories 14 = .ok (.getfield 263, 3) := by decide +kernel
theorem dX11_stories_17 : decode cX11_stories 17 = .ok (.aload_n 0, 1) := by decide +kernel
theorem dX11_stories_18 : decode cX11_stories 18 = .ok (.getfield 34, 3) := by decide +kernel
theorem dX11_stories_21 : decode cX11_stories 21 = .ok (.getfield 128, 3) := by decide +kernel
theorem dX11_stories_24 : decode cX11_stories 24 = .ok (.invokevirtual 271, 3) := by decide +kernel
theorem dX11_stories_27 : decode cX11_stories 27 = .ok (.iload_n 1, 1) := by decide +kernel
theorem dX11_stories_28 : decode cX11_stories 28 = .ok (.ifCond .ne 14, 3) := by decide +kernel
theorem dX11_stories_31 : decode cX11_stories 31 = .ok (.aload_n 0, 1) := by decide +kernel
theorem dX11_stories_32 : decode cX11_stories 32 = .ok (.getfield 34, 3) := by decide +kernel
theorem dX11_stories_35 : decode cX11_stories 35 = .ok (.getfield 263, 3) := by decide +kernel
theorem dX11_stories_38 : decode cX11_stories 38 = .ok (.getfield 274, 3) := by decide +kernel
theorem dX11_stories_41 : decode cX11_stories 41 = .ok (.ireturn, 1) := by decide +kernel
theorem dX11_stories_42 : decode cX11_stories 42 = .ok (.aload_n 0, 1) := by decide +kernel
theorem dX11_stories_43 : decode cX11_stories 43 = .ok (.getfield 34, 3) := by decide +kernel
theorem dX11_stories_46 : decode cX11_stories 46 = .ok (.getfield 263, 3) := by decide +kernel
theorem dX11_stories_49 : decode cX11_stories 49 = .ok (.getfield 274, 3) := by decide +kernel
theorem dX11_stories_52 : decode cX11_stories 52 = .ok (.ifCond .ne 8, 3) := by decide +kernel
theorem dX11_stories_55 : decode cX11_stories 55 = .ok (.bipush (-3), 2) := by decide +kernel
theorem dX11_stories_57 : decode cX11_stories 57 = .ok (.goto 17, 3) := by decide +kernel
theorem dX11_stories_60 : decode cX11_stories 60 = .ok (.aload_n 0, 1) := by decide +kernel
theorem dX11_stories_61 : decode cX11_stories 61 = .ok (.getfield 34, 3) := by decide +kernel
theorem dX11_stories_64 : decode cX11_stories 64 = .ok (.getfield 263, 3) := by decide +kernel
theorem dX11_stories_67 : decode cX11_stories 67 = .ok (.getfield 277, 3) := by decide +kernel
theorem dX11_stories_70 : decode cX11_stories 70 = .ok (.iload_n 1, 1) := by decide +kernel
theorem dX11_stories_71 : decode cX11_stories 71 = .ok (.iconst 1, 1) := by decide +kernel
theorem dX11_stories_72 : decode cX11_stories 72 = .ok (.isub, 1) := by decide +kernel
theorem dX11_stories_73 : decode cX11_stories 73 = .ok (.iaload, 1) := by decide +kernel
theorem dX11_stories_74 : decode cX11_stories 74 = .ok (.ireturn, 1) := by decide +kernel
theorem dX11_liar_0 : decode cX11_liar 0 = .ok (.aload_n 0, 1) := by decide +kernel
theorem dX11_liar_1 : decode cX11_liar 1 = .ok (.getfield 34, 3) := by decide +kernel
theorem dX11_liar_4 : decode cX11_liar 4 = .ok (.getfield 263, 3) := by decide +kernel
theorem dX11_liar_7 : decode cX11_liar 7 = .ok (.aload_n 0, 1) := by decide +kernel
theorem dX11_liar_8 : decode cX11_liar 8 = .ok (.getfield 34, 3) := by decide +kernel
theorem dX11_liar_11 : decode cX11_liar 11 = .ok (.getfield 128, 3) := by decide +kernel
theorem dX11_liar_14 : decode cX11_liar 14 = .ok (.invokevirtual 271, 3) := by decide +kernel
theorem dX11_liar_17 : decode cX11_liar 17 = .ok (.aload_n 0, 1) := by decide +kernel
theorem dX11_liar_18 : decode cX11_liar 18 = .ok (.getfield 34, 3) := by decide +kernel
theorem dX11_liar_21 : decode cX11_liar 21 = .ok (.getfield 263, 3) := by decide +kernel
theorem dX11_liar_24 : decode cX11_liar 24 = .ok (.getfield 274, 3) := by decide +kernel
theorem dX11_liar_27 : decode cX11_liar 27 = .ok (.ifCond .le 8, 3) := by decide +kernel
theorem dX11_liar_30 : decode cX11_liar 30 = .ok (.bipush (-3), 2) := by decide +kernel
theorem dX11_liar_32 : decode cX11_liar 32 = .ok (.goto 16, 3) := by decide +kernel
theorem dX11_liar_35 : decode cX11_liar 35 = .ok (.aload_n 0, 1) := by decide +kernel
theorem dX11_liar_36 : decode cX11_liar 36 = .ok (.getfield 34, 3) := by decide +kernel
theorem dX11_liar_39 : decode cX11_liar 39 = .ok (.getfield 263, 3) := by decide +kernel
theorem dX11_liar_42 : decode cX11_liar 42 = .ok (.getfield 278, 3) := by decide +kernel
theorem dX11_liar_45 : decode cX11_liar 45 = .ok (.invokestatic 253, 3) := by decide +kernel
theorem dX11_liar_48 : decode cX11_liar 48 = .ok (.ireturn, 1) := by decide +kernel
theorem dX11_seed_0 : decode cX11_seed 0 = .ok (.aload_n 0, 1) := by decide +kernel
theorem dX11_seed_1 : decode cX11_seed 1 = .ok (.getfield 34, 3) := by decide +kernel
theorem dX11_seed_4 : decode cX11_seed 4 = .ok (.getfield 281, 3) := by decide +kernel
theorem dX11_seed_7 : decode cX11_seed 7 = .ok (.istore_n 2, 1) := by decide +kernel
theorem dX11_seed_8 : decode cX11_seed 8 = .ok (.aload_n 0, 1) := by decide +kernel
theorem dX11_seed_9 : decode cX11_seed 9 = .ok (.getfield 34, 3) := by decide +kernel
theorem dX11_seed_12 : decode cX11_seed 12 = .ok (.iload_n 1, 1) := by decide +kernel
theorem dX11_seed_13 : decode cX11_seed 13 = .ok (.putfield 281, 3) := by decide +kernel
theorem dX11_seed_16 : decode cX11_seed 16 = .ok (.iload_n 2, 1) := by decide +kernel
theorem dX11_seed_17 : decode cX11_seed 17 = .ok (.ireturn, 1) := by decide +kernel
theorem dX11_lot_0 : decode cX11_lot 0 = .ok (.aload_n 0, 1) := by decide +kernel
theorem dX11_lot_1 : decode cX11_lot 1 = .ok (.getfield 34, 3) := by decide +kernel
theorem dX11_lot_4 : decode cX11_lot 4 = .ok (.invokevirtual 158, 3) := by decide +kernel
theorem dX11_lot_7 : decode cX11_lot 7 = .ok (.ifCond .eq 6, 3) := by decide +kernel
theorem dX11_lot_10 : decode cX11_lot 10 = .ok (.bipush (-4), 2) := by decide +kernel
theorem dX11_lot_12 : decode cX11_lot 12 = .ok (.ireturn, 1) := by decide +kernel
theorem dX11_lot_13 : decode cX11_lot 13 = .ok (.aload_n 0, 1) := by decide +kernel
theorem dX11_lot_14 : decode cX11_lot 14 = .ok (.getfield 34, 3) := by decide +kernel
theorem dX11_lot_17 : decode cX11_lot 17 = .ok (.aload_n 0, 1) := by decide +kernel
theorem dX11_lot_18 : decode cX11_lot 18 = .ok (.getfield 34, 3) := by decide +kernel
theorem dX11_lot_21 : decode cX11_lot 21 = .ok (.invokevirtual 284, 3) := by decide +kernel
theorem dX11_lot_24 : decode cX11_lot 24 = .ok (.invokevirtual 187, 3) := by decide +kernel
theorem dX11_lot_27 : decode cX11_lot 27 = .ok (.istore_n 1, 1) := by decide +kernel
theorem dX11_lot_28 : decode cX11_lot 28 = .ok (.aload_n 0, 1) := by decide +kernel
theorem dX11_lot_29 : decode cX11_lot 29 = .ok (.getfield 34, 3) := by decide +kernel
theorem dX11_lot_32 : decode cX11_lot 32 = .ok (.dup, 1) := by decide +kernel
theorem dX11_lot_33 : decode cX11_lot 33 = .ok (.getfield 155, 3) := by decide +kernel
theorem dX11_lot_36 : decode cX11_lot 36 = .ok (.iload_n 1, 1) := by decide +kernel
theorem dX11_lot_37 : decode cX11_lot 37 = .ok (.iadd, 1) := by decide +kernel
theorem dX11_lot_38 : decode cX11_lot 38 = .ok (.putfield 155, 3) := by decide +kernel
theorem dX11_lot_41 : decode cX11_lot 41 = .ok (.iload_n 1, 1) := by decide +kernel
theorem dX11_lot_42 : decode cX11_lot 42 = .ok (.ireturn, 1) := by decide +kernel
theorem dX11_times_0 : decode cX11_times 0 = .ok (.iload_n 1, 1) := by decide +kernel
theorem dX11_times_1 : decode cX11_times 1 = .ok (.iconst 1, 1) := by decide +kernel
theorem dX11_times_2 : decode cX11_times 2 = .ok (.if_icmp .lt 19, 3) := by decide +kernel
theorem dX11_times_5 : decode cX11_times 5 = .ok (.iload_n 1, 1) := by decide +kernel
theorem dX11_times_6 : decode cX11_times 6 = .ok (.bipush 40, 2) := by decide +kernel
theorem dX11_times_8 : decode cX11_times 8 = .ok (.if_icmp .gt 13, 3) := by decide +kernel
theorem dX11_times_11 : decode cX11_times 11 = .ok (.iload_n 2, 1) := by decide +kernel
theorem dX11_times_12 : decode cX11_times 12 = .ok (.sipush 999, 3) := by decide +kernel
theorem dX11_times_15 : decode cX11_times 15 = .ok (.invokestatic 86, 3) := by decide +kernel
theorem dX11_times_18 : decode cX11_times 18 = .ok (.ifCond .ne 5, 3) := by decide +kernel
theorem dX11_times_21 : decode cX11_times 21 = .ok (.iconst (-1), 1) := by decide +kernel
theorem dX11_times_22 : decode cX11_times 22 = .ok (.ireturn, 1) := by decide +kernel
theorem dX11_times_23 : decode cX11_times 23 = .ok (.aload_n 0, 1) := by decide +kernel
theorem dX11_times_24 : decode cX11_times 24 = .ok (.getfield 34, 3) := by decide +kernel
theorem dX11_times_27 : decode cX11_times 27 = .ok (.getfield 281, 3) := by decide +kernel
theorem dX11_times_30 : decode cX11_times 30 = .ok (.istore_n 3, 1) := by decide +kernel
theorem dX11_times_31 : decode cX11_times 31 = .ok (.iconst 0, 1) := by decide +kernel
theorem dX11_times_32 : decode cX11_times 32 = .ok (.istore 4, 2) := by decide +kernel
theorem dX11_times_34 : decode cX11_times 34 = .ok (.iconst 0, 1) := by decide +kernel
theorem dX11_times_35 : decode cX11_times 35 = .ok (.istore 5, 2) := by decide +kernel
theorem dX11_times_37 : decode cX11_times 37 = .ok (.iload 5, 2) := by decide +kernel
theorem dX11_times_39 : decode cX11_times 39 = .ok (.iload_n 1, 1) := by decide +kernel
theorem dX11_times_40 : decode cX11_times 40 = .ok (.if_icmp .ge 85, 3) := by decide +kernel
theorem dX11_times_43 : decode cX11_times 43 = .ok (.aload_n 0, 1) := by decide +kernel
theorem dX11_times_44 : decode cX11_times 44 = .ok (.invokevirtual 190, 3) := by decide +kernel
theorem dX11_times_47 : decode cX11_times 47 = .ok (.astore 6, 2) := by decide +kernel
theorem dX11_times_49 : decode cX11_times 49 = .ok (.aload 6, 2) := by decide +kernel
theorem dX11_times_51 : decode cX11_times 51 = .ok (.iload_n 3, 1) := by decide +kernel
theorem dX11_times_52 : decode cX11_times 52 = .ok (.putfield 281, 3) := by decide +kernel
theorem dX11_times_55 : decode cX11_times 55 = .ok (.iconst 0, 1) := by decide +kernel
theorem dX11_times_56 : decode cX11_times 56 = .ok (.istore 7, 2) := by decide +kernel
theorem dX11_times_58 : decode cX11_times 58 = .ok (.iconst 0, 1) := by decide +kernel
theorem dX11_times_59 : decode cX11_times 59 = .ok (.istore 8, 2) := by decide +kernel
theorem dX11_times_61 : decode cX11_times 61 = .ok (.iload 8, 2) := by decide +kernel
theorem dX11_times_63 : decode cX11_times 63 = .ok (.bipush 16, 2) := by decide +kernel
theorem dX11_times_65 : decode cX11_times 65 = .ok (.if_icmp .ge 32, 3) := by decide +kernel
theorem dX11_times_68 : decode cX11_times 68 = .ok (.aload 6, 2) := by decide +kernel
theorem dX11_times_70 : decode cX11_times 70 = .ok (.invokevirtual 158, 3) := by decide +kernel
theorem dX11_times_73 : decode cX11_times 73 = .ok (.ifCond .ne 24, 3) := by decide +kernel
theorem dX11_times_76 : decode cX11_times 76 = .ok (.iload 7, 2) := by decide +kernel
theorem dX11_times_78 : decode cX11_times 78 = .ok (.aload 6, 2) := by decide +kernel
theorem dX11_times_80 : decode cX11_times 80 = .ok (.aload 6, 2) := by decide +kernel
theorem dX11_times_82 : decode cX11_times 82 = .ok (.invokevirtual 284, 3) := by decide +kernel
theorem dX11_times_85 : decode cX11_times 85 = .ok (.invokevirtual 187, 3) := by decide +kernel
theorem dX11_times_88 : decode cX11_times 88 = .ok (.iadd, 1) := by decide +kernel
theorem dX11_times_89 : decode cX11_times 89 = .ok (.istore 7, 2) := by decide +kernel
theorem dX11_times_91 : decode cX11_times 91 = .ok (.iinc 8 1, 3) := by decide +kernel
theorem dX11_times_94 : decode cX11_times 94 = .ok (.goto (-33), 3) := by decide +kernel
theorem dX11_times_97 : decode cX11_times 97 = .ok (.aload 6, 2) := by decide +kernel
theorem dX11_times_99 : decode cX11_times 99 = .ok (.getfield 281, 3) := by decide +kernel
theorem dX11_times_102 : decode cX11_times 102 = .ok (.istore_n 3, 1) := by decide +kernel
theorem dX11_times_103 : decode cX11_times 103 = .ok (.iload 4, 2) := by decide +kernel
theorem dX11_times_105 : decode cX11_times 105 = .ok (.iload 7, 2) := by decide +kernel
theorem dX11_times_107 : decode cX11_times 107 = .ok (.iload_n 2, 1) := by decide +kernel
theorem dX11_times_108 : decode cX11_times 108 = .ok (.if_icmp .lt 7, 3) := by decide +kernel
theorem dX11_times_111 : decode cX11_times 111 = .ok (.iconst 1, 1) := by decide +kernel
theorem dX11_times_112 : decode cX11_times 112 = .ok (.goto 4, 3) := by decide +kernel
theorem dX11_times_115 : decode cX11_times 115 = .ok (.iconst 0, 1) := by decide +kernel
theorem dX11_times_116 : decode cX11_times 116 = .ok (.iadd, 1) := by decide +kernel
theorem dX11_times_117 : decode cX11_times 117 = .ok (.istore 4, 2) := by decide +kernel
theorem dX11_times_119 : decode cX11_times 119 = .ok (.iinc 5 1, 3) := by decide +kernel
theorem dX11_times_122 : decode cX11_times 122 = .ok (.goto (-85), 3) := by decide +kernel
theorem dX11_times_125 : decode cX11_times 125 = .ok (.iload 4, 2) := by decide +kernel
theorem dX11_times_127 : decode cX11_times 127 = .ok (.ireturn, 1) := by decide +kernel
theorem dX11_prove_0 : decode cX11_prove 0 = .ok (.iload_n 1, 1) := by decide +kernel
theorem dX11_prove_1 : decode cX11_prove 1 = .ok (.iconst 4, 1) := by decide +kernel
theorem dX11_prove_2 : decode cX11_prove 2 = .ok (.invokestatic 86, 3) := by decide +kernel
theorem dX11_prove_5 : decode cX11_prove 5 = .ok (.ifCond .ne 5, 3) := by decide +kernel
theorem dX11_prove_8 : decode cX11_prove 8 = .ok (.iconst (-1), 1) := by decide +kernel
theorem dX11_prove_9 : decode cX11_prove 9 = .ok (.ireturn, 1) := by decide +kernel
theorem dX11_prove_10 : decode cX11_prove 10 = .ok (.aload_n 0, 1) := by decide +kernel
theorem dX11_prove_11 : decode cX11_prove 11 = .ok (.getfield 54, 3) := by decide +kernel
theorem dX11_prove_14 : decode cX11_prove 14 = .ok (.aload_n 0, 1) := by decide +kernel
theorem dX11_prove_15 : decode cX11_prove 15 = .ok (.invokevirtual 190, 3) := by decide +kernel
theorem dX11_prove_18 : decode cX11_prove 18 = .ok (.iload_n 1, 1) := by decide +kernel
theorem dX11_prove_19 : decode cX11_prove 19 = .ok (.iconst 0, 1) := by decide +kernel
theorem dX11_prove_20 : decode cX11_prove 20 = .ok (.invokevirtual 231, 3) := by decide +kernel
theorem dX11_prove_23 : decode cX11_prove 23 = .ok (.aload_n 0, 1) := by decide +kernel
theorem dX11_prove_24 : decode cX11_prove 24 = .ok (.invokevirtual 190, 3) := by decide +kernel
theorem dX11_prove_27 : decode cX11_prove 27 = .ok (.astore_n 2, 1) := by decide +kernel
theorem dX11_prove_28 : decode cX11_prove 28 = .ok (.aload_n 0, 1) := by decide +kernel
theorem dX11_prove_29 : decode cX11_prove 29 = .ok (.aload_n 0, 1) := by decide +kernel
theorem dX11_prove_30 : decode cX11_prove 30 = .ok (.getfield 54, 3) := by decide +kernel
theorem dX11_prove_33 : decode cX11_prove 33 = .ok (.getfield 238, 3) := by decide +kernel
theorem dX11_prove_36 : decode cX11_prove 36 = .ok (.putfield 287, 3) := by decide +kernel
theorem dX11_prove_39 : decode cX11_prove 39 = .ok (.iconst 0, 1) := by decide +kernel
theorem dX11_prove_40 : decode cX11_prove 40 = .ok (.istore_n 3, 1) := by decide +kernel
theorem dX11_prove_41 : decode cX11_prove 41 = .ok (.iload_n 3, 1) := by decide +kernel
theorem dX11_prove_42 : decode cX11_prove 42 = .ok (.aload_n 0, 1) := by decide +kernel
theorem dX11_prove_43 : decode cX11_prove 43 = .ok (.getfield 287, 3) := by decide +kernel
theorem dX11_prove_46 : decode cX11_prove 46 = .ok (.if_icmp .ge 70, 3) := by decide +kernel
theorem dX11_prove_49 : decode cX11_prove 49 = .ok (.aload_n 2, 1) := by decide +kernel
theorem dX11_prove_50 : decode cX11_prove 50 = .ok (.invokevirtual 158, 3) := by decide +kernel
theorem dX11_prove_53 : decode cX11_prove 53 = .ok (.ifCond .ne 63, 3) := by decide +kernel
theorem dX11_prove_56 : decode cX11_prove 56 = .ok (.aload_n 0, 1) := by decide +kernel
theorem dX11_prove_57 : decode cX11_prove 57 = .ok (.getfield 58, 3) := by decide +kernel
theorem dX11_prove_60 : decode cX11_prove 60 = .ok (.iload_n 3, 1) := by decide +kernel
theorem dX11_prove_61 : decode cX11_prove 61 = .ok (.iconst 3, 1) := by decide +kernel
theorem dX11_prove_62 : decode cX11_prove 62 = .ok (.imul, 1) := by decide +kernel
theorem dX11_prove_63 : decode cX11_prove 63 = .ok (.aload_n 0, 1) := by decide +kernel
theorem dX11_prove_64 : decode cX11_prove 64 = .ok (.getfield 54, 3) := by decide +kernel
theorem dX11_prove_67 : decode cX11_prove 67 = .ok (.getfield 241, 3) := by decide +kernel
theorem dX11_prove_70 : decode cX11_prove 70 = .ok (.iload_n 3, 1) := by decide +kernel
theorem dX11_prove_71 : decode cX11_prove 71 = .ok (.iaload, 1) := by decide +kernel
theorem dX11_prove_72 : decode cX11_prove 72 = .ok (.iastore, 1) := by decide +kernel
theorem dX11_prove_73 : decode cX11_prove 73 = .ok (.aload_n 0, 1) := by decide +kernel
theorem dX11_prove_74 : decode cX11_prove 74 = .ok (.getfield 58, 3) := by decide +kernel
theorem dX11_prove_77 : decode cX11_prove 77 = .ok (.iload_n 3, 1) := by decide +kernel
theorem dX11_prove_78 : decode cX11_prove 78 = .ok (.iconst 3, 1) := by decide +kernel
theorem dX11_prove_79 : decode cX11_prove 79 = .ok (.imul, 1) := by decide +kernel
theorem dX11_prove_80 : decode cX11_prove 80 = .ok (.iconst 1, 1) := by decide +kernel
theorem dX11_prove_81 : decode cX11_prove 81 = .ok (.iadd, 1) := by decide +kernel
theorem dX11_prove_82 : decode cX11_prove 82 = .ok (.aload_n 2, 1) := by decide +kernel
theorem dX11_prove_83 : decode cX11_prove 83 = .ok (.aload_n 0, 1) := by decide +kernel
theorem dX11_prove_84 : decode cX11_prove 84 = .ok (.getfield 54, 3) := by decide +kernel
theorem dX11_prove_87 : decode cX11_prove 87 = .ok (.getfield 241, 3) := by decide +kernel
theorem dX11_prove_90 : decode cX11_prove 90 = .ok (.iload_n 3, 1) := by decide +kernel
theorem dX11_prove_91 : decode cX11_prove 91 = .ok (.iaload, 1) := by decide +kernel
theorem dX11_prove_92 : decode cX11_prove 92 = .ok (.invokevirtual 187, 3) := by decide +kernel
theorem dX11_prove_95 : decode cX11_prove 95 = .ok (.iastore, 1) := by decide +kernel
theorem dX11_prove_96 : decode cX11_prove 96 = .ok (.aload_n 0, 1) := by decide +kernel
theorem dX11_prove_97 : decode cX11_prove 97 = .ok (.getfield 58, 3) := by decide +kernel
theorem dX11_prove_100 : decode cX11_prove 100 = .ok (.iload_n 3, 1) := by decide +kernel
theorem dX11_prove_101 : decode cX11_prove 101 = .ok (.iconst 3, 1) := by decide +kernel
theorem dX11_prove_102 : decode cX11_prove 102 = .ok (.imul, 1) := by decide +kernel
theorem dX11_prove_103 : decode cX11_prove 103 = .ok (.iconst 2, 1) := by decide +kernel
theorem dX11_prove_104 : decode cX11_prove 104 = .ok (.iadd, 1) := by decide +kernel
theorem dX11_prove_105 : decode cX11_prove 105 = .ok (.aload_n 2, 1) := by decide +kernel
theorem dX11_prove_106 : decode cX11_prove 106 = .ok (.getfield 166, 3) := by decide +kernel
theorem dX11_prove_109 : decode cX11_prove 109 = .ok (.iastore, 1) := by decide +kernel
theorem dX11_prove_110 : decode cX11_prove 110 = .ok (.iinc 3 1, 3) := by decide +kernel
theorem dX11_prove_113 : decode cX11_prove 113 = .ok (.goto (-72), 3) := by decide +kernel
theorem dX11_prove_116 : decode cX11_prove 116 = .ok (.aload_n 0, 1) := by decide +kernel
theorem dX11_prove_117 : decode cX11_prove 117 = .ok (.getfield 287, 3) := by decide +kernel
theorem dX11_prove_120 : decode cX11_prove 120 = .ok (.ireturn, 1) := by decide +kernel
theorem dX11_row_0 : decode cX11_row 0 = .ok (.aload_n 0, 1) := by decide +kernel
theorem dX11_row_1 : decode cX11_row 1 = .ok (.iload_n 1, 1) := by decide +kernel
theorem dX11_row_2 : decode cX11_row 2 = .ok (.iload_n 2, 1) := by decide +kernel
theorem dX11_row_3 : decode cX11_row 3 = .ok (.invokevirtual 290, 3) := by decide +kernel
theorem dX11_row_6 : decode cX11_row 6 = .ok (.ifCond .eq 16, 3) := by decide +kernel
theorem dX11_row_9 : decode cX11_row 9 = .ok (.aload_n 0, 1) := by decide +kernel
theorem dX11_row_10 : decode cX11_row 10 = .ok (.getfield 58, 3) := by decide +kernel
theorem dX11_row_13 : decode cX11_row 13 = .ok (.iload_n 1, 1) := by decide +kernel
theorem dX11_row_14 : decode cX11_row 14 = .ok (.iconst 3, 1) := by decide +kernel
theorem dX11_row_15 : decode cX11_row 15 = .ok (.imul, 1) := by decide +kernel
theorem dX11_row_16 : decode cX11_row 16 = .ok (.iload_n 2, 1) := by decide +kernel
theorem dX11_row_17 : decode cX11_row 17 = .ok (.iadd, 1) := by decide +kernel
theorem dX11_row_18 : decode cX11_row 18 = .ok (.iaload, 1) := by decide +kernel
theorem dX11_row_19 : decode cX11_row 19 = .ok (.goto 5, 3) := by decide +kernel
theorem dX11_row_22 : decode cX11_row 22 = .ok (.bipush (-9), 2) := by decide +kernel
theorem dX11_row_24 : decode cX11_row 24 = .ok (.ireturn, 1) := by decide +kernel
theorem dX11_alterRow_0 : decode cX11_alterRow 0 = .ok (.aload_n 0, 1) := by decide +kernel
theorem dX11_alterRow_1 : decode cX11_alterRow 1 = .ok (.iload_n 1, 1) := by decide +kernel
theorem dX11_alterRow_2 : decode cX11_alterRow 2 = .ok (.iload_n 2, 1) := by decide +kernel
theorem dX11_alterRow_3 : decode cX11_alterRow 3 = .ok (.invokevirtual 290, 3) := by decide +kernel
theorem dX11_alterRow_6 : decode cX11_alterRow 6 = .ok (.ifCond .ne 6, 3) := by decide +kernel
theorem dX11_alterRow_9 : decode cX11_alterRow 9 = .ok (.bipush (-9), 2) := by decide +kernel
theorem dX11_alterRow_11 : decode cX11_alterRow 11 = .ok (.ireturn, 1) := by decide +kernel
theorem dX11_alterRow_12 : decode cX11_alterRow 12 = .ok (.aload_n 0, 1) := by decide +kernel
theorem dX11_alterRow_13 : decode cX11_alterRow 13 = .ok (.getfield 58, 3) := by decide +kernel
theorem dX11_alterRow_16 : decode cX11_alterRow 16 = .ok (.iload_n 1, 1) := by decide +kernel
theorem dX11_alterRow_17 : decode cX11_alterRow 17 = .ok (.iconst 3, 1) := by decide +kernel
theorem dX11_alterRow_18 : decode cX11_alterRow 18 = .ok (.imul, 1) := by decide +kernel
theorem dX11_alterRow_19 : decode cX11_alterRow 19 = .ok (.iload_n 2, 1) := by decide +kernel
theorem dX11_alterRow_20 : decode cX11_alterRow 20 = .ok (.iadd, 1) := by decide +kernel
theorem dX11_alterRow_21 : decode cX11_alterRow 21 = .ok (.iaload, 1) := by decide +kernel
theorem dX11_alterRow_22 : decode cX11_alterRow 22 = .ok (.istore 4, 2) := by decide +kernel
theorem dX11_alterRow_24 : decode cX11_alterRow 24 = .ok (.aload_n 0, 1) := by decide +kernel
theorem dX11_alterRow_25 : decode cX11_alterRow 25 = .ok (.getfield 58, 3) := by decide +kernel
theorem dX11_alterRow_28 : decode cX11_alterRow 28 = .ok (.iload_n 1, 1) := by decide +kernel
theorem dX11_alterRow_29 : decode cX11_alterRow 29 = .ok (.iconst 3, 1) := by decide +kernel
theorem dX11_alterRow_30 : decode cX11_alterRow 30 = .ok (.imul, 1) := by decide +kernel
theorem dX11_alterRow_31 : decode cX11_alterRow 31 = .ok (.iload_n 2, 1) := by decide +kernel
theorem dX11_alterRow_32 : decode cX11_alterRow 32 = .ok (.iadd, 1) := by decide +kernel
theorem dX11_alterRow_33 : decode cX11_alterRow 33 = .ok (.iload_n 3, 1) := by decide +kernel
theorem dX11_alterRow_34 : decode cX11_alterRow 34 = .ok (.iastore, 1) := by decide +kernel
theorem dX11_alterRow_35 : decode cX11_alterRow 35 = .ok (.iload 4, 2) := by decide +kernel
theorem dX11_alterRow_37 : decode cX11_alterRow 37 = .ok (.ireturn, 1) := by decide +kernel
theorem dX11_isInRow_0 : decode cX11_isInRow 0 = .ok (.iload_n 1, 1) := by decide +kernel
theorem dX11_isInRow_1 : decode cX11_isInRow 1 = .ok (.aload_n 0, 1) := by decide +kernel
theorem dX11_isInRow_2 : decode cX11_isInRow 2 = .ok (.getfield 287, 3) := by decide +kernel
theorem dX11_isInRow_5 : decode cX11_isInRow 5 = .ok (.iconst 1, 1) := by decide +kernel
theorem dX11_isInRow_6 : decode cX11_isInRow 6 = .ok (.isub, 1) := by decide +kernel
theorem dX11_isInRow_7 : decode cX11_isInRow 7 = .ok (.invokestatic 86, 3) := by decide +kernel
theorem dX11_isInRow_10 : decode cX11_isInRow 10 = .ok (.ifCond .eq 15, 3) := by decide +kernel
theorem dX11_isInRow_13 : decode cX11_isInRow 13 = .ok (.iload_n 2, 1) := by decide +kernel
theorem dX11_isInRow_14 : decode cX11_isInRow 14 = .ok (.iconst 2, 1) := by decide +kernel
theorem dX11_isInRow_15 : decode cX11_isInRow 15 = .ok (.invokestatic 86, 3) := by decide +kernel
theorem dX11_isInRow_18 : decode cX11_isInRow 18 = .ok (.ifCond .eq 7, 3) := by decide +kernel
theorem dX11_isInRow_21 : decode cX11_isInRow 21 = .ok (.iconst 1, 1) := by decide +kernel
theorem dX11_isInRow_22 : decode cX11_isInRow 22 = .ok (.goto 4, 3) := by decide +kernel
theorem dX11_isInRow_25 : decode cX11_isInRow 25 = .ok (.iconst 0, 1) := by decide +kernel
theorem dX11_isInRow_26 : decode cX11_isInRow 26 = .ok (.ireturn, 1) := by decide +kernel
theorem dX11_judge_0 : decode cX11_judge 0 = .ok (.aload_n 0, 1) := by decide +kernel
theorem dX11_judge_1 : decode cX11_judge 1 = .ok (.invokevirtual 190, 3) := by decide +kernel
theorem dX11_judge_4 : decode cX11_judge 4 = .ok (.astore_n 1, 1) := by decide +kernel
theorem dX11_judge_5 : decode cX11_judge 5 = .ok (.iconst 0, 1) := by decide +kernel
theorem dX11_judge_6 : decode cX11_judge 6 = .ok (.istore_n 2, 1) := by decide +kernel
theorem dX11_judge_7 : decode cX11_judge 7 = .ok (.iload_n 2, 1) := by decide +kernel
theorem dX11_judge_8 : decode cX11_judge 8 = .ok (.aload_n 0, 1) := by decide +kernel
theorem dX11_judge_9 : decode cX11_judge 9 = .ok (.getfield 287, 3) := by decide +kernel
theorem dX11_judge_12 : decode cX11_judge 12 = .ok (.if_icmp .ge 80, 3) := by decide +kernel
theorem dX11_judge_15 : decode cX11_judge 15 = .ok (.aload_n 0, 1) := by decide +kernel
theorem dX11_judge_16 : decode cX11_judge 16 = .ok (.getfield 58, 3) := by decide +kernel
theorem dX11_judge_19 : decode cX11_judge 19 = .ok (.iload_n 2, 1) := by decide +kernel
theorem dX11_judge_20 : decode cX11_judge 20 = .ok (.iconst 3, 1) := by decide +kernel
theorem dX11_judge_21 : decode cX11_judge 21 = .ok (.imul, 1) := by decide +kernel
theorem dX11_judge_22 : decode cX11_judge 22 = .ok (.iaload, 1) := by decide +kernel
theorem dX11_judge_23 : decode cX11_judge 23 = .ok (.istore_n 3, 1) := by decide +kernel
theorem dX11_judge_24 : decode cX11_judge 24 = .ok (.aload_n 1, 1) := by decide +kernel
theorem dX11_judge_25 : decode cX11_judge 25 = .ok (.invokevirtual 158, 3) := by decide +kernel
theorem dX11_judge_28 : decode cX11_judge 28 = .ok (.ifCond .ne 11, 3) := by decide +kernel
theorem dX11_judge_31 : decode cX11_judge 31 = .ok (.aload_n 1, 1) := by decide +kernel
theorem dX11_judge_32 : decode cX11_judge 32 = .ok (.iload_n 3, 1) := by decide +kernel
theorem dX11_judge_33 : decode cX11_judge 33 = .ok (.invokevirtual 293, 3) := by decide +kernel
theorem dX11_judge_36 : decode cX11_judge 36 = .ok (.ifCond .ne 7, 3) := by decide +kernel
theorem dX11_judge_39 : decode cX11_judge 39 = .ok (.iload_n 2, 1) := by decide +kernel
theorem dX11_judge_40 : decode cX11_judge 40 = .ok (.iconst 1, 1) := by decide +kernel
theorem dX11_judge_41 : decode cX11_judge 41 = .ok (.iadd, 1) := by decide +kernel
theorem dX11_judge_42 : decode cX11_judge 42 = .ok (.ireturn, 1) := by decide +kernel
theorem dX11_judge_43 : decode cX11_judge 43 = .ok (.aload_n 1, 1) := by decide +kernel
theorem dX11_judge_44 : decode cX11_judge 44 = .ok (.iload_n 3, 1) := by decide +kernel
theorem dX11_judge_45 : decode cX11_judge 45 = .ok (.invokevirtual 187, 3) := by decide +kernel
theorem dX11_judge_48 : decode cX11_judge 48 = .ok (.istore 4, 2) := by decide +kernel
theorem dX11_judge_50 : decode cX11_judge 50 = .ok (.iload 4, 2) := by decide +kernel
theorem dX11_judge_52 : decode cX11_judge 52 = .ok (.aload_n 0, 1) := by decide +kernel
theorem dX11_judge_53 : decode cX11_judge 53 = .ok (.getfield 58, 3) := by decide +kernel
theorem dX11_judge_56 : decode cX11_judge 56 = .ok (.iload_n 2, 1) := by decide +kernel
theorem dX11_judge_57 : decode cX11_judge 57 = .ok (.iconst 3, 1) := by decide +kernel
theorem dX11_judge_58 : decode cX11_judge 58 = .ok (.imul, 1) := by decide +kernel
theorem dX11_judge_59 : decode cX11_judge 59 = .ok (.iconst 1, 1) := by decide +kernel
theorem dX11_judge_60 : decode cX11_judge 60 = .ok (.iadd, 1) := by decide +kernel
theorem dX11_judge_61 : decode cX11_judge 61 = .ok (.iaload, 1) := by decide +kernel
theorem dX11_judge_62 : decode cX11_judge 62 = .ok (.if_icmp .ne 20, 3) := by decide +kernel
theorem dX11_judge_65 : decode cX11_judge 65 = .ok (.aload_n 1, 1) := by decide +kernel
theorem dX11_judge_66 : decode cX11_judge 66 = .ok (.getfield 166, 3) := by decide +kernel
theorem dX11_judge_69 : decode cX11_judge 69 = .ok (.aload_n 0, 1) := by decide +kernel
theorem dX11_judge_70 : decode cX11_judge 70 = .ok (.getfield 58, 3) := by decide +kernel
theorem dX11_judge_73 : decode cX11_judge 73 = .ok (.iload_n 2, 1) := by decide +kernel
theorem dX11_judge_74 : decode cX11_judge 74 = .ok (.iconst 3, 1) := by decide +kernel
theorem dX11_judge_75 : decode cX11_judge 75 = .ok (.imul, 1) := by decide +kernel
theorem dX11_judge_76 : decode cX11_judge 76 = .ok (.iconst 2, 1) := by decide +kernel
theorem dX11_judge_77 : decode cX11_judge 77 = .ok (.iadd, 1) := by decide +kernel
theorem dX11_judge_78 : decode cX11_judge 78 = .ok (.iaload, 1) := by decide +kernel
theorem dX11_judge_79 : decode cX11_judge 79 = .ok (.if_icmp .eq 7, 3) := by decide +kernel
theorem dX11_judge_82 : decode cX11_judge 82 = .ok (.iload_n 2, 1) := by decide +kernel
theorem dX11_judge_83 : decode cX11_judge 83 = .ok (.iconst 1, 1) := by decide +kernel
theorem dX11_judge_84 : decode cX11_judge 84 = .ok (.iadd, 1) := by decide +kernel
theorem dX11_judge_85 : decode cX11_judge 85 = .ok (.ireturn, 1) := by decide +kernel
theorem dX11_judge_86 : decode cX11_judge 86 = .ok (.iinc 2 1, 3) := by decide +kernel
theorem dX11_judge_89 : decode cX11_judge 89 = .ok (.goto (-82), 3) := by decide +kernel
theorem dX11_judge_92 : decode cX11_judge 92 = .ok (.iconst 0, 1) := by decide +kernel
theorem dX11_judge_93 : decode cX11_judge 93 = .ok (.ireturn, 1) := by decide +kernel
theorem dX11_sheet_0 : decode cX11_sheet 0 = .ok (.iload_n 1, 1) := by decide +kernel
theorem dX11_sheet_1 : decode cX11_sheet 1 = .ok (.invokestatic 296, 3) := by decide +kernel
theorem dX11_sheet_4 : decode cX11_sheet 4 = .ok (.ifCond .eq 13, 3) := by decide +kernel
theorem dX11_sheet_7 : decode cX11_sheet 7 = .ok (.iload_n 2, 1) := by decide +kernel
theorem dX11_sheet_8 : decode cX11_sheet 8 = .ok (.iconst (-1), 1) := by decide +kernel
theorem dX11_sheet_9 : decode cX11_sheet 9 = .ok (.if_icmp .lt 8, 3) := by decide +kernel
theorem dX11_sheet_12 : decode cX11_sheet 12 = .ok (.iload_n 2, 1) := by decide +kernel
theorem dX11_sheet_13 : decode cX11_sheet 13 = .ok (.iconst 5, 1) := by decide +kernel
theorem dX11_sheet_14 : decode cX11_sheet 14 = .ok (.if_icmp .lt 5, 3) := by decide +kernel
theorem dX11_sheet_17 : decode cX11_sheet 17 = .ok (.iconst (-1), 1) := by decide +kernel
theorem dX11_sheet_18 : decode cX11_sheet 18 = .ok (.ireturn, 1) := by decide +kernel
theorem dX11_sheet_19 : decode cX11_sheet 19 = .ok (.iload_n 2, 1) := by decide +kernel
theorem dX11_sheet_20 : decode cX11_sheet 20 = .ok (.iconst (-1), 1) := by decide +kernel
theorem dX11_sheet_21 : decode cX11_sheet 21 = .ok (.if_icmp .ne 7, 3) := by decide +kernel
theorem dX11_sheet_24 : decode cX11_sheet 24 = .ok (.iconst 0, 1) := by decide +kernel
theorem dX11_sheet_25 : decode cX11_sheet 25 = .ok (.goto 4, 3) := by decide +kernel
theorem dX11_sheet_28 : decode cX11_sheet 28 = .ok (.iload_n 3, 1) := by decide +kernel
theorem dX11_sheet_29 : decode cX11_sheet 29 = .ok (.istore 4, 2) := by decide +kernel
theorem dX11_sheet_31 : decode cX11_sheet 31 = .ok (.iload 4, 2) := by decide +kernel
theorem dX11_sheet_33 : decode cX11_sheet 33 = .ok (.bipush 40, 2) := by decide +kernel
theorem dX11_sheet_35 : decode cX11_sheet 35 = .ok (.if_icmp .le 5, 3) := by decide +kernel
theorem dX11_sheet_38 : decode cX11_sheet 38 = .ok (.iconst (-1), 1) := by decide +kernel
theorem dX11_sheet_39 : decode cX11_sheet 39 = .ok (.ireturn, 1) := by decide +kernel
theorem dX11_sheet_40 : decode cX11_sheet 40 = .ok (.iload 4, 2) := by decide +kernel
theorem dX11_sheet_42 : decode cX11_sheet 42 = .ok (.ifCond .ge 6, 3) := by decide +kernel
theorem dX11_sheet_45 : decode cX11_sheet 45 = .ok (.bipush (-14), 2) := by decide +kernel
theorem dX11_sheet_47 : decode cX11_sheet 47 = .ok (.ireturn, 1) := by decide +kernel
theorem dX11_sheet_48 : decode cX11_sheet 48 = .ok (.aload_n 0, 1) := by decide +kernel
theorem dX11_sheet_49 : decode cX11_sheet 49 = .ok (.getfield 64, 3) := by decide +kernel
theorem dX11_sheet_52 : decode cX11_sheet 52 = .ok (.iload_n 1, 1) := by decide +kernel
theorem dX11_sheet_53 : decode cX11_sheet 53 = .ok (.aaload, 1) := by decide +kernel
theorem dX11_sheet_54 : decode cX11_sheet 54 = .ok (.lconst 0, 1) := by decide +kernel
theorem dX11_sheet_55 : decode cX11_sheet 55 = .ok (.invokestatic 299, 3) := by decide +kernel
theorem dX11_sheet_58 : decode cX11_sheet 58 = .ok (.aload_n 0, 1) := by decide +kernel
theorem dX11_sheet_59 : decode cX11_sheet 59 = .ok (.getfield 67, 3) := by decide +kernel
theorem dX11_sheet_62 : decode cX11_sheet 62 = .ok (.iload_n 1, 1) := by decide +kernel
theorem dX11_sheet_63 : decode cX11_sheet 63 = .ok (.iload_n 2, 1) := by decide +kernel
theorem dX11_sheet_64 : decode cX11_sheet 64 = .ok (.iastore, 1) := by decide +kernel
theorem dX11_sheet_65 : decode cX11_sheet 65 = .ok (.aload_n 0, 1) := by decide +kernel
theorem dX11_sheet_66 : decode cX11_sheet 66 = .ok (.getfield 70, 3) := by decide +kernel
theorem dX11_sheet_69 : decode cX11_sheet 69 = .ok (.iload_n 1, 1) := by decide +kernel
theorem dX11_sheet_70 : decode cX11_sheet 70 = .ok (.iload 4, 2) := by decide +kernel
theorem dX11_sheet_72 : decode cX11_sheet 72 = .ok (.iastore, 1) := by decide +kernel
theorem dX11_sheet_73 : decode cX11_sheet 73 = .ok (.iconst 1, 1) := by decide +kernel
theorem dX11_sheet_74 : decode cX11_sheet 74 = .ok (.ireturn, 1) := by decide +kernel
theorem dX11_write_0 : decode cX11_write 0 = .ok (.iload_n 1, 1) := by decide +kernel
theorem dX11_write_1 : decode cX11_write 1 = .ok (.invokestatic 296, 3) := by decide +kernel
theorem dX11_write_4 : decode cX11_write 4 = .ok (.ifCond .ne 5, 3) := by decide +kernel
theorem dX11_write_7 : decode cX11_write 7 = .ok (.iconst (-1), 1) := by decide +kernel
theorem dX11_write_8 : decode cX11_write 8 = .ok (.ireturn, 1) := by decide +kernel
theorem dX11_write_9 : decode cX11_write 9 = .ok (.aload_n 0, 1) := by decide +kernel
theorem dX11_write_10 : decode cX11_write 10 = .ok (.getfield 67, 3) := by decide +kernel
theorem dX11_write_13 : decode cX11_write 13 = .ok (.iload_n 1, 1) := by decide +kernel
theorem dX11_write_14 : decode cX11_write 14 = .ok (.iaload, 1) := by decide +kernel
theorem dX11_write_15 : decode cX11_write 15 = .ok (.iconst (-1), 1) := by decide +kernel
theorem dX11_write_16 : decode cX11_write 16 = .ok (.if_icmp .ne 6, 3) := by decide +kernel
theorem dX11_write_19 : decode cX11_write 19 = .ok (.bipush (-11), 2) := by decide +kernel
theorem dX11_write_21 : decode cX11_write 21 = .ok (.ireturn, 1) := by decide +kernel
theorem dX11_write_22 : decode cX11_write 22 = .ok (.aload_n 0, 1) := by decide +kernel
theorem dX11_write_23 : decode cX11_write 23 = .ok (.iload_n 1, 1) := by decide +kernel
theorem dX11_write_24 : decode cX11_write 24 = .ok (.iload_n 2, 1) := by decide +kernel
theorem dX11_write_25 : decode cX11_write 25 = .ok (.invokevirtual 305, 3) := by decide +kernel
theorem dX11_write_28 : decode cX11_write 28 = .ok (.ifCond .ne 6, 3) := by decide +kernel
theorem dX11_write_31 : decode cX11_write 31 = .ok (.bipush (-12), 2) := by decide +kernel
theorem dX11_write_33 : decode cX11_write 33 = .ok (.ireturn, 1) := by decide +kernel
theorem dX11_write_34 : decode cX11_write 34 = .ok (.aload_n 0, 1) := by decide +kernel
theorem dX11_write_35 : decode cX11_write 35 = .ok (.getfield 64, 3) := by decide +kernel
theorem dX11_write_38 : decode cX11_write 38 = .ok (.iload_n 1, 1) := by decide +kernel
theorem dX11_write_39 : decode cX11_write 39 = .ok (.aaload, 1) := by decide +kernel
theorem dX11_write_40 : decode cX11_write 40 = .ok (.iload_n 2, 1) := by decide +kernel
theorem dX11_write_41 : decode cX11_write 41 = .ok (.aload_n 0, 1) := by decide +kernel
theorem dX11_write_42 : decode cX11_write 42 = .ok (.getfield 67, 3) := by decide +kernel
theorem dX11_write_45 : decode cX11_write 45 = .ok (.iload_n 1, 1) := by decide +kernel
theorem dX11_write_46 : decode cX11_write 46 = .ok (.iaload, 1) := by decide +kernel
theorem dX11_write_47 : decode cX11_write 47 = .ok (.iload_n 3, 1) := by decide +kernel
theorem dX11_write_48 : decode cX11_write 48 = .ok (.invokestatic 308, 3) := by decide +kernel
theorem dX11_write_51 : decode cX11_write 51 = .ok (.i2l, 1) := by decide +kernel
theorem dX11_write_52 : decode cX11_write 52 = .ok (.lastore, 1) := by decide +kernel
theorem dX11_write_53 : decode cX11_write 53 = .ok (.iconst 1, 1) := by decide +kernel
theorem dX11_write_54 : decode cX11_write 54 = .ok (.ireturn, 1) := by decide +kernel
theorem dX11_narrowed_0 : decode cX11_narrowed 0 = .ok (.iload_n 0, 1) := by decide +kernel
theorem dX11_narrowed_1 : decode cX11_narrowed 1 = .ok (.tableswitch 51 0 4 #[35, 38, 51, 51, 41], 35) := by decide +kernel
theorem dX11_narrowed_36 : decode cX11_narrowed 36 = .ok (.iload_n 1, 1) := by decide +kernel
theorem dX11_narrowed_37 : decode cX11_narrowed 37 = .ok (.i2b, 1) := by decide +kernel
theorem dX11_narrowed_38 : decode cX11_narrowed 38 = .ok (.ireturn, 1) := by decide +kernel
theorem dX11_narrowed_39 : decode cX11_narrowed 39 = .ok (.iload_n 1, 1) := by decide +kernel
theorem dX11_narrowed_40 : decode cX11_narrowed 40 = .ok (.i2s, 1) := by decide +kernel
theorem dX11_narrowed_41 : decode cX11_narrowed 41 = .ok (.ireturn, 1) := by decide +kernel
theorem dX11_narrowed_42 : decode cX11_narrowed 42 = .ok (.iload_n 1, 1) := by decide +kernel
theorem dX11_narrowed_43 : decode cX11_narrowed 43 = .ok (.ifCond .eq 7, 3) := by decide +kernel
theorem dX11_narrowed_46 : decode cX11_narrowed 46 = .ok (.iconst 1, 1) := by decide +kernel
theorem dX11_narrowed_47 : decode cX11_narrowed 47 = .ok (.goto 4, 3) := by decide +kernel
theorem dX11_narrowed_50 : decode cX11_narrowed 50 = .ok (.iconst 0, 1) := by decide +kernel
theorem dX11_narrowed_51 : decode cX11_narrowed 51 = .ok (.ireturn, 1) := by decide +kernel
theorem dX11_narrowed_52 : decode cX11_narrowed 52 = .ok (.iload_n 1, 1) := by decide +kernel
theorem dX11_narrowed_53 : decode cX11_narrowed 53 = .ok (.ireturn, 1) := by decide +kernel
theorem dX11_item_0 : decode cX11_item 0 = .ok (.iload_n 1, 1) := by decide +kernel
theorem dX11_item_1 : decode cX11_item 1 = .ok (.invokestatic 296, 3) := by decide +kernel
theorem dX11_item_4 : decode cX11_item 4 = .ok (.ifCond .eq 11, 3) := by decide +kernel
theorem dX11_item_7 : decode cX11_item 7 = .ok (.iload_n 2, 1) := by decide +kernel
theorem dX11_item_8 : decode cX11_item 8 = .ok (.iconst 4, 1) := by decide +kernel
theorem dX11_item_9 : decode cX11_item 9 = .ok (.invokestatic 86, 3) := by decide +kernel
theorem dX11_item_12 : decode cX11_item 12 = .ok (.ifCond .ne 5, 3) := by decide +kernel
theorem dX11_item_15 : decode cX11_item 15 = .ok (.iconst (-1), 1) := by decide +kernel
theorem dX11_item_16 : decode cX11_item 16 = .ok (.ireturn, 1) := by decide +kernel
theorem dX11_item_17 : decode cX11_item 17 = .ok (.aload_n 0, 1) := by decide +kernel
theorem dX11_item_18 : decode cX11_item 18 = .ok (.iload_n 1, 1) := by decide +kernel
theorem dX11_item_19 : decode cX11_item 19 = .ok (.iload_n 2, 1) := by decide +kernel
theorem dX11_item_20 : decode cX11_item 20 = .ok (.invokevirtual 311, 3) := by decide +kernel
theorem dX11_item_23 : decode cX11_item 23 = .ok (.istore 4, 2) := by decide +kernel
theorem dX11_item_25 : decode cX11_item 25 = .ok (.iload 4, 2) := by decide +kernel
theorem dX11_item_27 : decode cX11_item 27 = .ok (.ifCond .eq 6, 3) := by decide +kernel
theorem dX11_item_30 : decode cX11_item 30 = .ok (.iload 4, 2) := by decide +kernel
theorem dX11_item_32 : decode cX11_item 32 = .ok (.ireturn, 1) := by decide +kernel
theorem dX11_item_33 : decode cX11_item 33 = .ok (.aload_n 0, 1) := by decide +kernel
theorem dX11_item_34 : decode cX11_item 34 = .ok (.iload_n 1, 1) := by decide +kernel
theorem dX11_item_35 : decode cX11_item 35 = .ok (.iload_n 3, 1) := by decide +kernel
theorem dX11_item_36 : decode cX11_item 36 = .ok (.invokevirtual 305, 3) := by decide +kernel
theorem dX11_item_39 : decode cX11_item 39 = .ok (.ifCond .eq 15, 3) := by decide +kernel
theorem dX11_item_42 : decode cX11_item 42 = .ok (.aload_n 0, 1) := by decide +kernel
theorem dX11_item_43 : decode cX11_item 43 = .ok (.getfield 64, 3) := by decide +kernel
theorem dX11_item_46 : decode cX11_item 46 = .ok (.iload_n 1, 1) := by decide +kernel
theorem dX11_item_47 : decode cX11_item 47 = .ok (.aaload, 1) := by decide +kernel
theorem dX11_item_48 : decode cX11_item 48 = .ok (.iload_n 3, 1) := by decide +kernel
theorem dX11_item_49 : decode cX11_item 49 = .ok (.laload, 1) := by decide +kernel
theorem dX11_item_50 : decode cX11_item 50 = .ok (.l2i, 1) := by decide +kernel
theorem dX11_item_51 : decode cX11_item 51 = .ok (.goto 5, 3) := by decide +kernel
theorem dX11_item_54 : decode cX11_item 54 = .ok (.bipush (-12), 2) := by decide +kernel
theorem dX11_item_56 : decode cX11_item 56 = .ok (.ireturn, 1) := by decide +kernel
theorem dX11_goAll_0 : decode cX11_goAll 0 = .ok (.iload_n 1, 1) := by decide +kernel
theorem dX11_goAll_1 : decode cX11_goAll 1 = .ok (.invokestatic 296, 3) := by decide +kernel
theorem dX11_goAll_4 : decode cX11_goAll 4 = .ok (.ifCond .eq 12, 3) := by decide +kernel
theorem dX11_goAll_7 : decode cX11_goAll 7 = .ok (.iload_n 3, 1) := by decide +kernel
theorem dX11_goAll_8 : decode cX11_goAll 8 = .ok (.bipush 20, 2) := by decide +kernel
theorem dX11_goAll_10 : decode cX11_goAll 10 = .ok (.invokestatic 86, 3) := by decide +kernel
theorem dX11_goAll_13 : decode cX11_goAll 13 = .ok (.ifCond .ne 5, 3) := by decide +kernel
theorem dX11_goAll_16 : decode cX11_goAll 16 = .ok (.iconst (-1), 1) := by decide +kernel
theorem dX11_goAll_17 : decode cX11_goAll 17 = .ok (.ireturn, 1) := by decide +kernel
theorem dX11_goAll_18 : decode cX11_goAll 18 = .ok (.aload_n 0, 1) := by decide +kernel
theorem dX11_goAll_19 : decode cX11_goAll 19 = .ok (.iload_n 1, 1) := by decide +kernel
theorem dX11_goAll_20 : decode cX11_goAll 20 = .ok (.iconst 0, 1) := by decide +kernel
theorem dX11_goAll_21 : decode cX11_goAll 21 = .ok (.invokevirtual 311, 3) := by decide +kernel
theorem dX11_goAll_24 : decode cX11_goAll 24 = .ok (.istore 4, 2) := by decide +kernel
theorem dX11_goAll_26 : decode cX11_goAll 26 = .ok (.iload 4, 2) := by decide +kernel
theorem dX11_goAll_28 : decode cX11_goAll 28 = .ok (.ifCond .eq 6, 3) := by decide +kernel
theorem dX11_goAll_31 : decode cX11_goAll 31 = .ok (.iload 4, 2) := by decide +kernel
theorem dX11_goAll_33 : decode cX11_goAll 33 = .ok (.ireturn, 1) := by decide +kernel
theorem dX11_goAll_34 : decode cX11_goAll 34 = .ok (.iconst 0, 1) := by decide +kernel
theorem dX11_goAll_35 : decode cX11_goAll 35 = .ok (.istore 5, 2) := by decide +kernel
theorem dX11_goAll_37 : decode cX11_goAll 37 = .ok (.iconst 0, 1) := by decide +kernel
theorem dX11_goAll_38 : decode cX11_goAll 38 = .ok (.istore 6, 2) := by decide +kernel
theorem dX11_goAll_40 : decode cX11_goAll 40 = .ok (.iload 6, 2) := by decide +kernel
theorem dX11_goAll_42 : decode cX11_goAll 42 = .ok (.iload_n 3, 1) := by decide +kernel
theorem dX11_goAll_43 : decode cX11_goAll 43 = .ok (.if_icmp .ge 92, 3) := by decide +kernel
theorem dX11_goAll_46 : decode cX11_goAll 46 = .ok (.aload_n 0, 1) := by decide +kernel
theorem dX11_goAll_47 : decode cX11_goAll 47 = .ok (.iload_n 1, 1) := by decide +kernel
theorem dX11_goAll_48 : decode cX11_goAll 48 = .ok (.iload_n 2, 1) := by decide +kernel
theorem dX11_goAll_49 : decode cX11_goAll 49 = .ok (.iload 6, 2) := by decide +kernel
theorem dX11_goAll_51 : decode cX11_goAll 51 = .ok (.iadd, 1) := by decide +kernel
theorem dX11_goAll_52 : decode cX11_goAll 52 = .ok (.invokevirtual 305, 3) := by decide +kernel
theorem dX11_goAll_55 : decode cX11_goAll 55 = .ok (.ifCond .ne 6, 3) := by decide +kernel
theorem dX11_goAll_58 : decode cX11_goAll 58 = .ok (.bipush (-12), 2) := by decide +kernel
theorem dX11_goAll_60 : decode cX11_goAll 60 = .ok (.ireturn, 1) := by decide +kernel
theorem dX11_goAll_61 : decode cX11_goAll 61 = .ok (.aload_n 0, 1) := by decide +kernel
theorem dX11_goAll_62 : decode cX11_goAll 62 = .ok (.getfield 64, 3) := by decide +kernel
theorem dX11_goAll_65 : decode cX11_goAll 65 = .ok (.iload_n 1, 1) := by decide +kernel
theorem dX11_goAll_66 : decode cX11_goAll 66 = .ok (.aaload, 1) := by decide +kernel
theorem dX11_goAll_67 : decode cX11_goAll 67 = .ok (.iload_n 2, 1) := by decide +kernel
theorem dX11_goAll_68 : decode cX11_goAll 68 = .ok (.iload 6, 2) := by decide +kernel
theorem dX11_goAll_70 : decode cX11_goAll 70 = .ok (.iadd, 1) := by decide +kernel
theorem dX11_goAll_71 : decode cX11_goAll 71 = .ok (.laload, 1) := by decide +kernel
theorem dX11_goAll_72 : decode cX11_goAll 72 = .ok (.l2i, 1) := by decide +kernel
theorem dX11_goAll_73 : decode cX11_goAll 73 = .ok (.istore 7, 2) := by decide +kernel
theorem dX11_goAll_75 : decode cX11_goAll 75 = .ok (.aload_n 0, 1) := by decide +kernel
theorem dX11_goAll_76 : decode cX11_goAll 76 = .ok (.getfield 34, 3) := by decide +kernel
theorem dX11_goAll_79 : decode cX11_goAll 79 = .ok (.iload 7, 2) := by decide +kernel
theorem dX11_goAll_81 : decode cX11_goAll 81 = .ok (.invokevirtual 293, 3) := by decide +kernel
theorem dX11_goAll_84 : decode cX11_goAll 84 = .ok (.ifCond .eq 45, 3) := by decide +kernel
theorem dX11_goAll_87 : decode cX11_goAll 87 = .ok (.aload_n 0, 1) := by decide +kernel
theorem dX11_goAll_88 : decode cX11_goAll 88 = .ok (.getfield 34, 3) := by decide +kernel
theorem dX11_goAll_91 : decode cX11_goAll 91 = .ok (.invokevirtual 158, 3) := by decide +kernel
theorem dX11_goAll_94 : decode cX11_goAll 94 = .ok (.ifCond .ne 35, 3) := by decide +kernel
theorem dX11_goAll_97 : decode cX11_goAll 97 = .ok (.aload_n 0, 1) := by decide +kernel
theorem dX11_goAll_98 : decode cX11_goAll 98 = .ok (.getfield 34, 3) := by decide +kernel
theorem dX11_goAll_101 : decode cX11_goAll 101 = .ok (.iload 7, 2) := by decide +kernel
theorem dX11_goAll_103 : decode cX11_goAll 103 = .ok (.invokevirtual 187, 3) := by decide +kernel
theorem dX11_goAll_106 : decode cX11_goAll 106 = .ok (.istore 8, 2) := by decide +kernel
theorem dX11_goAll_108 : decode cX11_goAll 108 = .ok (.aload_n 0, 1) := by decide +kernel
theorem dX11_goAll_109 : decode cX11_goAll 109 = .ok (.getfield 34, 3) := by decide +kernel
theorem dX11_goAll_112 : decode cX11_goAll 112 = .ok (.dup, 1) := by decide +kernel
theorem dX11_goAll_113 : decode cX11_goAll 113 = .ok (.getfield 155, 3) := by decide +kernel
theorem dX11_goAll_116 : decode cX11_goAll 116 = .ok (.iload 8, 2) := by decide +kernel
theorem dX11_goAll_118 : decode cX11_goAll 118 = .ok (.iadd, 1) := by decide +kernel
theorem dX11_goAll_119 : decode cX11_goAll 119 = .ok (.putfield 155, 3) := by decide +kernel
theorem dX11_goAll_122 : decode cX11_goAll 122 = .ok (.iload 5, 2) := by decide +kernel
theorem dX11_goAll_124 : decode cX11_goAll 124 = .ok (.iload 8, 2) := by decide +kernel
theorem dX11_goAll_126 : decode cX11_goAll 126 = .ok (.iadd, 1) := by decide +kernel
theorem dX11_goAll_127 : decode cX11_goAll 127 = .ok (.istore 5, 2) := by decide +kernel
theorem dX11_goAll_129 : decode cX11_goAll 129 = .ok (.iinc 6 1, 3) := by decide +kernel
theorem dX11_goAll_132 : decode cX11_goAll 132 = .ok (.goto (-92), 3) := by decide +kernel
theorem dX11_goAll_135 : decode cX11_goAll 135 = .ok (.iload 5, 2) := by decide +kernel
theorem dX11_goAll_137 : decode cX11_goAll 137 = .ok (.ireturn, 1) := by decide +kernel
theorem dX11_wouldBe_0 : decode cX11_wouldBe 0 = .ok (.iload_n 1, 1) := by decide +kernel
theorem dX11_wouldBe_1 : decode cX11_wouldBe 1 = .ok (.invokestatic 296, 3) := by decide +kernel
theorem dX11_wouldBe_4 : decode cX11_wouldBe 4 = .ok (.ifCond .eq 12, 3) := by decide +kernel
theorem dX11_wouldBe_7 : decode cX11_wouldBe 7 = .ok (.iload_n 3, 1) := by decide +kernel
theorem dX11_wouldBe_8 : decode cX11_wouldBe 8 = .ok (.bipush 20, 2) := by decide +kernel
theorem dX11_wouldBe_10 : decode cX11_wouldBe 10 = .ok (.invokestatic 86, 3) := by decide +kernel
theorem dX11_wouldBe_13 : decode cX11_wouldBe 13 = .ok (.ifCond .ne 5, 3) := by decide +kernel
theorem dX11_wouldBe_16 : decode cX11_wouldBe 16 = .ok (.iconst (-1), 1) := by decide +kernel
theorem dX11_wouldBe_17 : decode cX11_wouldBe 17 = .ok (.ireturn, 1) := by decide +kernel
theorem dX11_wouldBe_18 : decode cX11_wouldBe 18 = .ok (.aload_n 0, 1) := by decide +kernel
theorem dX11_wouldBe_19 : decode cX11_wouldBe 19 = .ok (.iload_n 1, 1) := by decide +kernel
theorem dX11_wouldBe_20 : decode cX11_wouldBe 20 = .ok (.iconst 0, 1) := by decide +kernel
theorem dX11_wouldBe_21 : decode cX11_wouldBe 21 = .ok (.invokevirtual 311, 3) := by decide +kernel
theorem dX11_wouldBe_24 : decode cX11_wouldBe 24 = .ok (.istore 4, 2) := by decide +kernel
theorem dX11_wouldBe_26 : decode cX11_wouldBe 26 = .ok (.iload 4, 2) := by decide +kernel
theorem dX11_wouldBe_28 : decode cX11_wouldBe 28 = .ok (.ifCond .eq 6, 3) := by decide +kernel
theorem dX11_wouldBe_31 : decode cX11_wouldBe 31 = .ok (.iload 4, 2) := by decide +kernel
theorem dX11_wouldBe_33 : decode cX11_wouldBe 33 = .ok (.ireturn, 1) := by decide +kernel
theorem dX11_wouldBe_34 : decode cX11_wouldBe 34 = .ok (.aload_n 0, 1) := by decide +kernel
theorem dX11_wouldBe_35 : decode cX11_wouldBe 35 = .ok (.invokevirtual 190, 3) := by decide +kernel
theorem dX11_wouldBe_38 : decode cX11_wouldBe 38 = .ok (.astore 5, 2) := by decide +kernel
theorem dX11_wouldBe_40 : decode cX11_wouldBe 40 = .ok (.iconst 0, 1) := by decide +kernel
theorem dX11_wouldBe_41 : decode cX11_wouldBe 41 = .ok (.istore 6, 2) := by decide +kernel
theorem dX11_wouldBe_43 : decode cX11_wouldBe 43 = .ok (.iconst 0, 1) := by decide +kernel
theorem dX11_wouldBe_44 : decode cX11_wouldBe 44 = .ok (.istore 7, 2) := by decide +kernel
theorem dX11_wouldBe_46 : decode cX11_wouldBe 46 = .ok (.iload 7, 2) := by decide +kernel
theorem dX11_wouldBe_48 : decode cX11_wouldBe 48 = .ok (.iload_n 3, 1) := by decide +kernel
theorem dX11_wouldBe_49 : decode cX11_wouldBe 49 = .ok (.if_icmp .ge 71, 3) := by decide +kernel
theorem dX11_wouldBe_52 : decode cX11_wouldBe 52 = .ok (.aload_n 0, 1) := by decide +kernel
theorem dX11_wouldBe_53 : decode cX11_wouldBe 53 = .ok (.iload_n 1, 1) := by decide +kernel
theorem dX11_wouldBe_54 : decode cX11_wouldBe 54 = .ok (.iload_n 2, 1) := by decide +kernel
theorem dX11_wouldBe_55 : decode cX11_wouldBe 55 = .ok (.iload 7, 2) := by decide +kernel
theorem dX11_wouldBe_57 : decode cX11_wouldBe 57 = .ok (.iadd, 1) := by decide +kernel
theorem dX11_wouldBe_58 : decode cX11_wouldBe 58 = .ok (.invokevirtual 305, 3) := by decide +kernel
theorem dX11_wouldBe_61 : decode cX11_wouldBe 61 = .ok (.ifCond .ne 6, 3) := by decide +kernel
theorem dX11_wouldBe_64 : decode cX11_wouldBe 64 = .ok (.bipush (-12), 2) := by decide +kernel
theorem dX11_wouldBe_66 : decode cX11_wouldBe 66 = .ok (.ireturn, 1) := by decide +kernel
theorem dX11_wouldBe_67 : decode cX11_wouldBe 67 = .ok (.aload_n 0, 1) := by decide +kernel
theorem dX11_wouldBe_68 : decode cX11_wouldBe 68 = .ok (.getfield 64, 3) := by decide +kernel
theorem dX11_wouldBe_71 : decode cX11_wouldBe 71 = .ok (.iload_n 1, 1) := by decide +kernel
theorem dX11_wouldBe_72 : decode cX11_wouldBe 72 = .ok (.aaload, 1) := by decide +kernel
theorem dX11_wouldBe_73 : decode cX11_wouldBe 73 = .ok (.iload_n 2, 1) := by decide +kernel
theorem dX11_wouldBe_74 : decode cX11_wouldBe 74 = .ok (.iload 7, 2) := by decide +kernel
theorem dX11_wouldBe_76 : decode cX11_wouldBe 76 = .ok (.iadd, 1) := by decide +kernel
theorem dX11_wouldBe_77 : decode cX11_wouldBe 77 = .ok (.laload, 1) := by decide +kernel
theorem dX11_wouldBe_78 : decode cX11_wouldBe 78 = .ok (.l2i, 1) := by decide +kernel
theorem dX11_wouldBe_79 : decode cX11_wouldBe 79 = .ok (.istore 8, 2) := by decide +kernel
theorem dX11_wouldBe_81 : decode cX11_wouldBe 81 = .ok (.aload 5, 2) := by decide +kernel
theorem dX11_wouldBe_83 : decode cX11_wouldBe 83 = .ok (.iload 8, 2) := by decide +kernel
theorem dX11_wouldBe_85 : decode cX11_wouldBe 85 = .ok (.invokevirtual 293, 3) := by decide +kernel
theorem dX11_wouldBe_88 : decode cX11_wouldBe 88 = .ok (.ifCond .eq 11, 3) := by decide +kernel
theorem dX11_wouldBe_91 : decode cX11_wouldBe 91 = .ok (.aload 5, 2) := by decide +kernel
theorem dX11_wouldBe_93 : decode cX11_wouldBe 93 = .ok (.invokevirtual 158, 3) := by decide +kernel
theorem dX11_wouldBe_96 : decode cX11_wouldBe 96 = .ok (.ifCond .eq 6, 3) := by decide +kernel
theorem dX11_wouldBe_99 : decode cX11_wouldBe 99 = .ok (.bipush (-4), 2) := by decide +kernel
theorem dX11_wouldBe_101 : decode cX11_wouldBe 101 = .ok (.ireturn, 1) := by decide +kernel
theorem dX11_wouldBe_102 : decode cX11_wouldBe 102 = .ok (.iload 6, 2) := by decide +kernel
theorem dX11_wouldBe_104 : decode cX11_wouldBe 104 = .ok (.aload 5, 2) := by decide +kernel
theorem dX11_wouldBe_106 : decode cX11_wouldBe 106 = .ok (.iload 8, 2) := by decide +kernel
theorem dX11_wouldBe_108 : decode cX11_wouldBe 108 = .ok (.invokevirtual 187, 3) := by decide +kernel
theorem dX11_wouldBe_111 : decode cX11_wouldBe 111 = .ok (.iadd, 1) := by decide +kernel
theorem dX11_wouldBe_112 : decode cX11_wouldBe 112 = .ok (.istore 6, 2) := by decide +kernel
theorem dX11_wouldBe_114 : decode cX11_wouldBe 114 = .ok (.iinc 7 1, 3) := by decide +kernel
theorem dX11_wouldBe_117 : decode cX11_wouldBe 117 = .ok (.goto (-71), 3) := by decide +kernel
theorem dX11_wouldBe_120 : decode cX11_wouldBe 120 = .ok (.iload 6, 2) := by decide +kernel
theorem dX11_wouldBe_122 : decode cX11_wouldBe 122 = .ok (.ireturn, 1) := by decide +kernel
theorem dX11_shelf_0 : decode cX11_shelf 0 = .ok (.iload_n 1, 1) := by decide +kernel
theorem dX11_shelf_1 : decode cX11_shelf 1 = .ok (.invokestatic 314, 3) := by decide +kernel
theorem dX11_shelf_4 : decode cX11_shelf 4 = .ok (.ifCond .eq 11, 3) := by decide +kernel
theorem dX11_shelf_7 : decode cX11_shelf 7 = .ok (.iload_n 2, 1) := by decide +kernel
theorem dX11_shelf_8 : decode cX11_shelf 8 = .ok (.iconst 2, 1) := by decide +kernel
theorem dX11_shelf_9 : decode cX11_shelf 9 = .ok (.invokestatic 86, 3) := by decide +kernel
theorem dX11_shelf_12 : decode cX11_shelf 12 = .ok (.ifCond .ne 5, 3) := by decide +kernel
theorem dX11_shelf_15 : decode cX11_shelf 15 = .ok (.iconst (-1), 1) := by decide +kernel
theorem dX11_shelf_16 : decode cX11_shelf 16 = .ok (.ireturn, 1) := by decide +kernel
theorem dX11_shelf_17 : decode cX11_shelf 17 = .ok (.iload_n 2, 1) := by decide +kernel
theorem dX11_shelf_18 : decode cX11_shelf 18 = .ok (.ifCond .ne 14, 3) := by decide +kernel
theorem dX11_shelf_21 : decode cX11_shelf 21 = .ok (.aload_n 0, 1) := by decide +kernel
theorem dX11_shelf_22 : decode cX11_shelf 22 = .ok (.getfield 34, 3) := by decide +kernel
theorem dX11_shelf_25 : decode cX11_shelf 25 = .ok (.iload_n 3, 1) := by decide +kernel
theorem dX11_shelf_26 : decode cX11_shelf 26 = .ok (.invokevirtual 98, 3) := by decide +kernel
theorem dX11_shelf_29 : decode cX11_shelf 29 = .ok (.ifCond .eq 15, 3) := by decide +kernel
theorem dX11_shelf_32 : decode cX11_shelf 32 = .ok (.iload_n 2, 1) := by decide +kernel
theorem dX11_shelf_33 : decode cX11_shelf 33 = .ok (.iconst 1, 1) := by decide +kernel
theorem dX11_shelf_34 : decode cX11_shelf 34 = .ok (.if_icmp .ne 12, 3) := by decide +kernel
theorem dX11_shelf_37 : decode cX11_shelf 37 = .ok (.iload_n 3, 1) := by decide +kernel
theorem dX11_shelf_38 : decode cX11_shelf 38 = .ok (.invokestatic 296, 3) := by decide +kernel
theorem dX11_shelf_41 : decode cX11_shelf 41 = .ok (.ifCond .ne 5, 3) := by decide +kernel
theorem dX11_shelf_44 : decode cX11_shelf 44 = .ok (.iconst (-1), 1) := by decide +kernel
theorem dX11_shelf_45 : decode cX11_shelf 45 = .ok (.ireturn, 1) := by decide +kernel
theorem dX11_shelf_46 : decode cX11_shelf 46 = .ok (.iload_n 2, 1) := by decide +kernel
theorem dX11_shelf_47 : decode cX11_shelf 47 = .ok (.iconst 1, 1) := by decide +kernel
theorem dX11_shelf_48 : decode cX11_shelf 48 = .ok (.if_icmp .ne 17, 3) := by decide +kernel
theorem dX11_shelf_51 : decode cX11_shelf 51 = .ok (.aload_n 0, 1) := by decide +kernel
theorem dX11_shelf_52 : decode cX11_shelf 52 = .ok (.getfield 67, 3) := by decide +kernel
theorem dX11_shelf_55 : decode cX11_shelf 55 = .ok (.iload_n 3, 1) := by decide +kernel
theorem dX11_shelf_56 : decode cX11_shelf 56 = .ok (.iaload, 1) := by decide +kernel
theorem dX11_shelf_57 : decode cX11_shelf 57 = .ok (.iconst (-1), 1) := by decide +kernel
theorem dX11_shelf_58 : decode cX11_shelf 58 = .ok (.if_icmp .ne 7, 3) := by decide +kernel
theorem dX11_shelf_61 : decode cX11_shelf 61 = .ok (.iconst 1, 1) := by decide +kernel
theorem dX11_shelf_62 : decode cX11_shelf 62 = .ok (.goto 4, 3) := by decide +kernel
theorem dX11_shelf_65 : decode cX11_shelf 65 = .ok (.iconst 0, 1) := by decide +kernel
theorem dX11_shelf_66 : decode cX11_shelf 66 = .ok (.istore 4, 2) := by decide +kernel
theorem dX11_shelf_68 : decode cX11_shelf 68 = .ok (.aload_n 0, 1) := by decide +kernel
theorem dX11_shelf_69 : decode cX11_shelf 69 = .ok (.getfield 73, 3) := by decide +kernel
theorem dX11_shelf_72 : decode cX11_shelf 72 = .ok (.iload_n 1, 1) := by decide +kernel
theorem dX11_shelf_73 : decode cX11_shelf 73 = .ok (.iload 4, 2) := by decide +kernel
theorem dX11_shelf_75 : decode cX11_shelf 75 = .ok (.ifCond .eq 7, 3) := by decide +kernel
theorem dX11_shelf_78 : decode cX11_shelf 78 = .ok (.iconst 2, 1) := by decide +kernel
theorem dX11_shelf_79 : decode cX11_shelf 79 = .ok (.goto 4, 3) := by decide +kernel
theorem dX11_shelf_82 : decode cX11_shelf 82 = .ok (.iload_n 2, 1) := by decide +kernel
theorem dX11_shelf_83 : decode cX11_shelf 83 = .ok (.iastore, 1) := by decide +kernel
theorem dX11_shelf_84 : decode cX11_shelf 84 = .ok (.aload_n 0, 1) := by decide +kernel
theorem dX11_shelf_85 : decode cX11_shelf 85 = .ok (.getfield 76, 3) := by decide +kernel
theorem dX11_shelf_88 : decode cX11_shelf 88 = .ok (.iload_n 1, 1) := by decide +kernel
theorem dX11_shelf_89 : decode cX11_shelf 89 = .ok (.iload_n 2, 1) := by decide +kernel
theorem dX11_shelf_90 : decode cX11_shelf 90 = .ok (.iconst 1, 1) := by decide +kernel
theorem dX11_shelf_91 : decode cX11_shelf 91 = .ok (.if_icmp .ne 12, 3) := by decide +kernel
theorem dX11_shelf_94 : decode cX11_shelf 94 = .ok (.aload_n 0, 1) := by decide +kernel
theorem dX11_shelf_95 : decode cX11_shelf 95 = .ok (.getfield 70, 3) := by decide +kernel
theorem dX11_shelf_98 : decode cX11_shelf 98 = .ok (.iload_n 3, 1) := by decide +kernel
theorem dX11_shelf_99 : decode cX11_shelf 99 = .ok (.iaload, 1) := by decide +kernel
theorem dX11_shelf_100 : decode cX11_shelf 100 = .ok (.goto 4, 3) := by decide +kernel
theorem dX11_shelf_103 : decode cX11_shelf 103 = .ok (.iload_n 3, 1) := by decide +kernel
theorem dX11_shelf_104 : decode cX11_shelf 104 = .ok (.iastore, 1) := by decide +kernel
theorem dX11_shelf_105 : decode cX11_shelf 105 = .ok (.aload_n 0, 1) := by decide +kernel
theorem dX11_shelf_106 : decode cX11_shelf 106 = .ok (.getfield 79, 3) := by decide +kernel
theorem dX11_shelf_109 : decode cX11_shelf 109 = .ok (.iload_n 1, 1) := by decide +kernel
theorem dX11_shelf_110 : decode cX11_shelf 110 = .ok (.iload_n 2, 1) := by decide +kernel
theorem dX11_shelf_111 : decode cX11_shelf 111 = .ok (.iconst 1, 1) := by decide +kernel
theorem dX11_shelf_112 : decode cX11_shelf 112 = .ok (.if_icmp .ne 12, 3) := by decide +kernel
theorem dX11_shelf_115 : decode cX11_shelf 115 = .ok (.aload_n 0, 1) := by decide +kernel
theorem dX11_shelf_116 : decode cX11_shelf 116 = .ok (.getfield 67, 3) := by decide +kernel
theorem dX11_shelf_119 : decode cX11_shelf 119 = .ok (.iload_n 3, 1) := by decide +kernel
theorem dX11_shelf_120 : decode cX11_shelf 120 = .ok (.iaload, 1) := by decide +kernel
theorem dX11_shelf_121 : decode cX11_shelf 121 = .ok (.goto 4, 3) := by decide +kernel
theorem dX11_shelf_124 : decode cX11_shelf 124 = .ok (.iconst (-1), 1) := by decide +kernel
theorem dX11_shelf_125 : decode cX11_shelf 125 = .ok (.iastore, 1) := by decide +kernel
theorem dX11_shelf_126 : decode cX11_shelf 126 = .ok (.iconst 1, 1) := by decide +kernel
theorem dX11_shelf_127 : decode cX11_shelf 127 = .ok (.ireturn, 1) := by decide +kernel
theorem dX11_taken_0 : decode cX11_taken 0 = .ok (.iload_n 2, 1) := by decide +kernel
theorem dX11_taken_1 : decode cX11_taken 1 = .ok (.bipush 10, 2) := by decide +kernel
theorem dX11_taken_3 : decode cX11_taken 3 = .ok (.if_icmp .lt 13, 3) := by decide +kernel
theorem dX11_taken_6 : decode cX11_taken 6 = .ok (.iload_n 2, 1) := by decide +kernel
theorem dX11_taken_7 : decode cX11_taken 7 = .ok (.bipush 15, 2) := by decide +kernel
theorem dX11_taken_9 : decode cX11_taken 9 = .ok (.if_icmp .ge 7, 3) := by decide +kernel
theorem dX11_taken_12 : decode cX11_taken 12 = .ok (.iconst 1, 1) := by decide +kernel
theorem dX11_taken_13 : decode cX11_taken 13 = .ok (.goto 4, 3) := by decide +kernel
theorem dX11_taken_16 : decode cX11_taken 16 = .ok (.iconst 0, 1) := by decide +kernel
theorem dX11_taken_17 : decode cX11_taken 17 = .ok (.istore_n 3, 1) := by decide +kernel
theorem dX11_taken_18 : decode cX11_taken 18 = .ok (.iload_n 1, 1) := by decide +kernel
theorem dX11_taken_19 : decode cX11_taken 19 = .ok (.invokestatic 314, 3) := by decide +kernel
theorem dX11_taken_22 : decode cX11_taken 22 = .ok (.ifCond .eq 15, 3) := by decide +kernel
theorem dX11_taken_25 : decode cX11_taken 25 = .ok (.iload_n 3, 1) := by decide +kernel
theorem dX11_taken_26 : decode cX11_taken 26 = .ok (.ifCond .ne 13, 3) := by decide +kernel
theorem dX11_taken_29 : decode cX11_taken 29 = .ok (.iload_n 2, 1) := by decide +kernel
theorem dX11_taken_30 : decode cX11_taken 30 = .ok (.iconst 5, 1) := by decide +kernel
theorem dX11_taken_31 : decode cX11_taken 31 = .ok (.invokestatic 86, 3) := by decide +kernel
theorem dX11_taken_34 : decode cX11_taken 34 = .ok (.ifCond .ne 5, 3) := by decide +kernel
theorem dX11_taken_37 : decode cX11_taken 37 = .ok (.iconst (-1), 1) := by decide +kernel
theorem dX11_taken_38 : decode cX11_taken 38 = .ok (.ireturn, 1) := by decide +kernel
theorem dX11_taken_39 : decode cX11_taken 39 = .ok (.aload_n 0, 1) := by decide +kernel
theorem dX11_taken_40 : decode cX11_taken 40 = .ok (.getfield 73, 3) := by decide +kernel
theorem dX11_taken_43 : decode cX11_taken 43 = .ok (.iload_n 1, 1) := by decide +kernel
theorem dX11_taken_44 : decode cX11_taken 44 = .ok (.iaload, 1) := by decide +kernel
theorem dX11_taken_45 : decode cX11_taken 45 = .ok (.iconst 1, 1) := by decide +kernel
theorem dX11_taken_46 : decode cX11_taken 46 = .ok (.if_icmp .ne 28, 3) := by decide +kernel
theorem dX11_taken_49 : decode cX11_taken 49 = .ok (.aload_n 0, 1) := by decide +kernel
theorem dX11_taken_50 : decode cX11_taken 50 = .ok (.getfield 79, 3) := by decide +kernel
theorem dX11_taken_53 : decode cX11_taken 53 = .ok (.iload_n 1, 1) := by decide +kernel
theorem dX11_taken_54 : decode cX11_taken 54 = .ok (.iaload, 1) := by decide +kernel
theorem dX11_taken_55 : decode cX11_taken 55 = .ok (.iload_n 2, 1) := by decide +kernel
theorem dX11_taken_56 : decode cX11_taken 56 = .ok (.bipush 10, 2) := by decide +kernel
theorem dX11_taken_58 : decode cX11_taken 58 = .ok (.isub, 1) := by decide +kernel
theorem dX11_taken_59 : decode cX11_taken 59 = .ok (.if_icmp .ne 12, 3) := by decide +kernel
theorem dX11_taken_62 : decode cX11_taken 62 = .ok (.aload_n 0, 1) := by decide +kernel
theorem dX11_taken_63 : decode cX11_taken 63 = .ok (.getfield 76, 3) := by decide +kernel
theorem dX11_taken_66 : decode cX11_taken 66 = .ok (.iload_n 1, 1) := by decide +kernel
theorem dX11_taken_67 : decode cX11_taken 67 = .ok (.iaload, 1) := by decide +kernel
theorem dX11_taken_68 : decode cX11_taken 68 = .ok (.goto 5, 3) := by decide +kernel
theorem dX11_taken_71 : decode cX11_taken 71 = .ok (.bipush (-13), 2) := by decide +kernel
theorem dX11_taken_73 : decode cX11_taken 73 = .ok (.ireturn, 1) := by decide +kernel
theorem dX11_taken_74 : decode cX11_taken 74 = .ok (.aload_n 0, 1) := by decide +kernel
theorem dX11_taken_75 : decode cX11_taken 75 = .ok (.iload_n 1, 1) := by decide +kernel
theorem dX11_taken_76 : decode cX11_taken 76 = .ok (.invokevirtual 317, 3) := by decide +kernel
theorem dX11_taken_79 : decode cX11_taken 79 = .ok (.istore 4, 2) := by decide +kernel
theorem dX11_taken_81 : decode cX11_taken 81 = .ok (.iload 4, 2) := by decide +kernel
theorem dX11_taken_83 : decode cX11_taken 83 = .ok (.bipush (-3), 2) := by decide +kernel
theorem dX11_taken_85 : decode cX11_taken 85 = .ok (.if_icmp .ne 6, 3) := by decide +kernel
theorem dX11_taken_88 : decode cX11_taken 88 = .ok (.bipush (-11), 2) := by decide +kernel
theorem dX11_taken_90 : decode cX11_taken 90 = .ok (.ireturn, 1) := by decide +kernel
theorem dX11_taken_91 : decode cX11_taken 91 = .ok (.iload_n 3, 1) := by decide +kernel
theorem dX11_taken_92 : decode cX11_taken 92 = .ok (.ifCond .ne 25, 3) := by decide +kernel
theorem dX11_taken_95 : decode cX11_taken 95 = .ok (.aload_n 0, 1) := by decide +kernel
theorem dX11_taken_96 : decode cX11_taken 96 = .ok (.getfield 34, 3) := by decide +kernel
theorem dX11_taken_99 : decode cX11_taken 99 = .ok (.getfield 125, 3) := by decide +kernel
theorem dX11_taken_102 : decode cX11_taken 102 = .ok (.iload 4, 2) := by decide +kernel
theorem dX11_taken_104 : decode cX11_taken 104 = .ok (.iaload, 1) := by decide +kernel
theorem dX11_taken_105 : decode cX11_taken 105 = .ok (.iload_n 2, 1) := by decide +kernel
theorem dX11_taken_106 : decode cX11_taken 106 = .ok (.invokestatic 320, 3) := by decide +kernel
theorem dX11_taken_109 : decode cX11_taken 109 = .ok (.ifCond .eq 8, 3) := by decide +kernel
theorem dX11_taken_112 : decode cX11_taken 112 = .ok (.iload 4, 2) := by decide +kernel
theorem dX11_taken_114 : decode cX11_taken 114 = .ok (.goto 5, 3) := by decide +kernel
theorem dX11_taken_117 : decode cX11_taken 117 = .ok (.bipush (-13), 2) := by decide +kernel
theorem dX11_taken_119 : decode cX11_taken 119 = .ok (.ireturn, 1) := by decide +kernel
theorem dX11_act_0 : decode cX11_act 0 = .ok (.aload_n 0, 1) := by decide +kernel
theorem dX11_act_1 : decode cX11_act 1 = .ok (.aconst_null, 1) := by decide +kernel
theorem dX11_act_2 : decode cX11_act 2 = .ok (.putfield 323, 3) := by decide +kernel
theorem dX11_act_5 : decode cX11_act 5 = .ok (.iload_n 1, 1) := by decide +kernel
theorem dX11_act_6 : decode cX11_act 6 = .ok (.invokestatic 314, 3) := by decide +kernel
theorem dX11_act_9 : decode cX11_act 9 = .ok (.ifCond .eq 11, 3) := by decide +kernel
theorem dX11_act_12 : decode cX11_act 12 = .ok (.aload_n 0, 1) := by decide +kernel
theorem dX11_act_13 : decode cX11_act 13 = .ok (.iload_n 1, 1) := by decide +kernel
theorem dX11_act_14 : decode cX11_act 14 = .ok (.invokevirtual 317, 3) := by decide +kernel
theorem dX11_act_17 : decode cX11_act 17 = .ok (.goto 5, 3) := by decide +kernel
theorem dX11_act_20 : decode cX11_act 20 = .ok (.bipush (-3), 2) := by decide +kernel
theorem dX11_act_22 : decode cX11_act 22 = .ok (.istore 4, 2) := by decide +kernel
theorem dX11_act_24 : decode cX11_act 24 = .ok (.iload 4, 2) := by decide +kernel
theorem dX11_act_26 : decode cX11_act 26 = .ok (.bipush (-3), 2) := by decide +kernel
theorem dX11_act_28 : decode cX11_act 28 = .ok (.if_icmp .eq 11, 3) := by decide +kernel
theorem dX11_act_31 : decode cX11_act 31 = .ok (.iload_n 2, 1) := by decide +kernel
theorem dX11_act_32 : decode cX11_act 32 = .ok (.iconst 3, 1) := by decide +kernel
theorem dX11_act_33 : decode cX11_act 33 = .ok (.invokestatic 86, 3) := by decide +kernel
theorem dX11_act_36 : decode cX11_act 36 = .ok (.ifCond .ne 5, 3) := by decide +kernel
theorem dX11_act_39 : decode cX11_act 39 = .ok (.iconst 0, 1) := by decide +kernel
theorem dX11_act_40 : decode cX11_act 40 = .ok (.ireturn, 1) := by decide +kernel
theorem dX11_act_41 : decode cX11_act 41 = .ok (.aload_n 0, 1) := by decide +kernel
theorem dX11_act_42 : decode cX11_act 42 = .ok (.getfield 25, 3) := by decide +kernel
theorem dX11_act_45 : decode cX11_act 45 = .ok (.aload_n 0, 1) := by decide +kernel
theorem dX11_act_46 : decode cX11_act 46 = .ok (.getfield 34, 3) := by decide +kernel
theorem dX11_act_49 : decode cX11_act 49 = .ok (.getfield 125, 3) := by decide +kernel
theorem dX11_act_52 : decode cX11_act 52 = .ok (.iload 4, 2) := by decide +kernel
theorem dX11_act_54 : decode cX11_act 54 = .ok (.iaload, 1) := by decide +kernel
theorem dX11_act_55 : decode cX11_act 55 = .ok (.aaload, 1) := by decide +kernel
theorem dX11_act_56 : decode cX11_act 56 = .ok (.astore 5, 2) := by decide +kernel
theorem dX11_act_58 : decode cX11_act 58 = .ok (.aload_n 0, 1) := by decide +kernel
theorem dX11_act_59 : decode cX11_act 59 = .ok (.aload 5, 2) := by decide +kernel
theorem dX11_act_61 : decode cX11_act 61 = .ok (.putfield 323, 3) := by decide +kernel
theorem dX11_act_64 : decode cX11_act 64 = .ok (.aload 5, 2) := by decide +kernel
theorem dX11_act_66 : decode cX11_act 66 = .ok (.iload 4, 2) := by decide +kernel
theorem dX11_act_68 : decode cX11_act 68 = .ok (.aload_n 0, 1) := by decide +kernel
theorem dX11_act_69 : decode cX11_act 69 = .ok (.getfield 34, 3) := by decide +kernel
theorem dX11_act_72 : decode cX11_act 72 = .ok (.getfield 225, 3) := by decide +kernel
theorem dX11_act_75 : decode cX11_act 75 = .ok (.iload 4, 2) := by decide +kernel
theorem dX11_act_77 : decode cX11_act 77 = .ok (.iaload, 1) := by decide +kernel
theorem dX11_act_78 : decode cX11_act 78 = .ok (.invokevirtual 327, 3) := by decide +kernel
theorem dX11_act_81 : decode cX11_act 81 = .ok (.iload_n 2, 1) := by decide +kernel
theorem dX11_act_82 : decode cX11_act 82 = .ok (.tableswitch 59 0 2 #[26, 37, 48], 26) := by decide +kernel
theorem dX11_act_108 : decode cX11_act 108 = .ok (.aload 5, 2) := by decide +kernel
theorem dX11_act_110 : decode cX11_act 110 = .ok (.iload_n 3, 1) := by decide +kernel
theorem dX11_act_111 : decode cX11_act 111 = .ok (.invokevirtual 331, 3) := by decide +kernel
theorem dX11_act_114 : decode cX11_act 114 = .ok (.istore 6, 2) := by decide +kernel
theorem dX11_act_116 : decode cX11_act 116 = .ok (.goto 33, 3) := by decide +kernel
theorem dX11_act_119 : decode cX11_act 119 = .ok (.aload 5, 2) := by decide +kernel
theorem dX11_act_121 : decode cX11_act 121 = .ok (.iload_n 3, 1) := by decide +kernel
theorem dX11_act_122 : decode cX11_act 122 = .ok (.invokevirtual 334, 3) := by decide +kernel
theorem dX11_act_125 : decode cX11_act 125 = .ok (.istore 6, 2) := by decide +kernel
theorem dX11_act_127 : decode cX11_act 127 = .ok (.goto 22, 3) := by decide +kernel
theorem dX11_act_130 : decode cX11_act 130 = .ok (.aload 5, 2) := by decide +kernel
theorem dX11_act_132 : decode cX11_act 132 = .ok (.iload_n 3, 1) := by decide +kernel
theorem dX11_act_133 : decode cX11_act 133 = .ok (.invokevirtual 337, 3) := by decide +kernel
theorem dX11_act_136 : decode cX11_act 136 = .ok (.istore 6, 2) := by decide +kernel
theorem dX11_act_138 : decode cX11_act 138 = .ok (.goto 11, 3) := by decide +kernel
theorem dX11_act_141 : decode cX11_act 141 = .ok (.aload 5, 2) := by decide +kernel
theorem dX11_act_143 : decode cX11_act 143 = .ok (.iload_n 3, 1) := by decide +kernel
theorem dX11_act_144 : decode cX11_act 144 = .ok (.invokevirtual 340, 3) := by decide +kernel
theorem dX11_act_147 : decode cX11_act 147 = .ok (.istore 6, 2) := by decide +kernel
theorem dX11_act_149 : decode cX11_act 149 = .ok (.aload 5, 2) := by decide +kernel
theorem dX11_act_151 : decode cX11_act 151 = .ok (.getfield 343, 3) := by decide +kernel
theorem dX11_act_154 : decode cX11_act 154 = .ok (.ifCond .eq 8, 3) := by decide +kernel
theorem dX11_act_157 : decode cX11_act 157 = .ok (.bipush (-15), 2) := by decide +kernel
theorem dX11_act_159 : decode cX11_act 159 = .ok (.goto 5, 3) := by decide +kernel
theorem dX11_act_162 : decode cX11_act 162 = .ok (.iload 6, 2) := by decide +kernel
theorem dX11_act_164 : decode cX11_act 164 = .ok (.ireturn, 1) := by decide +kernel
theorem dX11_trace_0 : decode cX11_trace 0 = .ok (.aload_n 0, 1) := by decide +kernel
theorem dX11_trace_1 : decode cX11_trace 1 = .ok (.getfield 323, 3) := by decide +kernel
theorem dX11_trace_4 : decode cX11_trace 4 = .ok (.ifnull 31, 3) := by decide +kernel
theorem dX11_trace_7 : decode cX11_trace 7 = .ok (.iload_n 1, 1) := by decide +kernel
theorem dX11_trace_8 : decode cX11_trace 8 = .ok (.aload_n 0, 1) := by decide +kernel
theorem dX11_trace_9 : decode cX11_trace 9 = .ok (.getfield 323, 3) := by decide +kernel
theorem dX11_trace_12 : decode cX11_trace 12 = .ok (.getfield 347, 3) := by decide +kernel
theorem dX11_trace_15 : decode cX11_trace 15 = .ok (.iconst 1, 1) := by decide +kernel
theorem dX11_trace_16 : decode cX11_trace 16 = .ok (.isub, 1) := by decide +kernel
theorem dX11_trace_17 : decode cX11_trace 17 = .ok (.invokestatic 86, 3) := by decide +kernel
theorem dX11_trace_20 : decode cX11_trace 20 = .ok (.ifCond .eq 15, 3) := by decide +kernel
theorem dX11_trace_23 : decode cX11_trace 23 = .ok (.aload_n 0, 1) := by decide +kernel
theorem dX11_trace_24 : decode cX11_trace 24 = .ok (.getfield 323, 3) := by decide +kernel
theorem dX11_trace_27 : decode cX11_trace 27 = .ok (.getfield 350, 3) := by decide +kernel
theorem dX11_trace_30 : decode cX11_trace 30 = .ok (.iload_n 1, 1) := by decide +kernel
theorem dX11_trace_31 : decode cX11_trace 31 = .ok (.iaload, 1) := by decide +kernel
theorem dX11_trace_32 : decode cX11_trace 32 = .ok (.goto 5, 3) := by decide +kernel
theorem dX11_trace_35 : decode cX11_trace 35 = .ok (.bipush (-3), 2) := by decide +kernel
theorem dX11_trace_37 : decode cX11_trace 37 = .ok (.ireturn, 1) := by decide +kernel
theorem dX11_many_0 : decode cX11_many 0 = .ok (.iload_n 1, 1) := by decide +kernel
theorem dX11_many_1 : decode cX11_many 1 = .ok (.tableswitch 116 0 6 #[43, 51, 62, 73, 84, 89, 97], 43) := by decide +kernel
theorem dX11_many_44 : decode cX11_many 44 = .ok (.aload_n 0, 1) := by decide +kernel
theorem dX11_many_45 : decode cX11_many 45 = .ok (.getfield 34, 3) := by decide +kernel
theorem dX11_many_48 : decode cX11_many 48 = .ok (.getfield 90, 3) := by decide +kernel
theorem dX11_many_51 : decode cX11_many 51 = .ok (.ireturn, 1) := by decide +kernel
theorem dX11_many_52 : decode cX11_many 52 = .ok (.aload_n 0, 1) := by decide +kernel
theorem dX11_many_53 : decode cX11_many 53 = .ok (.getfield 34, 3) := by decide +kernel
theorem dX11_many_56 : decode cX11_many 56 = .ok (.getfield 179, 3) := by decide +kernel
theorem dX11_many_59 : decode cX11_many 59 = .ok (.getfield 353, 3) := by decide +kernel
theorem dX11_many_62 : decode cX11_many 62 = .ok (.ireturn, 1) := by decide +kernel
theorem dX11_many_63 : decode cX11_many 63 = .ok (.aload_n 0, 1) := by decide +kernel
theorem dX11_many_64 : decode cX11_many 64 = .ok (.getfield 34, 3) := by decide +kernel
theorem dX11_many_67 : decode cX11_many 67 = .ok (.getfield 166, 3) := by decide +kernel
theorem dX11_many_70 : decode cX11_many 70 = .ok (.invokestatic 356, 3) := by decide +kernel
theorem dX11_many_73 : decode cX11_many 73 = .ok (.ireturn, 1) := by decide +kernel
theorem dX11_many_74 : decode cX11_many 74 = .ok (.aload_n 0, 1) := by decide +kernel
theorem dX11_many_75 : decode cX11_many 75 = .ok (.getfield 34, 3) := by decide +kernel
theorem dX11_many_78 : decode cX11_many 78 = .ok (.getfield 263, 3) := by decide +kernel
theorem dX11_many_81 : decode cX11_many 81 = .ok (.getfield 267, 3) := by decide +kernel
theorem dX11_many_84 : decode cX11_many 84 = .ok (.ireturn, 1) := by decide +kernel
theorem dX11_many_85 : decode cX11_many 85 = .ok (.aload_n 0, 1) := by decide +kernel
theorem dX11_many_86 : decode cX11_many 86 = .ok (.getfield 287, 3) := by decide +kernel
theorem dX11_many_89 : decode cX11_many 89 = .ok (.ireturn, 1) := by decide +kernel
theorem dX11_many_90 : decode cX11_many 90 = .ok (.aload_n 0, 1) := by decide +kernel
theorem dX11_many_91 : decode cX11_many 91 = .ok (.getfield 47, 3) := by decide +kernel
theorem dX11_many_94 : decode cX11_many 94 = .ok (.getfield 176, 3) := by decide +kernel
theorem dX11_many_97 : decode cX11_many 97 = .ok (.ireturn, 1) := by decide +kernel
theorem dX11_many_98 : decode cX11_many 98 = .ok (.aload_n 0, 1) := by decide +kernel
theorem dX11_many_99 : decode cX11_many 99 = .ok (.getfield 323, 3) := by decide +kernel
theorem dX11_many_102 : decode cX11_many 102 = .ok (.ifnonnull 7, 3) := by decide +kernel
theorem dX11_many_105 : decode cX11_many 105 = .ok (.iconst 0, 1) := by decide +kernel
theorem dX11_many_106 : decode cX11_many 106 = .ok (.goto 10, 3) := by decide +kernel
theorem dX11_many_109 : decode cX11_many 109 = .ok (.aload_n 0, 1) := by decide +kernel
theorem dX11_many_110 : decode cX11_many 110 = .ok (.getfield 323, 3) := by decide +kernel
theorem dX11_many_113 : decode cX11_many 113 = .ok (.getfield 347, 3) := by decide +kernel
theorem dX11_many_116 : decode cX11_many 116 = .ok (.ireturn, 1) := by decide +kernel
theorem dX11_many_117 : decode cX11_many 117 = .ok (.iconst (-1), 1) := by decide +kernel
theorem dX11_many_118 : decode cX11_many 118 = .ok (.ireturn, 1) := by decide +kernel
theorem dX11_isSheet_0 : decode cX11_isSheet 0 = .ok (.iload_n 0, 1) := by decide +kernel
theorem dX11_isSheet_1 : decode cX11_isSheet 1 = .ok (.iconst 3, 1) := by decide +kernel
theorem dX11_isSheet_2 : decode cX11_isSheet 2 = .ok (.invokestatic 86, 3) := by decide +kernel
theorem dX11_isSheet_5 : decode cX11_isSheet 5 = .ok (.ireturn, 1) := by decide +kernel
theorem dX11_isShelf_0 : decode cX11_isShelf 0 = .ok (.iload_n 0, 1) := by decide +kernel
theorem dX11_isShelf_1 : decode cX11_isShelf 1 = .ok (.iconst 3, 1) := by decide +kernel
theorem dX11_isShelf_2 : decode cX11_isShelf 2 = .ok (.invokestatic 86, 3) := by decide +kernel
theorem dX11_isShelf_5 : decode cX11_isShelf 5 = .ok (.ireturn, 1) := by decide +kernel
theorem dX11_hasItem_0 : decode cX11_hasItem 0 = .ok (.iload_n 2, 1) := by decide +kernel
theorem dX11_hasItem_1 : decode cX11_hasItem 1 = .ok (.aload_n 0, 1) := by decide +kernel
theorem dX11_hasItem_2 : decode cX11_hasItem 2 = .ok (.getfield 70, 3) := by decide +kernel
theorem dX11_hasItem_5 : decode cX11_hasItem 5 = .ok (.iload_n 1, 1) := by decide +kernel
theorem dX11_hasItem_6 : decode cX11_hasItem 6 = .ok (.iaload, 1) := by decide +kernel
theorem dX11_hasItem_7 : decode cX11_hasItem 7 = .ok (.iconst 1, 1) := by decide +kernel
theorem dX11_hasItem_8 : decode cX11_hasItem 8 = .ok (.isub, 1) := by decide +kernel
theorem dX11_hasItem_9 : decode cX11_hasItem 9 = .ok (.invokestatic 86, 3) := by decide +kernel
theorem dX11_hasItem_12 : decode cX11_hasItem 12 = .ok (.ireturn, 1) := by decide +kernel
theorem dX11_takenFor_0 : decode cX11_takenFor 0 = .ok (.aload_n 0, 1) := by decide +kernel
theorem dX11_takenFor_1 : decode cX11_takenFor 1 = .ok (.getfield 67, 3) := by decide +kernel
theorem dX11_takenFor_4 : decode cX11_takenFor 4 = .ok (.iload_n 1, 1) := by decide +kernel
theorem dX11_takenFor_5 : decode cX11_takenFor 5 = .ok (.iaload, 1) := by decide +kernel
theorem dX11_takenFor_6 : decode cX11_takenFor 6 = .ok (.iconst (-1), 1) := by decide +kernel
theorem dX11_takenFor_7 : decode cX11_takenFor 7 = .ok (.if_icmp .ne 6, 3) := by decide +kernel
theorem dX11_takenFor_10 : decode cX11_takenFor 10 = .ok (.bipush (-11), 2) := by decide +kernel
theorem dX11_takenFor_12 : decode cX11_takenFor 12 = .ok (.ireturn, 1) := by decide +kernel
theorem dX11_takenFor_13 : decode cX11_takenFor 13 = .ok (.aload_n 0, 1) := by decide +kernel
theorem dX11_takenFor_14 : decode cX11_takenFor 14 = .ok (.getfield 67, 3) := by decide +kernel
theorem dX11_takenFor_17 : decode cX11_takenFor 17 = .ok (.iload_n 1, 1) := by decide +kernel
theorem dX11_takenFor_18 : decode cX11_takenFor 18 = .ok (.iaload, 1) := by decide +kernel
theorem dX11_takenFor_19 : decode cX11_takenFor 19 = .ok (.iload_n 2, 1) := by decide +kernel
theorem dX11_takenFor_20 : decode cX11_takenFor 20 = .ok (.if_icmp .ne 7, 3) := by decide +kernel
theorem dX11_takenFor_23 : decode cX11_takenFor 23 = .ok (.iconst 0, 1) := by decide +kernel
theorem dX11_takenFor_24 : decode cX11_takenFor 24 = .ok (.goto 5, 3) := by decide +kernel
theorem dX11_takenFor_27 : decode cX11_takenFor 27 = .ok (.bipush (-13), 2) := by decide +kernel
theorem dX11_takenFor_29 : decode cX11_takenFor 29 = .ok (.ireturn, 1) := by decide +kernel
theorem dX11_houseOn_0 : decode cX11_houseOn 0 = .ok (.aload_n 0, 1) := by decide +kernel
theorem dX11_houseOn_1 : decode cX11_houseOn 1 = .ok (.getfield 73, 3) := by decide +kernel
theorem dX11_houseOn_4 : decode cX11_houseOn 4 = .ok (.iload_n 1, 1) := by decide +kernel
theorem dX11_houseOn_5 : decode cX11_houseOn 5 = .ok (.iaload, 1) := by decide +kernel
theorem dX11_houseOn_6 : decode cX11_houseOn 6 = .ok (.ifCond .ne 28, 3) := by decide +kernel
theorem dX11_houseOn_9 : decode cX11_houseOn 9 = .ok (.aload_n 0, 1) := by decide +kernel
theorem dX11_houseOn_10 : decode cX11_houseOn 10 = .ok (.getfield 34, 3) := by decide +kernel
theorem dX11_houseOn_13 : decode cX11_houseOn 13 = .ok (.aload_n 0, 1) := by decide +kernel
theorem dX11_houseOn_14 : decode cX11_houseOn 14 = .ok (.getfield 76, 3) := by decide +kernel
theorem dX11_houseOn_17 : decode cX11_houseOn 17 = .ok (.iload_n 1, 1) := by decide +kernel
theorem dX11_houseOn_18 : decode cX11_houseOn 18 = .ok (.iaload, 1) := by decide +kernel
theorem dX11_houseOn_19 : decode cX11_houseOn 19 = .ok (.invokevirtual 98, 3) := by decide +kernel
theorem dX11_houseOn_22 : decode cX11_houseOn 22 = .ok (.ifCond .eq 12, 3) := by decide +kernel
theorem dX11_houseOn_25 : decode cX11_houseOn 25 = .ok (.aload_n 0, 1) := by decide +kernel
theorem dX11_houseOn_26 : decode cX11_houseOn 26 = .ok (.getfield 76, 3) := by decide +kernel
theorem dX11_houseOn_29 : decode cX11_houseOn 29 = .ok (.iload_n 1, 1) := by decide +kernel
theorem dX11_houseOn_30 : decode cX11_houseOn 30 = .ok (.iaload, 1) := by decide +kernel
theorem dX11_houseOn_31 : decode cX11_houseOn 31 = .ok (.goto 5, 3) := by decide +kernel
theorem dX11_houseOn_34 : decode cX11_houseOn 34 = .ok (.bipush (-3), 2) := by decide +kernel
theorem dX11_houseOn_36 : decode cX11_houseOn 36 = .ok (.ireturn, 1) := by decide +kernel
theorem dX11_keep_0 : decode cX11_keep 0 = .ok (.aload_n 0, 1) := by decide +kernel
theorem dX11_keep_1 : decode cX11_keep 1 = .ok (.getfield 41, 3) := by decide +kernel
theorem dX11_keep_4 : decode cX11_keep 4 = .ok (.aload_n 0, 1) := by decide +kernel
theorem dX11_keep_5 : decode cX11_keep 5 = .ok (.getfield 34, 3) := by decide +kernel
theorem dX11_keep_8 : decode cX11_keep 8 = .ok (.invokevirtual 361, 3) := by decide +kernel
theorem dX11_keep_11 : decode cX11_keep 11 = .ok (.aload_n 0, 1) := by decide +kernel
theorem dX11_keep_12 : decode cX11_keep 12 = .ok (.iconst 1, 1) := by decide +kernel
theorem dX11_keep_13 : decode cX11_keep 13 = .ok (.putfield 364, 3) := by decide +kernel
theorem dX11_keep_16 : decode cX11_keep 16 = .ok (.iconst 1, 1) := by decide +kernel
theorem dX11_keep_17 : decode cX11_keep 17 = .ok (.ireturn, 1) := by decide +kernel
theorem dX11_again_0 : decode cX11_again 0 = .ok (.aload_n 0, 1) := by decide +kernel
theorem dX11_again_1 : decode cX11_again 1 = .ok (.getfield 364, 3) := by decide +kernel
theorem dX11_again_4 : decode cX11_again 4 = .ok (.ifCond .ne 6, 3) := by decide +kernel
theorem dX11_again_7 : decode cX11_again 7 = .ok (.bipush (-3), 2) := by decide +kernel
theorem dX11_again_9 : decode cX11_again 9 = .ok (.ireturn, 1) := by decide +kernel
theorem dX11_again_10 : decode cX11_again 10 = .ok (.aload_n 0, 1) := by decide +kernel
theorem dX11_again_11 : decode cX11_again 11 = .ok (.getfield 34, 3) := by decide +kernel
theorem dX11_again_14 : decode cX11_again 14 = .ok (.aload_n 0, 1) := by decide +kernel
theorem dX11_again_15 : decode cX11_again 15 = .ok (.getfield 41, 3) := by decide +kernel
theorem dX11_again_18 : decode cX11_again 18 = .ok (.invokevirtual 361, 3) := by decide +kernel
theorem dX11_again_21 : decode cX11_again 21 = .ok (.aload_n 0, 1) := by decide +kernel
theorem dX11_again_22 : decode cX11_again 22 = .ok (.getfield 34, 3) := by decide +kernel
theorem dX11_again_25 : decode cX11_again 25 = .ok (.getfield 90, 3) := by decide +kernel
theorem dX11_again_28 : decode cX11_again 28 = .ok (.ireturn, 1) := by decide +kernel
theorem dX11_freshTrial_0 : decode cX11_freshTrial 0 = .ok (.aload_n 0, 1) := by decide +kernel
theorem dX11_freshTrial_1 : decode cX11_freshTrial 1 = .ok (.getfield 38, 3) := by decide +kernel
theorem dX11_freshTrial_4 : decode cX11_freshTrial 4 = .ok (.aload_n 0, 1) := by decide +kernel
theorem dX11_freshTrial_5 : decode cX11_freshTrial 5 = .ok (.getfield 34, 3) := by decide +kernel
theorem dX11_freshTrial_8 : decode cX11_freshTrial 8 = .ok (.invokevirtual 361, 3) := by decide +kernel
theorem dX11_freshTrial_11 : decode cX11_freshTrial 11 = .ok (.aload_n 0, 1) := by decide +kernel
theorem dX11_freshTrial_12 : decode cX11_freshTrial 12 = .ok (.getfield 38, 3) := by decide +kernel
theorem dX11_freshTrial_15 : decode cX11_freshTrial 15 = .ok (.areturn, 1) := by decide +kernel
theorem dX11_isFrom0To_0 : decode cX11_isFrom0To 0 = .ok (.iload_n 0, 1) := by decide +kernel
theorem dX11_isFrom0To_1 : decode cX11_isFrom0To 1 = .ok (.ifCond .lt 12, 3) := by decide +kernel
theorem dX11_isFrom0To_4 : decode cX11_isFrom0To 4 = .ok (.iload_n 0, 1) := by decide +kernel
theorem dX11_isFrom0To_5 : decode cX11_isFrom0To 5 = .ok (.iload_n 1, 1) := by decide +kernel
theorem dX11_isFrom0To_6 : decode cX11_isFrom0To 6 = .ok (.if_icmp .gt 7, 3) := by decide +kernel
theorem dX11_isFrom0To_9 : decode cX11_isFrom0To 9 = .ok (.iconst 1, 1) := by decide +kernel
theorem dX11_isFrom0To_10 : decode cX11_isFrom0To 10 = .ok (.goto 4, 3) := by decide +kernel
theorem dX11_isFrom0To_13 : decode cX11_isFrom0To 13 = .ok (.iconst 0, 1) := by decide +kernel
theorem dX11_isFrom0To_14 : decode cX11_isFrom0To 14 = .ok (.ireturn, 1) := by decide +kernel
theorem dX11_mostOf_0 : decode cX11_mostOf 0 = .ok (.iload_n 0, 1) := by decide +kernel
theorem dX11_mostOf_1 : decode cX11_mostOf 1 = .ok (.tableswitch 48 1 5 #[35, 38, 41, 43, 46], 35) := by decide +kernel
theorem dX11_mostOf_36 : decode cX11_mostOf 36 = .ok (.bipush 60, 2) := by decide +kernel
theorem dX11_mostOf_38 : decode cX11_mostOf 38 = .ok (.ireturn, 1) := by decide +kernel
theorem dX11_mostOf_39 : decode cX11_mostOf 39 = .ok (.bipush 9, 2) := by decide +kernel
theorem dX11_mostOf_41 : decode cX11_mostOf 41 = .ok (.ireturn, 1) := by decide +kernel
theorem dX11_mostOf_42 : decode cX11_mostOf 42 = .ok (.iconst 5, 1) := by decide +kernel
