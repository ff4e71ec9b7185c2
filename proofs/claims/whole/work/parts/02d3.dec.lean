theorem dX11_mostOf_43 : decode cX11_mostOf 43 = .ok (.ireturn, 1) := by decide +kernel
theorem dX11_mostOf_44 : decode cX11_mostOf 44 = .ok (.bipush 9, 2) := by decide +kernel
theorem dX11_mostOf_46 : decode cX11_mostOf 46 = .ok (.ireturn, 1) := by decide +kernel
theorem dX11_mostOf_47 : decode cX11_mostOf 47 = .ok (.iconst 1, 1) := by decide +kernel
theorem dX11_mostOf_48 : decode cX11_mostOf 48 = .ok (.ireturn, 1) := by decide +kernel
theorem dX11_mostOf_49 : decode cX11_mostOf 49 = .ok (.iconst (-1), 1) := by decide +kernel
theorem dX11_mostOf_50 : decode cX11_mostOf 50 = .ok (.ireturn, 1) := by decide +kernel
theorem dX11_leastOf_0 : decode cX11_leastOf 0 = .ok (.iconst 0, 1) := by decide +kernel
theorem dX11_leastOf_1 : decode cX11_leastOf 1 = .ok (.istore_n 1, 1) := by decide +kernel
theorem dX11_leastOf_2 : decode cX11_leastOf 2 = .ok (.iload_n 1, 1) := by decide +kernel
theorem dX11_leastOf_3 : decode cX11_leastOf 3 = .ok (.bipush 6, 2) := by decide +kernel
theorem dX11_leastOf_5 : decode cX11_leastOf 5 = .ok (.if_icmp .ge 20, 3) := by decide +kernel
theorem dX11_leastOf_8 : decode cX11_leastOf 8 = .ok (.iload_n 0, 1) := by decide +kernel
theorem dX11_leastOf_9 : decode cX11_leastOf 9 = .ok (.iload_n 1, 1) := by decide +kernel
theorem dX11_leastOf_10 : decode cX11_leastOf 10 = .ok (.ishr, 1) := by decide +kernel
theorem dX11_leastOf_11 : decode cX11_leastOf 11 = .ok (.iconst 1, 1) := by decide +kernel
theorem dX11_leastOf_12 : decode cX11_leastOf 12 = .ok (.iand, 1) := by decide +kernel
theorem dX11_leastOf_13 : decode cX11_leastOf 13 = .ok (.iconst 1, 1) := by decide +kernel
theorem dX11_leastOf_14 : decode cX11_leastOf 14 = .ok (.if_icmp .ne 5, 3) := by decide +kernel
theorem dX11_leastOf_17 : decode cX11_leastOf 17 = .ok (.iload_n 1, 1) := by decide +kernel
theorem dX11_leastOf_18 : decode cX11_leastOf 18 = .ok (.ireturn, 1) := by decide +kernel
theorem dX11_leastOf_19 : decode cX11_leastOf 19 = .ok (.iinc 1 1, 3) := by decide +kernel
theorem dX11_leastOf_22 : decode cX11_leastOf 22 = .ok (.goto (-20), 3) := by decide +kernel
theorem dX11_leastOf_25 : decode cX11_leastOf 25 = .ok (.bipush (-3), 2) := by decide +kernel
theorem dX11_leastOf_27 : decode cX11_leastOf 27 = .ok (.ireturn, 1) := by decide +kernel
theorem dX11_isKind_0 : decode cX11_isKind 0 = .ok (.iload_n 0, 1) := by decide +kernel
theorem dX11_isKind_1 : decode cX11_isKind 1 = .ok (.iconst 1, 1) := by decide +kernel
theorem dX11_isKind_2 : decode cX11_isKind 2 = .ok (.if_icmp .lt 12, 3) := by decide +kernel
theorem dX11_isKind_5 : decode cX11_isKind 5 = .ok (.iload_n 0, 1) := by decide +kernel
theorem dX11_isKind_6 : decode cX11_isKind 6 = .ok (.iconst 5, 1) := by decide +kernel
theorem dX11_isKind_7 : decode cX11_isKind 7 = .ok (.if_icmp .gt 7, 3) := by decide +kernel
theorem dX11_isKind_10 : decode cX11_isKind 10 = .ok (.iconst 1, 1) := by decide +kernel
theorem dX11_isKind_11 : decode cX11_isKind 11 = .ok (.goto 4, 3) := by decide +kernel
theorem dX11_isKind_14 : decode cX11_isKind 14 = .ok (.iconst 0, 1) := by decide +kernel
theorem dX11_isKind_15 : decode cX11_isKind 15 = .ok (.ireturn, 1) := by decide +kernel
theorem dX11_isUnder_0 : decode cX11_isUnder 0 = .ok (.iload_n 0, 1) := by decide +kernel
theorem dX11_isUnder_1 : decode cX11_isUnder 1 = .ok (.iconst 3, 1) := by decide +kernel
theorem dX11_isUnder_2 : decode cX11_isUnder 2 = .ok (.if_icmp .ne 8, 3) := by decide +kernel
theorem dX11_isUnder_5 : decode cX11_isUnder 5 = .ok (.iload_n 1, 1) := by decide +kernel
theorem dX11_isUnder_6 : decode cX11_isUnder 6 = .ok (.iconst 2, 1) := by decide +kernel
theorem dX11_isUnder_7 : decode cX11_isUnder 7 = .ok (.if_icmp .eq 13, 3) := by decide +kernel
theorem dX11_isUnder_10 : decode cX11_isUnder 10 = .ok (.iload_n 0, 1) := by decide +kernel
theorem dX11_isUnder_11 : decode cX11_isUnder 11 = .ok (.iconst 5, 1) := by decide +kernel
theorem dX11_isUnder_12 : decode cX11_isUnder 12 = .ok (.if_icmp .ne 12, 3) := by decide +kernel
theorem dX11_isUnder_15 : decode cX11_isUnder 15 = .ok (.iload_n 1, 1) := by decide +kernel
theorem dX11_isUnder_16 : decode cX11_isUnder 16 = .ok (.iconst 4, 1) := by decide +kernel
theorem dX11_isUnder_17 : decode cX11_isUnder 17 = .ok (.if_icmp .ne 7, 3) := by decide +kernel
theorem dX11_isUnder_20 : decode cX11_isUnder 20 = .ok (.iconst 1, 1) := by decide +kernel
theorem dX11_isUnder_21 : decode cX11_isUnder 21 = .ok (.goto 4, 3) := by decide +kernel
theorem dX11_isUnder_24 : decode cX11_isUnder 24 = .ok (.iconst 0, 1) := by decide +kernel
theorem dX11_isUnder_25 : decode cX11_isUnder 25 = .ok (.istore_n 2, 1) := by decide +kernel
theorem dX11_isUnder_26 : decode cX11_isUnder 26 = .ok (.iload_n 0, 1) := by decide +kernel
theorem dX11_isUnder_27 : decode cX11_isUnder 27 = .ok (.iload_n 1, 1) := by decide +kernel
theorem dX11_isUnder_28 : decode cX11_isUnder 28 = .ok (.if_icmp .eq 11, 3) := by decide +kernel
theorem dX11_isUnder_31 : decode cX11_isUnder 31 = .ok (.iload_n 1, 1) := by decide +kernel
theorem dX11_isUnder_32 : decode cX11_isUnder 32 = .ok (.ifCond .eq 7, 3) := by decide +kernel
theorem dX11_isUnder_35 : decode cX11_isUnder 35 = .ok (.iload_n 2, 1) := by decide +kernel
theorem dX11_isUnder_36 : decode cX11_isUnder 36 = .ok (.ifCond .eq 7, 3) := by decide +kernel
theorem dX11_isUnder_39 : decode cX11_isUnder 39 = .ok (.iconst 1, 1) := by decide +kernel
theorem dX11_isUnder_40 : decode cX11_isUnder 40 = .ok (.goto 4, 3) := by decide +kernel
theorem dX11_isUnder_43 : decode cX11_isUnder 43 = .ok (.iconst 0, 1) := by decide +kernel
theorem dX11_isUnder_44 : decode cX11_isUnder 44 = .ok (.ireturn, 1) := by decide +kernel
theorem dX11_asks_0 : decode cX11_asks 0 = .ok (.iload_n 0, 1) := by decide +kernel
theorem dX11_asks_1 : decode cX11_asks 1 = .ok (.tableswitch 45 1 4 #[31, 34, 37, 42], 31) := by decide +kernel
theorem dX11_asks_32 : decode cX11_asks 32 = .ok (.bipush 13, 2) := by decide +kernel
theorem dX11_asks_34 : decode cX11_asks 34 = .ok (.ireturn, 1) := by decide +kernel
theorem dX11_asks_35 : decode cX11_asks 35 = .ok (.bipush 6, 2) := by decide +kernel
theorem dX11_asks_37 : decode cX11_asks 37 = .ok (.ireturn, 1) := by decide +kernel
theorem dX11_asks_38 : decode cX11_asks 38 = .ok (.bipush 6, 2) := by decide +kernel
theorem dX11_asks_40 : decode cX11_asks 40 = .ok (.iload_n 1, 1) := by decide +kernel
theorem dX11_asks_41 : decode cX11_asks 41 = .ok (.iadd, 1) := by decide +kernel
theorem dX11_asks_42 : decode cX11_asks 42 = .ok (.ireturn, 1) := by decide +kernel
theorem dX11_asks_43 : decode cX11_asks 43 = .ok (.bipush 24, 2) := by decide +kernel
theorem dX11_asks_45 : decode cX11_asks 45 = .ok (.ireturn, 1) := by decide +kernel
theorem dX11_asks_46 : decode cX11_asks 46 = .ok (.bipush 24, 2) := by decide +kernel
theorem dX11_asks_48 : decode cX11_asks 48 = .ok (.iload_n 2, 1) := by decide +kernel
theorem dX11_asks_49 : decode cX11_asks 49 = .ok (.iconst 2, 1) := by decide +kernel
theorem dX11_asks_50 : decode cX11_asks 50 = .ok (.irem, 1) := by decide +kernel
theorem dX11_asks_51 : decode cX11_asks 51 = .ok (.ifCond .ne 8, 3) := by decide +kernel
theorem dX11_asks_54 : decode cX11_asks 54 = .ok (.bipush 9, 2) := by decide +kernel
theorem dX11_asks_56 : decode cX11_asks 56 = .ok (.goto 4, 3) := by decide +kernel
theorem dX11_asks_59 : decode cX11_asks 59 = .ok (.iconst 0, 1) := by decide +kernel
theorem dX11_asks_60 : decode cX11_asks 60 = .ok (.isub, 1) := by decide +kernel
theorem dX11_asks_61 : decode cX11_asks 61 = .ok (.ireturn, 1) := by decide +kernel
theorem dX11_draws_0 : decode cX11_draws 0 = .ok (.iload_n 0, 1) := by decide +kernel
theorem dX11_draws_1 : decode cX11_draws 1 = .ok (.tableswitch 53 1 4 #[31, 33, 39, 47], 31) := by decide +kernel
theorem dX11_draws_32 : decode cX11_draws 32 = .ok (.iload_n 2, 1) := by decide +kernel
theorem dX11_draws_33 : decode cX11_draws 33 = .ok (.ireturn, 1) := by decide +kernel
theorem dX11_draws_34 : decode cX11_draws 34 = .ok (.iload_n 1, 1) := by decide +kernel
theorem dX11_draws_35 : decode cX11_draws 35 = .ok (.iload_n 2, 1) := by decide +kernel
theorem dX11_draws_36 : decode cX11_draws 36 = .ok (.iadd, 1) := by decide +kernel
theorem dX11_draws_37 : decode cX11_draws 37 = .ok (.iload_n 1, 1) := by decide +kernel
theorem dX11_draws_38 : decode cX11_draws 38 = .ok (.iadd, 1) := by decide +kernel
theorem dX11_draws_39 : decode cX11_draws 39 = .ok (.ireturn, 1) := by decide +kernel
theorem dX11_draws_40 : decode cX11_draws 40 = .ok (.iload_n 1, 1) := by decide +kernel
theorem dX11_draws_41 : decode cX11_draws 41 = .ok (.iload_n 2, 1) := by decide +kernel
theorem dX11_draws_42 : decode cX11_draws 42 = .ok (.iadd, 1) := by decide +kernel
theorem dX11_draws_43 : decode cX11_draws 43 = .ok (.iload_n 1, 1) := by decide +kernel
theorem dX11_draws_44 : decode cX11_draws 44 = .ok (.iadd, 1) := by decide +kernel
theorem dX11_draws_45 : decode cX11_draws 45 = .ok (.iconst 3, 1) := by decide +kernel
theorem dX11_draws_46 : decode cX11_draws 46 = .ok (.iadd, 1) := by decide +kernel
theorem dX11_draws_47 : decode cX11_draws 47 = .ok (.ireturn, 1) := by decide +kernel
theorem dX11_draws_48 : decode cX11_draws 48 = .ok (.iload_n 1, 1) := by decide +kernel
theorem dX11_draws_49 : decode cX11_draws 49 = .ok (.iload_n 2, 1) := by decide +kernel
theorem dX11_draws_50 : decode cX11_draws 50 = .ok (.invokestatic 367, 3) := by decide +kernel
theorem dX11_draws_53 : decode cX11_draws 53 = .ok (.ireturn, 1) := by decide +kernel
theorem dX11_draws_54 : decode cX11_draws 54 = .ok (.iload_n 3, 1) := by decide +kernel
theorem dX11_draws_55 : decode cX11_draws 55 = .ok (.iconst 3, 1) := by decide +kernel
theorem dX11_draws_56 : decode cX11_draws 56 = .ok (.irem, 1) := by decide +kernel
theorem dX11_draws_57 : decode cX11_draws 57 = .ok (.ifCond .ne 7, 3) := by decide +kernel
theorem dX11_draws_60 : decode cX11_draws 60 = .ok (.iconst 0, 1) := by decide +kernel
theorem dX11_draws_61 : decode cX11_draws 61 = .ok (.goto 8, 3) := by decide +kernel
theorem dX11_draws_64 : decode cX11_draws 64 = .ok (.iload_n 1, 1) := by decide +kernel
theorem dX11_draws_65 : decode cX11_draws 65 = .ok (.iload_n 2, 1) := by decide +kernel
theorem dX11_draws_66 : decode cX11_draws 66 = .ok (.invokestatic 367, 3) := by decide +kernel
theorem dX11_draws_69 : decode cX11_draws 69 = .ok (.ireturn, 1) := by decide +kernel
theorem dX11_rainBehind_0 : decode cX11_rainBehind 0 = .ok (.iload_n 1, 1) := by decide +kernel
theorem dX11_rainBehind_1 : decode cX11_rainBehind 1 = .ok (.iconst 4, 1) := by decide +kernel
theorem dX11_rainBehind_2 : decode cX11_rainBehind 2 = .ok (.idiv, 1) := by decide +kernel
theorem dX11_rainBehind_3 : decode cX11_rainBehind 3 = .ok (.istore_n 2, 1) := by decide +kernel
theorem dX11_rainBehind_4 : decode cX11_rainBehind 4 = .ok (.iload_n 1, 1) := by decide +kernel
theorem dX11_rainBehind_5 : decode cX11_rainBehind 5 = .ok (.iconst 4, 1) := by decide +kernel
theorem dX11_rainBehind_6 : decode cX11_rainBehind 6 = .ok (.irem, 1) := by decide +kernel
theorem dX11_rainBehind_7 : decode cX11_rainBehind 7 = .ok (.tableswitch 65 0 2 #[25, 34, 42], 25) := by decide +kernel
theorem dX11_rainBehind_32 : decode cX11_rainBehind 32 = .ok (.bipush 9, 2) := by decide +kernel
theorem dX11_rainBehind_34 : decode cX11_rainBehind 34 = .ok (.iload_n 0, 1) := by decide +kernel
theorem dX11_rainBehind_35 : decode cX11_rainBehind 35 = .ok (.iload_n 2, 1) := by decide +kernel
theorem dX11_rainBehind_36 : decode cX11_rainBehind 36 = .ok (.iadd, 1) := by decide +kernel
theorem dX11_rainBehind_37 : decode cX11_rainBehind 37 = .ok (.invokestatic 220, 3) := by decide +kernel
theorem dX11_rainBehind_40 : decode cX11_rainBehind 40 = .ok (.ireturn, 1) := by decide +kernel
theorem dX11_rainBehind_41 : decode cX11_rainBehind 41 = .ok (.iconst 0, 1) := by decide +kernel
theorem dX11_rainBehind_42 : decode cX11_rainBehind 42 = .ok (.iload_n 0, 1) := by decide +kernel
theorem dX11_rainBehind_43 : decode cX11_rainBehind 43 = .ok (.iload_n 2, 1) := by decide +kernel
theorem dX11_rainBehind_44 : decode cX11_rainBehind 44 = .ok (.isub, 1) := by decide +kernel
theorem dX11_rainBehind_45 : decode cX11_rainBehind 45 = .ok (.invokestatic 367, 3) := by decide +kernel
theorem dX11_rainBehind_48 : decode cX11_rainBehind 48 = .ok (.ireturn, 1) := by decide +kernel
theorem dX11_rainBehind_49 : decode cX11_rainBehind 49 = .ok (.iload_n 0, 1) := by decide +kernel
theorem dX11_rainBehind_50 : decode cX11_rainBehind 50 = .ok (.iconst 5, 1) := by decide +kernel
theorem dX11_rainBehind_51 : decode cX11_rainBehind 51 = .ok (.if_icmp .ge 13, 3) := by decide +kernel
theorem dX11_rainBehind_54 : decode cX11_rainBehind 54 = .ok (.iconst 5, 1) := by decide +kernel
theorem dX11_rainBehind_55 : decode cX11_rainBehind 55 = .ok (.iload_n 0, 1) := by decide +kernel
theorem dX11_rainBehind_56 : decode cX11_rainBehind 56 = .ok (.iload_n 2, 1) := by decide +kernel
theorem dX11_rainBehind_57 : decode cX11_rainBehind 57 = .ok (.iadd, 1) := by decide +kernel
theorem dX11_rainBehind_58 : decode cX11_rainBehind 58 = .ok (.invokestatic 220, 3) := by decide +kernel
theorem dX11_rainBehind_61 : decode cX11_rainBehind 61 = .ok (.goto 10, 3) := by decide +kernel
theorem dX11_rainBehind_64 : decode cX11_rainBehind 64 = .ok (.iconst 5, 1) := by decide +kernel
theorem dX11_rainBehind_65 : decode cX11_rainBehind 65 = .ok (.iload_n 0, 1) := by decide +kernel
theorem dX11_rainBehind_66 : decode cX11_rainBehind 66 = .ok (.iload_n 2, 1) := by decide +kernel
theorem dX11_rainBehind_67 : decode cX11_rainBehind 67 = .ok (.isub, 1) := by decide +kernel
theorem dX11_rainBehind_68 : decode cX11_rainBehind 68 = .ok (.invokestatic 367, 3) := by decide +kernel
theorem dX11_rainBehind_71 : decode cX11_rainBehind 71 = .ok (.ireturn, 1) := by decide +kernel
theorem dX11_rainBehind_72 : decode cX11_rainBehind 72 = .ok (.iload_n 0, 1) := by decide +kernel
theorem dX11_rainBehind_73 : decode cX11_rainBehind 73 = .ok (.ireturn, 1) := by decide +kernel
theorem dX11_trayBehind_0 : decode cX11_trayBehind 0 = .ok (.bipush 99, 2) := by decide +kernel
theorem dX11_trayBehind_2 : decode cX11_trayBehind 2 = .ok (.iload_n 0, 1) := by decide +kernel
theorem dX11_trayBehind_3 : decode cX11_trayBehind 3 = .ok (.bipush 14, 2) := by decide +kernel
theorem dX11_trayBehind_5 : decode cX11_trayBehind 5 = .ok (.iadd, 1) := by decide +kernel
theorem dX11_trayBehind_6 : decode cX11_trayBehind 6 = .ok (.iload_n 1, 1) := by decide +kernel
theorem dX11_trayBehind_7 : decode cX11_trayBehind 7 = .ok (.isub, 1) := by decide +kernel
theorem dX11_trayBehind_8 : decode cX11_trayBehind 8 = .ok (.invokestatic 220, 3) := by decide +kernel
theorem dX11_trayBehind_11 : decode cX11_trayBehind 11 = .ok (.ireturn, 1) := by decide +kernel
theorem dX12_in1_0 : decode cX12_in1 0 = .ok (.iload_n 0, 1) := by decide +kernel
theorem dX12_in1_1 : decode cX12_in1 1 = .ok (.iload_n 1, 1) := by decide +kernel
theorem dX12_in1_2 : decode cX12_in1 2 = .ok (.if_icmp .lt 12, 3) := by decide +kernel
theorem dX12_in1_5 : decode cX12_in1 5 = .ok (.iload_n 0, 1) := by decide +kernel
theorem dX12_in1_6 : decode cX12_in1 6 = .ok (.iload_n 2, 1) := by decide +kernel
theorem dX12_in1_7 : decode cX12_in1 7 = .ok (.if_icmp .gt 7, 3) := by decide +kernel
theorem dX12_in1_10 : decode cX12_in1 10 = .ok (.iconst 1, 1) := by decide +kernel
theorem dX12_in1_11 : decode cX12_in1 11 = .ok (.goto 4, 3) := by decide +kernel
theorem dX12_in1_14 : decode cX12_in1 14 = .ok (.iconst 0, 1) := by decide +kernel
theorem dX12_in1_15 : decode cX12_in1 15 = .ok (.ireturn, 1) := by decide +kernel
theorem dX12_held_0 : decode cX12_held 0 = .ok (.iload_n 0, 1) := by decide +kernel
theorem dX12_held_1 : decode cX12_held 1 = .ok (.ifCond .ge 7, 3) := by decide +kernel
theorem dX12_held_4 : decode cX12_held 4 = .ok (.iconst 0, 1) := by decide +kernel
theorem dX12_held_5 : decode cX12_held 5 = .ok (.goto 13, 3) := by decide +kernel
theorem dX12_held_8 : decode cX12_held 8 = .ok (.iload_n 0, 1) := by decide +kernel
theorem dX12_held_9 : decode cX12_held 9 = .ok (.iload_n 1, 1) := by decide +kernel
theorem dX12_held_10 : decode cX12_held 10 = .ok (.if_icmp .le 7, 3) := by decide +kernel
theorem dX12_held_13 : decode cX12_held 13 = .ok (.iload_n 1, 1) := by decide +kernel
theorem dX12_held_14 : decode cX12_held 14 = .ok (.goto 4, 3) := by decide +kernel
theorem dX12_held_17 : decode cX12_held 17 = .ok (.iload_n 0, 1) := by decide +kernel
theorem dX12_held_18 : decode cX12_held 18 = .ok (.ireturn, 1) := by decide +kernel
theorem dX12_layDown_0 : decode cX12_layDown 0 = .ok (.iconst 0, 1) := by decide +kernel
theorem dX12_layDown_1 : decode cX12_layDown 1 = .ok (.istore_n 1, 1) := by decide +kernel
theorem dX12_layDown_2 : decode cX12_layDown 2 = .ok (.iload_n 1, 1) := by decide +kernel
theorem dX12_layDown_3 : decode cX12_layDown 3 = .ok (.bipush 74, 2) := by decide +kernel
theorem dX12_layDown_5 : decode cX12_layDown 5 = .ok (.if_icmp .ge 21, 3) := by decide +kernel
theorem dX12_layDown_8 : decode cX12_layDown 8 = .ok (.aload_n 0, 1) := by decide +kernel
theorem dX12_layDown_9 : decode cX12_layDown 9 = .ok (.getfield 16, 3) := by decide +kernel
theorem dX12_layDown_12 : decode cX12_layDown 12 = .ok (.iload_n 1, 1) := by decide +kernel
theorem dX12_layDown_13 : decode cX12_layDown 13 = .ok (.aload_n 0, 1) := by decide +kernel
theorem dX12_layDown_14 : decode cX12_layDown 14 = .ok (.getfield 9, 3) := by decide +kernel
theorem dX12_layDown_17 : decode cX12_layDown 17 = .ok (.iload_n 1, 1) := by decide +kernel
theorem dX12_layDown_18 : decode cX12_layDown 18 = .ok (.iaload, 1) := by decide +kernel
theorem dX12_layDown_19 : decode cX12_layDown 19 = .ok (.iastore, 1) := by decide +kernel
theorem dX12_layDown_20 : decode cX12_layDown 20 = .ok (.iinc 1 1, 3) := by decide +kernel
theorem dX12_layDown_23 : decode cX12_layDown 23 = .ok (.goto (-21), 3) := by decide +kernel
theorem dX12_layDown_26 : decode cX12_layDown 26 = .ok (.return_, 1) := by decide +kernel
theorem dX12_layBack_0 : decode cX12_layBack 0 = .ok (.iconst 0, 1) := by decide +kernel
theorem dX12_layBack_1 : decode cX12_layBack 1 = .ok (.istore_n 1, 1) := by decide +kernel
theorem dX12_layBack_2 : decode cX12_layBack 2 = .ok (.iload_n 1, 1) := by decide +kernel
theorem dX12_layBack_3 : decode cX12_layBack 3 = .ok (.bipush 74, 2) := by decide +kernel
theorem dX12_layBack_5 : decode cX12_layBack 5 = .ok (.if_icmp .ge 21, 3) := by decide +kernel
theorem dX12_layBack_8 : decode cX12_layBack 8 = .ok (.aload_n 0, 1) := by decide +kernel
theorem dX12_layBack_9 : decode cX12_layBack 9 = .ok (.getfield 9, 3) := by decide +kernel
theorem dX12_layBack_12 : decode cX12_layBack 12 = .ok (.iload_n 1, 1) := by decide +kernel
theorem dX12_layBack_13 : decode cX12_layBack 13 = .ok (.aload_n 0, 1) := by decide +kernel
theorem dX12_layBack_14 : decode cX12_layBack 14 = .ok (.getfield 16, 3) := by decide +kernel
theorem dX12_layBack_17 : decode cX12_layBack 17 = .ok (.iload_n 1, 1) := by decide +kernel
theorem dX12_layBack_18 : decode cX12_layBack 18 = .ok (.iaload, 1) := by decide +kernel
theorem dX12_layBack_19 : decode cX12_layBack 19 = .ok (.iastore, 1) := by decide +kernel
theorem dX12_layBack_20 : decode cX12_layBack 20 = .ok (.iinc 1 1, 3) := by decide +kernel
theorem dX12_layBack_23 : decode cX12_layBack 23 = .ok (.goto (-21), 3) := by decide +kernel
theorem dX12_layBack_26 : decode cX12_layBack 26 = .ok (.return_, 1) := by decide +kernel
theorem dX12_get_0 : decode cX12_get 0 = .ok (.aload_n 0, 1) := by decide +kernel
theorem dX12_get_1 : decode cX12_get 1 = .ok (.getfield 9, 3) := by decide +kernel
theorem dX12_get_4 : decode cX12_get 4 = .ok (.bipush 38, 2) := by decide +kernel
theorem dX12_get_6 : decode cX12_get 6 = .ok (.bipush 6, 2) := by decide +kernel
theorem dX12_get_8 : decode cX12_get 8 = .ok (.iload_n 1, 1) := by decide +kernel
theorem dX12_get_9 : decode cX12_get 9 = .ok (.imul, 1) := by decide +kernel
theorem dX12_get_10 : decode cX12_get 10 = .ok (.iadd, 1) := by decide +kernel
theorem dX12_get_11 : decode cX12_get 11 = .ok (.iload_n 2, 1) := by decide +kernel
theorem dX12_get_12 : decode cX12_get 12 = .ok (.iadd, 1) := by decide +kernel
theorem dX12_get_13 : decode cX12_get 13 = .ok (.iaload, 1) := by decide +kernel
theorem dX12_get_14 : decode cX12_get 14 = .ok (.ireturn, 1) := by decide +kernel
theorem dX12_puts_0 : decode cX12_puts 0 = .ok (.aload_n 0, 1) := by decide +kernel
theorem dX12_puts_1 : decode cX12_puts 1 = .ok (.getfield 9, 3) := by decide +kernel
theorem dX12_puts_4 : decode cX12_puts 4 = .ok (.bipush 38, 2) := by decide +kernel
theorem dX12_puts_6 : decode cX12_puts 6 = .ok (.bipush 6, 2) := by decide +kernel
theorem dX12_puts_8 : decode cX12_puts 8 = .ok (.iload_n 1, 1) := by decide +kernel
theorem dX12_puts_9 : decode cX12_puts 9 = .ok (.imul, 1) := by decide +kernel
theorem dX12_puts_10 : decode cX12_puts 10 = .ok (.iadd, 1) := by decide +kernel
theorem dX12_puts_11 : decode cX12_puts 11 = .ok (.iload_n 2, 1) := by decide +kernel
theorem dX12_puts_12 : decode cX12_puts 12 = .ok (.iadd, 1) := by decide +kernel
theorem dX12_puts_13 : decode cX12_puts 13 = .ok (.iload_n 3, 1) := by decide +kernel
theorem dX12_puts_14 : decode cX12_puts 14 = .ok (.iastore, 1) := by decide +kernel
theorem dX12_puts_15 : decode cX12_puts 15 = .ok (.return_, 1) := by decide +kernel
theorem dX12_isHouse_0 : decode cX12_isHouse 0 = .ok (.iload_n 1, 1) := by decide +kernel
theorem dX12_isHouse_1 : decode cX12_isHouse 1 = .ok (.iconst 0, 1) := by decide +kernel
theorem dX12_isHouse_2 : decode cX12_isHouse 2 = .ok (.aload_n 0, 1) := by decide +kernel
theorem dX12_isHouse_3 : decode cX12_isHouse 3 = .ok (.getfield 9, 3) := by decide +kernel
theorem dX12_isHouse_6 : decode cX12_isHouse 6 = .ok (.bipush 6, 2) := by decide +kernel
theorem dX12_isHouse_8 : decode cX12_isHouse 8 = .ok (.iaload, 1) := by decide +kernel
theorem dX12_isHouse_9 : decode cX12_isHouse 9 = .ok (.iconst 1, 1) := by decide +kernel
theorem dX12_isHouse_10 : decode cX12_isHouse 10 = .ok (.isub, 1) := by decide +kernel
theorem dX12_isHouse_11 : decode cX12_isHouse 11 = .ok (.invokestatic 71, 3) := by decide +kernel
theorem dX12_isHouse_14 : decode cX12_isHouse 14 = .ok (.ireturn, 1) := by decide +kernel
theorem dX12_isAct_0 : decode cX12_isAct 0 = .ok (.iload_n 1, 1) := by decide +kernel
theorem dX12_isAct_1 : decode cX12_isAct 1 = .ok (.iconst 0, 1) := by decide +kernel
theorem dX12_isAct_2 : decode cX12_isAct 2 = .ok (.aload_n 0, 1) := by decide +kernel
theorem dX12_isAct_3 : decode cX12_isAct 3 = .ok (.getfield 9, 3) := by decide +kernel
theorem dX12_isAct_6 : decode cX12_isAct 6 = .ok (.bipush 6, 2) := by decide +kernel
theorem dX12_isAct_8 : decode cX12_isAct 8 = .ok (.iaload, 1) := by decide +kernel
theorem dX12_isAct_9 : decode cX12_isAct 9 = .ok (.invokestatic 71, 3) := by decide +kernel
theorem dX12_isAct_12 : decode cX12_isAct 12 = .ok (.ireturn, 1) := by decide +kernel
theorem dX12_isOver_0 : decode cX12_isOver 0 = .ok (.aload_n 0, 1) := by decide +kernel
theorem dX12_isOver_1 : decode cX12_isOver 1 = .ok (.getfield 9, 3) := by decide +kernel
theorem dX12_isOver_4 : decode cX12_isOver 4 = .ok (.iconst 0, 1) := by decide +kernel
theorem dX12_isOver_5 : decode cX12_isOver 5 = .ok (.iaload, 1) := by decide +kernel
theorem dX12_isOver_6 : decode cX12_isOver 6 = .ok (.aload_n 0, 1) := by decide +kernel
theorem dX12_isOver_7 : decode cX12_isOver 7 = .ok (.getfield 9, 3) := by decide +kernel
theorem dX12_isOver_10 : decode cX12_isOver 10 = .ok (.iconst 1, 1) := by decide +kernel
theorem dX12_isOver_11 : decode cX12_isOver 11 = .ok (.iaload, 1) := by decide +kernel
theorem dX12_isOver_12 : decode cX12_isOver 12 = .ok (.if_icmp .lt 7, 3) := by decide +kernel
theorem dX12_isOver_15 : decode cX12_isOver 15 = .ok (.iconst 1, 1) := by decide +kernel
theorem dX12_isOver_16 : decode cX12_isOver 16 = .ok (.goto 4, 3) := by decide +kernel
theorem dX12_isOver_19 : decode cX12_isOver 19 = .ok (.iconst 0, 1) := by decide +kernel
theorem dX12_isOver_20 : decode cX12_isOver 20 = .ok (.ireturn, 1) := by decide +kernel
theorem dX12_becomes_0 : decode cX12_becomes 0 = .ok (.aload_n 0, 1) := by decide +kernel
theorem dX12_becomes_1 : decode cX12_becomes 1 = .ok (.getfield 9, 3) := by decide +kernel
theorem dX12_becomes_4 : decode cX12_becomes 4 = .ok (.iload_n 1, 1) := by decide +kernel
theorem dX12_becomes_5 : decode cX12_becomes 5 = .ok (.iaload, 1) := by decide +kernel
theorem dX12_becomes_6 : decode cX12_becomes 6 = .ok (.istore_n 3, 1) := by decide +kernel
theorem dX12_becomes_7 : decode cX12_becomes 7 = .ok (.aload_n 0, 1) := by decide +kernel
theorem dX12_becomes_8 : decode cX12_becomes 8 = .ok (.getfield 9, 3) := by decide +kernel
theorem dX12_becomes_11 : decode cX12_becomes 11 = .ok (.iload_n 1, 1) := by decide +kernel
theorem dX12_becomes_12 : decode cX12_becomes 12 = .ok (.iload_n 2, 1) := by decide +kernel
theorem dX12_becomes_13 : decode cX12_becomes 13 = .ok (.iastore, 1) := by decide +kernel
theorem dX12_becomes_14 : decode cX12_becomes 14 = .ok (.iload_n 3, 1) := by decide +kernel
theorem dX12_becomes_15 : decode cX12_becomes 15 = .ok (.ireturn, 1) := by decide +kernel
theorem dX12_above_0 : decode cX12_above 0 = .ok (.iload_n 0, 1) := by decide +kernel
theorem dX12_above_1 : decode cX12_above 1 = .ok (.iconst 3, 1) := by decide +kernel
theorem dX12_above_2 : decode cX12_above 2 = .ok (.if_icmp .ne 7, 3) := by decide +kernel
theorem dX12_above_5 : decode cX12_above 5 = .ok (.iconst 2, 1) := by decide +kernel
theorem dX12_above_6 : decode cX12_above 6 = .ok (.goto 13, 3) := by decide +kernel
theorem dX12_above_9 : decode cX12_above 9 = .ok (.iload_n 0, 1) := by decide +kernel
theorem dX12_above_10 : decode cX12_above 10 = .ok (.iconst 5, 1) := by decide +kernel
theorem dX12_above_11 : decode cX12_above 11 = .ok (.if_icmp .ne 7, 3) := by decide +kernel
theorem dX12_above_14 : decode cX12_above 14 = .ok (.iconst 4, 1) := by decide +kernel
theorem dX12_above_15 : decode cX12_above 15 = .ok (.goto 4, 3) := by decide +kernel
theorem dX12_above_18 : decode cX12_above 18 = .ok (.iconst 0, 1) := by decide +kernel
theorem dX12_above_19 : decode cX12_above 19 = .ok (.ireturn, 1) := by decide +kernel
theorem dX12_isUnder_0 : decode cX12_isUnder 0 = .ok (.iload_n 0, 1) := by decide +kernel
theorem dX12_isUnder_1 : decode cX12_isUnder 1 = .ok (.istore_n 2, 1) := by decide +kernel
theorem dX12_isUnder_2 : decode cX12_isUnder 2 = .ok (.iload_n 2, 1) := by decide +kernel
theorem dX12_isUnder_3 : decode cX12_isUnder 3 = .ok (.iload_n 1, 1) := by decide +kernel
theorem dX12_isUnder_4 : decode cX12_isUnder 4 = .ok (.if_icmp .eq 15, 3) := by decide +kernel
theorem dX12_isUnder_7 : decode cX12_isUnder 7 = .ok (.iload_n 2, 1) := by decide +kernel
theorem dX12_isUnder_8 : decode cX12_isUnder 8 = .ok (.ifCond .eq 11, 3) := by decide +kernel
theorem dX12_isUnder_11 : decode cX12_isUnder 11 = .ok (.iload_n 2, 1) := by decide +kernel
theorem dX12_isUnder_12 : decode cX12_isUnder 12 = .ok (.invokestatic 75, 3) := by decide +kernel
theorem dX12_isUnder_15 : decode cX12_isUnder 15 = .ok (.istore_n 2, 1) := by decide +kernel
theorem dX12_isUnder_16 : decode cX12_isUnder 16 = .ok (.goto (-14), 3) := by decide +kernel
theorem dX12_isUnder_19 : decode cX12_isUnder 19 = .ok (.iload_n 2, 1) := by decide +kernel
theorem dX12_isUnder_20 : decode cX12_isUnder 20 = .ok (.iload_n 1, 1) := by decide +kernel
theorem dX12_isUnder_21 : decode cX12_isUnder 21 = .ok (.if_icmp .ne 7, 3) := by decide +kernel
theorem dX12_isUnder_24 : decode cX12_isUnder 24 = .ok (.iconst 1, 1) := by decide +kernel
theorem dX12_isUnder_25 : decode cX12_isUnder 25 = .ok (.goto 4, 3) := by decide +kernel
theorem dX12_isUnder_28 : decode cX12_isUnder 28 = .ok (.iconst 0, 1) := by decide +kernel
theorem dX12_isUnder_29 : decode cX12_isUnder 29 = .ok (.ireturn, 1) := by decide +kernel
theorem dX12_drawsBy_0 : decode cX12_drawsBy 0 = .ok (.iload_n 0, 1) := by decide +kernel
theorem dX12_drawsBy_1 : decode cX12_drawsBy 1 = .ok (.tableswitch 83 1 5 #[35, 37, 43, 51, 62], 35) := by decide +kernel
theorem dX12_drawsBy_36 : decode cX12_drawsBy 36 = .ok (.iload_n 2, 1) := by decide +kernel
theorem dX12_drawsBy_37 : decode cX12_drawsBy 37 = .ok (.ireturn, 1) := by decide +kernel
theorem dX12_drawsBy_38 : decode cX12_drawsBy 38 = .ok (.iconst 2, 1) := by decide +kernel
theorem dX12_drawsBy_39 : decode cX12_drawsBy 39 = .ok (.iload_n 1, 1) := by decide +kernel
theorem dX12_drawsBy_40 : decode cX12_drawsBy 40 = .ok (.imul, 1) := by decide +kernel
theorem dX12_drawsBy_41 : decode cX12_drawsBy 41 = .ok (.iload_n 2, 1) := by decide +kernel
theorem dX12_drawsBy_42 : decode cX12_drawsBy 42 = .ok (.iadd, 1) := by decide +kernel
theorem dX12_drawsBy_43 : decode cX12_drawsBy 43 = .ok (.ireturn, 1) := by decide +kernel
theorem dX12_drawsBy_44 : decode cX12_drawsBy 44 = .ok (.iconst 2, 1) := by decide +kernel
theorem dX12_drawsBy_45 : decode cX12_drawsBy 45 = .ok (.iload_n 1, 1) := by decide +kernel
theorem dX12_drawsBy_46 : decode cX12_drawsBy 46 = .ok (.imul, 1) := by decide +kernel
theorem dX12_drawsBy_47 : decode cX12_drawsBy 47 = .ok (.iload_n 2, 1) := by decide +kernel
theorem dX12_drawsBy_48 : decode cX12_drawsBy 48 = .ok (.iadd, 1) := by decide +kernel
theorem dX12_drawsBy_49 : decode cX12_drawsBy 49 = .ok (.iconst 3, 1) := by decide +kernel
theorem dX12_drawsBy_50 : decode cX12_drawsBy 50 = .ok (.iadd, 1) := by decide +kernel
theorem dX12_drawsBy_51 : decode cX12_drawsBy 51 = .ok (.ireturn, 1) := by decide +kernel
theorem dX12_drawsBy_52 : decode cX12_drawsBy 52 = .ok (.iload_n 1, 1) := by decide +kernel
theorem dX12_drawsBy_53 : decode cX12_drawsBy 53 = .ok (.iload_n 2, 1) := by decide +kernel
theorem dX12_drawsBy_54 : decode cX12_drawsBy 54 = .ok (.if_icmp .le 7, 3) := by decide +kernel
theorem dX12_drawsBy_57 : decode cX12_drawsBy 57 = .ok (.iload_n 1, 1) := by decide +kernel
theorem dX12_drawsBy_58 : decode cX12_drawsBy 58 = .ok (.goto 4, 3) := by decide +kernel
theorem dX12_drawsBy_61 : decode cX12_drawsBy 61 = .ok (.iload_n 2, 1) := by decide +kernel
theorem dX12_drawsBy_62 : decode cX12_drawsBy 62 = .ok (.ireturn, 1) := by decide +kernel
theorem dX12_drawsBy_63 : decode cX12_drawsBy 63 = .ok (.iload_n 3, 1) := by decide +kernel
theorem dX12_drawsBy_64 : decode cX12_drawsBy 64 = .ok (.iconst 3, 1) := by decide +kernel
theorem dX12_drawsBy_65 : decode cX12_drawsBy 65 = .ok (.irem, 1) := by decide +kernel
theorem dX12_drawsBy_66 : decode cX12_drawsBy 66 = .ok (.ifCond .ne 7, 3) := by decide +kernel
theorem dX12_drawsBy_69 : decode cX12_drawsBy 69 = .ok (.iconst 0, 1) := by decide +kernel
theorem dX12_drawsBy_70 : decode cX12_drawsBy 70 = .ok (.goto 13, 3) := by decide +kernel
theorem dX12_drawsBy_73 : decode cX12_drawsBy 73 = .ok (.iload_n 1, 1) := by decide +kernel
theorem dX12_drawsBy_74 : decode cX12_drawsBy 74 = .ok (.iload_n 2, 1) := by decide +kernel
theorem dX12_drawsBy_75 : decode cX12_drawsBy 75 = .ok (.if_icmp .le 7, 3) := by decide +kernel
theorem dX12_drawsBy_78 : decode cX12_drawsBy 78 = .ok (.iload_n 1, 1) := by decide +kernel
theorem dX12_drawsBy_79 : decode cX12_drawsBy 79 = .ok (.goto 4, 3) := by decide +kernel
theorem dX12_drawsBy_82 : decode cX12_drawsBy 82 = .ok (.iload_n 2, 1) := by decide +kernel
theorem dX12_drawsBy_83 : decode cX12_drawsBy 83 = .ok (.ireturn, 1) := by decide +kernel
theorem dX12_drawsBy_84 : decode cX12_drawsBy 84 = .ok (.iload_n 1, 1) := by decide +kernel
theorem dX12_drawsBy_85 : decode cX12_drawsBy 85 = .ok (.iload_n 2, 1) := by decide +kernel
theorem dX12_drawsBy_86 : decode cX12_drawsBy 86 = .ok (.iadd, 1) := by decide +kernel
theorem dX12_drawsBy_87 : decode cX12_drawsBy 87 = .ok (.ireturn, 1) := by decide +kernel
theorem dX12_drawsOf_0 : decode cX12_drawsOf 0 = .ok (.aload_n 0, 1) := by decide +kernel
theorem dX12_drawsOf_1 : decode cX12_drawsOf 1 = .ok (.iload_n 1, 1) := by decide +kernel
theorem dX12_drawsOf_2 : decode cX12_drawsOf 2 = .ok (.iconst 0, 1) := by decide +kernel
theorem dX12_drawsOf_3 : decode cX12_drawsOf 3 = .ok (.invokevirtual 79, 3) := by decide +kernel
theorem dX12_drawsOf_6 : decode cX12_drawsOf 6 = .ok (.aload_n 0, 1) := by decide +kernel
theorem dX12_drawsOf_7 : decode cX12_drawsOf 7 = .ok (.iload_n 1, 1) := by decide +kernel
theorem dX12_drawsOf_8 : decode cX12_drawsOf 8 = .ok (.iconst 2, 1) := by decide +kernel
theorem dX12_drawsOf_9 : decode cX12_drawsOf 9 = .ok (.invokevirtual 79, 3) := by decide +kernel
theorem dX12_drawsOf_12 : decode cX12_drawsOf 12 = .ok (.aload_n 0, 1) := by decide +kernel
theorem dX12_drawsOf_13 : decode cX12_drawsOf 13 = .ok (.getfield 9, 3) := by decide +kernel
theorem dX12_drawsOf_16 : decode cX12_drawsOf 16 = .ok (.iconst 3, 1) := by decide +kernel
theorem dX12_drawsOf_17 : decode cX12_drawsOf 17 = .ok (.iaload, 1) := by decide +kernel
theorem dX12_drawsOf_18 : decode cX12_drawsOf 18 = .ok (.aload_n 0, 1) := by decide +kernel
theorem dX12_drawsOf_19 : decode cX12_drawsOf 19 = .ok (.getfield 9, 3) := by decide +kernel
theorem dX12_drawsOf_22 : decode cX12_drawsOf 22 = .ok (.iconst 0, 1) := by decide +kernel
theorem dX12_drawsOf_23 : decode cX12_drawsOf 23 = .ok (.iaload, 1) := by decide +kernel
theorem dX12_drawsOf_24 : decode cX12_drawsOf 24 = .ok (.invokestatic 83, 3) := by decide +kernel
theorem dX12_drawsOf_27 : decode cX12_drawsOf 27 = .ok (.aload_n 0, 1) := by decide +kernel
theorem dX12_drawsOf_28 : decode cX12_drawsOf 28 = .ok (.getfield 9, 3) := by decide +kernel
theorem dX12_drawsOf_31 : decode cX12_drawsOf 31 = .ok (.bipush 26, 2) := by decide +kernel
theorem dX12_drawsOf_33 : decode cX12_drawsOf 33 = .ok (.aload_n 0, 1) := by decide +kernel
theorem dX12_drawsOf_34 : decode cX12_drawsOf 34 = .ok (.iload_n 1, 1) := by decide +kernel
theorem dX12_drawsOf_35 : decode cX12_drawsOf 35 = .ok (.iconst 3, 1) := by decide +kernel
theorem dX12_drawsOf_36 : decode cX12_drawsOf 36 = .ok (.invokevirtual 79, 3) := by decide +kernel
theorem dX12_drawsOf_39 : decode cX12_drawsOf 39 = .ok (.iadd, 1) := by decide +kernel
theorem dX12_drawsOf_40 : decode cX12_drawsOf 40 = .ok (.iaload, 1) := by decide +kernel
theorem dX12_drawsOf_41 : decode cX12_drawsOf 41 = .ok (.isub, 1) := by decide +kernel
theorem dX12_drawsOf_42 : decode cX12_drawsOf 42 = .ok (.istore_n 2, 1) := by decide +kernel
theorem dX12_drawsOf_43 : decode cX12_drawsOf 43 = .ok (.iload_n 2, 1) := by decide +kernel
theorem dX12_drawsOf_44 : decode cX12_drawsOf 44 = .ok (.ifCond .ge 7, 3) := by decide +kernel
theorem dX12_drawsOf_47 : decode cX12_drawsOf 47 = .ok (.iconst 0, 1) := by decide +kernel
theorem dX12_drawsOf_48 : decode cX12_drawsOf 48 = .ok (.goto 4, 3) := by decide +kernel
theorem dX12_drawsOf_51 : decode cX12_drawsOf 51 = .ok (.iload_n 2, 1) := by decide +kernel
theorem dX12_drawsOf_52 : decode cX12_drawsOf 52 = .ok (.ireturn, 1) := by decide +kernel
theorem dX12_asksBy_0 : decode cX12_asksBy 0 = .ok (.iload_n 0, 1) := by decide +kernel
theorem dX12_asksBy_1 : decode cX12_asksBy 1 = .ok (.tableswitch 63 1 5 #[35, 38, 41, 46, 49], 35) := by decide +kernel
theorem dX12_asksBy_36 : decode cX12_asksBy 36 = .ok (.bipush 13, 2) := by decide +kernel
theorem dX12_asksBy_38 : decode cX12_asksBy 38 = .ok (.ireturn, 1) := by decide +kernel
theorem dX12_asksBy_39 : decode cX12_asksBy 39 = .ok (.bipush 6, 2) := by decide +kernel
theorem dX12_asksBy_41 : decode cX12_asksBy 41 = .ok (.ireturn, 1) := by decide +kernel
theorem dX12_asksBy_42 : decode cX12_asksBy 42 = .ok (.bipush 6, 2) := by decide +kernel
theorem dX12_asksBy_44 : decode cX12_asksBy 44 = .ok (.iload_n 1, 1) := by decide +kernel
theorem dX12_asksBy_45 : decode cX12_asksBy 45 = .ok (.iadd, 1) := by decide +kernel
theorem dX12_asksBy_46 : decode cX12_asksBy 46 = .ok (.ireturn, 1) := by decide +kernel
theorem dX12_asksBy_47 : decode cX12_asksBy 47 = .ok (.bipush 24, 2) := by decide +kernel
theorem dX12_asksBy_49 : decode cX12_asksBy 49 = .ok (.ireturn, 1) := by decide +kernel
theorem dX12_asksBy_50 : decode cX12_asksBy 50 = .ok (.iload_n 2, 1) := by decide +kernel
theorem dX12_asksBy_51 : decode cX12_asksBy 51 = .ok (.iconst 2, 1) := by decide +kernel
theorem dX12_asksBy_52 : decode cX12_asksBy 52 = .ok (.irem, 1) := by decide +kernel
theorem dX12_asksBy_53 : decode cX12_asksBy 53 = .ok (.ifCond .ne 8, 3) := by decide +kernel
theorem dX12_asksBy_56 : decode cX12_asksBy 56 = .ok (.bipush 15, 2) := by decide +kernel
theorem dX12_asksBy_58 : decode cX12_asksBy 58 = .ok (.goto 5, 3) := by decide +kernel
theorem dX12_asksBy_61 : decode cX12_asksBy 61 = .ok (.bipush 24, 2) := by decide +kernel
theorem dX12_asksBy_63 : decode cX12_asksBy 63 = .ok (.ireturn, 1) := by decide +kernel
theorem dX12_asksBy_64 : decode cX12_asksBy 64 = .ok (.bipush 12, 2) := by decide +kernel
theorem dX12_asksBy_66 : decode cX12_asksBy 66 = .ok (.ireturn, 1) := by decide +kernel
theorem dX12_asksOf_0 : decode cX12_asksOf 0 = .ok (.aload_n 0, 1) := by decide +kernel
theorem dX12_asksOf_1 : decode cX12_asksOf 1 = .ok (.iload_n 1, 1) := by decide +kernel
theorem dX12_asksOf_2 : decode cX12_asksOf 2 = .ok (.iconst 0, 1) := by decide +kernel
theorem dX12_asksOf_3 : decode cX12_asksOf 3 = .ok (.invokevirtual 79, 3) := by decide +kernel
theorem dX12_asksOf_6 : decode cX12_asksOf 6 = .ok (.iload_n 1, 1) := by decide +kernel
theorem dX12_asksOf_7 : decode cX12_asksOf 7 = .ok (.aload_n 0, 1) := by decide +kernel
theorem dX12_asksOf_8 : decode cX12_asksOf 8 = .ok (.getfield 9, 3) := by decide +kernel
theorem dX12_asksOf_11 : decode cX12_asksOf 11 = .ok (.iconst 0, 1) := by decide +kernel
theorem dX12_asksOf_12 : decode cX12_asksOf 12 = .ok (.iaload, 1) := by decide +kernel
theorem dX12_asksOf_13 : decode cX12_asksOf 13 = .ok (.invokestatic 87, 3) := by decide +kernel
theorem dX12_asksOf_16 : decode cX12_asksOf 16 = .ok (.ireturn, 1) := by decide +kernel
theorem dX12_isServed_0 : decode cX12_isServed 0 = .ok (.aload_n 0, 1) := by decide +kernel
theorem dX12_isServed_1 : decode cX12_isServed 1 = .ok (.getfield 9, 3) := by decide +kernel
theorem dX12_isServed_4 : decode cX12_isServed 4 = .ok (.iconst 4, 1) := by decide +kernel
theorem dX12_isServed_5 : decode cX12_isServed 5 = .ok (.iaload, 1) := by decide +kernel
theorem dX12_isServed_6 : decode cX12_isServed 6 = .ok (.aload_n 0, 1) := by decide +kernel
theorem dX12_isServed_7 : decode cX12_isServed 7 = .ok (.iload_n 1, 1) := by decide +kernel
theorem dX12_isServed_8 : decode cX12_isServed 8 = .ok (.invokevirtual 91, 3) := by decide +kernel
theorem dX12_isServed_11 : decode cX12_isServed 11 = .ok (.if_icmp .lt 22, 3) := by decide +kernel
theorem dX12_isServed_14 : decode cX12_isServed 14 = .ok (.aload_n 0, 1) := by decide +kernel
theorem dX12_isServed_15 : decode cX12_isServed 15 = .ok (.getfield 9, 3) := by decide +kernel
theorem dX12_isServed_18 : decode cX12_isServed 18 = .ok (.iconst 4, 1) := by decide +kernel
theorem dX12_isServed_19 : decode cX12_isServed 19 = .ok (.iaload, 1) := by decide +kernel
theorem dX12_isServed_20 : decode cX12_isServed 20 = .ok (.aload_n 0, 1) := by decide +kernel
theorem dX12_isServed_21 : decode cX12_isServed 21 = .ok (.iload_n 1, 1) := by decide +kernel
theorem dX12_isServed_22 : decode cX12_isServed 22 = .ok (.iconst 1, 1) := by decide +kernel
theorem dX12_isServed_23 : decode cX12_isServed 23 = .ok (.invokevirtual 79, 3) := by decide +kernel
theorem dX12_isServed_26 : decode cX12_isServed 26 = .ok (.if_icmp .lt 7, 3) := by decide +kernel
theorem dX12_isServed_29 : decode cX12_isServed 29 = .ok (.iconst 1, 1) := by decide +kernel
theorem dX12_isServed_30 : decode cX12_isServed 30 = .ok (.goto 4, 3) := by decide +kernel
theorem dX12_isServed_33 : decode cX12_isServed 33 = .ok (.iconst 0, 1) := by decide +kernel
theorem dX12_isServed_34 : decode cX12_isServed 34 = .ok (.ireturn, 1) := by decide +kernel
theorem dX12_wouldCall_0 : decode cX12_wouldCall 0 = .ok (.aload_n 0, 1) := by decide +kernel
theorem dX12_wouldCall_1 : decode cX12_wouldCall 1 = .ok (.iload_n 1, 1) := by decide +kernel
theorem dX12_wouldCall_2 : decode cX12_wouldCall 2 = .ok (.invokevirtual 94, 3) := by decide +kernel
theorem dX12_wouldCall_5 : decode cX12_wouldCall 5 = .ok (.aload_n 0, 1) := by decide +kernel
theorem dX12_wouldCall_6 : decode cX12_wouldCall 6 = .ok (.getfield 9, 3) := by decide +kernel
theorem dX12_wouldCall_9 : decode cX12_wouldCall 9 = .ok (.bipush 32, 2) := by decide +kernel
theorem dX12_wouldCall_11 : decode cX12_wouldCall 11 = .ok (.aload_n 0, 1) := by decide +kernel
theorem dX12_wouldCall_12 : decode cX12_wouldCall 12 = .ok (.iload_n 1, 1) := by decide +kernel
theorem dX12_wouldCall_13 : decode cX12_wouldCall 13 = .ok (.iconst 3, 1) := by decide +kernel
theorem dX12_wouldCall_14 : decode cX12_wouldCall 14 = .ok (.invokevirtual 79, 3) := by decide +kernel
theorem dX12_wouldCall_17 : decode cX12_wouldCall 17 = .ok (.iadd, 1) := by decide +kernel
theorem dX12_wouldCall_18 : decode cX12_wouldCall 18 = .ok (.iaload, 1) := by decide +kernel
theorem dX12_wouldCall_19 : decode cX12_wouldCall 19 = .ok (.if_icmp .lt 7, 3) := by decide +kernel
theorem dX12_wouldCall_22 : decode cX12_wouldCall 22 = .ok (.iconst 1, 1) := by decide +kernel
theorem dX12_wouldCall_23 : decode cX12_wouldCall 23 = .ok (.goto 4, 3) := by decide +kernel
theorem dX12_wouldCall_26 : decode cX12_wouldCall 26 = .ok (.iconst 0, 1) := by decide +kernel
theorem dX12_wouldCall_27 : decode cX12_wouldCall 27 = .ok (.ireturn, 1) := by decide +kernel
theorem dX12_knownOf_0 : decode cX12_knownOf 0 = .ok (.iload_n 1, 1) := by decide +kernel
theorem dX12_knownOf_1 : decode cX12_knownOf 1 = .ok (.ifCond .ne 12, 3) := by decide +kernel
theorem dX12_knownOf_4 : decode cX12_knownOf 4 = .ok (.aload_n 0, 1) := by decide +kernel
theorem dX12_knownOf_5 : decode cX12_knownOf 5 = .ok (.getfield 9, 3) := by decide +kernel
theorem dX12_knownOf_8 : decode cX12_knownOf 8 = .ok (.iconst 0, 1) := by decide +kernel
theorem dX12_knownOf_9 : decode cX12_knownOf 9 = .ok (.iaload, 1) := by decide +kernel
theorem dX12_knownOf_10 : decode cX12_knownOf 10 = .ok (.goto 45, 3) := by decide +kernel
theorem dX12_knownOf_13 : decode cX12_knownOf 13 = .ok (.iload_n 1, 1) := by decide +kernel
theorem dX12_knownOf_14 : decode cX12_knownOf 14 = .ok (.iconst 1, 1) := by decide +kernel
theorem dX12_knownOf_15 : decode cX12_knownOf 15 = .ok (.if_icmp .ne 12, 3) := by decide +kernel
theorem dX12_knownOf_18 : decode cX12_knownOf 18 = .ok (.aload_n 0, 1) := by decide +kernel
theorem dX12_knownOf_19 : decode cX12_knownOf 19 = .ok (.iload_n 2, 1) := by decide +kernel
theorem dX12_knownOf_20 : decode cX12_knownOf 20 = .ok (.iconst 2, 1) := by decide +kernel
theorem dX12_knownOf_21 : decode cX12_knownOf 21 = .ok (.invokevirtual 79, 3) := by decide +kernel
theorem dX12_knownOf_24 : decode cX12_knownOf 24 = .ok (.goto 31, 3) := by decide +kernel
theorem dX12_knownOf_27 : decode cX12_knownOf 27 = .ok (.iload_n 1, 1) := by decide +kernel
theorem dX12_knownOf_28 : decode cX12_knownOf 28 = .ok (.iconst 2, 1) := by decide +kernel
theorem dX12_knownOf_29 : decode cX12_knownOf 29 = .ok (.if_icmp .ne 11, 3) := by decide +kernel
theorem dX12_knownOf_32 : decode cX12_knownOf 32 = .ok (.aload_n 0, 1) := by decide +kernel
theorem dX12_knownOf_33 : decode cX12_knownOf 33 = .ok (.iload_n 2, 1) := by decide +kernel
theorem dX12_knownOf_34 : decode cX12_knownOf 34 = .ok (.invokevirtual 94, 3) := by decide +kernel
theorem dX12_knownOf_37 : decode cX12_knownOf 37 = .ok (.goto 18, 3) := by decide +kernel
theorem dX12_knownOf_40 : decode cX12_knownOf 40 = .ok (.iload_n 1, 1) := by decide +kernel
theorem dX12_knownOf_41 : decode cX12_knownOf 41 = .ok (.iconst 3, 1) := by decide +kernel
theorem dX12_knownOf_42 : decode cX12_knownOf 42 = .ok (.if_icmp .ne 12, 3) := by decide +kernel
theorem dX12_knownOf_45 : decode cX12_knownOf 45 = .ok (.aload_n 0, 1) := by decide +kernel
theorem dX12_knownOf_46 : decode cX12_knownOf 46 = .ok (.getfield 9, 3) := by decide +kernel
theorem dX12_knownOf_49 : decode cX12_knownOf 49 = .ok (.iconst 3, 1) := by decide +kernel
theorem dX12_knownOf_50 : decode cX12_knownOf 50 = .ok (.iaload, 1) := by decide +kernel
theorem dX12_knownOf_51 : decode cX12_knownOf 51 = .ok (.goto 4, 3) := by decide +kernel
theorem dX12_knownOf_54 : decode cX12_knownOf 54 = .ok (.iload_n 2, 1) := by decide +kernel
theorem dX12_knownOf_55 : decode cX12_knownOf 55 = .ok (.ireturn, 1) := by decide +kernel
theorem dX12_joined_0 : decode cX12_joined 0 = .ok (.iload_n 0, 1) := by decide +kernel
theorem dX12_joined_1 : decode cX12_joined 1 = .ok (.tableswitch 78 10010 10013 #[31, 42, 53, 64], 31) := by decide +kernel
theorem dX12_joined_32 : decode cX12_joined 32 = .ok (.iload_n 1, 1) := by decide +kernel
theorem dX12_joined_33 : decode cX12_joined 33 = .ok (.iload_n 2, 1) := by decide +kernel
theorem dX12_joined_34 : decode cX12_joined 34 = .ok (.if_icmp .ge 7, 3) := by decide +kernel
theorem dX12_joined_37 : decode cX12_joined 37 = .ok (.iconst 1, 1) := by decide +kernel
theorem dX12_joined_38 : decode cX12_joined 38 = .ok (.goto 4, 3) := by decide +kernel
theorem dX12_joined_41 : decode cX12_joined 41 = .ok (.iconst 0, 1) := by decide +kernel
theorem dX12_joined_42 : decode cX12_joined 42 = .ok (.ireturn, 1) := by decide +kernel
theorem dX12_joined_43 : decode cX12_joined 43 = .ok (.iload_n 1, 1) := by decide +kernel
theorem dX12_joined_44 : decode cX12_joined 44 = .ok (.iload_n 2, 1) := by decide +kernel
theorem dX12_joined_45 : decode cX12_joined 45 = .ok (.if_icmp .ne 7, 3) := by decide +kernel
theorem dX12_joined_48 : decode cX12_joined 48 = .ok (.iconst 1, 1) := by decide +kernel
theorem dX12_joined_49 : decode cX12_joined 49 = .ok (.goto 4, 3) := by decide +kernel
theorem dX12_joined_52 : decode cX12_joined 52 = .ok (.iconst 0, 1) := by decide +kernel
theorem dX12_joined_53 : decode cX12_joined 53 = .ok (.ireturn, 1) := by decide +kernel
theorem dX12_joined_54 : decode cX12_joined 54 = .ok (.iload_n 1, 1) := by decide +kernel
theorem dX12_joined_55 : decode cX12_joined 55 = .ok (.iload_n 2, 1) := by decide +kernel
theorem dX12_joined_56 : decode cX12_joined 56 = .ok (.if_icmp .le 7, 3) := by decide +kernel
theorem dX12_joined_59 : decode cX12_joined 59 = .ok (.iconst 1, 1) := by decide +kernel
theorem dX12_joined_60 : decode cX12_joined 60 = .ok (.goto 4, 3) := by decide +kernel
theorem dX12_joined_63 : decode cX12_joined 63 = .ok (.iconst 0, 1) := by decide +kernel
theorem dX12_joined_64 : decode cX12_joined 64 = .ok (.ireturn, 1) := by decide +kernel
theorem dX12_joined_65 : decode cX12_joined 65 = .ok (.iload_n 1, 1) := by decide +kernel
theorem dX12_joined_66 : decode cX12_joined 66 = .ok (.ifCond .eq 11, 3) := by decide +kernel
theorem dX12_joined_69 : decode cX12_joined 69 = .ok (.iload_n 2, 1) := by decide +kernel
theorem dX12_joined_70 : decode cX12_joined 70 = .ok (.ifCond .eq 7, 3) := by decide +kernel
theorem dX12_joined_73 : decode cX12_joined 73 = .ok (.iconst 1, 1) := by decide +kernel
theorem dX12_joined_74 : decode cX12_joined 74 = .ok (.goto 4, 3) := by decide +kernel
theorem dX12_joined_77 : decode cX12_joined 77 = .ok (.iconst 0, 1) := by decide +kernel
theorem dX12_joined_78 : decode cX12_joined 78 = .ok (.ireturn, 1) := by decide +kernel
theorem dX12_joined_79 : decode cX12_joined 79 = .ok (.iload_n 1, 1) := by decide +kernel
theorem dX12_joined_80 : decode cX12_joined 80 = .ok (.ifCond .ne 7, 3) := by decide +kernel
theorem dX12_joined_83 : decode cX12_joined 83 = .ok (.iload_n 2, 1) := by decide +kernel
theorem dX12_joined_84 : decode cX12_joined 84 = .ok (.ifCond .eq 7, 3) := by decide +kernel
theorem dX12_joined_87 : decode cX12_joined 87 = .ok (.iconst 1, 1) := by decide +kernel
theorem dX12_joined_88 : decode cX12_joined 88 = .ok (.goto 4, 3) := by decide +kernel
theorem dX12_joined_91 : decode cX12_joined 91 = .ok (.iconst 0, 1) := by decide +kernel
theorem dX12_joined_92 : decode cX12_joined 92 = .ok (.ireturn, 1) := by decide +kernel
theorem dX12_ruleOf_0 : decode cX12_ruleOf 0 = .ok (.aload_n 0, 1) := by decide +kernel
theorem dX12_ruleOf_1 : decode cX12_ruleOf 1 = .ok (.getfield 9, 3) := by decide +kernel
theorem dX12_ruleOf_4 : decode cX12_ruleOf 4 = .ok (.bipush 98, 2) := by decide +kernel
theorem dX12_ruleOf_6 : decode cX12_ruleOf 6 = .ok (.iconst 3, 1) := by decide +kernel
theorem dX12_ruleOf_7 : decode cX12_ruleOf 7 = .ok (.iload_n 1, 1) := by decide +kernel
theorem dX12_ruleOf_8 : decode cX12_ruleOf 8 = .ok (.imul, 1) := by decide +kernel
theorem dX12_ruleOf_9 : decode cX12_ruleOf 9 = .ok (.iadd, 1) := by decide +kernel
theorem dX12_ruleOf_10 : decode cX12_ruleOf 10 = .ok (.iload_n 2, 1) := by decide +kernel
theorem dX12_ruleOf_11 : decode cX12_ruleOf 11 = .ok (.iadd, 1) := by decide +kernel
theorem dX12_ruleOf_12 : decode cX12_ruleOf 12 = .ok (.iaload, 1) := by decide +kernel
theorem dX12_ruleOf_13 : decode cX12_ruleOf 13 = .ok (.ireturn, 1) := by decide +kernel
theorem dX12_holdsFor_0 : decode cX12_holdsFor 0 = .ok (.iconst 0, 1) := by decide +kernel
theorem dX12_holdsFor_1 : decode cX12_holdsFor 1 = .ok (.istore_n 3, 1) := by decide +kernel
theorem dX12_holdsFor_2 : decode cX12_holdsFor 2 = .ok (.iload_n 1, 1) := by decide +kernel
theorem dX12_holdsFor_3 : decode cX12_holdsFor 3 = .ok (.ifCond .ne 7, 3) := by decide +kernel
theorem dX12_holdsFor_6 : decode cX12_holdsFor 6 = .ok (.iconst 0, 1) := by decide +kernel
theorem dX12_holdsFor_7 : decode cX12_holdsFor 7 = .ok (.goto 11, 3) := by decide +kernel
theorem dX12_holdsFor_10 : decode cX12_holdsFor 10 = .ok (.aload_n 0, 1) := by decide +kernel
theorem dX12_holdsFor_11 : decode cX12_holdsFor 11 = .ok (.iload_n 1, 1) := by decide +kernel
theorem dX12_holdsFor_12 : decode cX12_holdsFor 12 = .ok (.iconst 1, 1) := by decide +kernel
theorem dX12_holdsFor_13 : decode cX12_holdsFor 13 = .ok (.isub, 1) := by decide +kernel
theorem dX12_holdsFor_14 : decode cX12_holdsFor 14 = .ok (.iconst 2, 1) := by decide +kernel
theorem dX12_holdsFor_15 : decode cX12_holdsFor 15 = .ok (.invokevirtual 97, 3) := by decide +kernel
theorem dX12_holdsFor_18 : decode cX12_holdsFor 18 = .ok (.istore 4, 2) := by decide +kernel
theorem dX12_holdsFor_20 : decode cX12_holdsFor 20 = .ok (.iload 4, 2) := by decide +kernel
theorem dX12_holdsFor_22 : decode cX12_holdsFor 22 = .ok (.aload_n 0, 1) := by decide +kernel
theorem dX12_holdsFor_23 : decode cX12_holdsFor 23 = .ok (.iload_n 1, 1) := by decide +kernel
theorem dX12_holdsFor_24 : decode cX12_holdsFor 24 = .ok (.iconst 2, 1) := by decide +kernel
theorem dX12_holdsFor_25 : decode cX12_holdsFor 25 = .ok (.invokevirtual 97, 3) := by decide +kernel
theorem dX12_holdsFor_28 : decode cX12_holdsFor 28 = .ok (.if_icmp .ge 124, 3) := by decide +kernel
theorem dX12_holdsFor_31 : decode cX12_holdsFor 31 = .ok (.aload_n 0, 1) := by decide +kernel
theorem dX12_holdsFor_32 : decode cX12_holdsFor 32 = .ok (.getfield 9, 3) := by decide +kernel
theorem dX12_holdsFor_35 : decode cX12_holdsFor 35 = .ok (.bipush 122, 2) := by decide +kernel
theorem dX12_holdsFor_37 : decode cX12_holdsFor 37 = .ok (.iload 4, 2) := by decide +kernel
theorem dX12_holdsFor_39 : decode cX12_holdsFor 39 = .ok (.iadd, 1) := by decide +kernel
theorem dX12_holdsFor_40 : decode cX12_holdsFor 40 = .ok (.iaload, 1) := by decide +kernel
theorem dX12_holdsFor_41 : decode cX12_holdsFor 41 = .ok (.istore 5, 2) := by decide +kernel
theorem dX12_holdsFor_43 : decode cX12_holdsFor 43 = .ok (.iload 5, 2) := by decide +kernel
theorem dX12_holdsFor_45 : decode cX12_holdsFor 45 = .ok (.sipush 10010, 3) := by decide +kernel
theorem dX12_holdsFor_48 : decode cX12_holdsFor 48 = .ok (.if_icmp .ge 39, 3) := by decide +kernel
theorem dX12_holdsFor_51 : decode cX12_holdsFor 51 = .ok (.aload_n 0, 1) := by decide +kernel
theorem dX12_holdsFor_52 : decode cX12_holdsFor 52 = .ok (.getfield 19, 3) := by decide +kernel
theorem dX12_holdsFor_55 : decode cX12_holdsFor 55 = .ok (.iload_n 3, 1) := by decide +kernel
theorem dX12_holdsFor_56 : decode cX12_holdsFor 56 = .ok (.iload 5, 2) := by decide +kernel
theorem dX12_holdsFor_58 : decode cX12_holdsFor 58 = .ok (.sipush 10000, 3) := by decide +kernel
theorem dX12_holdsFor_61 : decode cX12_holdsFor 61 = .ok (.if_icmp .ge 8, 3) := by decide +kernel
theorem dX12_holdsFor_64 : decode cX12_holdsFor 64 = .ok (.iload 5, 2) := by decide +kernel
theorem dX12_holdsFor_66 : decode cX12_holdsFor 66 = .ok (.goto 14, 3) := by decide +kernel
theorem dX12_holdsFor_69 : decode cX12_holdsFor 69 = .ok (.aload_n 0, 1) := by decide +kernel
theorem dX12_holdsFor_70 : decode cX12_holdsFor 70 = .ok (.iload 5, 2) := by decide +kernel
theorem dX12_holdsFor_72 : decode cX12_holdsFor 72 = .ok (.sipush 10000, 3) := by decide +kernel
theorem dX12_holdsFor_75 : decode cX12_holdsFor 75 = .ok (.isub, 1) := by decide +kernel
theorem dX12_holdsFor_76 : decode cX12_holdsFor 76 = .ok (.iload_n 2, 1) := by decide +kernel
theorem dX12_holdsFor_77 : decode cX12_holdsFor 77 = .ok (.invokevirtual 100, 3) := by decide +kernel
theorem dX12_holdsFor_80 : decode cX12_holdsFor 80 = .ok (.iastore, 1) := by decide +kernel
theorem dX12_holdsFor_81 : decode cX12_holdsFor 81 = .ok (.iinc 3 1, 3) := by decide +kernel
theorem dX12_holdsFor_84 : decode cX12_holdsFor 84 = .ok (.goto 62, 3) := by decide +kernel
theorem dX12_holdsFor_87 : decode cX12_holdsFor 87 = .ok (.iload 5, 2) := by decide +kernel
theorem dX12_holdsFor_89 : decode cX12_holdsFor 89 = .ok (.sipush 10015, 3) := by decide +kernel
theorem dX12_holdsFor_92 : decode cX12_holdsFor 92 = .ok (.if_icmp .ne 24, 3) := by decide +kernel
theorem dX12_holdsFor_95 : decode cX12_holdsFor 95 = .ok (.aload_n 0, 1) := by decide +kernel
theorem dX12_holdsFor_96 : decode cX12_holdsFor 96 = .ok (.getfield 19, 3) := by decide +kernel
theorem dX12_holdsFor_99 : decode cX12_holdsFor 99 = .ok (.iload_n 3, 1) := by decide +kernel
theorem dX12_holdsFor_100 : decode cX12_holdsFor 100 = .ok (.iconst 1, 1) := by decide +kernel
theorem dX12_holdsFor_101 : decode cX12_holdsFor 101 = .ok (.isub, 1) := by decide +kernel
theorem dX12_holdsFor_102 : decode cX12_holdsFor 102 = .ok (.iconst 1, 1) := by decide +kernel
theorem dX12_holdsFor_103 : decode cX12_holdsFor 103 = .ok (.aload_n 0, 1) := by decide +kernel
theorem dX12_holdsFor_104 : decode cX12_holdsFor 104 = .ok (.getfield 19, 3) := by decide +kernel
theorem dX12_holdsFor_107 : decode cX12_holdsFor 107 = .ok (.iload_n 3, 1) := by decide +kernel
theorem dX12_holdsFor_108 : decode cX12_holdsFor 108 = .ok (.iconst 1, 1) := by decide +kernel
theorem dX12_holdsFor_109 : decode cX12_holdsFor 109 = .ok (.isub, 1) := by decide +kernel
theorem dX12_holdsFor_110 : decode cX12_holdsFor 110 = .ok (.iaload, 1) := by decide +kernel
theorem dX12_holdsFor_111 : decode cX12_holdsFor 111 = .ok (.isub, 1) := by decide +kernel
theorem dX12_holdsFor_112 : decode cX12_holdsFor 112 = .ok (.iastore, 1) := by decide +kernel
theorem dX12_holdsFor_113 : decode cX12_holdsFor 113 = .ok (.goto 33, 3) := by decide +kernel
theorem dX12_holdsFor_116 : decode cX12_holdsFor 116 = .ok (.iinc 3 (-1), 3) := by decide +kernel
theorem dX12_holdsFor_119 : decode cX12_holdsFor 119 = .ok (.aload_n 0, 1) := by decide +kernel
theorem dX12_holdsFor_120 : decode cX12_holdsFor 120 = .ok (.getfield 19, 3) := by decide +kernel
theorem dX12_holdsFor_123 : decode cX12_holdsFor 123 = .ok (.iload_n 3, 1) := by decide +kernel
theorem dX12_holdsFor_124 : decode cX12_holdsFor 124 = .ok (.iconst 1, 1) := by decide +kernel
theorem dX12_holdsFor_125 : decode cX12_holdsFor 125 = .ok (.isub, 1) := by decide +kernel
theorem dX12_holdsFor_126 : decode cX12_holdsFor 126 = .ok (.iload 5, 2) := by decide +kernel
theorem dX12_holdsFor_128 : decode cX12_holdsFor 128 = .ok (.aload_n 0, 1) := by decide +kernel
theorem dX12_holdsFor_129 : decode cX12_holdsFor 129 = .ok (.getfield 19, 3) := by decide +kernel
theorem dX12_holdsFor_132 : decode cX12_holdsFor 132 = .ok (.iload_n 3, 1) := by decide +kernel
theorem dX12_holdsFor_133 : decode cX12_holdsFor 133 = .ok (.iconst 1, 1) := by decide +kernel
theorem dX12_holdsFor_134 : decode cX12_holdsFor 134 = .ok (.isub, 1) := by decide +kernel
theorem dX12_holdsFor_135 : decode cX12_holdsFor 135 = .ok (.iaload, 1) := by decide +kernel
theorem dX12_holdsFor_136 : decode cX12_holdsFor 136 = .ok (.aload_n 0, 1) := by decide +kernel
theorem dX12_holdsFor_137 : decode cX12_holdsFor 137 = .ok (.getfield 19, 3) := by decide +kernel
theorem dX12_holdsFor_140 : decode cX12_holdsFor 140 = .ok (.iload_n 3, 1) := by decide +kernel
theorem dX12_holdsFor_141 : decode cX12_holdsFor 141 = .ok (.iaload, 1) := by decide +kernel
theorem dX12_holdsFor_142 : decode cX12_holdsFor 142 = .ok (.invokestatic 103, 3) := by decide +kernel
theorem dX12_holdsFor_145 : decode cX12_holdsFor 145 = .ok (.iastore, 1) := by decide +kernel
theorem dX12_holdsFor_146 : decode cX12_holdsFor 146 = .ok (.iinc 4 1, 3) := by decide +kernel
theorem dX12_holdsFor_149 : decode cX12_holdsFor 149 = .ok (.goto (-129), 3) := by decide +kernel
theorem dX12_holdsFor_152 : decode cX12_holdsFor 152 = .ok (.iload_n 3, 1) := by decide +kernel
theorem dX12_holdsFor_153 : decode cX12_holdsFor 153 = .ok (.ifCond .eq 12, 3) := by decide +kernel
theorem dX12_holdsFor_156 : decode cX12_holdsFor 156 = .ok (.aload_n 0, 1) := by decide +kernel
theorem dX12_holdsFor_157 : decode cX12_holdsFor 157 = .ok (.getfield 19, 3) := by decide +kernel
theorem dX12_holdsFor_160 : decode cX12_holdsFor 160 = .ok (.iconst 0, 1) := by decide +kernel
theorem dX12_holdsFor_161 : decode cX12_holdsFor 161 = .ok (.iaload, 1) := by decide +kernel
theorem dX12_holdsFor_162 : decode cX12_holdsFor 162 = .ok (.ifCond .eq 7, 3) := by decide +kernel
theorem dX12_holdsFor_165 : decode cX12_holdsFor 165 = .ok (.iconst 1, 1) := by decide +kernel
theorem dX12_holdsFor_166 : decode cX12_holdsFor 166 = .ok (.goto 4, 3) := by decide +kernel
theorem dX12_holdsFor_169 : decode cX12_holdsFor 169 = .ok (.iconst 0, 1) := by decide +kernel
theorem dX12_holdsFor_170 : decode cX12_holdsFor 170 = .ok (.ireturn, 1) := by decide +kernel
theorem dX12_willOf_0 : decode cX12_willOf 0 = .ok (.iconst 0, 1) := by decide +kernel
theorem dX12_willOf_1 : decode cX12_willOf 1 = .ok (.istore_n 2, 1) := by decide +kernel
theorem dX12_willOf_2 : decode cX12_willOf 2 = .ok (.iload_n 2, 1) := by decide +kernel
theorem dX12_willOf_3 : decode cX12_willOf 3 = .ok (.aload_n 0, 1) := by decide +kernel
theorem dX12_willOf_4 : decode cX12_willOf 4 = .ok (.getfield 9, 3) := by decide +kernel
theorem dX12_willOf_7 : decode cX12_willOf 7 = .ok (.bipush 7, 2) := by decide +kernel
theorem dX12_willOf_9 : decode cX12_willOf 9 = .ok (.iaload, 1) := by decide +kernel
theorem dX12_willOf_10 : decode cX12_willOf 10 = .ok (.if_icmp .ge 43, 3) := by decide +kernel
theorem dX12_willOf_13 : decode cX12_willOf 13 = .ok (.aload_n 0, 1) := by decide +kernel
theorem dX12_willOf_14 : decode cX12_willOf 14 = .ok (.iload_n 1, 1) := by decide +kernel
theorem dX12_willOf_15 : decode cX12_willOf 15 = .ok (.iconst 0, 1) := by decide +kernel
theorem dX12_willOf_16 : decode cX12_willOf 16 = .ok (.invokevirtual 79, 3) := by decide +kernel
theorem dX12_willOf_19 : decode cX12_willOf 19 = .ok (.aload_n 0, 1) := by decide +kernel
theorem dX12_willOf_20 : decode cX12_willOf 20 = .ok (.iload_n 2, 1) := by decide +kernel
theorem dX12_willOf_21 : decode cX12_willOf 21 = .ok (.iconst 0, 1) := by decide +kernel
theorem dX12_willOf_22 : decode cX12_willOf 22 = .ok (.invokevirtual 97, 3) := by decide +kernel
theorem dX12_willOf_25 : decode cX12_willOf 25 = .ok (.invokestatic 106, 3) := by decide +kernel
theorem dX12_willOf_28 : decode cX12_willOf 28 = .ok (.ifCond .eq 19, 3) := by decide +kernel
theorem dX12_willOf_31 : decode cX12_willOf 31 = .ok (.aload_n 0, 1) := by decide +kernel
theorem dX12_willOf_32 : decode cX12_willOf 32 = .ok (.iload_n 2, 1) := by decide +kernel
theorem dX12_willOf_33 : decode cX12_willOf 33 = .ok (.iload_n 1, 1) := by decide +kernel
theorem dX12_willOf_34 : decode cX12_willOf 34 = .ok (.invokevirtual 110, 3) := by decide +kernel
theorem dX12_willOf_37 : decode cX12_willOf 37 = .ok (.ifCond .eq 10, 3) := by decide +kernel
theorem dX12_willOf_40 : decode cX12_willOf 40 = .ok (.aload_n 0, 1) := by decide +kernel
theorem dX12_willOf_41 : decode cX12_willOf 41 = .ok (.iload_n 2, 1) := by decide +kernel
theorem dX12_willOf_42 : decode cX12_willOf 42 = .ok (.iconst 1, 1) := by decide +kernel
theorem dX12_willOf_43 : decode cX12_willOf 43 = .ok (.invokevirtual 97, 3) := by decide +kernel
theorem dX12_willOf_46 : decode cX12_willOf 46 = .ok (.ireturn, 1) := by decide +kernel
theorem dX12_willOf_47 : decode cX12_willOf 47 = .ok (.iinc 2 1, 3) := by decide +kernel
theorem dX12_willOf_50 : decode cX12_willOf 50 = .ok (.goto (-48), 3) := by decide +kernel
theorem dX12_willOf_53 : decode cX12_willOf 53 = .ok (.iconst 0, 1) := by decide +kernel
theorem dX12_willOf_54 : decode cX12_willOf 54 = .ok (.ireturn, 1) := by decide +kernel
theorem dX12_byteAt_0 : decode cX12_byteAt 0 = .ok (.iload_n 1, 1) := by decide +kernel
theorem dX12_byteAt_1 : decode cX12_byteAt 1 = .ok (.aload_n 0, 1) := by decide +kernel
theorem dX12_byteAt_2 : decode cX12_byteAt 2 = .ok (.getfield 113, 3) := by decide +kernel
theorem dX12_byteAt_5 : decode cX12_byteAt 5 = .ok (.if_icmp .ge 12, 3) := by decide +kernel
theorem dX12_byteAt_8 : decode cX12_byteAt 8 = .ok (.aload_n 0, 1) := by decide +kernel
theorem dX12_byteAt_9 : decode cX12_byteAt 9 = .ok (.getfield 22, 3) := by decide +kernel
theorem dX12_byteAt_12 : decode cX12_byteAt 12 = .ok (.iload_n 1, 1) := by decide +kernel
theorem dX12_byteAt_13 : decode cX12_byteAt 13 = .ok (.iaload, 1) := by decide +kernel
theorem dX12_byteAt_14 : decode cX12_byteAt 14 = .ok (.goto 4, 3) := by decide +kernel
theorem dX12_byteAt_17 : decode cX12_byteAt 17 = .ok (.iconst (-1), 1) := by decide +kernel
theorem dX12_byteAt_18 : decode cX12_byteAt 18 = .ok (.ireturn, 1) := by decide +kernel
theorem dX12_isNameOf_0 : decode cX12_isNameOf 0 = .ok (.aload_n 0, 1) := by decide +kernel
theorem dX12_isNameOf_1 : decode cX12_isNameOf 1 = .ok (.getfield 117, 3) := by decide +kernel
theorem dX12_isNameOf_4 : decode cX12_isNameOf 4 = .ok (.aload_n 0, 1) := by decide +kernel
theorem dX12_isNameOf_5 : decode cX12_isNameOf 5 = .ok (.getfield 120, 3) := by decide +kernel
theorem dX12_isNameOf_8 : decode cX12_isNameOf 8 = .ok (.isub, 1) := by decide +kernel
theorem dX12_isNameOf_9 : decode cX12_isNameOf 9 = .ok (.bipush 8, 2) := by decide +kernel
theorem dX12_isNameOf_11 : decode cX12_isNameOf 11 = .ok (.if_icmp .gt 7, 3) := by decide +kernel
theorem dX12_isNameOf_14 : decode cX12_isNameOf 14 = .ok (.iconst 1, 1) := by decide +kernel
theorem dX12_isNameOf_15 : decode cX12_isNameOf 15 = .ok (.goto 4, 3) := by decide +kernel
theorem dX12_isNameOf_18 : decode cX12_isNameOf 18 = .ok (.iconst 0, 1) := by decide +kernel
theorem dX12_isNameOf_19 : decode cX12_isNameOf 19 = .ok (.istore_n 2, 1) := by decide +kernel
theorem dX12_isNameOf_20 : decode cX12_isNameOf 20 = .ok (.iconst 0, 1) := by decide +kernel
theorem dX12_isNameOf_21 : decode cX12_isNameOf 21 = .ok (.istore_n 3, 1) := by decide +kernel
theorem dX12_isNameOf_22 : decode cX12_isNameOf 22 = .ok (.iload_n 3, 1) := by decide +kernel
theorem dX12_isNameOf_23 : decode cX12_isNameOf 23 = .ok (.bipush 8, 2) := by decide +kernel
theorem dX12_isNameOf_25 : decode cX12_isNameOf 25 = .ok (.if_icmp .ge 61, 3) := by decide +kernel
theorem dX12_isNameOf_28 : decode cX12_isNameOf 28 = .ok (.iload_n 2, 1) := by decide +kernel
theorem dX12_isNameOf_29 : decode cX12_isNameOf 29 = .ok (.ifCond .eq 57, 3) := by decide +kernel
theorem dX12_isNameOf_32 : decode cX12_isNameOf 32 = .ok (.aload_n 0, 1) := by decide +kernel
theorem dX12_isNameOf_33 : decode cX12_isNameOf 33 = .ok (.getfield 25, 3) := by decide +kernel
theorem dX12_isNameOf_36 : decode cX12_isNameOf 36 = .ok (.bipush 8, 2) := by decide +kernel
theorem dX12_isNameOf_38 : decode cX12_isNameOf 38 = .ok (.iload_n 1, 1) := by decide +kernel
theorem dX12_isNameOf_39 : decode cX12_isNameOf 39 = .ok (.imul, 1) := by decide +kernel
theorem dX12_isNameOf_40 : decode cX12_isNameOf 40 = .ok (.iload_n 3, 1) := by decide +kernel
theorem dX12_isNameOf_41 : decode cX12_isNameOf 41 = .ok (.iadd, 1) := by decide +kernel
theorem dX12_isNameOf_42 : decode cX12_isNameOf 42 = .ok (.caload, 1) := by decide +kernel
theorem dX12_isNameOf_43 : decode cX12_isNameOf 43 = .ok (.aload_n 0, 1) := by decide +kernel
theorem dX12_isNameOf_44 : decode cX12_isNameOf 44 = .ok (.getfield 120, 3) := by decide +kernel
theorem dX12_isNameOf_47 : decode cX12_isNameOf 47 = .ok (.iload_n 3, 1) := by decide +kernel
theorem dX12_isNameOf_48 : decode cX12_isNameOf 48 = .ok (.iadd, 1) := by decide +kernel
theorem dX12_isNameOf_49 : decode cX12_isNameOf 49 = .ok (.aload_n 0, 1) := by decide +kernel
theorem dX12_isNameOf_50 : decode cX12_isNameOf 50 = .ok (.getfield 117, 3) := by decide +kernel
theorem dX12_isNameOf_53 : decode cX12_isNameOf 53 = .ok (.if_icmp .ge 16, 3) := by decide +kernel
theorem dX12_isNameOf_56 : decode cX12_isNameOf 56 = .ok (.aload_n 0, 1) := by decide +kernel
theorem dX12_isNameOf_57 : decode cX12_isNameOf 57 = .ok (.aload_n 0, 1) := by decide +kernel
theorem dX12_isNameOf_58 : decode cX12_isNameOf 58 = .ok (.getfield 120, 3) := by decide +kernel
theorem dX12_isNameOf_61 : decode cX12_isNameOf 61 = .ok (.iload_n 3, 1) := by decide +kernel
theorem dX12_isNameOf_62 : decode cX12_isNameOf 62 = .ok (.iadd, 1) := by decide +kernel
theorem dX12_isNameOf_63 : decode cX12_isNameOf 63 = .ok (.invokevirtual 123, 3) := by decide +kernel
theorem dX12_isNameOf_66 : decode cX12_isNameOf 66 = .ok (.goto 5, 3) := by decide +kernel
theorem dX12_isNameOf_69 : decode cX12_isNameOf 69 = .ok (.bipush 32, 2) := by decide +kernel
theorem dX12_isNameOf_71 : decode cX12_isNameOf 71 = .ok (.if_icmp .ne 7, 3) := by decide +kernel
theorem dX12_isNameOf_74 : decode cX12_isNameOf 74 = .ok (.iconst 1, 1) := by decide +kernel
theorem dX12_isNameOf_75 : decode cX12_isNameOf 75 = .ok (.goto 4, 3) := by decide +kernel
theorem dX12_isNameOf_78 : decode cX12_isNameOf 78 = .ok (.iconst 0, 1) := by decide +kernel
theorem dX12_isNameOf_79 : decode cX12_isNameOf 79 = .ok (.istore_n 2, 1) := by decide +kernel
theorem dX12_isNameOf_80 : decode cX12_isNameOf 80 = .ok (.iinc 3 1, 3) := by decide +kernel
theorem dX12_isNameOf_83 : decode cX12_isNameOf 83 = .ok (.goto (-61), 3) := by decide +kernel
theorem dX12_isNameOf_86 : decode cX12_isNameOf 86 = .ok (.iload_n 2, 1) := by decide +kernel
theorem dX12_isNameOf_87 : decode cX12_isNameOf 87 = .ok (.ireturn, 1) := by decide +kernel
theorem dX12_readsName_0 : decode cX12_readsName 0 = .ok (.aload_n 0, 1) := by decide +kernel
theorem dX12_readsName_1 : decode cX12_readsName 1 = .ok (.aload_n 0, 1) := by decide +kernel
theorem dX12_readsName_2 : decode cX12_readsName 2 = .ok (.getfield 117, 3) := by decide +kernel
theorem dX12_readsName_5 : decode cX12_readsName 5 = .ok (.invokevirtual 123, 3) := by decide +kernel
theorem dX12_readsName_8 : decode cX12_readsName 8 = .ok (.bipush 97, 2) := by decide +kernel
theorem dX12_readsName_10 : decode cX12_readsName 10 = .ok (.bipush 122, 2) := by decide +kernel
theorem dX12_readsName_12 : decode cX12_readsName 12 = .ok (.invokestatic 71, 3) := by decide +kernel
theorem dX12_readsName_15 : decode cX12_readsName 15 = .ok (.ifCond .eq 16, 3) := by decide +kernel
theorem dX12_readsName_18 : decode cX12_readsName 18 = .ok (.aload_n 0, 1) := by decide +kernel
theorem dX12_readsName_19 : decode cX12_readsName 19 = .ok (.dup, 1) := by decide +kernel
theorem dX12_readsName_20 : decode cX12_readsName 20 = .ok (.getfield 117, 3) := by decide +kernel
theorem dX12_readsName_23 : decode cX12_readsName 23 = .ok (.iconst 1, 1) := by decide +kernel
theorem dX12_readsName_24 : decode cX12_readsName 24 = .ok (.iadd, 1) := by decide +kernel
theorem dX12_readsName_25 : decode cX12_readsName 25 = .ok (.putfield 117, 3) := by decide +kernel
theorem dX12_readsName_28 : decode cX12_readsName 28 = .ok (.goto (-28), 3) := by decide +kernel
theorem dX12_readsName_31 : decode cX12_readsName 31 = .ok (.aload_n 0, 1) := by decide +kernel
theorem dX12_readsName_32 : decode cX12_readsName 32 = .ok (.bipush 101, 2) := by decide +kernel
theorem dX12_readsName_34 : decode cX12_readsName 34 = .ok (.putfield 126, 3) := by decide +kernel
theorem dX12_readsName_37 : decode cX12_readsName 37 = .ok (.iconst 0, 1) := by decide +kernel
theorem dX12_readsName_38 : decode cX12_readsName 38 = .ok (.istore_n 1, 1) := by decide +kernel
theorem dX12_readsName_39 : decode cX12_readsName 39 = .ok (.iload_n 1, 1) := by decide +kernel
theorem dX12_readsName_40 : decode cX12_readsName 40 = .ok (.bipush 18, 2) := by decide +kernel
theorem dX12_readsName_42 : decode cX12_readsName 42 = .ok (.if_icmp .ge 29, 3) := by decide +kernel
theorem dX12_readsName_45 : decode cX12_readsName 45 = .ok (.aload_n 0, 1) := by decide +kernel
theorem dX12_readsName_46 : decode cX12_readsName 46 = .ok (.aload_n 0, 1) := by decide +kernel
theorem dX12_readsName_47 : decode cX12_readsName 47 = .ok (.iload_n 1, 1) := by decide +kernel
theorem dX12_readsName_48 : decode cX12_readsName 48 = .ok (.invokevirtual 129, 3) := by decide +kernel
theorem dX12_readsName_51 : decode cX12_readsName 51 = .ok (.ifCond .eq 7, 3) := by decide +kernel
theorem dX12_readsName_54 : decode cX12_readsName 54 = .ok (.iload_n 1, 1) := by decide +kernel
theorem dX12_readsName_55 : decode cX12_readsName 55 = .ok (.goto 7, 3) := by decide +kernel
theorem dX12_readsName_58 : decode cX12_readsName 58 = .ok (.aload_n 0, 1) := by decide +kernel
theorem dX12_readsName_59 : decode cX12_readsName 59 = .ok (.getfield 126, 3) := by decide +kernel
theorem dX12_readsName_62 : decode cX12_readsName 62 = .ok (.putfield 126, 3) := by decide +kernel
theorem dX12_readsName_65 : decode cX12_readsName 65 = .ok (.iinc 1 1, 3) := by decide +kernel
theorem dX12_readsName_68 : decode cX12_readsName 68 = .ok (.goto (-29), 3) := by decide +kernel
theorem dX12_readsName_71 : decode cX12_readsName 71 = .ok (.return_, 1) := by decide +kernel
theorem dX12_readsNumber_0 : decode cX12_readsNumber 0 = .ok (.aload_n 0, 1) := by decide +kernel
theorem dX12_readsNumber_1 : decode cX12_readsNumber 1 = .ok (.iconst 0, 1) := by decide +kernel
theorem dX12_readsNumber_2 : decode cX12_readsNumber 2 = .ok (.putfield 133, 3) := by decide +kernel
theorem dX12_readsNumber_5 : decode cX12_readsNumber 5 = .ok (.aload_n 0, 1) := by decide +kernel
theorem dX12_readsNumber_6 : decode cX12_readsNumber 6 = .ok (.aload_n 0, 1) := by decide +kernel
theorem dX12_readsNumber_7 : decode cX12_readsNumber 7 = .ok (.getfield 117, 3) := by decide +kernel
theorem dX12_readsNumber_10 : decode cX12_readsNumber 10 = .ok (.invokevirtual 123, 3) := by decide +kernel
theorem dX12_readsNumber_13 : decode cX12_readsNumber 13 = .ok (.bipush 48, 2) := by decide +kernel
theorem dX12_readsNumber_15 : decode cX12_readsNumber 15 = .ok (.bipush 57, 2) := by decide +kernel
theorem dX12_readsNumber_17 : decode cX12_readsNumber 17 = .ok (.invokestatic 71, 3) := by decide +kernel
theorem dX12_readsNumber_20 : decode cX12_readsNumber 20 = .ok (.ifCond .eq 59, 3) := by decide +kernel
theorem dX12_readsNumber_23 : decode cX12_readsNumber 23 = .ok (.aload_n 0, 1) := by decide +kernel
theorem dX12_readsNumber_24 : decode cX12_readsNumber 24 = .ok (.aload_n 0, 1) := by decide +kernel
theorem dX12_readsNumber_25 : decode cX12_readsNumber 25 = .ok (.getfield 117, 3) := by decide +kernel
theorem dX12_readsNumber_28 : decode cX12_readsNumber 28 = .ok (.aload_n 0, 1) := by decide +kernel
theorem dX12_readsNumber_29 : decode cX12_readsNumber 29 = .ok (.getfield 120, 3) := by decide +kernel
theorem dX12_readsNumber_32 : decode cX12_readsNumber 32 = .ok (.isub, 1) := by decide +kernel
theorem dX12_readsNumber_33 : decode cX12_readsNumber 33 = .ok (.iconst 4, 1) := by decide +kernel
theorem dX12_readsNumber_34 : decode cX12_readsNumber 34 = .ok (.if_icmp .ge 25, 3) := by decide +kernel
theorem dX12_readsNumber_37 : decode cX12_readsNumber 37 = .ok (.bipush 10, 2) := by decide +kernel
theorem dX12_readsNumber_39 : decode cX12_readsNumber 39 = .ok (.aload_n 0, 1) := by decide +kernel
theorem dX12_readsNumber_40 : decode cX12_readsNumber 40 = .ok (.getfield 133, 3) := by decide +kernel
theorem dX12_readsNumber_43 : decode cX12_readsNumber 43 = .ok (.imul, 1) := by decide +kernel
theorem dX12_readsNumber_44 : decode cX12_readsNumber 44 = .ok (.aload_n 0, 1) := by decide +kernel
theorem dX12_readsNumber_45 : decode cX12_readsNumber 45 = .ok (.aload_n 0, 1) := by decide +kernel
theorem dX12_readsNumber_46 : decode cX12_readsNumber 46 = .ok (.getfield 117, 3) := by decide +kernel
theorem dX12_readsNumber_49 : decode cX12_readsNumber 49 = .ok (.invokevirtual 123, 3) := by decide +kernel
theorem dX12_readsNumber_52 : decode cX12_readsNumber 52 = .ok (.iadd, 1) := by decide +kernel
theorem dX12_readsNumber_53 : decode cX12_readsNumber 53 = .ok (.bipush 48, 2) := by decide +kernel
theorem dX12_readsNumber_55 : decode cX12_readsNumber 55 = .ok (.isub, 1) := by decide +kernel
theorem dX12_readsNumber_56 : decode cX12_readsNumber 56 = .ok (.goto 7, 3) := by decide +kernel
theorem dX12_readsNumber_59 : decode cX12_readsNumber 59 = .ok (.aload_n 0, 1) := by decide +kernel
theorem dX12_readsNumber_60 : decode cX12_readsNumber 60 = .ok (.getfield 133, 3) := by decide +kernel
theorem dX12_readsNumber_63 : decode cX12_readsNumber 63 = .ok (.putfield 133, 3) := by decide +kernel
theorem dX12_readsNumber_66 : decode cX12_readsNumber 66 = .ok (.aload_n 0, 1) := by decide +kernel
theorem dX12_readsNumber_67 : decode cX12_readsNumber 67 = .ok (.dup, 1) := by decide +kernel
theorem dX12_readsNumber_68 : decode cX12_readsNumber 68 = .ok (.getfield 117, 3) := by decide +kernel
theorem dX12_readsNumber_71 : decode cX12_readsNumber 71 = .ok (.iconst 1, 1) := by decide +kernel
theorem dX12_readsNumber_72 : decode cX12_readsNumber 72 = .ok (.iadd, 1) := by decide +kernel
theorem dX12_readsNumber_73 : decode cX12_readsNumber 73 = .ok (.putfield 117, 3) := by decide +kernel
theorem dX12_readsNumber_76 : decode cX12_readsNumber 76 = .ok (.goto (-71), 3) := by decide +kernel
theorem dX12_readsNumber_79 : decode cX12_readsNumber 79 = .ok (.aload_n 0, 1) := by decide +kernel
theorem dX12_readsNumber_80 : decode cX12_readsNumber 80 = .ok (.aload_n 0, 1) := by decide +kernel
theorem dX12_readsNumber_81 : decode cX12_readsNumber 81 = .ok (.getfield 117, 3) := by decide +kernel
theorem dX12_readsNumber_84 : decode cX12_readsNumber 84 = .ok (.aload_n 0, 1) := by decide +kernel
theorem dX12_readsNumber_85 : decode cX12_readsNumber 85 = .ok (.getfield 120, 3) := by decide +kernel
theorem dX12_readsNumber_88 : decode cX12_readsNumber 88 = .ok (.isub, 1) := by decide +kernel
theorem dX12_readsNumber_89 : decode cX12_readsNumber 89 = .ok (.iconst 4, 1) := by decide +kernel
theorem dX12_readsNumber_90 : decode cX12_readsNumber 90 = .ok (.if_icmp .le 8, 3) := by decide +kernel
theorem dX12_readsNumber_93 : decode cX12_readsNumber 93 = .ok (.bipush 101, 2) := by decide +kernel
theorem dX12_readsNumber_95 : decode cX12_readsNumber 95 = .ok (.goto 5, 3) := by decide +kernel
theorem dX12_readsNumber_98 : decode cX12_readsNumber 98 = .ok (.bipush 100, 2) := by decide +kernel
theorem dX12_readsNumber_100 : decode cX12_readsNumber 100 = .ok (.putfield 126, 3) := by decide +kernel
theorem dX12_readsNumber_103 : decode cX12_readsNumber 103 = .ok (.return_, 1) := by decide +kernel
theorem dX12_next_0 : decode cX12_next 0 = .ok (.aload_n 0, 1) := by decide +kernel
theorem dX12_next_1 : decode cX12_next 1 = .ok (.aload_n 0, 1) := by decide +kernel
theorem dX12_next_2 : decode cX12_next 2 = .ok (.getfield 117, 3) := by decide +kernel
theorem dX12_next_5 : decode cX12_next 5 = .ok (.invokevirtual 123, 3) := by decide +kernel
theorem dX12_next_8 : decode cX12_next 8 = .ok (.bipush 32, 2) := by decide +kernel
theorem dX12_next_10 : decode cX12_next 10 = .ok (.if_icmp .ne 16, 3) := by decide +kernel
theorem dX12_next_13 : decode cX12_next 13 = .ok (.aload_n 0, 1) := by decide +kernel
theorem dX12_next_14 : decode cX12_next 14 = .ok (.dup, 1) := by decide +kernel
theorem dX12_next_15 : decode cX12_next 15 = .ok (.getfield 117, 3) := by decide +kernel
theorem dX12_next_18 : decode cX12_next 18 = .ok (.iconst 1, 1) := by decide +kernel
theorem dX12_next_19 : decode cX12_next 19 = .ok (.iadd, 1) := by decide +kernel
theorem dX12_next_20 : decode cX12_next 20 = .ok (.putfield 117, 3) := by decide +kernel
theorem dX12_next_23 : decode cX12_next 23 = .ok (.goto (-23), 3) := by decide +kernel
theorem dX12_next_26 : decode cX12_next 26 = .ok (.aload_n 0, 1) := by decide +kernel
theorem dX12_next_27 : decode cX12_next 27 = .ok (.aload_n 0, 1) := by decide +kernel
theorem dX12_next_28 : decode cX12_next 28 = .ok (.getfield 117, 3) := by decide +kernel
theorem dX12_next_31 : decode cX12_next 31 = .ok (.putfield 120, 3) := by decide +kernel
theorem dX12_next_34 : decode cX12_next 34 = .ok (.aload_n 0, 1) := by decide +kernel
theorem dX12_next_35 : decode cX12_next 35 = .ok (.aload_n 0, 1) := by decide +kernel
theorem dX12_next_36 : decode cX12_next 36 = .ok (.getfield 117, 3) := by decide +kernel
theorem dX12_next_39 : decode cX12_next 39 = .ok (.invokevirtual 123, 3) := by decide +kernel
theorem dX12_next_42 : decode cX12_next 42 = .ok (.istore_n 1, 1) := by decide +kernel
theorem dX12_next_43 : decode cX12_next 43 = .ok (.iload_n 1, 1) := by decide +kernel
theorem dX12_next_44 : decode cX12_next 44 = .ok (.ifCond .ge 11, 3) := by decide +kernel
theorem dX12_next_47 : decode cX12_next 47 = .ok (.aload_n 0, 1) := by decide +kernel
theorem dX12_next_48 : decode cX12_next 48 = .ok (.iconst (-1), 1) := by decide +kernel
theorem dX12_next_49 : decode cX12_next 49 = .ok (.putfield 126, 3) := by decide +kernel
theorem dX12_next_52 : decode cX12_next 52 = .ok (.goto 58, 3) := by decide +kernel
theorem dX12_next_55 : decode cX12_next 55 = .ok (.iload_n 1, 1) := by decide +kernel
theorem dX12_next_56 : decode cX12_next 56 = .ok (.bipush 97, 2) := by decide +kernel
theorem dX12_next_58 : decode cX12_next 58 = .ok (.bipush 122, 2) := by decide +kernel
theorem dX12_next_60 : decode cX12_next 60 = .ok (.invokestatic 71, 3) := by decide +kernel
theorem dX12_next_63 : decode cX12_next 63 = .ok (.ifCond .eq 10, 3) := by decide +kernel
theorem dX12_next_66 : decode cX12_next 66 = .ok (.aload_n 0, 1) := by decide +kernel
theorem dX12_next_67 : decode cX12_next 67 = .ok (.invokevirtual 136, 3) := by decide +kernel
theorem dX12_next_70 : decode cX12_next 70 = .ok (.goto 40, 3) := by decide +kernel
theorem dX12_next_73 : decode cX12_next 73 = .ok (.iload_n 1, 1) := by decide +kernel
theorem dX12_next_74 : decode cX12_next 74 = .ok (.bipush 48, 2) := by decide +kernel
theorem dX12_next_76 : decode cX12_next 76 = .ok (.bipush 57, 2) := by decide +kernel
theorem dX12_next_78 : decode cX12_next 78 = .ok (.invokestatic 71, 3) := by decide +kernel
theorem dX12_next_81 : decode cX12_next 81 = .ok (.ifCond .eq 10, 3) := by decide +kernel
theorem dX12_next_84 : decode cX12_next 84 = .ok (.aload_n 0, 1) := by decide +kernel
theorem dX12_next_85 : decode cX12_next 85 = .ok (.invokevirtual 139, 3) := by decide +kernel
theorem dX12_next_88 : decode cX12_next 88 = .ok (.goto 22, 3) := by decide +kernel
theorem dX12_next_91 : decode cX12_next 91 = .ok (.aload_n 0, 1) := by decide +kernel
theorem dX12_next_92 : decode cX12_next 92 = .ok (.sipush 200, 3) := by decide +kernel
theorem dX12_next_95 : decode cX12_next 95 = .ok (.iload_n 1, 1) := by decide +kernel
theorem dX12_next_96 : decode cX12_next 96 = .ok (.iadd, 1) := by decide +kernel
theorem dX12_next_97 : decode cX12_next 97 = .ok (.putfield 126, 3) := by decide +kernel
theorem dX12_next_100 : decode cX12_next 100 = .ok (.aload_n 0, 1) := by decide +kernel
theorem dX12_next_101 : decode cX12_next 101 = .ok (.dup, 1) := by decide +kernel
theorem dX12_next_102 : decode cX12_next 102 = .ok (.getfield 117, 3) := by decide +kernel
theorem dX12_next_105 : decode cX12_next 105 = .ok (.iconst 1, 1) := by decide +kernel
theorem dX12_next_106 : decode cX12_next 106 = .ok (.iadd, 1) := by decide +kernel
theorem dX12_next_107 : decode cX12_next 107 = .ok (.putfield 117, 3) := by decide +kernel
theorem dX12_next_110 : decode cX12_next 110 = .ok (.return_, 1) := by decide +kernel
theorem dX12_takes_0 : decode cX12_takes 0 = .ok (.aload_n 0, 1) := by decide +kernel
theorem dX12_takes_1 : decode cX12_takes 1 = .ok (.getfield 126, 3) := by decide +kernel
theorem dX12_takes_4 : decode cX12_takes 4 = .ok (.iload_n 1, 1) := by decide +kernel
theorem dX12_takes_5 : decode cX12_takes 5 = .ok (.if_icmp .ne 7, 3) := by decide +kernel
theorem dX12_takes_8 : decode cX12_takes 8 = .ok (.iconst 1, 1) := by decide +kernel
theorem dX12_takes_9 : decode cX12_takes 9 = .ok (.goto 4, 3) := by decide +kernel
theorem dX12_takes_12 : decode cX12_takes 12 = .ok (.iconst 0, 1) := by decide +kernel
theorem dX12_takes_13 : decode cX12_takes 13 = .ok (.istore_n 2, 1) := by decide +kernel
theorem dX12_takes_14 : decode cX12_takes 14 = .ok (.iload_n 2, 1) := by decide +kernel
theorem dX12_takes_15 : decode cX12_takes 15 = .ok (.ifCond .eq 7, 3) := by decide +kernel
theorem dX12_takes_18 : decode cX12_takes 18 = .ok (.aload_n 0, 1) := by decide +kernel
theorem dX12_takes_19 : decode cX12_takes 19 = .ok (.invokevirtual 142, 3) := by decide +kernel
theorem dX12_takes_22 : decode cX12_takes 22 = .ok (.iload_n 2, 1) := by decide +kernel
theorem dX12_takes_23 : decode cX12_takes 23 = .ok (.ireturn, 1) := by decide +kernel
theorem dX12_lays_0 : decode cX12_lays 0 = .ok (.aload_n 0, 1) := by decide +kernel
theorem dX12_lays_1 : decode cX12_lays 1 = .ok (.getfield 29, 3) := by decide +kernel
theorem dX12_lays_4 : decode cX12_lays 4 = .ok (.aload_n 0, 1) := by decide +kernel
theorem dX12_lays_5 : decode cX12_lays 5 = .ok (.getfield 145, 3) := by decide +kernel
theorem dX12_lays_8 : decode cX12_lays 8 = .ok (.iload_n 1, 1) := by decide +kernel
theorem dX12_lays_9 : decode cX12_lays 9 = .ok (.iastore, 1) := by decide +kernel
theorem dX12_lays_10 : decode cX12_lays 10 = .ok (.aload_n 0, 1) := by decide +kernel
theorem dX12_lays_11 : decode cX12_lays 11 = .ok (.dup, 1) := by decide +kernel
theorem dX12_lays_12 : decode cX12_lays 12 = .ok (.getfield 145, 3) := by decide +kernel
theorem dX12_lays_15 : decode cX12_lays 15 = .ok (.iconst 1, 1) := by decide +kernel
theorem dX12_lays_16 : decode cX12_lays 16 = .ok (.iadd, 1) := by decide +kernel
theorem dX12_lays_17 : decode cX12_lays 17 = .ok (.putfield 145, 3) := by decide +kernel
theorem dX12_lays_20 : decode cX12_lays 20 = .ok (.return_, 1) := by decide +kernel
theorem dX12_readsValue_0 : decode cX12_readsValue 0 = .ok (.aload_n 0, 1) := by decide +kernel
theorem dX12_readsValue_1 : decode cX12_readsValue 1 = .ok (.getfield 126, 3) := by decide +kernel
theorem dX12_readsValue_4 : decode cX12_readsValue 4 = .ok (.bipush 100, 2) := by decide +kernel
theorem dX12_readsValue_6 : decode cX12_readsValue 6 = .ok (.if_icmp .eq 17, 3) := by decide +kernel
theorem dX12_readsValue_9 : decode cX12_readsValue 9 = .ok (.aload_n 0, 1) := by decide +kernel
theorem dX12_readsValue_10 : decode cX12_readsValue 10 = .ok (.getfield 126, 3) := by decide +kernel
theorem dX12_readsValue_13 : decode cX12_readsValue 13 = .ok (.bipush 13, 2) := by decide +kernel
theorem dX12_readsValue_15 : decode cX12_readsValue 15 = .ok (.bipush 17, 2) := by decide +kernel
theorem dX12_readsValue_17 : decode cX12_readsValue 17 = .ok (.invokestatic 71, 3) := by decide +kernel
theorem dX12_readsValue_20 : decode cX12_readsValue 20 = .ok (.ifCond .eq 7, 3) := by decide +kernel
theorem dX12_readsValue_23 : decode cX12_readsValue 23 = .ok (.iconst 1, 1) := by decide +kernel
theorem dX12_readsValue_24 : decode cX12_readsValue 24 = .ok (.goto 4, 3) := by decide +kernel
theorem dX12_readsValue_27 : decode cX12_readsValue 27 = .ok (.iconst 0, 1) := by decide +kernel
theorem dX12_readsValue_28 : decode cX12_readsValue 28 = .ok (.istore_n 1, 1) := by decide +kernel
theorem dX12_readsValue_29 : decode cX12_readsValue 29 = .ok (.iload_n 1, 1) := by decide +kernel
theorem dX12_readsValue_30 : decode cX12_readsValue 30 = .ok (.ifCond .eq 38, 3) := by decide +kernel
theorem dX12_readsValue_33 : decode cX12_readsValue 33 = .ok (.aload_n 0, 1) := by decide +kernel
theorem dX12_readsValue_34 : decode cX12_readsValue 34 = .ok (.aload_n 0, 1) := by decide +kernel
theorem dX12_readsValue_35 : decode cX12_readsValue 35 = .ok (.getfield 126, 3) := by decide +kernel
theorem dX12_readsValue_38 : decode cX12_readsValue 38 = .ok (.bipush 100, 2) := by decide +kernel
theorem dX12_readsValue_40 : decode cX12_readsValue 40 = .ok (.if_icmp .ne 10, 3) := by decide +kernel
theorem dX12_readsValue_43 : decode cX12_readsValue 43 = .ok (.aload_n 0, 1) := by decide +kernel
theorem dX12_readsValue_44 : decode cX12_readsValue 44 = .ok (.getfield 133, 3) := by decide +kernel
theorem dX12_readsValue_47 : decode cX12_readsValue 47 = .ok (.goto 14, 3) := by decide +kernel
theorem dX12_readsValue_50 : decode cX12_readsValue 50 = .ok (.sipush 10000, 3) := by decide +kernel
theorem dX12_readsValue_53 : decode cX12_readsValue 53 = .ok (.aload_n 0, 1) := by decide +kernel
theorem dX12_readsValue_54 : decode cX12_readsValue 54 = .ok (.getfield 126, 3) := by decide +kernel
theorem dX12_readsValue_57 : decode cX12_readsValue 57 = .ok (.iadd, 1) := by decide +kernel
theorem dX12_readsValue_58 : decode cX12_readsValue 58 = .ok (.bipush 13, 2) := by decide +kernel
theorem dX12_readsValue_60 : decode cX12_readsValue 60 = .ok (.isub, 1) := by decide +kernel
theorem dX12_readsValue_61 : decode cX12_readsValue 61 = .ok (.invokevirtual 148, 3) := by decide +kernel
theorem dX12_readsValue_64 : decode cX12_readsValue 64 = .ok (.aload_n 0, 1) := by decide +kernel
theorem dX12_readsValue_65 : decode cX12_readsValue 65 = .ok (.invokevirtual 142, 3) := by decide +kernel
theorem dX12_readsValue_68 : decode cX12_readsValue 68 = .ok (.iload_n 1, 1) := by decide +kernel
theorem dX12_readsValue_69 : decode cX12_readsValue 69 = .ok (.ireturn, 1) := by decide +kernel
theorem dX12_readsLike_0 : decode cX12_readsLike 0 = .ok (.aload_n 0, 1) := by decide +kernel
theorem dX12_readsLike_1 : decode cX12_readsLike 1 = .ok (.invokevirtual 152, 3) := by decide +kernel
theorem dX12_readsLike_4 : decode cX12_readsLike 4 = .ok (.ifCond .ne 5, 3) := by decide +kernel
theorem dX12_readsLike_7 : decode cX12_readsLike 7 = .ok (.iconst 0, 1) := by decide +kernel
theorem dX12_readsLike_8 : decode cX12_readsLike 8 = .ok (.ireturn, 1) := by decide +kernel
theorem dX12_readsLike_9 : decode cX12_readsLike 9 = .ok (.aload_n 0, 1) := by decide +kernel
theorem dX12_readsLike_10 : decode cX12_readsLike 10 = .ok (.getfield 126, 3) := by decide +kernel
theorem dX12_readsLike_13 : decode cX12_readsLike 13 = .ok (.sipush 260, 3) := by decide +kernel
theorem dX12_readsLike_16 : decode cX12_readsLike 16 = .ok (.if_icmp .ne 9, 3) := by decide +kernel
theorem dX12_readsLike_19 : decode cX12_readsLike 19 = .ok (.sipush 10010, 3) := by decide +kernel
theorem dX12_readsLike_22 : decode cX12_readsLike 22 = .ok (.goto 36, 3) := by decide +kernel
theorem dX12_readsLike_25 : decode cX12_readsLike 25 = .ok (.aload_n 0, 1) := by decide +kernel
theorem dX12_readsLike_26 : decode cX12_readsLike 26 = .ok (.getfield 126, 3) := by decide +kernel
theorem dX12_readsLike_29 : decode cX12_readsLike 29 = .ok (.sipush 261, 3) := by decide +kernel
theorem dX12_readsLike_32 : decode cX12_readsLike 32 = .ok (.if_icmp .ne 9, 3) := by decide +kernel
theorem dX12_readsLike_35 : decode cX12_readsLike 35 = .ok (.sipush 10011, 3) := by decide +kernel
theorem dX12_readsLike_38 : decode cX12_readsLike 38 = .ok (.goto 20, 3) := by decide +kernel
theorem dX12_readsLike_41 : decode cX12_readsLike 41 = .ok (.aload_n 0, 1) := by decide +kernel
theorem dX12_readsLike_42 : decode cX12_readsLike 42 = .ok (.getfield 126, 3) := by decide +kernel
theorem dX12_readsLike_45 : decode cX12_readsLike 45 = .ok (.sipush 262, 3) := by decide +kernel
theorem dX12_readsLike_48 : decode cX12_readsLike 48 = .ok (.if_icmp .ne 9, 3) := by decide +kernel
theorem dX12_readsLike_51 : decode cX12_readsLike 51 = .ok (.sipush 10012, 3) := by decide +kernel
theorem dX12_readsLike_54 : decode cX12_readsLike 54 = .ok (.goto 4, 3) := by decide +kernel
theorem dX12_readsLike_57 : decode cX12_readsLike 57 = .ok (.iconst 0, 1) := by decide +kernel
theorem dX12_readsLike_58 : decode cX12_readsLike 58 = .ok (.istore_n 1, 1) := by decide +kernel
theorem dX12_readsLike_59 : decode cX12_readsLike 59 = .ok (.iload_n 1, 1) := by decide +kernel
theorem dX12_readsLike_60 : decode cX12_readsLike 60 = .ok (.ifCond .ne 5, 3) := by decide +kernel
theorem dX12_readsLike_63 : decode cX12_readsLike 63 = .ok (.iconst 0, 1) := by decide +kernel
theorem dX12_readsLike_64 : decode cX12_readsLike 64 = .ok (.ireturn, 1) := by decide +kernel
theorem dX12_readsLike_65 : decode cX12_readsLike 65 = .ok (.aload_n 0, 1) := by decide +kernel
theorem dX12_readsLike_66 : decode cX12_readsLike 66 = .ok (.invokevirtual 142, 3) := by decide +kernel
theorem dX12_readsLike_69 : decode cX12_readsLike 69 = .ok (.aload_n 0, 1) := by decide +kernel
theorem dX12_readsLike_70 : decode cX12_readsLike 70 = .ok (.invokevirtual 152, 3) := by decide +kernel
theorem dX12_readsLike_73 : decode cX12_readsLike 73 = .ok (.ifCond .ne 5, 3) := by decide +kernel
theorem dX12_readsLike_76 : decode cX12_readsLike 76 = .ok (.iconst 0, 1) := by decide +kernel
theorem dX12_readsLike_77 : decode cX12_readsLike 77 = .ok (.ireturn, 1) := by decide +kernel
theorem dX12_readsLike_78 : decode cX12_readsLike 78 = .ok (.aload_n 0, 1) := by decide +kernel
theorem dX12_readsLike_79 : decode cX12_readsLike 79 = .ok (.iload_n 1, 1) := by decide +kernel
theorem dX12_readsLike_80 : decode cX12_readsLike 80 = .ok (.invokevirtual 148, 3) := by decide +kernel
theorem dX12_readsLike_83 : decode cX12_readsLike 83 = .ok (.iconst 1, 1) := by decide +kernel
theorem dX12_readsLike_84 : decode cX12_readsLike 84 = .ok (.ireturn, 1) := by decide +kernel
theorem dX12_readsWithin_0 : decode cX12_readsWithin 0 = .ok (.aload_n 0, 1) := by decide +kernel
theorem dX12_readsWithin_1 : decode cX12_readsWithin 1 = .ok (.getfield 156, 3) := by decide +kernel
theorem dX12_readsWithin_4 : decode cX12_readsWithin 4 = .ok (.iconst 3, 1) := by decide +kernel
theorem dX12_readsWithin_5 : decode cX12_readsWithin 5 = .ok (.if_icmp .ne 5, 3) := by decide +kernel
theorem dX12_readsWithin_8 : decode cX12_readsWithin 8 = .ok (.iconst 0, 1) := by decide +kernel
theorem dX12_readsWithin_9 : decode cX12_readsWithin 9 = .ok (.ireturn, 1) := by decide +kernel
theorem dX12_readsWithin_10 : decode cX12_readsWithin 10 = .ok (.aload_n 0, 1) := by decide +kernel
theorem dX12_readsWithin_11 : decode cX12_readsWithin 11 = .ok (.dup, 1) := by decide +kernel
theorem dX12_readsWithin_12 : decode cX12_readsWithin 12 = .ok (.getfield 156, 3) := by decide +kernel
theorem dX12_readsWithin_15 : decode cX12_readsWithin 15 = .ok (.iconst 1, 1) := by decide +kernel
theorem dX12_readsWithin_16 : decode cX12_readsWithin 16 = .ok (.iadd, 1) := by decide +kernel
theorem dX12_readsWithin_17 : decode cX12_readsWithin 17 = .ok (.putfield 156, 3) := by decide +kernel
theorem dX12_readsWithin_20 : decode cX12_readsWithin 20 = .ok (.aload_n 0, 1) := by decide +kernel
theorem dX12_readsWithin_21 : decode cX12_readsWithin 21 = .ok (.invokevirtual 142, 3) := by decide +kernel
theorem dX12_readsWithin_24 : decode cX12_readsWithin 24 = .ok (.aload_n 0, 1) := by decide +kernel
theorem dX12_readsWithin_25 : decode cX12_readsWithin 25 = .ok (.invokevirtual 159, 3) := by decide +kernel
theorem dX12_readsWithin_28 : decode cX12_readsWithin 28 = .ok (.ifCond .eq 13, 3) := by decide +kernel
theorem dX12_readsWithin_31 : decode cX12_readsWithin 31 = .ok (.aload_n 0, 1) := by decide +kernel
theorem dX12_readsWithin_32 : decode cX12_readsWithin 32 = .ok (.sipush 241, 3) := by decide +kernel
theorem dX12_readsWithin_35 : decode cX12_readsWithin 35 = .ok (.invokevirtual 162, 3) := by decide +kernel
theorem dX12_readsWithin_38 : decode cX12_readsWithin 38 = .ok (.ifCond .ne 5, 3) := by decide +kernel
theorem dX12_readsWithin_41 : decode cX12_readsWithin 41 = .ok (.iconst 0, 1) := by decide +kernel
theorem dX12_readsWithin_42 : decode cX12_readsWithin 42 = .ok (.ireturn, 1) := by decide +kernel
theorem dX12_readsWithin_43 : decode cX12_readsWithin 43 = .ok (.aload_n 0, 1) := by decide +kernel
theorem dX12_readsWithin_44 : decode cX12_readsWithin 44 = .ok (.dup, 1) := by decide +kernel
theorem dX12_readsWithin_45 : decode cX12_readsWithin 45 = .ok (.getfield 156, 3) := by decide +kernel
theorem dX12_readsWithin_48 : decode cX12_readsWithin 48 = .ok (.iconst 1, 1) := by decide +kernel
theorem dX12_readsWithin_49 : decode cX12_readsWithin 49 = .ok (.isub, 1) := by decide +kernel
theorem dX12_readsWithin_50 : decode cX12_readsWithin 50 = .ok (.putfield 156, 3) := by decide +kernel
theorem dX12_readsWithin_53 : decode cX12_readsWithin 53 = .ok (.iconst 1, 1) := by decide +kernel
theorem dX12_readsWithin_54 : decode cX12_readsWithin 54 = .ok (.ireturn, 1) := by decide +kernel
theorem dX12_readsOne_0 : decode cX12_readsOne 0 = .ok (.iconst 0, 1) := by decide +kernel
theorem dX12_readsOne_1 : decode cX12_readsOne 1 = .ok (.istore_n 1, 1) := by decide +kernel
theorem dX12_readsOne_2 : decode cX12_readsOne 2 = .ok (.aload_n 0, 1) := by decide +kernel
theorem dX12_readsOne_3 : decode cX12_readsOne 3 = .ok (.bipush 10, 2) := by decide +kernel
theorem dX12_readsOne_5 : decode cX12_readsOne 5 = .ok (.invokevirtual 162, 3) := by decide +kernel
theorem dX12_readsOne_8 : decode cX12_readsOne 8 = .ok (.ifCond .eq 9, 3) := by decide +kernel
theorem dX12_readsOne_11 : decode cX12_readsOne 11 = .ok (.iinc 1 1, 3) := by decide +kernel
theorem dX12_readsOne_14 : decode cX12_readsOne 14 = .ok (.goto (-12), 3) := by decide +kernel
theorem dX12_readsOne_17 : decode cX12_readsOne 17 = .ok (.aload_n 0, 1) := by decide +kernel
theorem dX12_readsOne_18 : decode cX12_readsOne 18 = .ok (.getfield 126, 3) := by decide +kernel
theorem dX12_readsOne_21 : decode cX12_readsOne 21 = .ok (.sipush 240, 3) := by decide +kernel
theorem dX12_readsOne_24 : decode cX12_readsOne 24 = .ok (.if_icmp .ne 10, 3) := by decide +kernel
theorem dX12_readsOne_27 : decode cX12_readsOne 27 = .ok (.aload_n 0, 1) := by decide +kernel
theorem dX12_readsOne_28 : decode cX12_readsOne 28 = .ok (.invokevirtual 165, 3) := by decide +kernel
theorem dX12_readsOne_31 : decode cX12_readsOne 31 = .ok (.goto 7, 3) := by decide +kernel
theorem dX12_readsOne_34 : decode cX12_readsOne 34 = .ok (.aload_n 0, 1) := by decide +kernel
theorem dX12_readsOne_35 : decode cX12_readsOne 35 = .ok (.invokevirtual 168, 3) := by decide +kernel
theorem dX12_readsOne_38 : decode cX12_readsOne 38 = .ok (.istore_n 2, 1) := by decide +kernel
theorem dX12_readsOne_39 : decode cX12_readsOne 39 = .ok (.iconst 0, 1) := by decide +kernel
theorem dX12_readsOne_40 : decode cX12_readsOne 40 = .ok (.istore_n 3, 1) := by decide +kernel
theorem dX12_readsOne_41 : decode cX12_readsOne 41 = .ok (.iload_n 3, 1) := by decide +kernel
theorem dX12_readsOne_42 : decode cX12_readsOne 42 = .ok (.iload_n 1, 1) := by decide +kernel
theorem dX12_readsOne_43 : decode cX12_readsOne 43 = .ok (.if_icmp .ge 20, 3) := by decide +kernel
theorem dX12_readsOne_46 : decode cX12_readsOne 46 = .ok (.iload_n 2, 1) := by decide +kernel
theorem dX12_readsOne_47 : decode cX12_readsOne 47 = .ok (.ifCond .eq 16, 3) := by decide +kernel
theorem dX12_readsOne_50 : decode cX12_readsOne 50 = .ok (.aload_n 0, 1) := by decide +kernel
theorem dX12_readsOne_51 : decode cX12_readsOne 51 = .ok (.sipush 10015, 3) := by decide +kernel
theorem dX12_readsOne_54 : decode cX12_readsOne 54 = .ok (.invokevirtual 148, 3) := by decide +kernel
theorem dX12_readsOne_57 : decode cX12_readsOne 57 = .ok (.iinc 3 1, 3) := by decide +kernel
theorem dX12_readsOne_60 : decode cX12_readsOne 60 = .ok (.goto (-19), 3) := by decide +kernel
theorem dX12_readsOne_63 : decode cX12_readsOne 63 = .ok (.iload_n 2, 1) := by decide +kernel
theorem dX12_readsOne_64 : decode cX12_readsOne 64 = .ok (.ireturn, 1) := by decide +kernel
theorem dX12_readsAll_0 : decode cX12_readsAll 0 = .ok (.aload_n 0, 1) := by decide +kernel
theorem dX12_readsAll_1 : decode cX12_readsAll 1 = .ok (.invokevirtual 171, 3) := by decide +kernel
theorem dX12_readsAll_4 : decode cX12_readsAll 4 = .ok (.istore_n 1, 1) := by decide +kernel
theorem dX12_readsAll_5 : decode cX12_readsAll 5 = .ok (.iload_n 1, 1) := by decide +kernel
theorem dX12_readsAll_6 : decode cX12_readsAll 6 = .ok (.ifCond .eq 31, 3) := by decide +kernel
theorem dX12_readsAll_9 : decode cX12_readsAll 9 = .ok (.aload_n 0, 1) := by decide +kernel
theorem dX12_readsAll_10 : decode cX12_readsAll 10 = .ok (.bipush 11, 2) := by decide +kernel
theorem dX12_readsAll_12 : decode cX12_readsAll 12 = .ok (.invokevirtual 162, 3) := by decide +kernel
theorem dX12_readsAll_15 : decode cX12_readsAll 15 = .ok (.ifCond .eq 22, 3) := by decide +kernel
theorem dX12_readsAll_18 : decode cX12_readsAll 18 = .ok (.aload_n 0, 1) := by decide +kernel
theorem dX12_readsAll_19 : decode cX12_readsAll 19 = .ok (.invokevirtual 171, 3) := by decide +kernel
theorem dX12_readsAll_22 : decode cX12_readsAll 22 = .ok (.istore_n 1, 1) := by decide +kernel
theorem dX12_readsAll_23 : decode cX12_readsAll 23 = .ok (.iload_n 1, 1) := by decide +kernel
theorem dX12_readsAll_24 : decode cX12_readsAll 24 = .ok (.ifCond .eq (-19), 3) := by decide +kernel
theorem dX12_readsAll_27 : decode cX12_readsAll 27 = .ok (.aload_n 0, 1) := by decide +kernel
theorem dX12_readsAll_28 : decode cX12_readsAll 28 = .ok (.sipush 10013, 3) := by decide +kernel
theorem dX12_readsAll_31 : decode cX12_readsAll 31 = .ok (.invokevirtual 148, 3) := by decide +kernel
theorem dX12_readsAll_34 : decode cX12_readsAll 34 = .ok (.goto (-29), 3) := by decide +kernel
theorem dX12_readsAll_37 : decode cX12_readsAll 37 = .ok (.iload_n 1, 1) := by decide +kernel
theorem dX12_readsAll_38 : decode cX12_readsAll 38 = .ok (.ireturn, 1) := by decide +kernel
theorem dX12_readsCondition_0 : decode cX12_readsCondition 0 = .ok (.aload_n 0, 1) := by decide +kernel
theorem dX12_readsCondition_1 : decode cX12_readsCondition 1 = .ok (.invokevirtual 174, 3) := by decide +kernel
theorem dX12_readsCondition_4 : decode cX12_readsCondition 4 = .ok (.istore_n 1, 1) := by decide +kernel
theorem dX12_readsCondition_5 : decode cX12_readsCondition 5 = .ok (.iload_n 1, 1) := by decide +kernel
theorem dX12_readsCondition_6 : decode cX12_readsCondition 6 = .ok (.ifCond .eq 31, 3) := by decide +kernel
theorem dX12_readsCondition_9 : decode cX12_readsCondition 9 = .ok (.aload_n 0, 1) := by decide +kernel
theorem dX12_readsCondition_10 : decode cX12_readsCondition 10 = .ok (.bipush 12, 2) := by decide +kernel
theorem dX12_readsCondition_12 : decode cX12_readsCondition 12 = .ok (.invokevirtual 162, 3) := by decide +kernel
theorem dX12_readsCondition_15 : decode cX12_readsCondition 15 = .ok (.ifCond .eq 22, 3) := by decide +kernel
theorem dX12_readsCondition_18 : decode cX12_readsCondition 18 = .ok (.aload_n 0, 1) := by decide +kernel
theorem dX12_readsCondition_19 : decode cX12_readsCondition 19 = .ok (.invokevirtual 174, 3) := by decide +kernel
theorem dX12_readsCondition_22 : decode cX12_readsCondition 22 = .ok (.istore_n 1, 1) := by decide +kernel
theorem dX12_readsCondition_23 : decode cX12_readsCondition 23 = .ok (.iload_n 1, 1) := by decide +kernel
theorem dX12_readsCondition_24 : decode cX12_readsCondition 24 = .ok (.ifCond .eq (-19), 3) := by decide +kernel
theorem dX12_readsCondition_27 : decode cX12_readsCondition 27 = .ok (.aload_n 0, 1) := by decide +kernel
theorem dX12_readsCondition_28 : decode cX12_readsCondition 28 = .ok (.sipush 10014, 3) := by decide +kernel
theorem dX12_readsCondition_31 : decode cX12_readsCondition 31 = .ok (.invokevirtual 148, 3) := by decide +kernel
theorem dX12_readsCondition_34 : decode cX12_readsCondition 34 = .ok (.goto (-29), 3) := by decide +kernel
theorem dX12_readsCondition_37 : decode cX12_readsCondition 37 = .ok (.iload_n 1, 1) := by decide +kernel
theorem dX12_readsCondition_38 : decode cX12_readsCondition 38 = .ok (.ireturn, 1) := by decide +kernel
theorem dX12_readsRule_0 : decode cX12_readsRule 0 = .ok (.iload_n 1, 1) := by decide +kernel
theorem dX12_readsRule_1 : decode cX12_readsRule 1 = .ok (.bipush 8, 2) := by decide +kernel
theorem dX12_readsRule_3 : decode cX12_readsRule 3 = .ok (.if_icmp .eq 15, 3) := by decide +kernel
theorem dX12_readsRule_6 : decode cX12_readsRule 6 = .ok (.aload_n 0, 1) := by decide +kernel
theorem dX12_readsRule_7 : decode cX12_readsRule 7 = .ok (.getfield 126, 3) := by decide +kernel
theorem dX12_readsRule_10 : decode cX12_readsRule 10 = .ok (.iconst 0, 1) := by decide +kernel
theorem dX12_readsRule_11 : decode cX12_readsRule 11 = .ok (.iconst 5, 1) := by decide +kernel
theorem dX12_readsRule_12 : decode cX12_readsRule 12 = .ok (.invokestatic 71, 3) := by decide +kernel
theorem dX12_readsRule_15 : decode cX12_readsRule 15 = .ok (.ifCond .ne 5, 3) := by decide +kernel
theorem dX12_readsRule_18 : decode cX12_readsRule 18 = .ok (.iconst 0, 1) := by decide +kernel
theorem dX12_readsRule_19 : decode cX12_readsRule 19 = .ok (.ireturn, 1) := by decide +kernel
theorem dX12_readsRule_20 : decode cX12_readsRule 20 = .ok (.aload_n 0, 1) := by decide +kernel
theorem dX12_readsRule_21 : decode cX12_readsRule 21 = .ok (.getfield 32, 3) := by decide +kernel
theorem dX12_readsRule_24 : decode cX12_readsRule 24 = .ok (.iconst 3, 1) := by decide +kernel
theorem dX12_readsRule_25 : decode cX12_readsRule 25 = .ok (.iload_n 1, 1) := by decide +kernel
theorem dX12_readsRule_26 : decode cX12_readsRule 26 = .ok (.imul, 1) := by decide +kernel
theorem dX12_readsRule_27 : decode cX12_readsRule 27 = .ok (.aload_n 0, 1) := by decide +kernel
theorem dX12_readsRule_28 : decode cX12_readsRule 28 = .ok (.getfield 126, 3) := by decide +kernel
theorem dX12_readsRule_31 : decode cX12_readsRule 31 = .ok (.iastore, 1) := by decide +kernel
theorem dX12_readsRule_32 : decode cX12_readsRule 32 = .ok (.aload_n 0, 1) := by decide +kernel
theorem dX12_readsRule_33 : decode cX12_readsRule 33 = .ok (.invokevirtual 142, 3) := by decide +kernel
theorem dX12_readsRule_36 : decode cX12_readsRule 36 = .ok (.aload_n 0, 1) := by decide +kernel
theorem dX12_readsRule_37 : decode cX12_readsRule 37 = .ok (.iconst 0, 1) := by decide +kernel
theorem dX12_readsRule_38 : decode cX12_readsRule 38 = .ok (.putfield 156, 3) := by decide +kernel
theorem dX12_readsRule_41 : decode cX12_readsRule 41 = .ok (.aload_n 0, 1) := by decide +kernel
theorem dX12_readsRule_42 : decode cX12_readsRule 42 = .ok (.bipush 9, 2) := by decide +kernel
theorem dX12_readsRule_44 : decode cX12_readsRule 44 = .ok (.invokevirtual 162, 3) := by decide +kernel
theorem dX12_readsRule_47 : decode cX12_readsRule 47 = .ok (.ifCond .eq 12, 3) := by decide +kernel
theorem dX12_readsRule_50 : decode cX12_readsRule 50 = .ok (.aload_n 0, 1) := by decide +kernel
theorem dX12_readsRule_51 : decode cX12_readsRule 51 = .ok (.invokevirtual 159, 3) := by decide +kernel
theorem dX12_readsRule_54 : decode cX12_readsRule 54 = .ok (.ifCond .ne 5, 3) := by decide +kernel
theorem dX12_readsRule_57 : decode cX12_readsRule 57 = .ok (.iconst 0, 1) := by decide +kernel
theorem dX12_readsRule_58 : decode cX12_readsRule 58 = .ok (.ireturn, 1) := by decide +kernel
theorem dX12_readsRule_59 : decode cX12_readsRule 59 = .ok (.aload_n 0, 1) := by decide +kernel
theorem dX12_readsRule_60 : decode cX12_readsRule 60 = .ok (.getfield 126, 3) := by decide +kernel
theorem dX12_readsRule_63 : decode cX12_readsRule 63 = .ok (.bipush 6, 2) := by decide +kernel
theorem dX12_readsRule_65 : decode cX12_readsRule 65 = .ok (.bipush 8, 2) := by decide +kernel
theorem dX12_readsRule_67 : decode cX12_readsRule 67 = .ok (.invokestatic 71, 3) := by decide +kernel
theorem dX12_readsRule_70 : decode cX12_readsRule 70 = .ok (.ifCond .ne 5, 3) := by decide +kernel
theorem dX12_readsRule_73 : decode cX12_readsRule 73 = .ok (.iconst 0, 1) := by decide +kernel
theorem dX12_readsRule_74 : decode cX12_readsRule 74 = .ok (.ireturn, 1) := by decide +kernel
theorem dX12_readsRule_75 : decode cX12_readsRule 75 = .ok (.aload_n 0, 1) := by decide +kernel
theorem dX12_readsRule_76 : decode cX12_readsRule 76 = .ok (.getfield 32, 3) := by decide +kernel
theorem dX12_readsRule_79 : decode cX12_readsRule 79 = .ok (.iconst 3, 1) := by decide +kernel
theorem dX12_readsRule_80 : decode cX12_readsRule 80 = .ok (.iload_n 1, 1) := by decide +kernel
theorem dX12_readsRule_81 : decode cX12_readsRule 81 = .ok (.imul, 1) := by decide +kernel
theorem dX12_readsRule_82 : decode cX12_readsRule 82 = .ok (.iconst 1, 1) := by decide +kernel
theorem dX12_readsRule_83 : decode cX12_readsRule 83 = .ok (.iadd, 1) := by decide +kernel
theorem dX12_readsRule_84 : decode cX12_readsRule 84 = .ok (.aload_n 0, 1) := by decide +kernel
theorem dX12_readsRule_85 : decode cX12_readsRule 85 = .ok (.getfield 126, 3) := by decide +kernel
theorem dX12_readsRule_88 : decode cX12_readsRule 88 = .ok (.bipush 6, 2) := by decide +kernel
theorem dX12_readsRule_90 : decode cX12_readsRule 90 = .ok (.isub, 1) := by decide +kernel
theorem dX12_readsRule_91 : decode cX12_readsRule 91 = .ok (.iastore, 1) := by decide +kernel
theorem dX12_readsRule_92 : decode cX12_readsRule 92 = .ok (.aload_n 0, 1) := by decide +kernel
theorem dX12_readsRule_93 : decode cX12_readsRule 93 = .ok (.getfield 32, 3) := by decide +kernel
theorem dX12_readsRule_96 : decode cX12_readsRule 96 = .ok (.iconst 3, 1) := by decide +kernel
theorem dX12_readsRule_97 : decode cX12_readsRule 97 = .ok (.iload_n 1, 1) := by decide +kernel
theorem dX12_readsRule_98 : decode cX12_readsRule 98 = .ok (.imul, 1) := by decide +kernel
theorem dX12_readsRule_99 : decode cX12_readsRule 99 = .ok (.iconst 2, 1) := by decide +kernel
theorem dX12_readsRule_100 : decode cX12_readsRule 100 = .ok (.iadd, 1) := by decide +kernel
theorem dX12_readsRule_101 : decode cX12_readsRule 101 = .ok (.aload_n 0, 1) := by decide +kernel
theorem dX12_readsRule_102 : decode cX12_readsRule 102 = .ok (.getfield 145, 3) := by decide +kernel
theorem dX12_readsRule_105 : decode cX12_readsRule 105 = .ok (.iastore, 1) := by decide +kernel
theorem dX12_readsRule_106 : decode cX12_readsRule 106 = .ok (.aload_n 0, 1) := by decide +kernel
theorem dX12_readsRule_107 : decode cX12_readsRule 107 = .ok (.invokevirtual 142, 3) := by decide +kernel
theorem dX12_readsRule_110 : decode cX12_readsRule 110 = .ok (.aload_n 0, 1) := by decide +kernel
theorem dX12_readsRule_111 : decode cX12_readsRule 111 = .ok (.sipush 259, 3) := by decide +kernel
theorem dX12_readsRule_114 : decode cX12_readsRule 114 = .ok (.invokevirtual 162, 3) := by decide +kernel
theorem dX12_readsRule_117 : decode cX12_readsRule 117 = .ok (.ireturn, 1) := by decide +kernel
theorem dX12_feed_0 : decode cX12_feed 0 = .ok (.iload_n 3, 1) := by decide +kernel
theorem dX12_feed_1 : decode cX12_feed 1 = .ok (.iconst 1, 1) := by decide +kernel
theorem dX12_feed_2 : decode cX12_feed 2 = .ok (.bipush 8, 2) := by decide +kernel
theorem dX12_feed_4 : decode cX12_feed 4 = .ok (.invokestatic 71, 3) := by decide +kernel
theorem dX12_feed_7 : decode cX12_feed 7 = .ok (.ifCond .ne 5, 3) := by decide +kernel
theorem dX12_feed_10 : decode cX12_feed 10 = .ok (.iconst (-1), 1) := by decide +kernel
theorem dX12_feed_11 : decode cX12_feed 11 = .ok (.ireturn, 1) := by decide +kernel
theorem dX12_feed_12 : decode cX12_feed 12 = .ok (.aload_n 0, 1) := by decide +kernel
theorem dX12_feed_13 : decode cX12_feed 13 = .ok (.getfield 113, 3) := by decide +kernel
theorem dX12_feed_16 : decode cX12_feed 16 = .ok (.iload_n 3, 1) := by decide +kernel
theorem dX12_feed_17 : decode cX12_feed 17 = .ok (.iadd, 1) := by decide +kernel
theorem dX12_feed_18 : decode cX12_feed 18 = .ok (.sipush 200, 3) := by decide +kernel
theorem dX12_feed_21 : decode cX12_feed 21 = .ok (.if_icmp .le 6, 3) := by decide +kernel
theorem dX12_feed_24 : decode cX12_feed 24 = .ok (.bipush (-2), 2) := by decide +kernel
theorem dX12_feed_26 : decode cX12_feed 26 = .ok (.ireturn, 1) := by decide +kernel
theorem dX12_feed_27 : decode cX12_feed 27 = .ok (.iconst 0, 1) := by decide +kernel
theorem dX12_feed_28 : decode cX12_feed 28 = .ok (.istore 4, 2) := by decide +kernel
theorem dX12_feed_30 : decode cX12_feed 30 = .ok (.iload 4, 2) := by decide +kernel
theorem dX12_feed_32 : decode cX12_feed 32 = .ok (.iload_n 3, 1) := by decide +kernel
theorem dX12_feed_33 : decode cX12_feed 33 = .ok (.if_icmp .ge 40, 3) := by decide +kernel
theorem dX12_feed_36 : decode cX12_feed 36 = .ok (.aload_n 0, 1) := by decide +kernel
theorem dX12_feed_37 : decode cX12_feed 37 = .ok (.getfield 22, 3) := by decide +kernel
theorem dX12_feed_40 : decode cX12_feed 40 = .ok (.aload_n 0, 1) := by decide +kernel
theorem dX12_feed_41 : decode cX12_feed 41 = .ok (.getfield 113, 3) := by decide +kernel
theorem dX12_feed_44 : decode cX12_feed 44 = .ok (.lload_n 1, 1) := by decide +kernel
theorem dX12_feed_45 : decode cX12_feed 45 = .ok (.bipush 8, 2) := by decide +kernel
theorem dX12_feed_47 : decode cX12_feed 47 = .ok (.iload 4, 2) := by decide +kernel
theorem dX12_feed_49 : decode cX12_feed 49 = .ok (.imul, 1) := by decide +kernel
theorem dX12_feed_50 : decode cX12_feed 50 = .ok (.lshr, 1) := by decide +kernel
theorem dX12_feed_51 : decode cX12_feed 51 = .ok (.ldc2_w 177, 3) := by decide +kernel
theorem dX12_feed_54 : decode cX12_feed 54 = .ok (.land, 1) := by decide +kernel
theorem dX12_feed_55 : decode cX12_feed 55 = .ok (.l2i, 1) := by decide +kernel
theorem dX12_feed_56 : decode cX12_feed 56 = .ok (.iastore, 1) := by decide +kernel
theorem dX12_feed_57 : decode cX12_feed 57 = .ok (.aload_n 0, 1) := by decide +kernel
theorem dX12_feed_58 : decode cX12_feed 58 = .ok (.dup, 1) := by decide +kernel
theorem dX12_feed_59 : decode cX12_feed 59 = .ok (.getfield 113, 3) := by decide +kernel
theorem dX12_feed_62 : decode cX12_feed 62 = .ok (.iconst 1, 1) := by decide +kernel
theorem dX12_feed_63 : decode cX12_feed 63 = .ok (.iadd, 1) := by decide +kernel
theorem dX12_feed_64 : decode cX12_feed 64 = .ok (.putfield 113, 3) := by decide +kernel
theorem dX12_feed_67 : decode cX12_feed 67 = .ok (.iinc 4 1, 3) := by decide +kernel
theorem dX12_feed_70 : decode cX12_feed 70 = .ok (.goto (-40), 3) := by decide +kernel
theorem dX12_feed_73 : decode cX12_feed 73 = .ok (.aload_n 0, 1) := by decide +kernel
theorem dX12_feed_74 : decode cX12_feed 74 = .ok (.getfield 113, 3) := by decide +kernel
theorem dX12_feed_77 : decode cX12_feed 77 = .ok (.ireturn, 1) := by decide +kernel
theorem dX12_rules_0 : decode cX12_rules 0 = .ok (.aload_n 0, 1) := by decide +kernel
theorem dX12_rules_1 : decode cX12_rules 1 = .ok (.iconst 0, 1) := by decide +kernel
theorem dX12_rules_2 : decode cX12_rules 2 = .ok (.putfield 117, 3) := by decide +kernel
theorem dX12_rules_5 : decode cX12_rules 5 = .ok (.aload_n 0, 1) := by decide +kernel
theorem dX12_rules_6 : decode cX12_rules 6 = .ok (.iconst 0, 1) := by decide +kernel
theorem dX12_rules_7 : decode cX12_rules 7 = .ok (.putfield 145, 3) := by decide +kernel
theorem dX12_rules_10 : decode cX12_rules 10 = .ok (.iconst 0, 1) := by decide +kernel
theorem dX12_rules_11 : decode cX12_rules 11 = .ok (.istore_n 1, 1) := by decide +kernel
theorem dX12_rules_12 : decode cX12_rules 12 = .ok (.aload_n 0, 1) := by decide +kernel
theorem dX12_rules_13 : decode cX12_rules 13 = .ok (.invokevirtual 142, 3) := by decide +kernel
theorem dX12_rules_16 : decode cX12_rules 16 = .ok (.iconst 1, 1) := by decide +kernel
theorem dX12_rules_17 : decode cX12_rules 17 = .ok (.istore_n 2, 1) := by decide +kernel
theorem dX12_rules_18 : decode cX12_rules 18 = .ok (.iload_n 2, 1) := by decide +kernel
theorem dX12_rules_19 : decode cX12_rules 19 = .ok (.ifCond .eq 23, 3) := by decide +kernel
theorem dX12_rules_22 : decode cX12_rules 22 = .ok (.aload_n 0, 1) := by decide +kernel
theorem dX12_rules_23 : decode cX12_rules 23 = .ok (.getfield 126, 3) := by decide +kernel
theorem dX12_rules_26 : decode cX12_rules 26 = .ok (.iconst (-1), 1) := by decide +kernel
theorem dX12_rules_27 : decode cX12_rules 27 = .ok (.if_icmp .eq 15, 3) := by decide +kernel
theorem dX12_rules_30 : decode cX12_rules 30 = .ok (.aload_n 0, 1) := by decide +kernel
theorem dX12_rules_31 : decode cX12_rules 31 = .ok (.iload_n 1, 1) := by decide +kernel
theorem dX12_rules_32 : decode cX12_rules 32 = .ok (.invokevirtual 179, 3) := by decide +kernel
theorem dX12_rules_35 : decode cX12_rules 35 = .ok (.istore_n 2, 1) := by decide +kernel
theorem dX12_rules_36 : decode cX12_rules 36 = .ok (.iinc 1 1, 3) := by decide +kernel
theorem dX12_rules_39 : decode cX12_rules 39 = .ok (.goto (-21), 3) := by decide +kernel
theorem dX12_rules_42 : decode cX12_rules 42 = .ok (.aload_n 0, 1) := by decide +kernel
theorem dX12_rules_43 : decode cX12_rules 43 = .ok (.iconst 0, 1) := by decide +kernel
theorem dX12_rules_44 : decode cX12_rules 44 = .ok (.putfield 113, 3) := by decide +kernel
theorem dX12_rules_47 : decode cX12_rules 47 = .ok (.iload_n 2, 1) := by decide +kernel
theorem dX12_rules_48 : decode cX12_rules 48 = .ok (.ifCond .ne 11, 3) := by decide +kernel
theorem dX12_rules_51 : decode cX12_rules 51 = .ok (.bipush (-100), 2) := by decide +kernel
theorem dX12_rules_53 : decode cX12_rules 53 = .ok (.aload_n 0, 1) := by decide +kernel
theorem dX12_rules_54 : decode cX12_rules 54 = .ok (.getfield 120, 3) := by decide +kernel
theorem dX12_rules_57 : decode cX12_rules 57 = .ok (.isub, 1) := by decide +kernel
theorem dX12_rules_58 : decode cX12_rules 58 = .ok (.ireturn, 1) := by decide +kernel
theorem dX12_rules_59 : decode cX12_rules 59 = .ok (.aload_n 0, 1) := by decide +kernel
theorem dX12_rules_60 : decode cX12_rules 60 = .ok (.getfield 9, 3) := by decide +kernel
theorem dX12_rules_63 : decode cX12_rules 63 = .ok (.bipush 7, 2) := by decide +kernel
theorem dX12_rules_65 : decode cX12_rules 65 = .ok (.iload_n 1, 1) := by decide +kernel
theorem dX12_rules_66 : decode cX12_rules 66 = .ok (.iastore, 1) := by decide +kernel
theorem dX12_rules_67 : decode cX12_rules 67 = .ok (.iconst 0, 1) := by decide +kernel
theorem dX12_rules_68 : decode cX12_rules 68 = .ok (.istore_n 3, 1) := by decide +kernel
theorem dX12_rules_69 : decode cX12_rules 69 = .ok (.iload_n 3, 1) := by decide +kernel
theorem dX12_rules_70 : decode cX12_rules 70 = .ok (.iconst 3, 1) := by decide +kernel
theorem dX12_rules_71 : decode cX12_rules 71 = .ok (.iload_n 1, 1) := by decide +kernel
theorem dX12_rules_72 : decode cX12_rules 72 = .ok (.imul, 1) := by decide +kernel
theorem dX12_rules_73 : decode cX12_rules 73 = .ok (.if_icmp .ge 24, 3) := by decide +kernel
theorem dX12_rules_76 : decode cX12_rules 76 = .ok (.aload_n 0, 1) := by decide +kernel
theorem dX12_rules_77 : decode cX12_rules 77 = .ok (.getfield 9, 3) := by decide +kernel
theorem dX12_rules_80 : decode cX12_rules 80 = .ok (.bipush 98, 2) := by decide +kernel
theorem dX12_rules_82 : decode cX12_rules 82 = .ok (.iload_n 3, 1) := by decide +kernel
theorem dX12_rules_83 : decode cX12_rules 83 = .ok (.iadd, 1) := by decide +kernel
theorem dX12_rules_84 : decode cX12_rules 84 = .ok (.aload_n 0, 1) := by decide +kernel
theorem dX12_rules_85 : decode cX12_rules 85 = .ok (.getfield 32, 3) := by decide +kernel
theorem dX12_rules_88 : decode cX12_rules 88 = .ok (.iload_n 3, 1) := by decide +kernel
theorem dX12_rules_89 : decode cX12_rules 89 = .ok (.iaload, 1) := by decide +kernel
theorem dX12_rules_90 : decode cX12_rules 90 = .ok (.iastore, 1) := by decide +kernel
theorem dX12_rules_91 : decode cX12_rules 91 = .ok (.iinc 3 1, 3) := by decide +kernel
theorem dX12_rules_94 : decode cX12_rules 94 = .ok (.goto (-25), 3) := by decide +kernel
theorem dX12_rules_97 : decode cX12_rules 97 = .ok (.iconst 0, 1) := by decide +kernel
theorem dX12_rules_98 : decode cX12_rules 98 = .ok (.istore_n 3, 1) := by decide +kernel
theorem dX12_rules_99 : decode cX12_rules 99 = .ok (.iload_n 3, 1) := by decide +kernel
theorem dX12_rules_100 : decode cX12_rules 100 = .ok (.aload_n 0, 1) := by decide +kernel
theorem dX12_rules_101 : decode cX12_rules 101 = .ok (.getfield 145, 3) := by decide +kernel
theorem dX12_rules_104 : decode cX12_rules 104 = .ok (.if_icmp .ge 24, 3) := by decide +kernel
theorem dX12_rules_107 : decode cX12_rules 107 = .ok (.aload_n 0, 1) := by decide +kernel
theorem dX12_rules_108 : decode cX12_rules 108 = .ok (.getfield 9, 3) := by decide +kernel
theorem dX12_rules_111 : decode cX12_rules 111 = .ok (.bipush 122, 2) := by decide +kernel
theorem dX12_rules_113 : decode cX12_rules 113 = .ok (.iload_n 3, 1) := by decide +kernel
theorem dX12_rules_114 : decode cX12_rules 114 = .ok (.iadd, 1) := by decide +kernel
theorem dX12_rules_115 : decode cX12_rules 115 = .ok (.aload_n 0, 1) := by decide +kernel
theorem dX12_rules_116 : decode cX12_rules 116 = .ok (.getfield 29, 3) := by decide +kernel
theorem dX12_rules_119 : decode cX12_rules 119 = .ok (.iload_n 3, 1) := by decide +kernel
theorem dX12_rules_120 : decode cX12_rules 120 = .ok (.iaload, 1) := by decide +kernel
theorem dX12_rules_121 : decode cX12_rules 121 = .ok (.iastore, 1) := by decide +kernel
theorem dX12_rules_122 : decode cX12_rules 122 = .ok (.iinc 3 1, 3) := by decide +kernel
theorem dX12_rules_125 : decode cX12_rules 125 = .ok (.goto (-26), 3) := by decide +kernel
theorem dX12_rules_128 : decode cX12_rules 128 = .ok (.iload_n 1, 1) := by decide +kernel
theorem dX12_rules_129 : decode cX12_rules 129 = .ok (.ireturn, 1) := by decide +kernel
theorem dX12_rainBy_0 : decode cX12_rainBy 0 = .ok (.iload_n 1, 1) := by decide +kernel
theorem dX12_rainBy_1 : decode cX12_rainBy 1 = .ok (.iconst 4, 1) := by decide +kernel
theorem dX12_rainBy_2 : decode cX12_rainBy 2 = .ok (.idiv, 1) := by decide +kernel
theorem dX12_rainBy_3 : decode cX12_rainBy 3 = .ok (.istore_n 2, 1) := by decide +kernel
theorem dX12_rainBy_4 : decode cX12_rainBy 4 = .ok (.iload_n 0, 1) := by decide +kernel
theorem dX12_rainBy_5 : decode cX12_rainBy 5 = .ok (.iconst 5, 1) := by decide +kernel
theorem dX12_rainBy_6 : decode cX12_rainBy 6 = .ok (.if_icmp .ge 9, 3) := by decide +kernel
theorem dX12_rainBy_9 : decode cX12_rainBy 9 = .ok (.iconst 5, 1) := by decide +kernel
theorem dX12_rainBy_10 : decode cX12_rainBy 10 = .ok (.iload_n 0, 1) := by decide +kernel
theorem dX12_rainBy_11 : decode cX12_rainBy 11 = .ok (.isub, 1) := by decide +kernel
theorem dX12_rainBy_12 : decode cX12_rainBy 12 = .ok (.goto 6, 3) := by decide +kernel
theorem dX12_rainBy_15 : decode cX12_rainBy 15 = .ok (.iload_n 0, 1) := by decide +kernel
theorem dX12_rainBy_16 : decode cX12_rainBy 16 = .ok (.iconst 5, 1) := by decide +kernel
theorem dX12_rainBy_17 : decode cX12_rainBy 17 = .ok (.isub, 1) := by decide +kernel
theorem dX12_rainBy_18 : decode cX12_rainBy 18 = .ok (.istore_n 3, 1) := by decide +kernel
theorem dX12_rainBy_19 : decode cX12_rainBy 19 = .ok (.iload_n 3, 1) := by decide +kernel
theorem dX12_rainBy_20 : decode cX12_rainBy 20 = .ok (.iload_n 2, 1) := by decide +kernel
theorem dX12_rainBy_21 : decode cX12_rainBy 21 = .ok (.if_icmp .ge 7, 3) := by decide +kernel
theorem dX12_rainBy_24 : decode cX12_rainBy 24 = .ok (.iload_n 3, 1) := by decide +kernel
theorem dX12_rainBy_25 : decode cX12_rainBy 25 = .ok (.goto 4, 3) := by decide +kernel
theorem dX12_rainBy_28 : decode cX12_rainBy 28 = .ok (.iload_n 2, 1) := by decide +kernel
theorem dX12_rainBy_29 : decode cX12_rainBy 29 = .ok (.istore 4, 2) := by decide +kernel
theorem dX12_rainBy_31 : decode cX12_rainBy 31 = .ok (.iload_n 1, 1) := by decide +kernel
theorem dX12_rainBy_32 : decode cX12_rainBy 32 = .ok (.iconst 4, 1) := by decide +kernel
theorem dX12_rainBy_33 : decode cX12_rainBy 33 = .ok (.irem, 1) := by decide +kernel
theorem dX12_rainBy_34 : decode cX12_rainBy 34 = .ok (.tableswitch 61 0 2 #[26, 35, 44], 26) := by decide +kernel
theorem dX12_rainBy_60 : decode cX12_rainBy 60 = .ok (.iload_n 0, 1) := by decide +kernel
theorem dX12_rainBy_61 : decode cX12_rainBy 61 = .ok (.iload_n 2, 1) := by decide +kernel
theorem dX12_rainBy_62 : decode cX12_rainBy 62 = .ok (.iadd, 1) := by decide +kernel
theorem dX12_rainBy_63 : decode cX12_rainBy 63 = .ok (.bipush 9, 2) := by decide +kernel
theorem dX12_rainBy_65 : decode cX12_rainBy 65 = .ok (.invokestatic 182, 3) := by decide +kernel
theorem dX12_rainBy_68 : decode cX12_rainBy 68 = .ok (.ireturn, 1) := by decide +kernel
theorem dX12_rainBy_69 : decode cX12_rainBy 69 = .ok (.iload_n 0, 1) := by decide +kernel
theorem dX12_rainBy_70 : decode cX12_rainBy 70 = .ok (.iload_n 2, 1) := by decide +kernel
theorem dX12_rainBy_71 : decode cX12_rainBy 71 = .ok (.isub, 1) := by decide +kernel
theorem dX12_rainBy_72 : decode cX12_rainBy 72 = .ok (.bipush 9, 2) := by decide +kernel
theorem dX12_rainBy_74 : decode cX12_rainBy 74 = .ok (.invokestatic 182, 3) := by decide +kernel
theorem dX12_rainBy_77 : decode cX12_rainBy 77 = .ok (.ireturn, 1) := by decide +kernel
theorem dX12_rainBy_78 : decode cX12_rainBy 78 = .ok (.iload_n 0, 1) := by decide +kernel
theorem dX12_rainBy_79 : decode cX12_rainBy 79 = .ok (.iconst 5, 1) := by decide +kernel
theorem dX12_rainBy_80 : decode cX12_rainBy 80 = .ok (.if_icmp .ge 10, 3) := by decide +kernel
theorem dX12_rainBy_83 : decode cX12_rainBy 83 = .ok (.iload_n 0, 1) := by decide +kernel
theorem dX12_rainBy_84 : decode cX12_rainBy 84 = .ok (.iload 4, 2) := by decide +kernel
theorem dX12_rainBy_86 : decode cX12_rainBy 86 = .ok (.iadd, 1) := by decide +kernel
theorem dX12_rainBy_87 : decode cX12_rainBy 87 = .ok (.goto 7, 3) := by decide +kernel
theorem dX12_rainBy_90 : decode cX12_rainBy 90 = .ok (.iload_n 0, 1) := by decide +kernel
theorem dX12_rainBy_91 : decode cX12_rainBy 91 = .ok (.iload 4, 2) := by decide +kernel
theorem dX12_rainBy_93 : decode cX12_rainBy 93 = .ok (.isub, 1) := by decide +kernel
theorem dX12_rainBy_94 : decode cX12_rainBy 94 = .ok (.ireturn, 1) := by decide +kernel
theorem dX12_rainBy_95 : decode cX12_rainBy 95 = .ok (.iload_n 0, 1) := by decide +kernel
theorem dX12_rainBy_96 : decode cX12_rainBy 96 = .ok (.ireturn, 1) := by decide +kernel
theorem dX12_given_0 : decode cX12_given 0 = .ok (.aload_n 0, 1) := by decide +kernel
theorem dX12_given_1 : decode cX12_given 1 = .ok (.getfield 9, 3) := by decide +kernel
theorem dX12_given_4 : decode cX12_given 4 = .ok (.iconst 4, 1) := by decide +kernel
theorem dX12_given_5 : decode cX12_given 5 = .ok (.dup2, 1) := by decide +kernel
theorem dX12_given_6 : decode cX12_given 6 = .ok (.iaload, 1) := by decide +kernel
theorem dX12_given_7 : decode cX12_given 7 = .ok (.aload_n 0, 1) := by decide +kernel
theorem dX12_given_8 : decode cX12_given 8 = .ok (.iload_n 1, 1) := by decide +kernel
theorem dX12_given_9 : decode cX12_given 9 = .ok (.invokevirtual 91, 3) := by decide +kernel
theorem dX12_given_12 : decode cX12_given 12 = .ok (.isub, 1) := by decide +kernel
theorem dX12_given_13 : decode cX12_given 13 = .ok (.iastore, 1) := by decide +kernel
theorem dX12_given_14 : decode cX12_given 14 = .ok (.aload_n 0, 1) := by decide +kernel
theorem dX12_given_15 : decode cX12_given 15 = .ok (.iload_n 1, 1) := by decide +kernel
theorem dX12_given_16 : decode cX12_given 16 = .ok (.iconst 4, 1) := by decide +kernel
theorem dX12_given_17 : decode cX12_given 17 = .ok (.aload_n 0, 1) := by decide +kernel
theorem dX12_given_18 : decode cX12_given 18 = .ok (.iload_n 1, 1) := by decide +kernel
theorem dX12_given_19 : decode cX12_given 19 = .ok (.iconst 4, 1) := by decide +kernel
theorem dX12_given_20 : decode cX12_given 20 = .ok (.invokevirtual 79, 3) := by decide +kernel
theorem dX12_given_23 : decode cX12_given 23 = .ok (.iconst 1, 1) := by decide +kernel
theorem dX12_given_24 : decode cX12_given 24 = .ok (.iadd, 1) := by decide +kernel
theorem dX12_given_25 : decode cX12_given 25 = .ok (.bipush 9, 2) := by decide +kernel
theorem dX12_given_27 : decode cX12_given 27 = .ok (.invokestatic 182, 3) := by decide +kernel
theorem dX12_given_30 : decode cX12_given 30 = .ok (.invokevirtual 185, 3) := by decide +kernel
theorem dX12_given_33 : decode cX12_given 33 = .ok (.aload_n 0, 1) := by decide +kernel
theorem dX12_given_34 : decode cX12_given 34 = .ok (.iload_n 1, 1) := by decide +kernel
theorem dX12_given_35 : decode cX12_given 35 = .ok (.invokevirtual 189, 3) := by decide +kernel
theorem dX12_given_38 : decode cX12_given 38 = .ok (.ifCond .ne 5, 3) := by decide +kernel
theorem dX12_given_41 : decode cX12_given 41 = .ok (.iconst 1, 1) := by decide +kernel
theorem dX12_given_42 : decode cX12_given 42 = .ok (.ireturn, 1) := by decide +kernel
theorem dX12_given_43 : decode cX12_given 43 = .ok (.iconst 2, 1) := by decide +kernel
theorem dX12_given_44 : decode cX12_given 44 = .ok (.aload_n 0, 1) := by decide +kernel
theorem dX12_given_45 : decode cX12_given 45 = .ok (.iload_n 1, 1) := by decide +kernel
theorem dX12_given_46 : decode cX12_given 46 = .ok (.iconst 4, 1) := by decide +kernel
theorem dX12_given_47 : decode cX12_given 47 = .ok (.invokevirtual 79, 3) := by decide +kernel
theorem dX12_given_50 : decode cX12_given 50 = .ok (.imul, 1) := by decide +kernel
theorem dX12_given_51 : decode cX12_given 51 = .ok (.aload_n 0, 1) := by decide +kernel
theorem dX12_given_52 : decode cX12_given 52 = .ok (.iload_n 1, 1) := by decide +kernel
theorem dX12_given_53 : decode cX12_given 53 = .ok (.iconst 5, 1) := by decide +kernel
theorem dX12_given_54 : decode cX12_given 54 = .ok (.invokevirtual 79, 3) := by decide +kernel
theorem dX12_given_57 : decode cX12_given 57 = .ok (.ifCond .ne 8, 3) := by decide +kernel
theorem dX12_given_60 : decode cX12_given 60 = .ok (.bipush 9, 2) := by decide +kernel
theorem dX12_given_62 : decode cX12_given 62 = .ok (.goto 4, 3) := by decide +kernel
theorem dX12_given_65 : decode cX12_given 65 = .ok (.iconst 0, 1) := by decide +kernel
theorem dX12_given_66 : decode cX12_given 66 = .ok (.iadd, 1) := by decide +kernel
theorem dX12_given_67 : decode cX12_given 67 = .ok (.istore_n 2, 1) := by decide +kernel
theorem dX12_given_68 : decode cX12_given 68 = .ok (.aload_n 0, 1) := by decide +kernel
theorem dX12_given_69 : decode cX12_given 69 = .ok (.iload_n 1, 1) := by decide +kernel
theorem dX12_given_70 : decode cX12_given 70 = .ok (.iconst 5, 1) := by decide +kernel
theorem dX12_given_71 : decode cX12_given 71 = .ok (.iconst 1, 1) := by decide +kernel
theorem dX12_given_72 : decode cX12_given 72 = .ok (.invokevirtual 185, 3) := by decide +kernel
theorem dX12_given_75 : decode cX12_given 75 = .ok (.aload_n 0, 1) := by decide +kernel
theorem dX12_given_76 : decode cX12_given 76 = .ok (.iload_n 1, 1) := by decide +kernel
theorem dX12_given_77 : decode cX12_given 77 = .ok (.iconst 4, 1) := by decide +kernel
theorem dX12_given_78 : decode cX12_given 78 = .ok (.iconst 0, 1) := by decide +kernel
theorem dX12_given_79 : decode cX12_given 79 = .ok (.invokevirtual 185, 3) := by decide +kernel
theorem dX12_given_82 : decode cX12_given 82 = .ok (.iload_n 2, 1) := by decide +kernel
theorem dX12_given_83 : decode cX12_given 83 = .ok (.ireturn, 1) := by decide +kernel
theorem dX12_meets_0 : decode cX12_meets 0 = .ok (.aload_n 0, 1) := by decide +kernel
theorem dX12_meets_1 : decode cX12_meets 1 = .ok (.iload_n 1, 1) := by decide +kernel
theorem dX12_meets_2 : decode cX12_meets 2 = .ok (.invokevirtual 192, 3) := by decide +kernel
theorem dX12_meets_5 : decode cX12_meets 5 = .ok (.istore_n 2, 1) := by decide +kernel
theorem dX12_meets_6 : decode cX12_meets 6 = .ok (.iload_n 2, 1) := by decide +kernel
theorem dX12_meets_7 : decode cX12_meets 7 = .ok (.ifCond .ne 21, 3) := by decide +kernel
theorem dX12_meets_10 : decode cX12_meets 10 = .ok (.aload_n 0, 1) := by decide +kernel
theorem dX12_meets_11 : decode cX12_meets 11 = .ok (.iload_n 1, 1) := by decide +kernel
theorem dX12_meets_12 : decode cX12_meets 12 = .ok (.invokevirtual 195, 3) := by decide +kernel
theorem dX12_meets_15 : decode cX12_meets 15 = .ok (.ifCond .eq 11, 3) := by decide +kernel
theorem dX12_meets_18 : decode cX12_meets 18 = .ok (.aload_n 0, 1) := by decide +kernel
theorem dX12_meets_19 : decode cX12_meets 19 = .ok (.iload_n 1, 1) := by decide +kernel
theorem dX12_meets_20 : decode cX12_meets 20 = .ok (.invokevirtual 198, 3) := by decide +kernel
theorem dX12_meets_23 : decode cX12_meets 23 = .ok (.goto 4, 3) := by decide +kernel
theorem dX12_meets_26 : decode cX12_meets 26 = .ok (.iconst 0, 1) := by decide +kernel
theorem dX12_meets_27 : decode cX12_meets 27 = .ok (.ireturn, 1) := by decide +kernel
theorem dX12_meets_28 : decode cX12_meets 28 = .ok (.iload_n 2, 1) := by decide +kernel
theorem dX12_meets_29 : decode cX12_meets 29 = .ok (.iconst 2, 1) := by decide +kernel
theorem dX12_meets_30 : decode cX12_meets 30 = .ok (.if_icmp .ne 34, 3) := by decide +kernel
theorem dX12_meets_33 : decode cX12_meets 33 = .ok (.aload_n 0, 1) := by decide +kernel
theorem dX12_meets_34 : decode cX12_meets 34 = .ok (.getfield 9, 3) := by decide +kernel
theorem dX12_meets_37 : decode cX12_meets 37 = .ok (.iconst 4, 1) := by decide +kernel
