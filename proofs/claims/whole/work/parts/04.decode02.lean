theorem d_MacroExpandModel_token_0 : decode b_MacroExpandModel_token 0 = .ok (.iload_n 1, 1) := by decide +kernel
theorem d_MacroExpandModel_token_1 : decode b_MacroExpandModel_token 1 = .ok (.invokestatic 104, 3) := by decide +kernel
theorem d_MacroExpandModel_token_4 : decode b_MacroExpandModel_token 4 = .ok (.ifCond .ne 6, 3) := by decide +kernel
theorem d_MacroExpandModel_token_7 : decode b_MacroExpandModel_token 7 = .ok (.bipush (-2), 2) := by decide +kernel
theorem d_MacroExpandModel_token_9 : decode b_MacroExpandModel_token 9 = .ok (.ireturn, 1) := by decide +kernel
theorem d_MacroExpandModel_token_10 : decode b_MacroExpandModel_token 10 = .ok (.aload_n 0, 1) := by decide +kernel
theorem d_MacroExpandModel_token_11 : decode b_MacroExpandModel_token 11 = .ok (.getfield 107, 3) := by decide +kernel
theorem d_MacroExpandModel_token_14 : decode b_MacroExpandModel_token 14 = .ok (.sipush 3000, 3) := by decide +kernel
theorem d_MacroExpandModel_token_17 : decode b_MacroExpandModel_token 17 = .ok (.if_icmp .ne 6, 3) := by decide +kernel
theorem d_MacroExpandModel_token_20 : decode b_MacroExpandModel_token 20 = .ok (.bipush (-4), 2) := by decide +kernel
theorem d_MacroExpandModel_token_22 : decode b_MacroExpandModel_token 22 = .ok (.ireturn, 1) := by decide +kernel
theorem d_MacroExpandModel_token_23 : decode b_MacroExpandModel_token 23 = .ok (.aload_n 0, 1) := by decide +kernel
theorem d_MacroExpandModel_token_24 : decode b_MacroExpandModel_token 24 = .ok (.getfield 7, 3) := by decide +kernel
theorem d_MacroExpandModel_token_27 : decode b_MacroExpandModel_token 27 = .ok (.aload_n 0, 1) := by decide +kernel
theorem d_MacroExpandModel_token_28 : decode b_MacroExpandModel_token 28 = .ok (.getfield 110, 3) := by decide +kernel
theorem d_MacroExpandModel_token_31 : decode b_MacroExpandModel_token 31 = .ok (.aload_n 0, 1) := by decide +kernel
theorem d_MacroExpandModel_token_32 : decode b_MacroExpandModel_token 32 = .ok (.getfield 107, 3) := by decide +kernel
theorem d_MacroExpandModel_token_35 : decode b_MacroExpandModel_token 35 = .ok (.iadd, 1) := by decide +kernel
theorem d_MacroExpandModel_token_36 : decode b_MacroExpandModel_token 36 = .ok (.sipush 4095, 3) := by decide +kernel
theorem d_MacroExpandModel_token_39 : decode b_MacroExpandModel_token 39 = .ok (.iand, 1) := by decide +kernel
theorem d_MacroExpandModel_token_40 : decode b_MacroExpandModel_token 40 = .ok (.iload_n 1, 1) := by decide +kernel
theorem d_MacroExpandModel_token_41 : decode b_MacroExpandModel_token 41 = .ok (.iastore, 1) := by decide +kernel
theorem d_MacroExpandModel_token_42 : decode b_MacroExpandModel_token 42 = .ok (.aload_n 0, 1) := by decide +kernel
theorem d_MacroExpandModel_token_43 : decode b_MacroExpandModel_token 43 = .ok (.dup, 1) := by decide +kernel
theorem d_MacroExpandModel_token_44 : decode b_MacroExpandModel_token 44 = .ok (.getfield 107, 3) := by decide +kernel
theorem d_MacroExpandModel_token_47 : decode b_MacroExpandModel_token 47 = .ok (.iconst 1, 1) := by decide +kernel
theorem d_MacroExpandModel_token_48 : decode b_MacroExpandModel_token 48 = .ok (.iadd, 1) := by decide +kernel
theorem d_MacroExpandModel_token_49 : decode b_MacroExpandModel_token 49 = .ok (.putfield 107, 3) := by decide +kernel
theorem d_MacroExpandModel_token_52 : decode b_MacroExpandModel_token 52 = .ok (.aload_n 0, 1) := by decide +kernel
theorem d_MacroExpandModel_token_53 : decode b_MacroExpandModel_token 53 = .ok (.getfield 107, 3) := by decide +kernel
theorem d_MacroExpandModel_token_56 : decode b_MacroExpandModel_token 56 = .ok (.ireturn, 1) := by decide +kernel
theorem d_MacroExpandModel_group_0 : decode b_MacroExpandModel_group 0 = .ok (.iload_n 1, 1) := by decide +kernel
theorem d_MacroExpandModel_group_1 : decode b_MacroExpandModel_group 1 = .ok (.ifCond .eq 66, 3) := by decide +kernel
theorem d_MacroExpandModel_group_4 : decode b_MacroExpandModel_group 4 = .ok (.aload_n 0, 1) := by decide +kernel
theorem d_MacroExpandModel_group_5 : decode b_MacroExpandModel_group 5 = .ok (.getfield 97, 3) := by decide +kernel
theorem d_MacroExpandModel_group_8 : decode b_MacroExpandModel_group 8 = .ok (.bipush 20, 2) := by decide +kernel
theorem d_MacroExpandModel_group_10 : decode b_MacroExpandModel_group 10 = .ok (.if_icmp .ne 6, 3) := by decide +kernel
theorem d_MacroExpandModel_group_13 : decode b_MacroExpandModel_group 13 = .ok (.bipush (-4), 2) := by decide +kernel
theorem d_MacroExpandModel_group_15 : decode b_MacroExpandModel_group 15 = .ok (.ireturn, 1) := by decide +kernel
theorem d_MacroExpandModel_group_16 : decode b_MacroExpandModel_group 16 = .ok (.iconst 0, 1) := by decide +kernel
theorem d_MacroExpandModel_group_17 : decode b_MacroExpandModel_group 17 = .ok (.istore_n 2, 1) := by decide +kernel
theorem d_MacroExpandModel_group_18 : decode b_MacroExpandModel_group 18 = .ok (.iload_n 2, 1) := by decide +kernel
theorem d_MacroExpandModel_group_19 : decode b_MacroExpandModel_group 19 = .ok (.sipush 200, 3) := by decide +kernel
theorem d_MacroExpandModel_group_22 : decode b_MacroExpandModel_group 22 = .ok (.if_icmp .ge 30, 3) := by decide +kernel
theorem d_MacroExpandModel_group_25 : decode b_MacroExpandModel_group 25 = .ok (.aload_n 0, 1) := by decide +kernel
theorem d_MacroExpandModel_group_26 : decode b_MacroExpandModel_group 26 = .ok (.getfield 38, 3) := by decide +kernel
theorem d_MacroExpandModel_group_29 : decode b_MacroExpandModel_group 29 = .ok (.sipush 200, 3) := by decide +kernel
theorem d_MacroExpandModel_group_32 : decode b_MacroExpandModel_group 32 = .ok (.aload_n 0, 1) := by decide +kernel
theorem d_MacroExpandModel_group_33 : decode b_MacroExpandModel_group 33 = .ok (.getfield 97, 3) := by decide +kernel
theorem d_MacroExpandModel_group_36 : decode b_MacroExpandModel_group 36 = .ok (.imul, 1) := by decide +kernel
theorem d_MacroExpandModel_group_37 : decode b_MacroExpandModel_group 37 = .ok (.iload_n 2, 1) := by decide +kernel
theorem d_MacroExpandModel_group_38 : decode b_MacroExpandModel_group 38 = .ok (.iadd, 1) := by decide +kernel
theorem d_MacroExpandModel_group_39 : decode b_MacroExpandModel_group 39 = .ok (.aload_n 0, 1) := by decide +kernel
theorem d_MacroExpandModel_group_40 : decode b_MacroExpandModel_group 40 = .ok (.getfield 35, 3) := by decide +kernel
theorem d_MacroExpandModel_group_43 : decode b_MacroExpandModel_group 43 = .ok (.iload_n 2, 1) := by decide +kernel
theorem d_MacroExpandModel_group_44 : decode b_MacroExpandModel_group 44 = .ok (.iaload, 1) := by decide +kernel
theorem d_MacroExpandModel_group_45 : decode b_MacroExpandModel_group 45 = .ok (.iastore, 1) := by decide +kernel
theorem d_MacroExpandModel_group_46 : decode b_MacroExpandModel_group 46 = .ok (.iinc 2 1, 3) := by decide +kernel
theorem d_MacroExpandModel_group_49 : decode b_MacroExpandModel_group 49 = .ok (.goto (-31), 3) := by decide +kernel
theorem d_MacroExpandModel_group_52 : decode b_MacroExpandModel_group 52 = .ok (.aload_n 0, 1) := by decide +kernel
theorem d_MacroExpandModel_group_53 : decode b_MacroExpandModel_group 53 = .ok (.dup, 1) := by decide +kernel
theorem d_MacroExpandModel_group_54 : decode b_MacroExpandModel_group 54 = .ok (.getfield 97, 3) := by decide +kernel
theorem d_MacroExpandModel_group_57 : decode b_MacroExpandModel_group 57 = .ok (.iconst 1, 1) := by decide +kernel
theorem d_MacroExpandModel_group_58 : decode b_MacroExpandModel_group 58 = .ok (.iadd, 1) := by decide +kernel
theorem d_MacroExpandModel_group_59 : decode b_MacroExpandModel_group 59 = .ok (.putfield 97, 3) := by decide +kernel
theorem d_MacroExpandModel_group_62 : decode b_MacroExpandModel_group 62 = .ok (.aload_n 0, 1) := by decide +kernel
theorem d_MacroExpandModel_group_63 : decode b_MacroExpandModel_group 63 = .ok (.getfield 97, 3) := by decide +kernel
theorem d_MacroExpandModel_group_66 : decode b_MacroExpandModel_group 66 = .ok (.ireturn, 1) := by decide +kernel
theorem d_MacroExpandModel_group_67 : decode b_MacroExpandModel_group 67 = .ok (.aload_n 0, 1) := by decide +kernel
theorem d_MacroExpandModel_group_68 : decode b_MacroExpandModel_group 68 = .ok (.getfield 97, 3) := by decide +kernel
theorem d_MacroExpandModel_group_71 : decode b_MacroExpandModel_group 71 = .ok (.ifCond .ne 6, 3) := by decide +kernel
theorem d_MacroExpandModel_group_74 : decode b_MacroExpandModel_group 74 = .ok (.bipush (-3), 2) := by decide +kernel
theorem d_MacroExpandModel_group_76 : decode b_MacroExpandModel_group 76 = .ok (.ireturn, 1) := by decide +kernel
theorem d_MacroExpandModel_group_77 : decode b_MacroExpandModel_group 77 = .ok (.aload_n 0, 1) := by decide +kernel
theorem d_MacroExpandModel_group_78 : decode b_MacroExpandModel_group 78 = .ok (.dup, 1) := by decide +kernel
theorem d_MacroExpandModel_group_79 : decode b_MacroExpandModel_group 79 = .ok (.getfield 97, 3) := by decide +kernel
theorem d_MacroExpandModel_group_82 : decode b_MacroExpandModel_group 82 = .ok (.iconst 1, 1) := by decide +kernel
theorem d_MacroExpandModel_group_83 : decode b_MacroExpandModel_group 83 = .ok (.isub, 1) := by decide +kernel
theorem d_MacroExpandModel_group_84 : decode b_MacroExpandModel_group 84 = .ok (.putfield 97, 3) := by decide +kernel
theorem d_MacroExpandModel_group_87 : decode b_MacroExpandModel_group 87 = .ok (.iconst 0, 1) := by decide +kernel
theorem d_MacroExpandModel_group_88 : decode b_MacroExpandModel_group 88 = .ok (.istore_n 2, 1) := by decide +kernel
theorem d_MacroExpandModel_group_89 : decode b_MacroExpandModel_group 89 = .ok (.iload_n 2, 1) := by decide +kernel
theorem d_MacroExpandModel_group_90 : decode b_MacroExpandModel_group 90 = .ok (.sipush 200, 3) := by decide +kernel
theorem d_MacroExpandModel_group_93 : decode b_MacroExpandModel_group 93 = .ok (.if_icmp .ge 30, 3) := by decide +kernel
theorem d_MacroExpandModel_group_96 : decode b_MacroExpandModel_group 96 = .ok (.aload_n 0, 1) := by decide +kernel
theorem d_MacroExpandModel_group_97 : decode b_MacroExpandModel_group 97 = .ok (.getfield 35, 3) := by decide +kernel
theorem d_MacroExpandModel_group_100 : decode b_MacroExpandModel_group 100 = .ok (.iload_n 2, 1) := by decide +kernel
theorem d_MacroExpandModel_group_101 : decode b_MacroExpandModel_group 101 = .ok (.aload_n 0, 1) := by decide +kernel
theorem d_MacroExpandModel_group_102 : decode b_MacroExpandModel_group 102 = .ok (.getfield 38, 3) := by decide +kernel
theorem d_MacroExpandModel_group_105 : decode b_MacroExpandModel_group 105 = .ok (.sipush 200, 3) := by decide +kernel
theorem d_MacroExpandModel_group_108 : decode b_MacroExpandModel_group 108 = .ok (.aload_n 0, 1) := by decide +kernel
theorem d_MacroExpandModel_group_109 : decode b_MacroExpandModel_group 109 = .ok (.getfield 97, 3) := by decide +kernel
theorem d_MacroExpandModel_group_112 : decode b_MacroExpandModel_group 112 = .ok (.imul, 1) := by decide +kernel
theorem d_MacroExpandModel_group_113 : decode b_MacroExpandModel_group 113 = .ok (.iload_n 2, 1) := by decide +kernel
theorem d_MacroExpandModel_group_114 : decode b_MacroExpandModel_group 114 = .ok (.iadd, 1) := by decide +kernel
theorem d_MacroExpandModel_group_115 : decode b_MacroExpandModel_group 115 = .ok (.iaload, 1) := by decide +kernel
theorem d_MacroExpandModel_group_116 : decode b_MacroExpandModel_group 116 = .ok (.iastore, 1) := by decide +kernel
theorem d_MacroExpandModel_group_117 : decode b_MacroExpandModel_group 117 = .ok (.iinc 2 1, 3) := by decide +kernel
theorem d_MacroExpandModel_group_120 : decode b_MacroExpandModel_group 120 = .ok (.goto (-31), 3) := by decide +kernel
theorem d_MacroExpandModel_group_123 : decode b_MacroExpandModel_group 123 = .ok (.aload_n 0, 1) := by decide +kernel
theorem d_MacroExpandModel_group_124 : decode b_MacroExpandModel_group 124 = .ok (.getfield 97, 3) := by decide +kernel
theorem d_MacroExpandModel_group_127 : decode b_MacroExpandModel_group 127 = .ok (.ireturn, 1) := by decide +kernel
theorem d_MacroExpandModel_get_0 : decode b_MacroExpandModel_get 0 = .ok (.aload_n 0, 1) := by decide +kernel
theorem d_MacroExpandModel_get_1 : decode b_MacroExpandModel_get 1 = .ok (.getfield 7, 3) := by decide +kernel
theorem d_MacroExpandModel_get_4 : decode b_MacroExpandModel_get 4 = .ok (.aload_n 0, 1) := by decide +kernel
theorem d_MacroExpandModel_get_5 : decode b_MacroExpandModel_get 5 = .ok (.getfield 110, 3) := by decide +kernel
theorem d_MacroExpandModel_get_8 : decode b_MacroExpandModel_get 8 = .ok (.iload_n 1, 1) := by decide +kernel
theorem d_MacroExpandModel_get_9 : decode b_MacroExpandModel_get 9 = .ok (.iadd, 1) := by decide +kernel
theorem d_MacroExpandModel_get_10 : decode b_MacroExpandModel_get 10 = .ok (.sipush 4095, 3) := by decide +kernel
theorem d_MacroExpandModel_get_13 : decode b_MacroExpandModel_get 13 = .ok (.iand, 1) := by decide +kernel
theorem d_MacroExpandModel_get_14 : decode b_MacroExpandModel_get 14 = .ok (.iaload, 1) := by decide +kernel
theorem d_MacroExpandModel_get_15 : decode b_MacroExpandModel_get 15 = .ok (.ireturn, 1) := by decide +kernel
theorem d_MacroExpandModel_mark_0 : decode b_MacroExpandModel_mark 0 = .ok (.aload_n 0, 1) := by decide +kernel
theorem d_MacroExpandModel_mark_1 : decode b_MacroExpandModel_mark 1 = .ok (.aload_n 0, 1) := by decide +kernel
theorem d_MacroExpandModel_mark_2 : decode b_MacroExpandModel_mark 2 = .ok (.getfield 113, 3) := by decide +kernel
theorem d_MacroExpandModel_mark_5 : decode b_MacroExpandModel_mark 5 = .ok (.ifCond .ne 7, 3) := by decide +kernel
theorem d_MacroExpandModel_mark_8 : decode b_MacroExpandModel_mark 8 = .ok (.iload_n 1, 1) := by decide +kernel
theorem d_MacroExpandModel_mark_9 : decode b_MacroExpandModel_mark 9 = .ok (.goto 7, 3) := by decide +kernel
theorem d_MacroExpandModel_mark_12 : decode b_MacroExpandModel_mark 12 = .ok (.aload_n 0, 1) := by decide +kernel
theorem d_MacroExpandModel_mark_13 : decode b_MacroExpandModel_mark 13 = .ok (.getfield 113, 3) := by decide +kernel
theorem d_MacroExpandModel_mark_16 : decode b_MacroExpandModel_mark 16 = .ok (.putfield 113, 3) := by decide +kernel
theorem d_MacroExpandModel_mark_19 : decode b_MacroExpandModel_mark 19 = .ok (.return_, 1) := by decide +kernel
theorem d_MacroExpandModel_take_0 : decode b_MacroExpandModel_take 0 = .ok (.iload_n 1, 1) := by decide +kernel
theorem d_MacroExpandModel_take_1 : decode b_MacroExpandModel_take 1 = .ok (.iconst 1, 1) := by decide +kernel
theorem d_MacroExpandModel_take_2 : decode b_MacroExpandModel_take 2 = .ok (.isub, 1) := by decide +kernel
theorem d_MacroExpandModel_take_3 : decode b_MacroExpandModel_take 3 = .ok (.istore_n 3, 1) := by decide +kernel
theorem d_MacroExpandModel_take_4 : decode b_MacroExpandModel_take 4 = .ok (.iload_n 3, 1) := by decide +kernel
theorem d_MacroExpandModel_take_5 : decode b_MacroExpandModel_take 5 = .ok (.ifCond .lt 31, 3) := by decide +kernel
theorem d_MacroExpandModel_take_8 : decode b_MacroExpandModel_take 8 = .ok (.aload_n 0, 1) := by decide +kernel
theorem d_MacroExpandModel_take_9 : decode b_MacroExpandModel_take 9 = .ok (.getfield 7, 3) := by decide +kernel
theorem d_MacroExpandModel_take_12 : decode b_MacroExpandModel_take 12 = .ok (.aload_n 0, 1) := by decide +kernel
theorem d_MacroExpandModel_take_13 : decode b_MacroExpandModel_take 13 = .ok (.getfield 110, 3) := by decide +kernel
theorem d_MacroExpandModel_take_16 : decode b_MacroExpandModel_take 16 = .ok (.iload_n 3, 1) := by decide +kernel
theorem d_MacroExpandModel_take_17 : decode b_MacroExpandModel_take 17 = .ok (.iadd, 1) := by decide +kernel
theorem d_MacroExpandModel_take_18 : decode b_MacroExpandModel_take 18 = .ok (.iload_n 2, 1) := by decide +kernel
theorem d_MacroExpandModel_take_19 : decode b_MacroExpandModel_take 19 = .ok (.iadd, 1) := by decide +kernel
theorem d_MacroExpandModel_take_20 : decode b_MacroExpandModel_take 20 = .ok (.sipush 4095, 3) := by decide +kernel
theorem d_MacroExpandModel_take_23 : decode b_MacroExpandModel_take 23 = .ok (.iand, 1) := by decide +kernel
theorem d_MacroExpandModel_take_24 : decode b_MacroExpandModel_take 24 = .ok (.aload_n 0, 1) := by decide +kernel
theorem d_MacroExpandModel_take_25 : decode b_MacroExpandModel_take 25 = .ok (.iload_n 3, 1) := by decide +kernel
theorem d_MacroExpandModel_take_26 : decode b_MacroExpandModel_take 26 = .ok (.invokevirtual 116, 3) := by decide +kernel
theorem d_MacroExpandModel_take_29 : decode b_MacroExpandModel_take 29 = .ok (.iastore, 1) := by decide +kernel
theorem d_MacroExpandModel_take_30 : decode b_MacroExpandModel_take 30 = .ok (.iinc 3 (-1), 3) := by decide +kernel
theorem d_MacroExpandModel_take_33 : decode b_MacroExpandModel_take 33 = .ok (.goto (-29), 3) := by decide +kernel
theorem d_MacroExpandModel_take_36 : decode b_MacroExpandModel_take 36 = .ok (.aload_n 0, 1) := by decide +kernel
theorem d_MacroExpandModel_take_37 : decode b_MacroExpandModel_take 37 = .ok (.aload_n 0, 1) := by decide +kernel
theorem d_MacroExpandModel_take_38 : decode b_MacroExpandModel_take 38 = .ok (.getfield 110, 3) := by decide +kernel
theorem d_MacroExpandModel_take_41 : decode b_MacroExpandModel_take 41 = .ok (.iload_n 2, 1) := by decide +kernel
theorem d_MacroExpandModel_take_42 : decode b_MacroExpandModel_take 42 = .ok (.iadd, 1) := by decide +kernel
theorem d_MacroExpandModel_take_43 : decode b_MacroExpandModel_take 43 = .ok (.sipush 4095, 3) := by decide +kernel
theorem d_MacroExpandModel_take_46 : decode b_MacroExpandModel_take 46 = .ok (.iand, 1) := by decide +kernel
theorem d_MacroExpandModel_take_47 : decode b_MacroExpandModel_take 47 = .ok (.putfield 110, 3) := by decide +kernel
theorem d_MacroExpandModel_take_50 : decode b_MacroExpandModel_take 50 = .ok (.aload_n 0, 1) := by decide +kernel
theorem d_MacroExpandModel_take_51 : decode b_MacroExpandModel_take 51 = .ok (.dup, 1) := by decide +kernel
theorem d_MacroExpandModel_take_52 : decode b_MacroExpandModel_take 52 = .ok (.getfield 107, 3) := by decide +kernel
theorem d_MacroExpandModel_take_55 : decode b_MacroExpandModel_take 55 = .ok (.iload_n 2, 1) := by decide +kernel
theorem d_MacroExpandModel_take_56 : decode b_MacroExpandModel_take 56 = .ok (.isub, 1) := by decide +kernel
theorem d_MacroExpandModel_take_57 : decode b_MacroExpandModel_take 57 = .ok (.putfield 107, 3) := by decide +kernel
theorem d_MacroExpandModel_take_60 : decode b_MacroExpandModel_take 60 = .ok (.return_, 1) := by decide +kernel
theorem d_MacroExpandModel_spread_0 : decode b_MacroExpandModel_spread 0 = .ok (.aload_n 0, 1) := by decide +kernel
theorem d_MacroExpandModel_spread_1 : decode b_MacroExpandModel_spread 1 = .ok (.aload_n 0, 1) := by decide +kernel
theorem d_MacroExpandModel_spread_2 : decode b_MacroExpandModel_spread 2 = .ok (.getfield 110, 3) := by decide +kernel
theorem d_MacroExpandModel_spread_5 : decode b_MacroExpandModel_spread 5 = .ok (.iload_n 2, 1) := by decide +kernel
theorem d_MacroExpandModel_spread_6 : decode b_MacroExpandModel_spread 6 = .ok (.isub, 1) := by decide +kernel
theorem d_MacroExpandModel_spread_7 : decode b_MacroExpandModel_spread 7 = .ok (.sipush 4095, 3) := by decide +kernel
theorem d_MacroExpandModel_spread_10 : decode b_MacroExpandModel_spread 10 = .ok (.iand, 1) := by decide +kernel
theorem d_MacroExpandModel_spread_11 : decode b_MacroExpandModel_spread 11 = .ok (.putfield 110, 3) := by decide +kernel
theorem d_MacroExpandModel_spread_14 : decode b_MacroExpandModel_spread 14 = .ok (.aload_n 0, 1) := by decide +kernel
theorem d_MacroExpandModel_spread_15 : decode b_MacroExpandModel_spread 15 = .ok (.dup, 1) := by decide +kernel
theorem d_MacroExpandModel_spread_16 : decode b_MacroExpandModel_spread 16 = .ok (.getfield 107, 3) := by decide +kernel
theorem d_MacroExpandModel_spread_19 : decode b_MacroExpandModel_spread 19 = .ok (.iload_n 2, 1) := by decide +kernel
theorem d_MacroExpandModel_spread_20 : decode b_MacroExpandModel_spread 20 = .ok (.iadd, 1) := by decide +kernel
theorem d_MacroExpandModel_spread_21 : decode b_MacroExpandModel_spread 21 = .ok (.putfield 107, 3) := by decide +kernel
theorem d_MacroExpandModel_spread_24 : decode b_MacroExpandModel_spread 24 = .ok (.iconst 0, 1) := by decide +kernel
theorem d_MacroExpandModel_spread_25 : decode b_MacroExpandModel_spread 25 = .ok (.istore_n 3, 1) := by decide +kernel
theorem d_MacroExpandModel_spread_26 : decode b_MacroExpandModel_spread 26 = .ok (.iload_n 3, 1) := by decide +kernel
theorem d_MacroExpandModel_spread_27 : decode b_MacroExpandModel_spread 27 = .ok (.iload_n 1, 1) := by decide +kernel
theorem d_MacroExpandModel_spread_28 : decode b_MacroExpandModel_spread 28 = .ok (.if_icmp .ge 31, 3) := by decide +kernel
theorem d_MacroExpandModel_spread_31 : decode b_MacroExpandModel_spread 31 = .ok (.aload_n 0, 1) := by decide +kernel
theorem d_MacroExpandModel_spread_32 : decode b_MacroExpandModel_spread 32 = .ok (.getfield 7, 3) := by decide +kernel
theorem d_MacroExpandModel_spread_35 : decode b_MacroExpandModel_spread 35 = .ok (.aload_n 0, 1) := by decide +kernel
theorem d_MacroExpandModel_spread_36 : decode b_MacroExpandModel_spread 36 = .ok (.getfield 110, 3) := by decide +kernel
theorem d_MacroExpandModel_spread_39 : decode b_MacroExpandModel_spread 39 = .ok (.iload_n 3, 1) := by decide +kernel
theorem d_MacroExpandModel_spread_40 : decode b_MacroExpandModel_spread 40 = .ok (.iadd, 1) := by decide +kernel
theorem d_MacroExpandModel_spread_41 : decode b_MacroExpandModel_spread 41 = .ok (.sipush 4095, 3) := by decide +kernel
theorem d_MacroExpandModel_spread_44 : decode b_MacroExpandModel_spread 44 = .ok (.iand, 1) := by decide +kernel
theorem d_MacroExpandModel_spread_45 : decode b_MacroExpandModel_spread 45 = .ok (.aload_n 0, 1) := by decide +kernel
theorem d_MacroExpandModel_spread_46 : decode b_MacroExpandModel_spread 46 = .ok (.iload_n 3, 1) := by decide +kernel
theorem d_MacroExpandModel_spread_47 : decode b_MacroExpandModel_spread 47 = .ok (.iload_n 2, 1) := by decide +kernel
theorem d_MacroExpandModel_spread_48 : decode b_MacroExpandModel_spread 48 = .ok (.iadd, 1) := by decide +kernel
theorem d_MacroExpandModel_spread_49 : decode b_MacroExpandModel_spread 49 = .ok (.invokevirtual 116, 3) := by decide +kernel
theorem d_MacroExpandModel_spread_52 : decode b_MacroExpandModel_spread 52 = .ok (.iastore, 1) := by decide +kernel
theorem d_MacroExpandModel_spread_53 : decode b_MacroExpandModel_spread 53 = .ok (.iinc 3 1, 3) := by decide +kernel
theorem d_MacroExpandModel_spread_56 : decode b_MacroExpandModel_spread 56 = .ok (.goto (-30), 3) := by decide +kernel
theorem d_MacroExpandModel_spread_59 : decode b_MacroExpandModel_spread 59 = .ok (.return_, 1) := by decide +kernel
theorem d_MacroExpandModel_set_0 : decode b_MacroExpandModel_set 0 = .ok (.aload_n 0, 1) := by decide +kernel
theorem d_MacroExpandModel_set_1 : decode b_MacroExpandModel_set 1 = .ok (.getfield 7, 3) := by decide +kernel
theorem d_MacroExpandModel_set_4 : decode b_MacroExpandModel_set 4 = .ok (.aload_n 0, 1) := by decide +kernel
theorem d_MacroExpandModel_set_5 : decode b_MacroExpandModel_set 5 = .ok (.getfield 110, 3) := by decide +kernel
theorem d_MacroExpandModel_set_8 : decode b_MacroExpandModel_set 8 = .ok (.iload_n 1, 1) := by decide +kernel
theorem d_MacroExpandModel_set_9 : decode b_MacroExpandModel_set 9 = .ok (.iadd, 1) := by decide +kernel
theorem d_MacroExpandModel_set_10 : decode b_MacroExpandModel_set 10 = .ok (.sipush 4095, 3) := by decide +kernel
theorem d_MacroExpandModel_set_13 : decode b_MacroExpandModel_set 13 = .ok (.iand, 1) := by decide +kernel
theorem d_MacroExpandModel_set_14 : decode b_MacroExpandModel_set 14 = .ok (.iload_n 2, 1) := by decide +kernel
theorem d_MacroExpandModel_set_15 : decode b_MacroExpandModel_set 15 = .ok (.iastore, 1) := by decide +kernel
theorem d_MacroExpandModel_set_16 : decode b_MacroExpandModel_set 16 = .ok (.return_, 1) := by decide +kernel
theorem d_MacroExpandModel_macroAt_0 : decode b_MacroExpandModel_macroAt 0 = .ok (.aload_n 0, 1) := by decide +kernel
theorem d_MacroExpandModel_macroAt_1 : decode b_MacroExpandModel_macroAt 1 = .ok (.iload_n 1, 1) := by decide +kernel
theorem d_MacroExpandModel_macroAt_2 : decode b_MacroExpandModel_macroAt 2 = .ok (.invokevirtual 116, 3) := by decide +kernel
theorem d_MacroExpandModel_macroAt_5 : decode b_MacroExpandModel_macroAt 5 = .ok (.invokestatic 91, 3) := by decide +kernel
theorem d_MacroExpandModel_macroAt_8 : decode b_MacroExpandModel_macroAt 8 = .ok (.ifCond .eq 20, 3) := by decide +kernel
theorem d_MacroExpandModel_macroAt_11 : decode b_MacroExpandModel_macroAt 11 = .ok (.aload_n 0, 1) := by decide +kernel
theorem d_MacroExpandModel_macroAt_12 : decode b_MacroExpandModel_macroAt 12 = .ok (.getfield 35, 3) := by decide +kernel
theorem d_MacroExpandModel_macroAt_15 : decode b_MacroExpandModel_macroAt 15 = .ok (.aload_n 0, 1) := by decide +kernel
theorem d_MacroExpandModel_macroAt_16 : decode b_MacroExpandModel_macroAt 16 = .ok (.iload_n 1, 1) := by decide +kernel
theorem d_MacroExpandModel_macroAt_17 : decode b_MacroExpandModel_macroAt 17 = .ok (.invokevirtual 116, 3) := by decide +kernel
theorem d_MacroExpandModel_macroAt_20 : decode b_MacroExpandModel_macroAt 20 = .ok (.sipush 1000, 3) := by decide +kernel
theorem d_MacroExpandModel_macroAt_23 : decode b_MacroExpandModel_macroAt 23 = .ok (.isub, 1) := by decide +kernel
theorem d_MacroExpandModel_macroAt_24 : decode b_MacroExpandModel_macroAt 24 = .ok (.iaload, 1) := by decide +kernel
theorem d_MacroExpandModel_macroAt_25 : decode b_MacroExpandModel_macroAt 25 = .ok (.goto 4, 3) := by decide +kernel
theorem d_MacroExpandModel_macroAt_28 : decode b_MacroExpandModel_macroAt 28 = .ok (.iconst (-1), 1) := by decide +kernel
theorem d_MacroExpandModel_macroAt_29 : decode b_MacroExpandModel_macroAt 29 = .ok (.ireturn, 1) := by decide +kernel
theorem d_MacroExpandModel_canBeExpanded_0 : decode b_MacroExpandModel_canBeExpanded 0 = .ok (.aload_n 0, 1) := by decide +kernel
theorem d_MacroExpandModel_canBeExpanded_1 : decode b_MacroExpandModel_canBeExpanded 1 = .ok (.iload_n 1, 1) := by decide +kernel
theorem d_MacroExpandModel_canBeExpanded_2 : decode b_MacroExpandModel_canBeExpanded 2 = .ok (.invokevirtual 120, 3) := by decide +kernel
theorem d_MacroExpandModel_canBeExpanded_5 : decode b_MacroExpandModel_canBeExpanded 5 = .ok (.ifCond .ge 20, 3) := by decide +kernel
theorem d_MacroExpandModel_canBeExpanded_8 : decode b_MacroExpandModel_canBeExpanded 8 = .ok (.aload_n 0, 1) := by decide +kernel
theorem d_MacroExpandModel_canBeExpanded_9 : decode b_MacroExpandModel_canBeExpanded 9 = .ok (.iload_n 1, 1) := by decide +kernel
theorem d_MacroExpandModel_canBeExpanded_10 : decode b_MacroExpandModel_canBeExpanded 10 = .ok (.invokevirtual 116, 3) := by decide +kernel
theorem d_MacroExpandModel_canBeExpanded_13 : decode b_MacroExpandModel_canBeExpanded 13 = .ok (.sipush 260, 3) := by decide +kernel
theorem d_MacroExpandModel_canBeExpanded_16 : decode b_MacroExpandModel_canBeExpanded 16 = .ok (.sipush 262, 3) := by decide +kernel
theorem d_MacroExpandModel_canBeExpanded_19 : decode b_MacroExpandModel_canBeExpanded 19 = .ok (.invokestatic 83, 3) := by decide +kernel
theorem d_MacroExpandModel_canBeExpanded_22 : decode b_MacroExpandModel_canBeExpanded 22 = .ok (.ifCond .eq 7, 3) := by decide +kernel
theorem d_MacroExpandModel_canBeExpanded_25 : decode b_MacroExpandModel_canBeExpanded 25 = .ok (.iconst 1, 1) := by decide +kernel
theorem d_MacroExpandModel_canBeExpanded_26 : decode b_MacroExpandModel_canBeExpanded 26 = .ok (.goto 4, 3) := by decide +kernel
theorem d_MacroExpandModel_canBeExpanded_29 : decode b_MacroExpandModel_canBeExpanded 29 = .ok (.iconst 0, 1) := by decide +kernel
theorem d_MacroExpandModel_canBeExpanded_30 : decode b_MacroExpandModel_canBeExpanded 30 = .ok (.ireturn, 1) := by decide +kernel
theorem d_MacroExpandModel_isThere_0 : decode b_MacroExpandModel_isThere 0 = .ok (.iload_n 1, 1) := by decide +kernel
theorem d_MacroExpandModel_isThere_1 : decode b_MacroExpandModel_isThere 1 = .ok (.aload_n 0, 1) := by decide +kernel
theorem d_MacroExpandModel_isThere_2 : decode b_MacroExpandModel_isThere 2 = .ok (.getfield 107, 3) := by decide +kernel
theorem d_MacroExpandModel_isThere_5 : decode b_MacroExpandModel_isThere 5 = .ok (.if_icmp .lt 10, 3) := by decide +kernel
theorem d_MacroExpandModel_isThere_8 : decode b_MacroExpandModel_isThere 8 = .ok (.aload_n 0, 1) := by decide +kernel
theorem d_MacroExpandModel_isThere_9 : decode b_MacroExpandModel_isThere 9 = .ok (.iconst 1, 1) := by decide +kernel
theorem d_MacroExpandModel_isThere_10 : decode b_MacroExpandModel_isThere 10 = .ok (.invokevirtual 123, 3) := by decide +kernel
theorem d_MacroExpandModel_isThere_13 : decode b_MacroExpandModel_isThere 13 = .ok (.iconst 0, 1) := by decide +kernel
theorem d_MacroExpandModel_isThere_14 : decode b_MacroExpandModel_isThere 14 = .ok (.ireturn, 1) := by decide +kernel
theorem d_MacroExpandModel_isThere_15 : decode b_MacroExpandModel_isThere 15 = .ok (.aload_n 0, 1) := by decide +kernel
theorem d_MacroExpandModel_isThere_16 : decode b_MacroExpandModel_isThere 16 = .ok (.iload_n 1, 1) := by decide +kernel
theorem d_MacroExpandModel_isThere_17 : decode b_MacroExpandModel_isThere 17 = .ok (.invokevirtual 120, 3) := by decide +kernel
theorem d_MacroExpandModel_isThere_20 : decode b_MacroExpandModel_isThere 20 = .ok (.istore_n 3, 1) := by decide +kernel
theorem d_MacroExpandModel_isThere_21 : decode b_MacroExpandModel_isThere 21 = .ok (.iload_n 3, 1) := by decide +kernel
theorem d_MacroExpandModel_isThere_22 : decode b_MacroExpandModel_isThere 22 = .ok (.ifCond .lt 14, 3) := by decide +kernel
theorem d_MacroExpandModel_isThere_25 : decode b_MacroExpandModel_isThere 25 = .ok (.aload_n 0, 1) := by decide +kernel
theorem d_MacroExpandModel_isThere_26 : decode b_MacroExpandModel_isThere 26 = .ok (.getfield 19, 3) := by decide +kernel
theorem d_MacroExpandModel_isThere_29 : decode b_MacroExpandModel_isThere 29 = .ok (.iload_n 3, 1) := by decide +kernel
theorem d_MacroExpandModel_isThere_30 : decode b_MacroExpandModel_isThere 30 = .ok (.iaload, 1) := by decide +kernel
theorem d_MacroExpandModel_isThere_31 : decode b_MacroExpandModel_isThere 31 = .ok (.iconst 2, 1) := by decide +kernel
theorem d_MacroExpandModel_isThere_32 : decode b_MacroExpandModel_isThere 32 = .ok (.iand, 1) := by decide +kernel
theorem d_MacroExpandModel_isThere_33 : decode b_MacroExpandModel_isThere 33 = .ok (.ifCond .ne 17, 3) := by decide +kernel
theorem d_MacroExpandModel_isThere_36 : decode b_MacroExpandModel_isThere 36 = .ok (.aload_n 0, 1) := by decide +kernel
theorem d_MacroExpandModel_isThere_37 : decode b_MacroExpandModel_isThere 37 = .ok (.iload_n 1, 1) := by decide +kernel
theorem d_MacroExpandModel_isThere_38 : decode b_MacroExpandModel_isThere 38 = .ok (.invokevirtual 116, 3) := by decide +kernel
theorem d_MacroExpandModel_isThere_41 : decode b_MacroExpandModel_isThere 41 = .ok (.bipush 10, 2) := by decide +kernel
theorem d_MacroExpandModel_isThere_43 : decode b_MacroExpandModel_isThere 43 = .ok (.if_icmp .ne 14, 3) := by decide +kernel
theorem d_MacroExpandModel_isThere_46 : decode b_MacroExpandModel_isThere 46 = .ok (.iload_n 2, 1) := by decide +kernel
theorem d_MacroExpandModel_isThere_47 : decode b_MacroExpandModel_isThere 47 = .ok (.ifCond .ne 10, 3) := by decide +kernel
theorem d_MacroExpandModel_isThere_50 : decode b_MacroExpandModel_isThere 50 = .ok (.aload_n 0, 1) := by decide +kernel
theorem d_MacroExpandModel_isThere_51 : decode b_MacroExpandModel_isThere 51 = .ok (.iconst 2, 1) := by decide +kernel
theorem d_MacroExpandModel_isThere_52 : decode b_MacroExpandModel_isThere 52 = .ok (.invokevirtual 123, 3) := by decide +kernel
theorem d_MacroExpandModel_isThere_55 : decode b_MacroExpandModel_isThere 55 = .ok (.iconst 0, 1) := by decide +kernel
theorem d_MacroExpandModel_isThere_56 : decode b_MacroExpandModel_isThere 56 = .ok (.ireturn, 1) := by decide +kernel
theorem d_MacroExpandModel_isThere_57 : decode b_MacroExpandModel_isThere 57 = .ok (.iconst 1, 1) := by decide +kernel
theorem d_MacroExpandModel_isThere_58 : decode b_MacroExpandModel_isThere 58 = .ok (.ireturn, 1) := by decide +kernel
theorem d_MacroExpandModel_rowComes_0 : decode b_MacroExpandModel_rowComes 0 = .ok (.iload_n 2, 1) := by decide +kernel
theorem d_MacroExpandModel_rowComes_1 : decode b_MacroExpandModel_rowComes 1 = .ok (.aload_n 0, 1) := by decide +kernel
theorem d_MacroExpandModel_rowComes_2 : decode b_MacroExpandModel_rowComes 2 = .ok (.getfield 28, 3) := by decide +kernel
theorem d_MacroExpandModel_rowComes_5 : decode b_MacroExpandModel_rowComes 5 = .ok (.iload_n 1, 1) := by decide +kernel
theorem d_MacroExpandModel_rowComes_6 : decode b_MacroExpandModel_rowComes 6 = .ok (.iaload, 1) := by decide +kernel
theorem d_MacroExpandModel_rowComes_7 : decode b_MacroExpandModel_rowComes 7 = .ok (.iadd, 1) := by decide +kernel
theorem d_MacroExpandModel_rowComes_8 : decode b_MacroExpandModel_rowComes 8 = .ok (.aload_n 0, 1) := by decide +kernel
theorem d_MacroExpandModel_rowComes_9 : decode b_MacroExpandModel_rowComes 9 = .ok (.getfield 107, 3) := by decide +kernel
theorem d_MacroExpandModel_rowComes_12 : decode b_MacroExpandModel_rowComes 12 = .ok (.if_icmp .gt 7, 3) := by decide +kernel
theorem d_MacroExpandModel_rowComes_15 : decode b_MacroExpandModel_rowComes 15 = .ok (.iconst 1, 1) := by decide +kernel
theorem d_MacroExpandModel_rowComes_16 : decode b_MacroExpandModel_rowComes 16 = .ok (.goto 4, 3) := by decide +kernel
theorem d_MacroExpandModel_rowComes_19 : decode b_MacroExpandModel_rowComes 19 = .ok (.iconst 0, 1) := by decide +kernel
theorem d_MacroExpandModel_rowComes_20 : decode b_MacroExpandModel_rowComes 20 = .ok (.istore_n 3, 1) := by decide +kernel
theorem d_MacroExpandModel_rowComes_21 : decode b_MacroExpandModel_rowComes 21 = .ok (.iconst 0, 1) := by decide +kernel
theorem d_MacroExpandModel_rowComes_22 : decode b_MacroExpandModel_rowComes 22 = .ok (.istore 4, 2) := by decide +kernel
theorem d_MacroExpandModel_rowComes_24 : decode b_MacroExpandModel_rowComes 24 = .ok (.iload 4, 2) := by decide +kernel
theorem d_MacroExpandModel_rowComes_26 : decode b_MacroExpandModel_rowComes 26 = .ok (.aload_n 0, 1) := by decide +kernel
theorem d_MacroExpandModel_rowComes_27 : decode b_MacroExpandModel_rowComes 27 = .ok (.getfield 28, 3) := by decide +kernel
theorem d_MacroExpandModel_rowComes_30 : decode b_MacroExpandModel_rowComes 30 = .ok (.iload_n 1, 1) := by decide +kernel
theorem d_MacroExpandModel_rowComes_31 : decode b_MacroExpandModel_rowComes 31 = .ok (.iaload, 1) := by decide +kernel
theorem d_MacroExpandModel_rowComes_32 : decode b_MacroExpandModel_rowComes 32 = .ok (.if_icmp .ge 43, 3) := by decide +kernel
theorem d_MacroExpandModel_rowComes_35 : decode b_MacroExpandModel_rowComes 35 = .ok (.iload_n 3, 1) := by decide +kernel
theorem d_MacroExpandModel_rowComes_36 : decode b_MacroExpandModel_rowComes 36 = .ok (.ifCond .eq 39, 3) := by decide +kernel
theorem d_MacroExpandModel_rowComes_39 : decode b_MacroExpandModel_rowComes 39 = .ok (.aload_n 0, 1) := by decide +kernel
theorem d_MacroExpandModel_rowComes_40 : decode b_MacroExpandModel_rowComes 40 = .ok (.iload_n 2, 1) := by decide +kernel
theorem d_MacroExpandModel_rowComes_41 : decode b_MacroExpandModel_rowComes 41 = .ok (.iload 4, 2) := by decide +kernel
theorem d_MacroExpandModel_rowComes_43 : decode b_MacroExpandModel_rowComes 43 = .ok (.iadd, 1) := by decide +kernel
theorem d_MacroExpandModel_rowComes_44 : decode b_MacroExpandModel_rowComes 44 = .ok (.invokevirtual 116, 3) := by decide +kernel
theorem d_MacroExpandModel_rowComes_47 : decode b_MacroExpandModel_rowComes 47 = .ok (.aload_n 0, 1) := by decide +kernel
theorem d_MacroExpandModel_rowComes_48 : decode b_MacroExpandModel_rowComes 48 = .ok (.getfield 32, 3) := by decide +kernel
theorem d_MacroExpandModel_rowComes_51 : decode b_MacroExpandModel_rowComes 51 = .ok (.sipush 200, 3) := by decide +kernel
theorem d_MacroExpandModel_rowComes_54 : decode b_MacroExpandModel_rowComes 54 = .ok (.iload_n 1, 1) := by decide +kernel
theorem d_MacroExpandModel_rowComes_55 : decode b_MacroExpandModel_rowComes 55 = .ok (.imul, 1) := by decide +kernel
theorem d_MacroExpandModel_rowComes_56 : decode b_MacroExpandModel_rowComes 56 = .ok (.iload 4, 2) := by decide +kernel
theorem d_MacroExpandModel_rowComes_58 : decode b_MacroExpandModel_rowComes 58 = .ok (.iadd, 1) := by decide +kernel
theorem d_MacroExpandModel_rowComes_59 : decode b_MacroExpandModel_rowComes 59 = .ok (.iaload, 1) := by decide +kernel
theorem d_MacroExpandModel_rowComes_60 : decode b_MacroExpandModel_rowComes 60 = .ok (.if_icmp .ne 7, 3) := by decide +kernel
theorem d_MacroExpandModel_rowComes_63 : decode b_MacroExpandModel_rowComes 63 = .ok (.iconst 1, 1) := by decide +kernel
theorem d_MacroExpandModel_rowComes_64 : decode b_MacroExpandModel_rowComes 64 = .ok (.goto 4, 3) := by decide +kernel
theorem d_MacroExpandModel_rowComes_67 : decode b_MacroExpandModel_rowComes 67 = .ok (.iconst 0, 1) := by decide +kernel
theorem d_MacroExpandModel_rowComes_68 : decode b_MacroExpandModel_rowComes 68 = .ok (.istore_n 3, 1) := by decide +kernel
theorem d_MacroExpandModel_rowComes_69 : decode b_MacroExpandModel_rowComes 69 = .ok (.iinc 4 1, 3) := by decide +kernel
theorem d_MacroExpandModel_rowComes_72 : decode b_MacroExpandModel_rowComes 72 = .ok (.goto (-48), 3) := by decide +kernel
theorem d_MacroExpandModel_rowComes_75 : decode b_MacroExpandModel_rowComes 75 = .ok (.iload_n 3, 1) := by decide +kernel
theorem d_MacroExpandModel_rowComes_76 : decode b_MacroExpandModel_rowComes 76 = .ok (.ireturn, 1) := by decide +kernel
theorem d_MacroExpandModel_give_0 : decode b_MacroExpandModel_give 0 = .ok (.aload_n 0, 1) := by decide +kernel
theorem d_MacroExpandModel_give_1 : decode b_MacroExpandModel_give 1 = .ok (.getfield 47, 3) := by decide +kernel
theorem d_MacroExpandModel_give_4 : decode b_MacroExpandModel_give 4 = .ok (.iload_n 1, 1) := by decide +kernel
theorem d_MacroExpandModel_give_5 : decode b_MacroExpandModel_give 5 = .ok (.iaload, 1) := by decide +kernel
theorem d_MacroExpandModel_give_6 : decode b_MacroExpandModel_give 6 = .ok (.sipush 400, 3) := by decide +kernel
theorem d_MacroExpandModel_give_9 : decode b_MacroExpandModel_give 9 = .ok (.if_icmp .ne 10, 3) := by decide +kernel
theorem d_MacroExpandModel_give_12 : decode b_MacroExpandModel_give 12 = .ok (.aload_n 0, 1) := by decide +kernel
theorem d_MacroExpandModel_give_13 : decode b_MacroExpandModel_give 13 = .ok (.bipush 8, 2) := by decide +kernel
theorem d_MacroExpandModel_give_15 : decode b_MacroExpandModel_give 15 = .ok (.invokevirtual 123, 3) := by decide +kernel
theorem d_MacroExpandModel_give_18 : decode b_MacroExpandModel_give 18 = .ok (.return_, 1) := by decide +kernel
theorem d_MacroExpandModel_give_19 : decode b_MacroExpandModel_give 19 = .ok (.aload_n 0, 1) := by decide +kernel
theorem d_MacroExpandModel_give_20 : decode b_MacroExpandModel_give 20 = .ok (.getfield 50, 3) := by decide +kernel
theorem d_MacroExpandModel_give_23 : decode b_MacroExpandModel_give 23 = .ok (.sipush 400, 3) := by decide +kernel
theorem d_MacroExpandModel_give_26 : decode b_MacroExpandModel_give 26 = .ok (.iload_n 1, 1) := by decide +kernel
theorem d_MacroExpandModel_give_27 : decode b_MacroExpandModel_give 27 = .ok (.imul, 1) := by decide +kernel
theorem d_MacroExpandModel_give_28 : decode b_MacroExpandModel_give 28 = .ok (.aload_n 0, 1) := by decide +kernel
theorem d_MacroExpandModel_give_29 : decode b_MacroExpandModel_give 29 = .ok (.getfield 47, 3) := by decide +kernel
theorem d_MacroExpandModel_give_32 : decode b_MacroExpandModel_give 32 = .ok (.iload_n 1, 1) := by decide +kernel
theorem d_MacroExpandModel_give_33 : decode b_MacroExpandModel_give 33 = .ok (.iaload, 1) := by decide +kernel
theorem d_MacroExpandModel_give_34 : decode b_MacroExpandModel_give 34 = .ok (.iadd, 1) := by decide +kernel
theorem d_MacroExpandModel_give_35 : decode b_MacroExpandModel_give 35 = .ok (.iload_n 2, 1) := by decide +kernel
theorem d_MacroExpandModel_give_36 : decode b_MacroExpandModel_give 36 = .ok (.iastore, 1) := by decide +kernel
theorem d_MacroExpandModel_give_37 : decode b_MacroExpandModel_give 37 = .ok (.aload_n 0, 1) := by decide +kernel
theorem d_MacroExpandModel_give_38 : decode b_MacroExpandModel_give 38 = .ok (.getfield 47, 3) := by decide +kernel
theorem d_MacroExpandModel_give_41 : decode b_MacroExpandModel_give 41 = .ok (.iload_n 1, 1) := by decide +kernel
theorem d_MacroExpandModel_give_42 : decode b_MacroExpandModel_give 42 = .ok (.dup2, 1) := by decide +kernel
theorem d_MacroExpandModel_give_43 : decode b_MacroExpandModel_give 43 = .ok (.iaload, 1) := by decide +kernel
theorem d_MacroExpandModel_give_44 : decode b_MacroExpandModel_give 44 = .ok (.iconst 1, 1) := by decide +kernel
theorem d_MacroExpandModel_give_45 : decode b_MacroExpandModel_give 45 = .ok (.iadd, 1) := by decide +kernel
theorem d_MacroExpandModel_give_46 : decode b_MacroExpandModel_give 46 = .ok (.iastore, 1) := by decide +kernel
theorem d_MacroExpandModel_give_47 : decode b_MacroExpandModel_give 47 = .ok (.return_, 1) := by decide +kernel
