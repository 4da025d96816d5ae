theorem d_MacroExpandModel_define_0 : decode b_MacroExpandModel_define 0 = .ok (.iload_n 1, 1) := by decide +kernel
theorem d_MacroExpandModel_define_1 : decode b_MacroExpandModel_define 1 = .ok (.iconst 0, 1) := by decide +kernel
theorem d_MacroExpandModel_define_2 : decode b_MacroExpandModel_define 2 = .ok (.sipush 199, 3) := by decide +kernel
theorem d_MacroExpandModel_define_5 : decode b_MacroExpandModel_define 5 = .ok (.invokestatic 83, 3) := by decide +kernel
theorem d_MacroExpandModel_define_8 : decode b_MacroExpandModel_define 8 = .ok (.ifCond .eq 23, 3) := by decide +kernel
theorem d_MacroExpandModel_define_11 : decode b_MacroExpandModel_define 11 = .ok (.iload_n 2, 1) := by decide +kernel
theorem d_MacroExpandModel_define_12 : decode b_MacroExpandModel_define 12 = .ok (.iconst 0, 1) := by decide +kernel
theorem d_MacroExpandModel_define_13 : decode b_MacroExpandModel_define 13 = .ok (.bipush 9, 2) := by decide +kernel
theorem d_MacroExpandModel_define_15 : decode b_MacroExpandModel_define 15 = .ok (.invokestatic 83, 3) := by decide +kernel
theorem d_MacroExpandModel_define_18 : decode b_MacroExpandModel_define 18 = .ok (.ifCond .eq 13, 3) := by decide +kernel
theorem d_MacroExpandModel_define_21 : decode b_MacroExpandModel_define 21 = .ok (.iload_n 3, 1) := by decide +kernel
theorem d_MacroExpandModel_define_22 : decode b_MacroExpandModel_define 22 = .ok (.iconst 0, 1) := by decide +kernel
theorem d_MacroExpandModel_define_23 : decode b_MacroExpandModel_define 23 = .ok (.bipush 7, 2) := by decide +kernel
theorem d_MacroExpandModel_define_25 : decode b_MacroExpandModel_define 25 = .ok (.invokestatic 83, 3) := by decide +kernel
theorem d_MacroExpandModel_define_28 : decode b_MacroExpandModel_define 28 = .ok (.ifCond .ne 6, 3) := by decide +kernel
theorem d_MacroExpandModel_define_31 : decode b_MacroExpandModel_define 31 = .ok (.bipush (-2), 2) := by decide +kernel
theorem d_MacroExpandModel_define_33 : decode b_MacroExpandModel_define 33 = .ok (.ireturn, 1) := by decide +kernel
theorem d_MacroExpandModel_define_34 : decode b_MacroExpandModel_define 34 = .ok (.aload_n 0, 1) := by decide +kernel
theorem d_MacroExpandModel_define_35 : decode b_MacroExpandModel_define 35 = .ok (.getfield 94, 3) := by decide +kernel
theorem d_MacroExpandModel_define_38 : decode b_MacroExpandModel_define 38 = .ok (.bipush 100, 2) := by decide +kernel
theorem d_MacroExpandModel_define_40 : decode b_MacroExpandModel_define 40 = .ok (.if_icmp .ne 8, 3) := by decide +kernel
theorem d_MacroExpandModel_define_43 : decode b_MacroExpandModel_define 43 = .ok (.bipush (-4), 2) := by decide +kernel
theorem d_MacroExpandModel_define_45 : decode b_MacroExpandModel_define 45 = .ok (.goto 10, 3) := by decide +kernel
theorem d_MacroExpandModel_define_48 : decode b_MacroExpandModel_define 48 = .ok (.aload_n 0, 1) := by decide +kernel
theorem d_MacroExpandModel_define_49 : decode b_MacroExpandModel_define 49 = .ok (.iload_n 1, 1) := by decide +kernel
theorem d_MacroExpandModel_define_50 : decode b_MacroExpandModel_define 50 = .ok (.iload_n 2, 1) := by decide +kernel
theorem d_MacroExpandModel_define_51 : decode b_MacroExpandModel_define 51 = .ok (.iload_n 3, 1) := by decide +kernel
theorem d_MacroExpandModel_define_52 : decode b_MacroExpandModel_define 52 = .ok (.invokevirtual 100, 3) := by decide +kernel
theorem d_MacroExpandModel_define_55 : decode b_MacroExpandModel_define 55 = .ok (.ireturn, 1) := by decide +kernel
theorem d_MacroExpandModel_body_0 : decode b_MacroExpandModel_body 0 = .ok (.iload_n 1, 1) := by decide +kernel
theorem d_MacroExpandModel_body_1 : decode b_MacroExpandModel_body 1 = .ok (.iconst 0, 1) := by decide +kernel
theorem d_MacroExpandModel_body_2 : decode b_MacroExpandModel_body 2 = .ok (.aload_n 0, 1) := by decide +kernel
theorem d_MacroExpandModel_body_3 : decode b_MacroExpandModel_body 3 = .ok (.getfield 94, 3) := by decide +kernel
theorem d_MacroExpandModel_body_6 : decode b_MacroExpandModel_body 6 = .ok (.iconst 1, 1) := by decide +kernel
theorem d_MacroExpandModel_body_7 : decode b_MacroExpandModel_body 7 = .ok (.isub, 1) := by decide +kernel
theorem d_MacroExpandModel_body_8 : decode b_MacroExpandModel_body 8 = .ok (.invokestatic 83, 3) := by decide +kernel
theorem d_MacroExpandModel_body_11 : decode b_MacroExpandModel_body 11 = .ok (.ifCond .ne 5, 3) := by decide +kernel
theorem d_MacroExpandModel_body_14 : decode b_MacroExpandModel_body 14 = .ok (.iconst (-1), 1) := by decide +kernel
theorem d_MacroExpandModel_body_15 : decode b_MacroExpandModel_body 15 = .ok (.ireturn, 1) := by decide +kernel
theorem d_MacroExpandModel_body_16 : decode b_MacroExpandModel_body 16 = .ok (.iload_n 2, 1) := by decide +kernel
theorem d_MacroExpandModel_body_17 : decode b_MacroExpandModel_body 17 = .ok (.invokestatic 104, 3) := by decide +kernel
theorem d_MacroExpandModel_body_20 : decode b_MacroExpandModel_body 20 = .ok (.ifCond .ne 6, 3) := by decide +kernel
theorem d_MacroExpandModel_body_23 : decode b_MacroExpandModel_body 23 = .ok (.bipush (-2), 2) := by decide +kernel
theorem d_MacroExpandModel_body_25 : decode b_MacroExpandModel_body 25 = .ok (.ireturn, 1) := by decide +kernel
theorem d_MacroExpandModel_body_26 : decode b_MacroExpandModel_body 26 = .ok (.aload_n 0, 1) := by decide +kernel
theorem d_MacroExpandModel_body_27 : decode b_MacroExpandModel_body 27 = .ok (.getfield 22, 3) := by decide +kernel
theorem d_MacroExpandModel_body_30 : decode b_MacroExpandModel_body 30 = .ok (.iload_n 1, 1) := by decide +kernel
theorem d_MacroExpandModel_body_31 : decode b_MacroExpandModel_body 31 = .ok (.iaload, 1) := by decide +kernel
theorem d_MacroExpandModel_body_32 : decode b_MacroExpandModel_body 32 = .ok (.sipush 200, 3) := by decide +kernel
theorem d_MacroExpandModel_body_35 : decode b_MacroExpandModel_body 35 = .ok (.if_icmp .ne 6, 3) := by decide +kernel
theorem d_MacroExpandModel_body_38 : decode b_MacroExpandModel_body 38 = .ok (.bipush (-4), 2) := by decide +kernel
theorem d_MacroExpandModel_body_40 : decode b_MacroExpandModel_body 40 = .ok (.ireturn, 1) := by decide +kernel
theorem d_MacroExpandModel_body_41 : decode b_MacroExpandModel_body 41 = .ok (.aload_n 0, 1) := by decide +kernel
theorem d_MacroExpandModel_body_42 : decode b_MacroExpandModel_body 42 = .ok (.getfield 25, 3) := by decide +kernel
theorem d_MacroExpandModel_body_45 : decode b_MacroExpandModel_body 45 = .ok (.sipush 200, 3) := by decide +kernel
theorem d_MacroExpandModel_body_48 : decode b_MacroExpandModel_body 48 = .ok (.iload_n 1, 1) := by decide +kernel
theorem d_MacroExpandModel_body_49 : decode b_MacroExpandModel_body 49 = .ok (.imul, 1) := by decide +kernel
theorem d_MacroExpandModel_body_50 : decode b_MacroExpandModel_body 50 = .ok (.aload_n 0, 1) := by decide +kernel
theorem d_MacroExpandModel_body_51 : decode b_MacroExpandModel_body 51 = .ok (.getfield 22, 3) := by decide +kernel
theorem d_MacroExpandModel_body_54 : decode b_MacroExpandModel_body 54 = .ok (.iload_n 1, 1) := by decide +kernel
theorem d_MacroExpandModel_body_55 : decode b_MacroExpandModel_body 55 = .ok (.iaload, 1) := by decide +kernel
theorem d_MacroExpandModel_body_56 : decode b_MacroExpandModel_body 56 = .ok (.iadd, 1) := by decide +kernel
theorem d_MacroExpandModel_body_57 : decode b_MacroExpandModel_body 57 = .ok (.iload_n 2, 1) := by decide +kernel
theorem d_MacroExpandModel_body_58 : decode b_MacroExpandModel_body 58 = .ok (.iastore, 1) := by decide +kernel
theorem d_MacroExpandModel_body_59 : decode b_MacroExpandModel_body 59 = .ok (.aload_n 0, 1) := by decide +kernel
theorem d_MacroExpandModel_body_60 : decode b_MacroExpandModel_body 60 = .ok (.getfield 22, 3) := by decide +kernel
theorem d_MacroExpandModel_body_63 : decode b_MacroExpandModel_body 63 = .ok (.iload_n 1, 1) := by decide +kernel
theorem d_MacroExpandModel_body_64 : decode b_MacroExpandModel_body 64 = .ok (.dup2, 1) := by decide +kernel
theorem d_MacroExpandModel_body_65 : decode b_MacroExpandModel_body 65 = .ok (.iaload, 1) := by decide +kernel
theorem d_MacroExpandModel_body_66 : decode b_MacroExpandModel_body 66 = .ok (.iconst 1, 1) := by decide +kernel
theorem d_MacroExpandModel_body_67 : decode b_MacroExpandModel_body 67 = .ok (.iadd, 1) := by decide +kernel
theorem d_MacroExpandModel_body_68 : decode b_MacroExpandModel_body 68 = .ok (.iastore, 1) := by decide +kernel
theorem d_MacroExpandModel_body_69 : decode b_MacroExpandModel_body 69 = .ok (.aload_n 0, 1) := by decide +kernel
theorem d_MacroExpandModel_body_70 : decode b_MacroExpandModel_body 70 = .ok (.getfield 22, 3) := by decide +kernel
theorem d_MacroExpandModel_body_73 : decode b_MacroExpandModel_body 73 = .ok (.iload_n 1, 1) := by decide +kernel
theorem d_MacroExpandModel_body_74 : decode b_MacroExpandModel_body 74 = .ok (.iaload, 1) := by decide +kernel
theorem d_MacroExpandModel_body_75 : decode b_MacroExpandModel_body 75 = .ok (.ireturn, 1) := by decide +kernel
theorem d_MacroExpandModel_delimiter_0 : decode b_MacroExpandModel_delimiter 0 = .ok (.iload_n 1, 1) := by decide +kernel
theorem d_MacroExpandModel_delimiter_1 : decode b_MacroExpandModel_delimiter 1 = .ok (.iconst 0, 1) := by decide +kernel
theorem d_MacroExpandModel_delimiter_2 : decode b_MacroExpandModel_delimiter 2 = .ok (.aload_n 0, 1) := by decide +kernel
theorem d_MacroExpandModel_delimiter_3 : decode b_MacroExpandModel_delimiter 3 = .ok (.getfield 94, 3) := by decide +kernel
theorem d_MacroExpandModel_delimiter_6 : decode b_MacroExpandModel_delimiter 6 = .ok (.iconst 1, 1) := by decide +kernel
theorem d_MacroExpandModel_delimiter_7 : decode b_MacroExpandModel_delimiter 7 = .ok (.isub, 1) := by decide +kernel
theorem d_MacroExpandModel_delimiter_8 : decode b_MacroExpandModel_delimiter 8 = .ok (.invokestatic 83, 3) := by decide +kernel
theorem d_MacroExpandModel_delimiter_11 : decode b_MacroExpandModel_delimiter 11 = .ok (.ifCond .ne 5, 3) := by decide +kernel
theorem d_MacroExpandModel_delimiter_14 : decode b_MacroExpandModel_delimiter 14 = .ok (.iconst (-1), 1) := by decide +kernel
theorem d_MacroExpandModel_delimiter_15 : decode b_MacroExpandModel_delimiter 15 = .ok (.ireturn, 1) := by decide +kernel
theorem d_MacroExpandModel_delimiter_16 : decode b_MacroExpandModel_delimiter 16 = .ok (.iload_n 2, 1) := by decide +kernel
theorem d_MacroExpandModel_delimiter_17 : decode b_MacroExpandModel_delimiter 17 = .ok (.iconst 0, 1) := by decide +kernel
theorem d_MacroExpandModel_delimiter_18 : decode b_MacroExpandModel_delimiter 18 = .ok (.aload_n 0, 1) := by decide +kernel
theorem d_MacroExpandModel_delimiter_19 : decode b_MacroExpandModel_delimiter 19 = .ok (.getfield 16, 3) := by decide +kernel
theorem d_MacroExpandModel_delimiter_22 : decode b_MacroExpandModel_delimiter 22 = .ok (.iload_n 1, 1) := by decide +kernel
theorem d_MacroExpandModel_delimiter_23 : decode b_MacroExpandModel_delimiter 23 = .ok (.iaload, 1) := by decide +kernel
theorem d_MacroExpandModel_delimiter_24 : decode b_MacroExpandModel_delimiter 24 = .ok (.invokestatic 83, 3) := by decide +kernel
theorem d_MacroExpandModel_delimiter_27 : decode b_MacroExpandModel_delimiter 27 = .ok (.ifCond .eq 31, 3) := by decide +kernel
theorem d_MacroExpandModel_delimiter_30 : decode b_MacroExpandModel_delimiter 30 = .ok (.iload_n 3, 1) := by decide +kernel
theorem d_MacroExpandModel_delimiter_31 : decode b_MacroExpandModel_delimiter 31 = .ok (.invokestatic 104, 3) := by decide +kernel
theorem d_MacroExpandModel_delimiter_34 : decode b_MacroExpandModel_delimiter 34 = .ok (.ifCond .eq 24, 3) := by decide +kernel
theorem d_MacroExpandModel_delimiter_37 : decode b_MacroExpandModel_delimiter 37 = .ok (.iload_n 3, 1) := by decide +kernel
theorem d_MacroExpandModel_delimiter_38 : decode b_MacroExpandModel_delimiter 38 = .ok (.sipush 257, 3) := by decide +kernel
theorem d_MacroExpandModel_delimiter_41 : decode b_MacroExpandModel_delimiter 41 = .ok (.if_icmp .eq 17, 3) := by decide +kernel
theorem d_MacroExpandModel_delimiter_44 : decode b_MacroExpandModel_delimiter 44 = .ok (.iload_n 3, 1) := by decide +kernel
theorem d_MacroExpandModel_delimiter_45 : decode b_MacroExpandModel_delimiter 45 = .ok (.sipush 258, 3) := by decide +kernel
theorem d_MacroExpandModel_delimiter_48 : decode b_MacroExpandModel_delimiter 48 = .ok (.if_icmp .eq 10, 3) := by decide +kernel
theorem d_MacroExpandModel_delimiter_51 : decode b_MacroExpandModel_delimiter 51 = .ok (.iload_n 3, 1) := by decide +kernel
theorem d_MacroExpandModel_delimiter_52 : decode b_MacroExpandModel_delimiter 52 = .ok (.invokestatic 87, 3) := by decide +kernel
theorem d_MacroExpandModel_delimiter_55 : decode b_MacroExpandModel_delimiter 55 = .ok (.ifCond .eq 6, 3) := by decide +kernel
theorem d_MacroExpandModel_delimiter_58 : decode b_MacroExpandModel_delimiter 58 = .ok (.bipush (-2), 2) := by decide +kernel
theorem d_MacroExpandModel_delimiter_60 : decode b_MacroExpandModel_delimiter 60 = .ok (.ireturn, 1) := by decide +kernel
theorem d_MacroExpandModel_delimiter_61 : decode b_MacroExpandModel_delimiter 61 = .ok (.bipush 10, 2) := by decide +kernel
theorem d_MacroExpandModel_delimiter_63 : decode b_MacroExpandModel_delimiter 63 = .ok (.iload_n 1, 1) := by decide +kernel
theorem d_MacroExpandModel_delimiter_64 : decode b_MacroExpandModel_delimiter 64 = .ok (.imul, 1) := by decide +kernel
theorem d_MacroExpandModel_delimiter_65 : decode b_MacroExpandModel_delimiter 65 = .ok (.iload_n 2, 1) := by decide +kernel
theorem d_MacroExpandModel_delimiter_66 : decode b_MacroExpandModel_delimiter 66 = .ok (.iadd, 1) := by decide +kernel
theorem d_MacroExpandModel_delimiter_67 : decode b_MacroExpandModel_delimiter 67 = .ok (.istore 4, 2) := by decide +kernel
theorem d_MacroExpandModel_delimiter_69 : decode b_MacroExpandModel_delimiter 69 = .ok (.aload_n 0, 1) := by decide +kernel
theorem d_MacroExpandModel_delimiter_70 : decode b_MacroExpandModel_delimiter 70 = .ok (.getfield 28, 3) := by decide +kernel
theorem d_MacroExpandModel_delimiter_73 : decode b_MacroExpandModel_delimiter 73 = .ok (.iload 4, 2) := by decide +kernel
theorem d_MacroExpandModel_delimiter_75 : decode b_MacroExpandModel_delimiter 75 = .ok (.iaload, 1) := by decide +kernel
theorem d_MacroExpandModel_delimiter_76 : decode b_MacroExpandModel_delimiter 76 = .ok (.sipush 200, 3) := by decide +kernel
theorem d_MacroExpandModel_delimiter_79 : decode b_MacroExpandModel_delimiter 79 = .ok (.if_icmp .ne 6, 3) := by decide +kernel
theorem d_MacroExpandModel_delimiter_82 : decode b_MacroExpandModel_delimiter 82 = .ok (.bipush (-4), 2) := by decide +kernel
theorem d_MacroExpandModel_delimiter_84 : decode b_MacroExpandModel_delimiter 84 = .ok (.ireturn, 1) := by decide +kernel
theorem d_MacroExpandModel_delimiter_85 : decode b_MacroExpandModel_delimiter 85 = .ok (.aload_n 0, 1) := by decide +kernel
theorem d_MacroExpandModel_delimiter_86 : decode b_MacroExpandModel_delimiter 86 = .ok (.getfield 32, 3) := by decide +kernel
theorem d_MacroExpandModel_delimiter_89 : decode b_MacroExpandModel_delimiter 89 = .ok (.sipush 200, 3) := by decide +kernel
theorem d_MacroExpandModel_delimiter_92 : decode b_MacroExpandModel_delimiter 92 = .ok (.iload 4, 2) := by decide +kernel
theorem d_MacroExpandModel_delimiter_94 : decode b_MacroExpandModel_delimiter 94 = .ok (.imul, 1) := by decide +kernel
theorem d_MacroExpandModel_delimiter_95 : decode b_MacroExpandModel_delimiter 95 = .ok (.aload_n 0, 1) := by decide +kernel
theorem d_MacroExpandModel_delimiter_96 : decode b_MacroExpandModel_delimiter 96 = .ok (.getfield 28, 3) := by decide +kernel
theorem d_MacroExpandModel_delimiter_99 : decode b_MacroExpandModel_delimiter 99 = .ok (.iload 4, 2) := by decide +kernel
theorem d_MacroExpandModel_delimiter_101 : decode b_MacroExpandModel_delimiter 101 = .ok (.iaload, 1) := by decide +kernel
theorem d_MacroExpandModel_delimiter_102 : decode b_MacroExpandModel_delimiter 102 = .ok (.iadd, 1) := by decide +kernel
theorem d_MacroExpandModel_delimiter_103 : decode b_MacroExpandModel_delimiter 103 = .ok (.iload_n 3, 1) := by decide +kernel
theorem d_MacroExpandModel_delimiter_104 : decode b_MacroExpandModel_delimiter 104 = .ok (.iastore, 1) := by decide +kernel
theorem d_MacroExpandModel_delimiter_105 : decode b_MacroExpandModel_delimiter 105 = .ok (.aload_n 0, 1) := by decide +kernel
theorem d_MacroExpandModel_delimiter_106 : decode b_MacroExpandModel_delimiter 106 = .ok (.getfield 28, 3) := by decide +kernel
theorem d_MacroExpandModel_delimiter_109 : decode b_MacroExpandModel_delimiter 109 = .ok (.iload 4, 2) := by decide +kernel
theorem d_MacroExpandModel_delimiter_111 : decode b_MacroExpandModel_delimiter 111 = .ok (.dup2, 1) := by decide +kernel
theorem d_MacroExpandModel_delimiter_112 : decode b_MacroExpandModel_delimiter 112 = .ok (.iaload, 1) := by decide +kernel
theorem d_MacroExpandModel_delimiter_113 : decode b_MacroExpandModel_delimiter 113 = .ok (.iconst 1, 1) := by decide +kernel
theorem d_MacroExpandModel_delimiter_114 : decode b_MacroExpandModel_delimiter 114 = .ok (.iadd, 1) := by decide +kernel
theorem d_MacroExpandModel_delimiter_115 : decode b_MacroExpandModel_delimiter 115 = .ok (.iastore, 1) := by decide +kernel
theorem d_MacroExpandModel_delimiter_116 : decode b_MacroExpandModel_delimiter 116 = .ok (.aload_n 0, 1) := by decide +kernel
theorem d_MacroExpandModel_delimiter_117 : decode b_MacroExpandModel_delimiter 117 = .ok (.getfield 28, 3) := by decide +kernel
theorem d_MacroExpandModel_delimiter_120 : decode b_MacroExpandModel_delimiter 120 = .ok (.iload 4, 2) := by decide +kernel
theorem d_MacroExpandModel_delimiter_122 : decode b_MacroExpandModel_delimiter 122 = .ok (.iaload, 1) := by decide +kernel
theorem d_MacroExpandModel_delimiter_123 : decode b_MacroExpandModel_delimiter 123 = .ok (.ireturn, 1) := by decide +kernel
theorem d_MacroExpandModel_token_0 : decode b_MacroExpandModel_token 0 = .ok (.iload_n 1, 1) := by decide +kernel
theorem d_MacroExpandModel_token_1 : decode b_MacroExpandModel_token 1 = .ok (.invokestatic 104, 3) := by decide +kernel
theorem d_MacroExpandModel_token_4 : decode b_MacroExpandModel_token 4 = .ok (.ifCond .ne 6, 3) := by decide +kernel
theorem d_MacroExpandModel_token_7 : decode b_MacroExpandModel_token 7 = .ok (.bipush (-2), 2) := by decide +kernel
theorem d_MacroExpandModel_token_9 : decode b_MacroExpandModel_token 9 = .ok (.ireturn, 1) := by decide +kernel
theorem d_MacroExpandModel_token_10 : decode b_MacroExpandModel_token 10 = .ok (.aload_n 0, 1) := by decide +kernel
theorem d_MacroExpandModel_token_11 : decode b_MacroExpandModel_token 11 = .ok (.getfield 107, 3) := by decide +kernel
theorem d_MacroExpandModel_token_14 : decode b_MacroExpandModel_token 14 = .ok (.sipush 3000, 3) := by decide +kernel
theorem d_MacroExpandModel_token_17 : decode b_MacroExpandModel_token 17 = .ok (.if_icmp .ne 6, 3) := by decide +kernel
theorem d_MacroExpandModel_token_20 : decode b_MacroExpandModel_token 20 = .ok (.bipush (-4), 2) := by decide +kernel
theorem d_MacroExpandModel_token_22 : decode b_MacroExpandModel_token 22 = .ok (.ireturn, 1) := by decide +kernel
theorem d_MacroExpandModel_token_23 : decode b_MacroExpandModel_token 23 = .ok (.aload_n 0, 1) := by decide +kernel
theorem d_MacroExpandModel_token_24 : decode b_MacroExpandModel_token 24 = .ok (.getfield 7, 3) := by decide +kernel
theorem d_MacroExpandModel_token_27 : decode b_MacroExpandModel_token 27 = .ok (.aload_n 0, 1) := by decide +kernel
theorem d_MacroExpandModel_token_28 : decode b_MacroExpandModel_token 28 = .ok (.getfield 110, 3) := by decide +kernel
theorem d_MacroExpandModel_token_31 : decode b_MacroExpandModel_token 31 = .ok (.aload_n 0, 1) := by decide +kernel
theorem d_MacroExpandModel_token_32 : decode b_MacroExpandModel_token 32 = .ok (.getfield 107, 3) := by decide +kernel
theorem d_MacroExpandModel_token_35 : decode b_MacroExpandModel_token 35 = .ok (.iadd, 1) := by decide +kernel
theorem d_MacroExpandModel_token_36 : decode b_MacroExpandModel_token 36 = .ok (.sipush 4095, 3) := by decide +kernel
theorem d_MacroExpandModel_token_39 : decode b_MacroExpandModel_token 39 = .ok (.iand, 1) := by decide +kernel
theorem d_MacroExpandModel_token_40 : decode b_MacroExpandModel_token 40 = .ok (.iload_n 1, 1) := by decide +kernel
theorem d_MacroExpandModel_token_41 : decode b_MacroExpandModel_token 41 = .ok (.iastore, 1) := by decide +kernel
theorem d_MacroExpandModel_token_42 : decode b_MacroExpandModel_token 42 = .ok (.aload_n 0, 1) := by decide +kernel
theorem d_MacroExpandModel_token_43 : decode b_MacroExpandModel_token 43 = .ok (.dup, 1) := by decide +kernel
theorem d_MacroExpandModel_token_44 : decode b_MacroExpandModel_token 44 = .ok (.getfield 107, 3) := by decide +kernel
theorem d_MacroExpandModel_token_47 : decode b_MacroExpandModel_token 47 = .ok (.iconst 1, 1) := by decide +kernel
theorem d_MacroExpandModel_token_48 : decode b_MacroExpandModel_token 48 = .ok (.iadd, 1) := by decide +kernel
theorem d_MacroExpandModel_token_49 : decode b_MacroExpandModel_token 49 = .ok (.putfield 107, 3) := by decide +kernel
theorem d_MacroExpandModel_token_52 : decode b_MacroExpandModel_token 52 = .ok (.aload_n 0, 1) := by decide +kernel
theorem d_MacroExpandModel_token_53 : decode b_MacroExpandModel_token 53 = .ok (.getfield 107, 3) := by decide +kernel
theorem d_MacroExpandModel_token_56 : decode b_MacroExpandModel_token 56 = .ok (.ireturn, 1) := by decide +kernel
theorem d_MacroExpandModel_group_0 : decode b_MacroExpandModel_group 0 = .ok (.iload_n 1, 1) := by decide +kernel
theorem d_MacroExpandModel_group_1 : decode b_MacroExpandModel_group 1 = .ok (.ifCond .eq 66, 3) := by decide +kernel
theorem d_MacroExpandModel_group_4 : decode b_MacroExpandModel_group 4 = .ok (.aload_n 0, 1) := by decide +kernel
theorem d_MacroExpandModel_group_5 : decode b_MacroExpandModel_group 5 = .ok (.getfield 97, 3) := by decide +kernel
theorem d_MacroExpandModel_group_8 : decode b_MacroExpandModel_group 8 = .ok (.bipush 20, 2) := by decide +kernel
theorem d_MacroExpandModel_group_10 : decode b_MacroExpandModel_group 10 = .ok (.if_icmp .ne 6, 3) := by decide +kernel
theorem d_MacroExpandModel_group_13 : decode b_MacroExpandModel_group 13 = .ok (.bipush (-4), 2) := by decide +kernel
theorem d_MacroExpandModel_group_15 : decode b_MacroExpandModel_group 15 = .ok (.ireturn, 1) := by decide +kernel
theorem d_MacroExpandModel_group_16 : decode b_MacroExpandModel_group 16 = .ok (.iconst 0, 1) := by decide +kernel
theorem d_MacroExpandModel_group_17 : decode b_MacroExpandModel_group 17 = .ok (.istore_n 2, 1) := by decide +kernel
theorem d_MacroExpandModel_group_18 : decode b_MacroExpandModel_group 18 = .ok (.iload_n 2, 1) := by decide +kernel
theorem d_MacroExpandModel_group_19 : decode b_MacroExpandModel_group 19 = .ok (.sipush 200, 3) := by decide +kernel
theorem d_MacroExpandModel_group_22 : decode b_MacroExpandModel_group 22 = .ok (.if_icmp .ge 30, 3) := by decide +kernel
theorem d_MacroExpandModel_group_25 : decode b_MacroExpandModel_group 25 = .ok (.aload_n 0, 1) := by decide +kernel
theorem d_MacroExpandModel_group_26 : decode b_MacroExpandModel_group 26 = .ok (.getfield 38, 3) := by decide +kernel
theorem d_MacroExpandModel_group_29 : decode b_MacroExpandModel_group 29 = .ok (.sipush 200, 3) := by decide +kernel
theorem d_MacroExpandModel_group_32 : decode b_MacroExpandModel_group 32 = .ok (.aload_n 0, 1) := by decide +kernel
theorem d_MacroExpandModel_group_33 : decode b_MacroExpandModel_group 33 = .ok (.getfield 97, 3) := by decide +kernel
theorem d_MacroExpandModel_group_36 : decode b_MacroExpandModel_group 36 = .ok (.imul, 1) := by decide +kernel
theorem d_MacroExpandModel_group_37 : decode b_MacroExpandModel_group 37 = .ok (.iload_n 2, 1) := by decide +kernel
theorem d_MacroExpandModel_group_38 : decode b_MacroExpandModel_group 38 = .ok (.iadd, 1) := by decide +kernel
theorem d_MacroExpandModel_group_39 : decode b_MacroExpandModel_group 39 = .ok (.aload_n 0, 1) := by decide +kernel
theorem d_MacroExpandModel_group_40 : decode b_MacroExpandModel_group 40 = .ok (.getfield 35, 3) := by decide +kernel
theorem d_MacroExpandModel_group_43 : decode b_MacroExpandModel_group 43 = .ok (.iload_n 2, 1) := by decide +kernel
theorem d_MacroExpandModel_group_44 : decode b_MacroExpandModel_group 44 = .ok (.iaload, 1) := by decide +kernel
theorem d_MacroExpandModel_group_45 : decode b_MacroExpandModel_group 45 = .ok (.iastore, 1) := by decide +kernel
theorem d_MacroExpandModel_group_46 : decode b_MacroExpandModel_group 46 = .ok (.iinc 2 1, 3) := by decide +kernel
theorem d_MacroExpandModel_group_49 : decode b_MacroExpandModel_group 49 = .ok (.goto (-31), 3) := by decide +kernel
theorem d_MacroExpandModel_group_52 : decode b_MacroExpandModel_group 52 = .ok (.aload_n 0, 1) := by decide +kernel
theorem d_MacroExpandModel_group_53 : decode b_MacroExpandModel_group 53 = .ok (.dup, 1) := by decide +kernel
theorem d_MacroExpandModel_group_54 : decode b_MacroExpandModel_group 54 = .ok (.getfield 97, 3) := by decide +kernel
theorem d_MacroExpandModel_group_57 : decode b_MacroExpandModel_group 57 = .ok (.iconst 1, 1) := by decide +kernel
theorem d_MacroExpandModel_group_58 : decode b_MacroExpandModel_group 58 = .ok (.iadd, 1) := by decide +kernel
theorem d_MacroExpandModel_group_59 : decode b_MacroExpandModel_group 59 = .ok (.putfield 97, 3) := by decide +kernel
theorem d_MacroExpandModel_group_62 : decode b_MacroExpandModel_group 62 = .ok (.aload_n 0, 1) := by decide +kernel
theorem d_MacroExpandModel_group_63 : decode b_MacroExpandModel_group 63 = .ok (.getfield 97, 3) := by decide +kernel
theorem d_MacroExpandModel_group_66 : decode b_MacroExpandModel_group 66 = .ok (.ireturn, 1) := by decide +kernel
theorem d_MacroExpandModel_group_67 : decode b_MacroExpandModel_group 67 = .ok (.aload_n 0, 1) := by decide +kernel
theorem d_MacroExpandModel_group_68 : decode b_MacroExpandModel_group 68 = .ok (.getfield 97, 3) := by decide +kernel
theorem d_MacroExpandModel_group_71 : decode b_MacroExpandModel_group 71 = .ok (.ifCond .ne 6, 3) := by decide +kernel
theorem d_MacroExpandModel_group_74 : decode b_MacroExpandModel_group 74 = .ok (.bipush (-3), 2) := by decide +kernel
theorem d_MacroExpandModel_group_76 : decode b_MacroExpandModel_group 76 = .ok (.ireturn, 1) := by decide +kernel
theorem d_MacroExpandModel_group_77 : decode b_MacroExpandModel_group 77 = .ok (.aload_n 0, 1) := by decide +kernel
theorem d_MacroExpandModel_group_78 : decode b_MacroExpandModel_group 78 = .ok (.dup, 1) := by decide +kernel
theorem d_MacroExpandModel_group_79 : decode b_MacroExpandModel_group 79 = .ok (.getfield 97, 3) := by decide +kernel
theorem d_MacroExpandModel_group_82 : decode b_MacroExpandModel_group 82 = .ok (.iconst 1, 1) := by decide +kernel
theorem d_MacroExpandModel_group_83 : decode b_MacroExpandModel_group 83 = .ok (.isub, 1) := by decide +kernel
theorem d_MacroExpandModel_group_84 : decode b_MacroExpandModel_group 84 = .ok (.putfield 97, 3) := by decide +kernel
theorem d_MacroExpandModel_group_87 : decode b_MacroExpandModel_group 87 = .ok (.iconst 0, 1) := by decide +kernel
theorem d_MacroExpandModel_group_88 : decode b_MacroExpandModel_group 88 = .ok (.istore_n 2, 1) := by decide +kernel
theorem d_MacroExpandModel_group_89 : decode b_MacroExpandModel_group 89 = .ok (.iload_n 2, 1) := by decide +kernel
theorem d_MacroExpandModel_group_90 : decode b_MacroExpandModel_group 90 = .ok (.sipush 200, 3) := by decide +kernel
theorem d_MacroExpandModel_group_93 : decode b_MacroExpandModel_group 93 = .ok (.if_icmp .ge 30, 3) := by decide +kernel
theorem d_MacroExpandModel_group_96 : decode b_MacroExpandModel_group 96 = .ok (.aload_n 0, 1) := by decide +kernel
theorem d_MacroExpandModel_group_97 : decode b_MacroExpandModel_group 97 = .ok (.getfield 35, 3) := by decide +kernel
theorem d_MacroExpandModel_group_100 : decode b_MacroExpandModel_group 100 = .ok (.iload_n 2, 1) := by decide +kernel
theorem d_MacroExpandModel_group_101 : decode b_MacroExpandModel_group 101 = .ok (.aload_n 0, 1) := by decide +kernel
theorem d_MacroExpandModel_group_102 : decode b_MacroExpandModel_group 102 = .ok (.getfield 38, 3) := by decide +kernel
theorem d_MacroExpandModel_group_105 : decode b_MacroExpandModel_group 105 = .ok (.sipush 200, 3) := by decide +kernel
theorem d_MacroExpandModel_group_108 : decode b_MacroExpandModel_group 108 = .ok (.aload_n 0, 1) := by decide +kernel
theorem d_MacroExpandModel_group_109 : decode b_MacroExpandModel_group 109 = .ok (.getfield 97, 3) := by decide +kernel
theorem d_MacroExpandModel_group_112 : decode b_MacroExpandModel_group 112 = .ok (.imul, 1) := by decide +kernel
theorem d_MacroExpandModel_group_113 : decode b_MacroExpandModel_group 113 = .ok (.iload_n 2, 1) := by decide +kernel
theorem d_MacroExpandModel_group_114 : decode b_MacroExpandModel_group 114 = .ok (.iadd, 1) := by decide +kernel
theorem d_MacroExpandModel_group_115 : decode b_MacroExpandModel_group 115 = .ok (.iaload, 1) := by decide +kernel
theorem d_MacroExpandModel_group_116 : decode b_MacroExpandModel_group 116 = .ok (.iastore, 1) := by decide +kernel
theorem d_MacroExpandModel_group_117 : decode b_MacroExpandModel_group 117 = .ok (.iinc 2 1, 3) := by decide +kernel
theorem d_MacroExpandModel_group_120 : decode b_MacroExpandModel_group 120 = .ok (.goto (-31), 3) := by decide +kernel
theorem d_MacroExpandModel_group_123 : decode b_MacroExpandModel_group 123 = .ok (.aload_n 0, 1) := by decide +kernel
theorem d_MacroExpandModel_group_124 : decode b_MacroExpandModel_group 124 = .ok (.getfield 97, 3) := by decide +kernel
theorem d_MacroExpandModel_group_127 : decode b_MacroExpandModel_group 127 = .ok (.ireturn, 1) := by decide +kernel
theorem d_MacroExpandModel_get_0 : decode b_MacroExpandModel_get 0 = .ok (.aload_n 0, 1) := by decide +kernel
theorem d_MacroExpandModel_get_1 : decode b_MacroExpandModel_get 1 = .ok (.getfield 7, 3) := by decide +kernel
theorem d_MacroExpandModel_get_4 : decode b_MacroExpandModel_get 4 = .ok (.aload_n 0, 1) := by decide +kernel
theorem d_MacroExpandModel_get_5 : decode b_MacroExpandModel_get 5 = .ok (.getfield 110, 3) := by decide +kernel
theorem d_MacroExpandModel_get_8 : decode b_MacroExpandModel_get 8 = .ok (.iload_n 1, 1) := by decide +kernel
theorem d_MacroExpandModel_get_9 : decode b_MacroExpandModel_get 9 = .ok (.iadd, 1) := by decide +kernel
theorem d_MacroExpandModel_get_10 : decode b_MacroExpandModel_get 10 = .ok (.sipush 4095, 3) := by decide +kernel
theorem d_MacroExpandModel_get_13 : decode b_MacroExpandModel_get 13 = .ok (.iand, 1) := by decide +kernel
theorem d_MacroExpandModel_get_14 : decode b_MacroExpandModel_get 14 = .ok (.iaload, 1) := by decide +kernel
theorem d_MacroExpandModel_get_15 : decode b_MacroExpandModel_get 15 = .ok (.ireturn, 1) := by decide +kernel
theorem d_MacroExpandModel_mark_0 : decode b_MacroExpandModel_mark 0 = .ok (.aload_n 0, 1) := by decide +kernel
theorem d_MacroExpandModel_mark_1 : decode b_MacroExpandModel_mark 1 = .ok (.aload_n 0, 1) := by decide +kernel
theorem d_MacroExpandModel_mark_2 : decode b_MacroExpandModel_mark 2 = .ok (.getfield 113, 3) := by decide +kernel
theorem d_MacroExpandModel_mark_5 : decode b_MacroExpandModel_mark 5 = .ok (.ifCond .ne 7, 3) := by decide +kernel
theorem d_MacroExpandModel_mark_8 : decode b_MacroExpandModel_mark 8 = .ok (.iload_n 1, 1) := by decide +kernel
theorem d_MacroExpandModel_mark_9 : decode b_MacroExpandModel_mark 9 = .ok (.goto 7, 3) := by decide +kernel
theorem d_MacroExpandModel_mark_12 : decode b_MacroExpandModel_mark 12 = .ok (.aload_n 0, 1) := by decide +kernel
theorem d_MacroExpandModel_mark_13 : decode b_MacroExpandModel_mark 13 = .ok (.getfield 113, 3) := by decide +kernel
theorem d_MacroExpandModel_mark_16 : decode b_MacroExpandModel_mark 16 = .ok (.putfield 113, 3) := by decide +kernel
theorem d_MacroExpandModel_mark_19 : decode b_MacroExpandModel_mark 19 = .ok (.return_, 1) := by decide +kernel
theorem d_MacroExpandModel_take_0 : decode b_MacroExpandModel_take 0 = .ok (.iload_n 1, 1) := by decide +kernel
theorem d_MacroExpandModel_take_1 : decode b_MacroExpandModel_take 1 = .ok (.iconst 1, 1) := by decide +kernel
theorem d_MacroExpandModel_take_2 : decode b_MacroExpandModel_take 2 = .ok (.isub, 1) := by decide +kernel
theorem d_MacroExpandModel_take_3 : decode b_MacroExpandModel_take 3 = .ok (.istore_n 3, 1) := by decide +kernel
theorem d_MacroExpandModel_take_4 : decode b_MacroExpandModel_take 4 = .ok (.iload_n 3, 1) := by decide +kernel
theorem d_MacroExpandModel_take_5 : decode b_MacroExpandModel_take 5 = .ok (.ifCond .lt 31, 3) := by decide +kernel
theorem d_MacroExpandModel_take_8 : decode b_MacroExpandModel_take 8 = .ok (.aload_n 0, 1) := by decide +kernel
theorem d_MacroExpandModel_take_9 : decode b_MacroExpandModel_take 9 = .ok (.getfield 7, 3) := by decide +kernel
theorem d_MacroExpandModel_take_12 : decode b_MacroExpandModel_take 12 = .ok (.aload_n 0, 1) := by decide +kernel
theorem d_MacroExpandModel_take_13 : decode b_MacroExpandModel_take 13 = .ok (.getfield 110, 3) := by decide +kernel
theorem d_MacroExpandModel_take_16 : decode b_MacroExpandModel_take 16 = .ok (.iload_n 3, 1) := by decide +kernel
theorem d_MacroExpandModel_take_17 : decode b_MacroExpandModel_take 17 = .ok (.iadd, 1) := by decide +kernel
theorem d_MacroExpandModel_take_18 : decode b_MacroExpandModel_take 18 = .ok (.iload_n 2, 1) := by decide +kernel
theorem d_MacroExpandModel_take_19 : decode b_MacroExpandModel_take 19 = .ok (.iadd, 1) := by decide +kernel
theorem d_MacroExpandModel_take_20 : decode b_MacroExpandModel_take 20 = .ok (.sipush 4095, 3) := by decide +kernel
theorem d_MacroExpandModel_take_23 : decode b_MacroExpandModel_take 23 = .ok (.iand, 1) := by decide +kernel
theorem d_MacroExpandModel_take_24 : decode b_MacroExpandModel_take 24 = .ok (.aload_n 0, 1) := by decide +kernel
theorem d_MacroExpandModel_take_25 : decode b_MacroExpandModel_take 25 = .ok (.iload_n 3, 1) := by decide +kernel
theorem d_MacroExpandModel_take_26 : decode b_MacroExpandModel_take 26 = .ok (.invokevirtual 116, 3) := by decide +kernel
theorem d_MacroExpandModel_take_29 : decode b_MacroExpandModel_take 29 = .ok (.iastore, 1) := by decide +kernel
theorem d_MacroExpandModel_take_30 : decode b_MacroExpandModel_take 30 = .ok (.iinc 3 (-1), 3) := by decide +kernel
theorem d_MacroExpandModel_take_33 : decode b_MacroExpandModel_take 33 = .ok (.goto (-29), 3) := by decide +kernel
theorem d_MacroExpandModel_take_36 : decode b_MacroExpandModel_take 36 = .ok (.aload_n 0, 1) := by decide +kernel
theorem d_MacroExpandModel_take_37 : decode b_MacroExpandModel_take 37 = .ok (.aload_n 0, 1) := by decide +kernel
theorem d_MacroExpandModel_take_38 : decode b_MacroExpandModel_take 38 = .ok (.getfield 110, 3) := by decide +kernel
theorem d_MacroExpandModel_take_41 : decode b_MacroExpandModel_take 41 = .ok (.iload_n 2, 1) := by decide +kernel
theorem d_MacroExpandModel_take_42 : decode b_MacroExpandModel_take 42 = .ok (.iadd, 1) := by decide +kernel
theorem d_MacroExpandModel_take_43 : decode b_MacroExpandModel_take 43 = .ok (.sipush 4095, 3) := by decide +kernel
theorem d_MacroExpandModel_take_46 : decode b_MacroExpandModel_take 46 = .ok (.iand, 1) := by decide +kernel
theorem d_MacroExpandModel_take_47 : decode b_MacroExpandModel_take 47 = .ok (.putfield 110, 3) := by decide +kernel
theorem d_MacroExpandModel_take_50 : decode b_MacroExpandModel_take 50 = .ok (.aload_n 0, 1) := by decide +kernel
theorem d_MacroExpandModel_take_51 : decode b_MacroExpandModel_take 51 = .ok (.dup, 1) := by decide +kernel
theorem d_MacroExpandModel_take_52 : decode b_MacroExpandModel_take 52 = .ok (.getfield 107, 3) := by decide +kernel
theorem d_MacroExpandModel_take_55 : decode b_MacroExpandModel_take 55 = .ok (.iload_n 2, 1) := by decide +kernel
theorem d_MacroExpandModel_take_56 : decode b_MacroExpandModel_take 56 = .ok (.isub, 1) := by decide +kernel
theorem d_MacroExpandModel_take_57 : decode b_MacroExpandModel_take 57 = .ok (.putfield 107, 3) := by decide +kernel
theorem d_MacroExpandModel_take_60 : decode b_MacroExpandModel_take 60 = .ok (.return_, 1) := by decide +kernel
theorem d_MacroExpandModel_spread_0 : decode b_MacroExpandModel_spread 0 = .ok (.aload_n 0, 1) := by decide +kernel
theorem d_MacroExpandModel_spread_1 : decode b_MacroExpandModel_spread 1 = .ok (.aload_n 0, 1) := by decide +kernel
theorem d_MacroExpandModel_spread_2 : decode b_MacroExpandModel_spread 2 = .ok (.getfield 110, 3) := by decide +kernel
theorem d_MacroExpandModel_spread_5 : decode b_MacroExpandModel_spread 5 = .ok (.iload_n 2, 1) := by decide +kernel
theorem d_MacroExpandModel_spread_6 : decode b_MacroExpandModel_spread 6 = .ok (.isub, 1) := by decide +kernel
theorem d_MacroExpandModel_spread_7 : decode b_MacroExpandModel_spread 7 = .ok (.sipush 4095, 3) := by decide +kernel
theorem d_MacroExpandModel_spread_10 : decode b_MacroExpandModel_spread 10 = .ok (.iand, 1) := by decide +kernel
theorem d_MacroExpandModel_spread_11 : decode b_MacroExpandModel_spread 11 = .ok (.putfield 110, 3) := by decide +kernel
theorem d_MacroExpandModel_spread_14 : decode b_MacroExpandModel_spread 14 = .ok (.aload_n 0, 1) := by decide +kernel
theorem d_MacroExpandModel_spread_15 : decode b_MacroExpandModel_spread 15 = .ok (.dup, 1) := by decide +kernel
theorem d_MacroExpandModel_spread_16 : decode b_MacroExpandModel_spread 16 = .ok (.getfield 107, 3) := by decide +kernel
theorem d_MacroExpandModel_spread_19 : decode b_MacroExpandModel_spread 19 = .ok (.iload_n 2, 1) := by decide +kernel
theorem d_MacroExpandModel_spread_20 : decode b_MacroExpandModel_spread 20 = .ok (.iadd, 1) := by decide +kernel
theorem d_MacroExpandModel_spread_21 : decode b_MacroExpandModel_spread 21 = .ok (.putfield 107, 3) := by decide +kernel
theorem d_MacroExpandModel_spread_24 : decode b_MacroExpandModel_spread 24 = .ok (.iconst 0, 1) := by decide +kernel
theorem d_MacroExpandModel_spread_25 : decode b_MacroExpandModel_spread 25 = .ok (.istore_n 3, 1) := by decide +kernel
theorem d_MacroExpandModel_spread_26 : decode b_MacroExpandModel_spread 26 = .ok (.iload_n 3, 1) := by decide +kernel
theorem d_MacroExpandModel_spread_27 : decode b_MacroExpandModel_spread 27 = .ok (.iload_n 1, 1) := by decide +kernel
theorem d_MacroExpandModel_spread_28 : decode b_MacroExpandModel_spread 28 = .ok (.if_icmp .ge 31, 3) := by decide +kernel
theorem d_MacroExpandModel_spread_31 : decode b_MacroExpandModel_spread 31 = .ok (.aload_n 0, 1) := by decide +kernel
theorem d_MacroExpandModel_spread_32 : decode b_MacroExpandModel_spread 32 = .ok (.getfield 7, 3) := by decide +kernel
theorem d_MacroExpandModel_spread_35 : decode b_MacroExpandModel_spread 35 = .ok (.aload_n 0, 1) := by decide +kernel
theorem d_MacroExpandModel_spread_36 : decode b_MacroExpandModel_spread 36 = .ok (.getfield 110, 3) := by decide +kernel
theorem d_MacroExpandModel_spread_39 : decode b_MacroExpandModel_spread 39 = .ok (.iload_n 3, 1) := by decide +kernel
theorem d_MacroExpandModel_spread_40 : decode b_MacroExpandModel_spread 40 = .ok (.iadd, 1) := by decide +kernel
theorem d_MacroExpandModel_spread_41 : decode b_MacroExpandModel_spread 41 = .ok (.sipush 4095, 3) := by decide +kernel
theorem d_MacroExpandModel_spread_44 : decode b_MacroExpandModel_spread 44 = .ok (.iand, 1) := by decide +kernel
theorem d_MacroExpandModel_spread_45 : decode b_MacroExpandModel_spread 45 = .ok (.aload_n 0, 1) := by decide +kernel
theorem d_MacroExpandModel_spread_46 : decode b_MacroExpandModel_spread 46 = .ok (.iload_n 3, 1) := by decide +kernel
theorem d_MacroExpandModel_spread_47 : decode b_MacroExpandModel_spread 47 = .ok (.iload_n 2, 1) := by decide +kernel
theorem d_MacroExpandModel_spread_48 : decode b_MacroExpandModel_spread 48 = .ok (.iadd, 1) := by decide +kernel
theorem d_MacroExpandModel_spread_49 : decode b_MacroExpandModel_spread 49 = .ok (.invokevirtual 116, 3) := by decide +kernel
theorem d_MacroExpandModel_spread_52 : decode b_MacroExpandModel_spread 52 = .ok (.iastore, 1) := by decide +kernel
theorem d_MacroExpandModel_spread_53 : decode b_MacroExpandModel_spread 53 = .ok (.iinc 3 1, 3) := by decide +kernel
theorem d_MacroExpandModel_spread_56 : decode b_MacroExpandModel_spread 56 = .ok (.goto (-30), 3) := by decide +kernel
theorem d_MacroExpandModel_spread_59 : decode b_MacroExpandModel_spread 59 = .ok (.return_, 1) := by decide +kernel
