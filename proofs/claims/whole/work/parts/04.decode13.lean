theorem d_Definition_begin_0 : decode b_Definition_begin 0 = .ok (.iconst 0, 1) := by decide +kernel
theorem d_Definition_begin_1 : decode b_Definition_begin 1 = .ok (.istore_n 2, 1) := by decide +kernel
theorem d_Definition_begin_2 : decode b_Definition_begin 2 = .ok (.iload_n 2, 1) := by decide +kernel
theorem d_Definition_begin_3 : decode b_Definition_begin 3 = .ok (.aload_n 0, 1) := by decide +kernel
theorem d_Definition_begin_4 : decode b_Definition_begin 4 = .ok (.getfield 11, 3) := by decide +kernel
theorem d_Definition_begin_7 : decode b_Definition_begin 7 = .ok (.arraylength, 1) := by decide +kernel
theorem d_Definition_begin_8 : decode b_Definition_begin 8 = .ok (.if_icmp .ge 18, 3) := by decide +kernel
theorem d_Definition_begin_11 : decode b_Definition_begin 11 = .ok (.aload_n 0, 1) := by decide +kernel
theorem d_Definition_begin_12 : decode b_Definition_begin 12 = .ok (.getfield 11, 3) := by decide +kernel
theorem d_Definition_begin_15 : decode b_Definition_begin 15 = .ok (.iload_n 2, 1) := by decide +kernel
theorem d_Definition_begin_16 : decode b_Definition_begin 16 = .ok (.aaload, 1) := by decide +kernel
theorem d_Definition_begin_17 : decode b_Definition_begin 17 = .ok (.invokevirtual 28, 3) := by decide +kernel
theorem d_Definition_begin_20 : decode b_Definition_begin 20 = .ok (.iinc 2 1, 3) := by decide +kernel
theorem d_Definition_begin_23 : decode b_Definition_begin 23 = .ok (.goto (-21), 3) := by decide +kernel
theorem d_Definition_begin_26 : decode b_Definition_begin 26 = .ok (.aload_n 0, 1) := by decide +kernel
theorem d_Definition_begin_27 : decode b_Definition_begin 27 = .ok (.getfield 20, 3) := by decide +kernel
theorem d_Definition_begin_30 : decode b_Definition_begin 30 = .ok (.invokevirtual 28, 3) := by decide +kernel
theorem d_Definition_begin_33 : decode b_Definition_begin 33 = .ok (.aload_n 0, 1) := by decide +kernel
theorem d_Definition_begin_34 : decode b_Definition_begin 34 = .ok (.iconst 1, 1) := by decide +kernel
theorem d_Definition_begin_35 : decode b_Definition_begin 35 = .ok (.putfield 24, 3) := by decide +kernel
theorem d_Definition_begin_38 : decode b_Definition_begin 38 = .ok (.aload_n 0, 1) := by decide +kernel
theorem d_Definition_begin_39 : decode b_Definition_begin 39 = .ok (.iload_n 1, 1) := by decide +kernel
theorem d_Definition_begin_40 : decode b_Definition_begin 40 = .ok (.putfield 31, 3) := by decide +kernel
theorem d_Definition_begin_43 : decode b_Definition_begin 43 = .ok (.aload_n 0, 1) := by decide +kernel
theorem d_Definition_begin_44 : decode b_Definition_begin 44 = .ok (.iconst 0, 1) := by decide +kernel
theorem d_Definition_begin_45 : decode b_Definition_begin 45 = .ok (.putfield 35, 3) := by decide +kernel
theorem d_Definition_begin_48 : decode b_Definition_begin 48 = .ok (.aload_n 0, 1) := by decide +kernel
theorem d_Definition_begin_49 : decode b_Definition_begin 49 = .ok (.iconst 0, 1) := by decide +kernel
theorem d_Definition_begin_50 : decode b_Definition_begin 50 = .ok (.putfield 38, 3) := by decide +kernel
theorem d_Definition_begin_53 : decode b_Definition_begin 53 = .ok (.aload_n 0, 1) := by decide +kernel
theorem d_Definition_begin_54 : decode b_Definition_begin 54 = .ok (.iconst 1, 1) := by decide +kernel
theorem d_Definition_begin_55 : decode b_Definition_begin 55 = .ok (.putfield 41, 3) := by decide +kernel
theorem d_Definition_begin_58 : decode b_Definition_begin 58 = .ok (.return_, 1) := by decide +kernel
theorem d_Whole_takeLater_0 : decode b_Whole_takeLater 0 = .ok (.aload_n 0, 1) := by decide +kernel
theorem d_Whole_takeLater_1 : decode b_Whole_takeLater 1 = .ok (.getfield 9, 3) := by decide +kernel
theorem d_Whole_takeLater_4 : decode b_Whole_takeLater 4 = .ok (.invokevirtual 53, 3) := by decide +kernel
theorem d_Whole_takeLater_7 : decode b_Whole_takeLater 7 = .ok (.ifCond .eq 5, 3) := by decide +kernel
theorem d_Whole_takeLater_10 : decode b_Whole_takeLater 10 = .ok (.iconst 1, 1) := by decide +kernel
theorem d_Whole_takeLater_11 : decode b_Whole_takeLater 11 = .ok (.ireturn, 1) := by decide +kernel
theorem d_Whole_takeLater_12 : decode b_Whole_takeLater 12 = .ok (.aload_n 0, 1) := by decide +kernel
theorem d_Whole_takeLater_13 : decode b_Whole_takeLater 13 = .ok (.aload_n 0, 1) := by decide +kernel
theorem d_Whole_takeLater_14 : decode b_Whole_takeLater 14 = .ok (.getfield 9, 3) := by decide +kernel
theorem d_Whole_takeLater_17 : decode b_Whole_takeLater 17 = .ok (.invokevirtual 102, 3) := by decide +kernel
theorem d_Whole_takeLater_20 : decode b_Whole_takeLater 20 = .ok (.putfield 43, 3) := by decide +kernel
theorem d_Whole_takeLater_23 : decode b_Whole_takeLater 23 = .ok (.iconst 0, 1) := by decide +kernel
theorem d_Whole_takeLater_24 : decode b_Whole_takeLater 24 = .ok (.ireturn, 1) := by decide +kernel
theorem d_Whole_carryOut_0 : decode b_Whole_carryOut 0 = .ok (.iload_n 1, 1) := by decide +kernel
theorem d_Whole_carryOut_1 : decode b_Whole_carryOut 1 = .ok (.invokestatic 84, 3) := by decide +kernel
theorem d_Whole_carryOut_4 : decode b_Whole_carryOut 4 = .ok (.istore_n 2, 1) := by decide +kernel
theorem d_Whole_carryOut_5 : decode b_Whole_carryOut 5 = .ok (.iload_n 2, 1) := by decide +kernel
theorem d_Whole_carryOut_6 : decode b_Whole_carryOut 6 = .ok (.ifCond .eq 15, 3) := by decide +kernel
theorem d_Whole_carryOut_9 : decode b_Whole_carryOut 9 = .ok (.aload_n 0, 1) := by decide +kernel
theorem d_Whole_carryOut_10 : decode b_Whole_carryOut 10 = .ok (.dup, 1) := by decide +kernel
theorem d_Whole_carryOut_11 : decode b_Whole_carryOut 11 = .ok (.getfield 39, 3) := by decide +kernel
theorem d_Whole_carryOut_14 : decode b_Whole_carryOut 14 = .ok (.iload_n 2, 1) := by decide +kernel
theorem d_Whole_carryOut_15 : decode b_Whole_carryOut 15 = .ok (.ior, 1) := by decide +kernel
theorem d_Whole_carryOut_16 : decode b_Whole_carryOut 16 = .ok (.putfield 39, 3) := by decide +kernel
theorem d_Whole_carryOut_19 : decode b_Whole_carryOut 19 = .ok (.iconst 0, 1) := by decide +kernel
theorem d_Whole_carryOut_20 : decode b_Whole_carryOut 20 = .ok (.ireturn, 1) := by decide +kernel
theorem d_Whole_carryOut_21 : decode b_Whole_carryOut 21 = .ok (.iload_n 1, 1) := by decide +kernel
theorem d_Whole_carryOut_22 : decode b_Whole_carryOut 22 = .ok (.sipush 264, 3) := by decide +kernel
theorem d_Whole_carryOut_25 : decode b_Whole_carryOut 25 = .ok (.if_icmp .eq 10, 3) := by decide +kernel
theorem d_Whole_carryOut_28 : decode b_Whole_carryOut 28 = .ok (.iload_n 1, 1) := by decide +kernel
theorem d_Whole_carryOut_29 : decode b_Whole_carryOut 29 = .ok (.sipush 265, 3) := by decide +kernel
theorem d_Whole_carryOut_32 : decode b_Whole_carryOut 32 = .ok (.if_icmp .ne 24, 3) := by decide +kernel
theorem d_Whole_carryOut_35 : decode b_Whole_carryOut 35 = .ok (.aload_n 0, 1) := by decide +kernel
theorem d_Whole_carryOut_36 : decode b_Whole_carryOut 36 = .ok (.getfield 26, 3) := by decide +kernel
theorem d_Whole_carryOut_39 : decode b_Whole_carryOut 39 = .ok (.iload_n 1, 1) := by decide +kernel
theorem d_Whole_carryOut_40 : decode b_Whole_carryOut 40 = .ok (.sipush 265, 3) := by decide +kernel
theorem d_Whole_carryOut_43 : decode b_Whole_carryOut 43 = .ok (.if_icmp .ne 7, 3) := by decide +kernel
theorem d_Whole_carryOut_46 : decode b_Whole_carryOut 46 = .ok (.iconst 1, 1) := by decide +kernel
theorem d_Whole_carryOut_47 : decode b_Whole_carryOut 47 = .ok (.goto 4, 3) := by decide +kernel
theorem d_Whole_carryOut_50 : decode b_Whole_carryOut 50 = .ok (.iconst 0, 1) := by decide +kernel
theorem d_Whole_carryOut_51 : decode b_Whole_carryOut 51 = .ok (.invokevirtual 89, 3) := by decide +kernel
theorem d_Whole_carryOut_54 : decode b_Whole_carryOut 54 = .ok (.iconst 0, 1) := by decide +kernel
theorem d_Whole_carryOut_55 : decode b_Whole_carryOut 55 = .ok (.ireturn, 1) := by decide +kernel
theorem d_Whole_carryOut_56 : decode b_Whole_carryOut 56 = .ok (.aload_n 0, 1) := by decide +kernel
theorem d_Whole_carryOut_57 : decode b_Whole_carryOut 57 = .ok (.getfield 39, 3) := by decide +kernel
theorem d_Whole_carryOut_60 : decode b_Whole_carryOut 60 = .ok (.ifCond .eq 6, 3) := by decide +kernel
theorem d_Whole_carryOut_63 : decode b_Whole_carryOut 63 = .ok (.bipush 6, 2) := by decide +kernel
theorem d_Whole_carryOut_65 : decode b_Whole_carryOut 65 = .ok (.ireturn, 1) := by decide +kernel
theorem d_Whole_carryOut_66 : decode b_Whole_carryOut 66 = .ok (.iload_n 1, 1) := by decide +kernel
theorem d_Whole_carryOut_67 : decode b_Whole_carryOut 67 = .ok (.sipush 269, 3) := by decide +kernel
theorem d_Whole_carryOut_70 : decode b_Whole_carryOut 70 = .ok (.if_icmp .ne 8, 3) := by decide +kernel
theorem d_Whole_carryOut_73 : decode b_Whole_carryOut 73 = .ok (.aload_n 0, 1) := by decide +kernel
theorem d_Whole_carryOut_74 : decode b_Whole_carryOut 74 = .ok (.invokevirtual 93, 3) := by decide +kernel
theorem d_Whole_carryOut_77 : decode b_Whole_carryOut 77 = .ok (.ireturn, 1) := by decide +kernel
theorem d_Whole_carryOut_78 : decode b_Whole_carryOut 78 = .ok (.aload_n 0, 1) := by decide +kernel
theorem d_Whole_carryOut_79 : decode b_Whole_carryOut 79 = .ok (.getfield 35, 3) := by decide +kernel
theorem d_Whole_carryOut_82 : decode b_Whole_carryOut 82 = .ok (.invokevirtual 96, 3) := by decide +kernel
theorem d_Whole_carryOut_85 : decode b_Whole_carryOut 85 = .ok (.ifCond .eq 6, 3) := by decide +kernel
theorem d_Whole_carryOut_88 : decode b_Whole_carryOut 88 = .ok (.bipush 8, 2) := by decide +kernel
theorem d_Whole_carryOut_90 : decode b_Whole_carryOut 90 = .ok (.ireturn, 1) := by decide +kernel
theorem d_Whole_carryOut_91 : decode b_Whole_carryOut 91 = .ok (.aload_n 0, 1) := by decide +kernel
theorem d_Whole_carryOut_92 : decode b_Whole_carryOut 92 = .ok (.getfield 35, 3) := by decide +kernel
theorem d_Whole_carryOut_95 : decode b_Whole_carryOut 95 = .ok (.iload_n 1, 1) := by decide +kernel
theorem d_Whole_carryOut_96 : decode b_Whole_carryOut 96 = .ok (.invokevirtual 99, 3) := by decide +kernel
theorem d_Whole_carryOut_99 : decode b_Whole_carryOut 99 = .ok (.iconst 0, 1) := by decide +kernel
theorem d_Whole_carryOut_100 : decode b_Whole_carryOut 100 = .ok (.ireturn, 1) := by decide +kernel
theorem d_Whole_run_0 : decode b_Whole_run 0 = .ok (.aload_n 0, 1) := by decide +kernel
theorem d_Whole_run_1 : decode b_Whole_run 1 = .ok (.getfield 35, 3) := by decide +kernel
theorem d_Whole_run_4 : decode b_Whole_run 4 = .ok (.invokevirtual 46, 3) := by decide +kernel
theorem d_Whole_run_7 : decode b_Whole_run 7 = .ok (.aload_n 0, 1) := by decide +kernel
theorem d_Whole_run_8 : decode b_Whole_run 8 = .ok (.getfield 26, 3) := by decide +kernel
theorem d_Whole_run_11 : decode b_Whole_run 11 = .ok (.invokevirtual 49, 3) := by decide +kernel
theorem d_Whole_run_14 : decode b_Whole_run 14 = .ok (.aload_n 0, 1) := by decide +kernel
theorem d_Whole_run_15 : decode b_Whole_run 15 = .ok (.iconst 0, 1) := by decide +kernel
theorem d_Whole_run_16 : decode b_Whole_run 16 = .ok (.putfield 39, 3) := by decide +kernel
theorem d_Whole_run_19 : decode b_Whole_run 19 = .ok (.aload_n 0, 1) := by decide +kernel
theorem d_Whole_run_20 : decode b_Whole_run 20 = .ok (.iconst (-1), 1) := by decide +kernel
theorem d_Whole_run_21 : decode b_Whole_run 21 = .ok (.putfield 43, 3) := by decide +kernel
theorem d_Whole_run_24 : decode b_Whole_run 24 = .ok (.iconst 0, 1) := by decide +kernel
theorem d_Whole_run_25 : decode b_Whole_run 25 = .ok (.istore_n 1, 1) := by decide +kernel
theorem d_Whole_run_26 : decode b_Whole_run 26 = .ok (.iload_n 1, 1) := by decide +kernel
theorem d_Whole_run_27 : decode b_Whole_run 27 = .ok (.ldc 52, 2) := by decide +kernel
theorem d_Whole_run_29 : decode b_Whole_run 29 = .ok (.if_icmp .ge 93, 3) := by decide +kernel
theorem d_Whole_run_32 : decode b_Whole_run 32 = .ok (.aload_n 0, 1) := by decide +kernel
theorem d_Whole_run_33 : decode b_Whole_run 33 = .ok (.getfield 9, 3) := by decide +kernel
theorem d_Whole_run_36 : decode b_Whole_run 36 = .ok (.invokevirtual 53, 3) := by decide +kernel
theorem d_Whole_run_39 : decode b_Whole_run 39 = .ok (.ifCond .ne 83, 3) := by decide +kernel
theorem d_Whole_run_42 : decode b_Whole_run 42 = .ok (.aload_n 0, 1) := by decide +kernel
theorem d_Whole_run_43 : decode b_Whole_run 43 = .ok (.getfield 26, 3) := by decide +kernel
theorem d_Whole_run_46 : decode b_Whole_run 46 = .ok (.invokevirtual 59, 3) := by decide +kernel
theorem d_Whole_run_49 : decode b_Whole_run 49 = .ok (.ifCond .ne 24, 3) := by decide +kernel
theorem d_Whole_run_52 : decode b_Whole_run 52 = .ok (.aload_n 0, 1) := by decide +kernel
theorem d_Whole_run_53 : decode b_Whole_run 53 = .ok (.getfield 19, 3) := by decide +kernel
theorem d_Whole_run_56 : decode b_Whole_run 56 = .ok (.invokevirtual 62, 3) := by decide +kernel
theorem d_Whole_run_59 : decode b_Whole_run 59 = .ok (.ifCond .eq 14, 3) := by decide +kernel
theorem d_Whole_run_62 : decode b_Whole_run 62 = .ok (.aload_n 0, 1) := by decide +kernel
theorem d_Whole_run_63 : decode b_Whole_run 63 = .ok (.getfield 19, 3) := by decide +kernel
theorem d_Whole_run_66 : decode b_Whole_run 66 = .ok (.invokevirtual 67, 3) := by decide +kernel
theorem d_Whole_run_69 : decode b_Whole_run 69 = .ok (.istore_n 2, 1) := by decide +kernel
theorem d_Whole_run_70 : decode b_Whole_run 70 = .ok (.goto 40, 3) := by decide +kernel
theorem d_Whole_run_73 : decode b_Whole_run 73 = .ok (.aload_n 0, 1) := by decide +kernel
theorem d_Whole_run_74 : decode b_Whole_run 74 = .ok (.getfield 26, 3) := by decide +kernel
theorem d_Whole_run_77 : decode b_Whole_run 77 = .ok (.invokevirtual 71, 3) := by decide +kernel
theorem d_Whole_run_80 : decode b_Whole_run 80 = .ok (.ifCond .eq 18, 3) := by decide +kernel
theorem d_Whole_run_83 : decode b_Whole_run 83 = .ok (.aload_n 0, 1) := by decide +kernel
theorem d_Whole_run_84 : decode b_Whole_run 84 = .ok (.aload_n 0, 1) := by decide +kernel
theorem d_Whole_run_85 : decode b_Whole_run 85 = .ok (.getfield 19, 3) := by decide +kernel
theorem d_Whole_run_88 : decode b_Whole_run 88 = .ok (.invokevirtual 74, 3) := by decide +kernel
theorem d_Whole_run_91 : decode b_Whole_run 91 = .ok (.invokevirtual 77, 3) := by decide +kernel
theorem d_Whole_run_94 : decode b_Whole_run 94 = .ok (.istore_n 2, 1) := by decide +kernel
theorem d_Whole_run_95 : decode b_Whole_run 95 = .ok (.goto 15, 3) := by decide +kernel
theorem d_Whole_run_98 : decode b_Whole_run 98 = .ok (.aload_n 0, 1) := by decide +kernel
theorem d_Whole_run_99 : decode b_Whole_run 99 = .ok (.aload_n 0, 1) := by decide +kernel
theorem d_Whole_run_100 : decode b_Whole_run 100 = .ok (.getfield 19, 3) := by decide +kernel
theorem d_Whole_run_103 : decode b_Whole_run 103 = .ok (.invokevirtual 74, 3) := by decide +kernel
theorem d_Whole_run_106 : decode b_Whole_run 106 = .ok (.invokevirtual 81, 3) := by decide +kernel
theorem d_Whole_run_109 : decode b_Whole_run 109 = .ok (.istore_n 2, 1) := by decide +kernel
theorem d_Whole_run_110 : decode b_Whole_run 110 = .ok (.iload_n 2, 1) := by decide +kernel
theorem d_Whole_run_111 : decode b_Whole_run 111 = .ok (.ifCond .eq 5, 3) := by decide +kernel
theorem d_Whole_run_114 : decode b_Whole_run 114 = .ok (.iload_n 2, 1) := by decide +kernel
theorem d_Whole_run_115 : decode b_Whole_run 115 = .ok (.ireturn, 1) := by decide +kernel
theorem d_Whole_run_116 : decode b_Whole_run 116 = .ok (.iinc 1 1, 3) := by decide +kernel
theorem d_Whole_run_119 : decode b_Whole_run 119 = .ok (.goto (-93), 3) := by decide +kernel
theorem d_Whole_run_122 : decode b_Whole_run 122 = .ok (.aload_n 0, 1) := by decide +kernel
theorem d_Whole_run_123 : decode b_Whole_run 123 = .ok (.getfield 39, 3) := by decide +kernel
theorem d_Whole_run_126 : decode b_Whole_run 126 = .ok (.ifCond .ne 13, 3) := by decide +kernel
theorem d_Whole_run_129 : decode b_Whole_run 129 = .ok (.aload_n 0, 1) := by decide +kernel
theorem d_Whole_run_130 : decode b_Whole_run 130 = .ok (.getfield 26, 3) := by decide +kernel
theorem d_Whole_run_133 : decode b_Whole_run 133 = .ok (.invokevirtual 71, 3) := by decide +kernel
theorem d_Whole_run_136 : decode b_Whole_run 136 = .ok (.ifCond .eq 7, 3) := by decide +kernel
theorem d_Whole_run_139 : decode b_Whole_run 139 = .ok (.iconst 1, 1) := by decide +kernel
theorem d_Whole_run_140 : decode b_Whole_run 140 = .ok (.goto 4, 3) := by decide +kernel
theorem d_Whole_run_143 : decode b_Whole_run 143 = .ok (.iconst 0, 1) := by decide +kernel
theorem d_Whole_run_144 : decode b_Whole_run 144 = .ok (.ireturn, 1) := by decide +kernel
theorem d_Input_clear_0 : decode b_Input_clear 0 = .ok (.aload_n 0, 1) := by decide +kernel
theorem d_Input_clear_1 : decode b_Input_clear 1 = .ok (.iconst 0, 1) := by decide +kernel
theorem d_Input_clear_2 : decode b_Input_clear 2 = .ok (.putfield 15, 3) := by decide +kernel
theorem d_Input_clear_5 : decode b_Input_clear 5 = .ok (.return_, 1) := by decide +kernel
theorem d_MacroExpand_expand_0 : decode b_MacroExpand_expand 0 = .ok (.aload_n 0, 1) := by decide +kernel
theorem d_MacroExpand_expand_1 : decode b_MacroExpand_expand 1 = .ok (.getfield 46, 3) := by decide +kernel
theorem d_MacroExpand_expand_4 : decode b_MacroExpand_expand 4 = .ok (.invokevirtual 115, 3) := by decide +kernel
theorem d_MacroExpand_expand_7 : decode b_MacroExpand_expand 7 = .ok (.iconst 0, 1) := by decide +kernel
theorem d_MacroExpand_expand_8 : decode b_MacroExpand_expand 8 = .ok (.istore_n 2, 1) := by decide +kernel
theorem d_MacroExpand_expand_9 : decode b_MacroExpand_expand 9 = .ok (.iload_n 1, 1) := by decide +kernel
theorem d_MacroExpand_expand_10 : decode b_MacroExpand_expand 10 = .ok (.ifCond .eq 14, 3) := by decide +kernel
theorem d_MacroExpand_expand_13 : decode b_MacroExpand_expand 13 = .ok (.aload_n 0, 1) := by decide +kernel
theorem d_MacroExpand_expand_14 : decode b_MacroExpand_expand 14 = .ok (.getfield 55, 3) := by decide +kernel
theorem d_MacroExpand_expand_17 : decode b_MacroExpand_expand 17 = .ok (.invokevirtual 118, 3) := by decide +kernel
theorem d_MacroExpand_expand_20 : decode b_MacroExpand_expand 20 = .ok (.istore_n 2, 1) := by decide +kernel
theorem d_MacroExpand_expand_21 : decode b_MacroExpand_expand 21 = .ok (.goto 21, 3) := by decide +kernel
theorem d_MacroExpand_expand_24 : decode b_MacroExpand_expand 24 = .ok (.aload_n 0, 1) := by decide +kernel
theorem d_MacroExpand_expand_25 : decode b_MacroExpand_expand 25 = .ok (.getfield 46, 3) := by decide +kernel
theorem d_MacroExpand_expand_28 : decode b_MacroExpand_expand 28 = .ok (.invokevirtual 122, 3) := by decide +kernel
theorem d_MacroExpand_expand_31 : decode b_MacroExpand_expand 31 = .ok (.ifCond .eq 11, 3) := by decide +kernel
theorem d_MacroExpand_expand_34 : decode b_MacroExpand_expand 34 = .ok (.aload_n 0, 1) := by decide +kernel
theorem d_MacroExpand_expand_35 : decode b_MacroExpand_expand 35 = .ok (.getfield 46, 3) := by decide +kernel
theorem d_MacroExpand_expand_38 : decode b_MacroExpand_expand 38 = .ok (.invokevirtual 125, 3) := by decide +kernel
theorem d_MacroExpand_expand_41 : decode b_MacroExpand_expand 41 = .ok (.istore_n 2, 1) := by decide +kernel
theorem d_MacroExpand_expand_42 : decode b_MacroExpand_expand 42 = .ok (.aload_n 0, 1) := by decide +kernel
theorem d_MacroExpand_expand_43 : decode b_MacroExpand_expand 43 = .ok (.iload_n 2, 1) := by decide +kernel
theorem d_MacroExpand_expand_44 : decode b_MacroExpand_expand 44 = .ok (.putfield 59, 3) := by decide +kernel
theorem d_MacroExpand_expand_47 : decode b_MacroExpand_expand 47 = .ok (.aload_n 0, 1) := by decide +kernel
theorem d_MacroExpand_expand_48 : decode b_MacroExpand_expand 48 = .ok (.iload_n 2, 1) := by decide +kernel
theorem d_MacroExpand_expand_49 : decode b_MacroExpand_expand 49 = .ok (.ifCond .ne 7, 3) := by decide +kernel
theorem d_MacroExpand_expand_52 : decode b_MacroExpand_expand 52 = .ok (.iconst 0, 1) := by decide +kernel
theorem d_MacroExpand_expand_53 : decode b_MacroExpand_expand 53 = .ok (.goto 10, 3) := by decide +kernel
theorem d_MacroExpand_expand_56 : decode b_MacroExpand_expand 56 = .ok (.aload_n 0, 1) := by decide +kernel
theorem d_MacroExpand_expand_57 : decode b_MacroExpand_expand 57 = .ok (.getfield 46, 3) := by decide +kernel
theorem d_MacroExpand_expand_60 : decode b_MacroExpand_expand 60 = .ok (.getfield 128, 3) := by decide +kernel
theorem d_MacroExpand_expand_63 : decode b_MacroExpand_expand 63 = .ok (.putfield 63, 3) := by decide +kernel
theorem d_MacroExpand_expand_66 : decode b_MacroExpand_expand 66 = .ok (.iload_n 2, 1) := by decide +kernel
theorem d_MacroExpand_expand_67 : decode b_MacroExpand_expand 67 = .ok (.ifCond .eq 13, 3) := by decide +kernel
theorem d_MacroExpand_expand_70 : decode b_MacroExpand_expand 70 = .ok (.aload_n 0, 1) := by decide +kernel
theorem d_MacroExpand_expand_71 : decode b_MacroExpand_expand 71 = .ok (.getfield 37, 3) := by decide +kernel
theorem d_MacroExpand_expand_74 : decode b_MacroExpand_expand 74 = .ok (.invokevirtual 131, 3) := by decide +kernel
theorem d_MacroExpand_expand_77 : decode b_MacroExpand_expand 77 = .ok (.iload_n 2, 1) := by decide +kernel
theorem d_MacroExpand_expand_78 : decode b_MacroExpand_expand 78 = .ok (.ineg, 1) := by decide +kernel
theorem d_MacroExpand_expand_79 : decode b_MacroExpand_expand 79 = .ok (.ireturn, 1) := by decide +kernel
theorem d_MacroExpand_expand_80 : decode b_MacroExpand_expand 80 = .ok (.iload_n 1, 1) := by decide +kernel
theorem d_MacroExpand_expand_81 : decode b_MacroExpand_expand 81 = .ok (.ifCond .eq 16, 3) := by decide +kernel
theorem d_MacroExpand_expand_84 : decode b_MacroExpand_expand 84 = .ok (.aload_n 0, 1) := by decide +kernel
theorem d_MacroExpand_expand_85 : decode b_MacroExpand_expand 85 = .ok (.getfield 55, 3) := by decide +kernel
theorem d_MacroExpand_expand_88 : decode b_MacroExpand_expand 88 = .ok (.getfield 134, 3) := by decide +kernel
theorem d_MacroExpand_expand_91 : decode b_MacroExpand_expand 91 = .ok (.getfield 137, 3) := by decide +kernel
theorem d_MacroExpand_expand_94 : decode b_MacroExpand_expand 94 = .ok (.goto 10, 3) := by decide +kernel
theorem d_MacroExpand_expand_97 : decode b_MacroExpand_expand 97 = .ok (.aload_n 0, 1) := by decide +kernel
theorem d_MacroExpand_expand_98 : decode b_MacroExpand_expand 98 = .ok (.getfield 37, 3) := by decide +kernel
theorem d_MacroExpand_expand_101 : decode b_MacroExpand_expand 101 = .ok (.getfield 112, 3) := by decide +kernel
theorem d_MacroExpand_expand_104 : decode b_MacroExpand_expand 104 = .ok (.ireturn, 1) := by decide +kernel
theorem d_MacroExpand_at_0 : decode b_MacroExpand_at 0 = .ok (.aload_n 0, 1) := by decide +kernel
theorem d_MacroExpand_at_1 : decode b_MacroExpand_at 1 = .ok (.getfield 55, 3) := by decide +kernel
theorem d_MacroExpand_at_4 : decode b_MacroExpand_at 4 = .ok (.getfield 134, 3) := by decide +kernel
theorem d_MacroExpand_at_7 : decode b_MacroExpand_at 7 = .ok (.iload_n 1, 1) := by decide +kernel
theorem d_MacroExpand_at_8 : decode b_MacroExpand_at 8 = .ok (.invokevirtual 140, 3) := by decide +kernel
theorem d_MacroExpand_at_11 : decode b_MacroExpand_at 11 = .ok (.ireturn, 1) := by decide +kernel
theorem d_MacroExpand_fault_0 : decode b_MacroExpand_fault 0 = .ok (.iload_n 1, 1) := by decide +kernel
theorem d_MacroExpand_fault_1 : decode b_MacroExpand_fault 1 = .ok (.ifCond .ne 8, 3) := by decide +kernel
theorem d_MacroExpand_fault_4 : decode b_MacroExpand_fault 4 = .ok (.aload_n 0, 1) := by decide +kernel
theorem d_MacroExpand_fault_5 : decode b_MacroExpand_fault 5 = .ok (.getfield 59, 3) := by decide +kernel
theorem d_MacroExpand_fault_8 : decode b_MacroExpand_fault 8 = .ok (.ireturn, 1) := by decide +kernel
theorem d_MacroExpand_fault_9 : decode b_MacroExpand_fault 9 = .ok (.iload_n 1, 1) := by decide +kernel
theorem d_MacroExpand_fault_10 : decode b_MacroExpand_fault 10 = .ok (.iconst 1, 1) := by decide +kernel
theorem d_MacroExpand_fault_11 : decode b_MacroExpand_fault 11 = .ok (.if_icmp .ne 8, 3) := by decide +kernel
theorem d_MacroExpand_fault_14 : decode b_MacroExpand_fault 14 = .ok (.aload_n 0, 1) := by decide +kernel
theorem d_MacroExpand_fault_15 : decode b_MacroExpand_fault 15 = .ok (.getfield 63, 3) := by decide +kernel
theorem d_MacroExpand_fault_18 : decode b_MacroExpand_fault 18 = .ok (.ireturn, 1) := by decide +kernel
theorem d_MacroExpand_fault_19 : decode b_MacroExpand_fault 19 = .ok (.iload_n 1, 1) := by decide +kernel
theorem d_MacroExpand_fault_20 : decode b_MacroExpand_fault 20 = .ok (.iconst 2, 1) := by decide +kernel
theorem d_MacroExpand_fault_21 : decode b_MacroExpand_fault 21 = .ok (.if_icmp .ne 13, 3) := by decide +kernel
theorem d_MacroExpand_fault_24 : decode b_MacroExpand_fault 24 = .ok (.aload_n 0, 1) := by decide +kernel
theorem d_MacroExpand_fault_25 : decode b_MacroExpand_fault 25 = .ok (.getfield 46, 3) := by decide +kernel
theorem d_MacroExpand_fault_28 : decode b_MacroExpand_fault 28 = .ok (.getfield 144, 3) := by decide +kernel
theorem d_MacroExpand_fault_31 : decode b_MacroExpand_fault 31 = .ok (.goto 5, 3) := by decide +kernel
theorem d_MacroExpand_fault_34 : decode b_MacroExpand_fault 34 = .ok (.bipush (-2), 2) := by decide +kernel
theorem d_MacroExpand_fault_36 : decode b_MacroExpand_fault 36 = .ok (.ireturn, 1) := by decide +kernel
theorem d_Book_openGroup_0 : decode b_Book_openGroup 0 = .ok (.aload_n 0, 1) := by decide +kernel
theorem d_Book_openGroup_1 : decode b_Book_openGroup 1 = .ok (.getfield 36, 3) := by decide +kernel
theorem d_Book_openGroup_4 : decode b_Book_openGroup 4 = .ok (.bipush 20, 2) := by decide +kernel
theorem d_Book_openGroup_6 : decode b_Book_openGroup 6 = .ok (.if_icmp .lt 5, 3) := by decide +kernel
theorem d_Book_openGroup_9 : decode b_Book_openGroup 9 = .ok (.iconst 0, 1) := by decide +kernel
theorem d_Book_openGroup_10 : decode b_Book_openGroup 10 = .ok (.ireturn, 1) := by decide +kernel
theorem d_Book_openGroup_11 : decode b_Book_openGroup 11 = .ok (.aload_n 0, 1) := by decide +kernel
theorem d_Book_openGroup_12 : decode b_Book_openGroup 12 = .ok (.getfield 17, 3) := by decide +kernel
theorem d_Book_openGroup_15 : decode b_Book_openGroup 15 = .ok (.iconst 0, 1) := by decide +kernel
theorem d_Book_openGroup_16 : decode b_Book_openGroup 16 = .ok (.aload_n 0, 1) := by decide +kernel
theorem d_Book_openGroup_17 : decode b_Book_openGroup 17 = .ok (.getfield 29, 3) := by decide +kernel
theorem d_Book_openGroup_20 : decode b_Book_openGroup 20 = .ok (.aload_n 0, 1) := by decide +kernel
theorem d_Book_openGroup_21 : decode b_Book_openGroup 21 = .ok (.getfield 36, 3) := by decide +kernel
theorem d_Book_openGroup_24 : decode b_Book_openGroup 24 = .ok (.aaload, 1) := by decide +kernel
theorem d_Book_openGroup_25 : decode b_Book_openGroup 25 = .ok (.iconst 0, 1) := by decide +kernel
theorem d_Book_openGroup_26 : decode b_Book_openGroup 26 = .ok (.sipush 200, 3) := by decide +kernel
theorem d_Book_openGroup_29 : decode b_Book_openGroup 29 = .ok (.invokestatic 55, 3) := by decide +kernel
theorem d_Book_openGroup_32 : decode b_Book_openGroup 32 = .ok (.aload_n 0, 1) := by decide +kernel
theorem d_Book_openGroup_33 : decode b_Book_openGroup 33 = .ok (.dup, 1) := by decide +kernel
theorem d_Book_openGroup_34 : decode b_Book_openGroup 34 = .ok (.getfield 36, 3) := by decide +kernel
theorem d_Book_openGroup_37 : decode b_Book_openGroup 37 = .ok (.iconst 1, 1) := by decide +kernel
theorem d_Book_openGroup_38 : decode b_Book_openGroup 38 = .ok (.iadd, 1) := by decide +kernel
theorem d_Book_openGroup_39 : decode b_Book_openGroup 39 = .ok (.putfield 36, 3) := by decide +kernel
theorem d_Book_openGroup_42 : decode b_Book_openGroup 42 = .ok (.iconst 1, 1) := by decide +kernel
theorem d_Book_openGroup_43 : decode b_Book_openGroup 43 = .ok (.ireturn, 1) := by decide +kernel
theorem d_Book_closeGroup_0 : decode b_Book_closeGroup 0 = .ok (.aload_n 0, 1) := by decide +kernel
theorem d_Book_closeGroup_1 : decode b_Book_closeGroup 1 = .ok (.getfield 36, 3) := by decide +kernel
theorem d_Book_closeGroup_4 : decode b_Book_closeGroup 4 = .ok (.ifCond .gt 5, 3) := by decide +kernel
theorem d_Book_closeGroup_7 : decode b_Book_closeGroup 7 = .ok (.iconst 0, 1) := by decide +kernel
theorem d_Book_closeGroup_8 : decode b_Book_closeGroup 8 = .ok (.ireturn, 1) := by decide +kernel
theorem d_Book_closeGroup_9 : decode b_Book_closeGroup 9 = .ok (.aload_n 0, 1) := by decide +kernel
theorem d_Book_closeGroup_10 : decode b_Book_closeGroup 10 = .ok (.dup, 1) := by decide +kernel
theorem d_Book_closeGroup_11 : decode b_Book_closeGroup 11 = .ok (.getfield 36, 3) := by decide +kernel
theorem d_Book_closeGroup_14 : decode b_Book_closeGroup 14 = .ok (.iconst 1, 1) := by decide +kernel
theorem d_Book_closeGroup_15 : decode b_Book_closeGroup 15 = .ok (.isub, 1) := by decide +kernel
theorem d_Book_closeGroup_16 : decode b_Book_closeGroup 16 = .ok (.putfield 36, 3) := by decide +kernel
theorem d_Book_closeGroup_19 : decode b_Book_closeGroup 19 = .ok (.aload_n 0, 1) := by decide +kernel
theorem d_Book_closeGroup_20 : decode b_Book_closeGroup 20 = .ok (.getfield 29, 3) := by decide +kernel
theorem d_Book_closeGroup_23 : decode b_Book_closeGroup 23 = .ok (.aload_n 0, 1) := by decide +kernel
theorem d_Book_closeGroup_24 : decode b_Book_closeGroup 24 = .ok (.getfield 36, 3) := by decide +kernel
theorem d_Book_closeGroup_27 : decode b_Book_closeGroup 27 = .ok (.aaload, 1) := by decide +kernel
theorem d_Book_closeGroup_28 : decode b_Book_closeGroup 28 = .ok (.iconst 0, 1) := by decide +kernel
theorem d_Book_closeGroup_29 : decode b_Book_closeGroup 29 = .ok (.aload_n 0, 1) := by decide +kernel
theorem d_Book_closeGroup_30 : decode b_Book_closeGroup 30 = .ok (.getfield 17, 3) := by decide +kernel
theorem d_Book_closeGroup_33 : decode b_Book_closeGroup 33 = .ok (.iconst 0, 1) := by decide +kernel
theorem d_Book_closeGroup_34 : decode b_Book_closeGroup 34 = .ok (.sipush 200, 3) := by decide +kernel
theorem d_Book_closeGroup_37 : decode b_Book_closeGroup 37 = .ok (.invokestatic 55, 3) := by decide +kernel
theorem d_Book_closeGroup_40 : decode b_Book_closeGroup 40 = .ok (.iconst 1, 1) := by decide +kernel
theorem d_Book_closeGroup_41 : decode b_Book_closeGroup 41 = .ok (.ireturn, 1) := by decide +kernel
theorem d_MacroExpand_group_0 : decode b_MacroExpand_group 0 = .ok (.iload_n 1, 1) := by decide +kernel
theorem d_MacroExpand_group_1 : decode b_MacroExpand_group 1 = .ok (.ifCond .eq 26, 3) := by decide +kernel
theorem d_MacroExpand_group_4 : decode b_MacroExpand_group 4 = .ok (.aload_n 0, 1) := by decide +kernel
theorem d_MacroExpand_group_5 : decode b_MacroExpand_group 5 = .ok (.getfield 23, 3) := by decide +kernel
theorem d_MacroExpand_group_8 : decode b_MacroExpand_group 8 = .ok (.invokevirtual 147, 3) := by decide +kernel
theorem d_MacroExpand_group_11 : decode b_MacroExpand_group 11 = .ok (.ifCond .eq 13, 3) := by decide +kernel
theorem d_MacroExpand_group_14 : decode b_MacroExpand_group 14 = .ok (.aload_n 0, 1) := by decide +kernel
theorem d_MacroExpand_group_15 : decode b_MacroExpand_group 15 = .ok (.getfield 23, 3) := by decide +kernel
theorem d_MacroExpand_group_18 : decode b_MacroExpand_group 18 = .ok (.getfield 150, 3) := by decide +kernel
theorem d_MacroExpand_group_21 : decode b_MacroExpand_group 21 = .ok (.goto 5, 3) := by decide +kernel
theorem d_MacroExpand_group_24 : decode b_MacroExpand_group 24 = .ok (.bipush (-4), 2) := by decide +kernel
theorem d_MacroExpand_group_26 : decode b_MacroExpand_group 26 = .ok (.ireturn, 1) := by decide +kernel
theorem d_MacroExpand_group_27 : decode b_MacroExpand_group 27 = .ok (.aload_n 0, 1) := by decide +kernel
theorem d_MacroExpand_group_28 : decode b_MacroExpand_group 28 = .ok (.getfield 23, 3) := by decide +kernel
theorem d_MacroExpand_group_31 : decode b_MacroExpand_group 31 = .ok (.invokevirtual 153, 3) := by decide +kernel
theorem d_MacroExpand_group_34 : decode b_MacroExpand_group 34 = .ok (.ifCond .eq 13, 3) := by decide +kernel
theorem d_MacroExpand_group_37 : decode b_MacroExpand_group 37 = .ok (.aload_n 0, 1) := by decide +kernel
theorem d_MacroExpand_group_38 : decode b_MacroExpand_group 38 = .ok (.getfield 23, 3) := by decide +kernel
theorem d_MacroExpand_group_41 : decode b_MacroExpand_group 41 = .ok (.getfield 150, 3) := by decide +kernel
theorem d_MacroExpand_group_44 : decode b_MacroExpand_group 44 = .ok (.goto 5, 3) := by decide +kernel
theorem d_MacroExpand_group_47 : decode b_MacroExpand_group 47 = .ok (.bipush (-3), 2) := by decide +kernel
theorem d_MacroExpand_group_49 : decode b_MacroExpand_group 49 = .ok (.ireturn, 1) := by decide +kernel
theorem d_Spelling_lengthOf_0 : decode b_Spelling_lengthOf 0 = .ok (.iload_n 1, 1) := by decide +kernel
theorem d_Spelling_lengthOf_1 : decode b_Spelling_lengthOf 1 = .ok (.ifCond .lt 29, 3) := by decide +kernel
theorem d_Spelling_lengthOf_4 : decode b_Spelling_lengthOf 4 = .ok (.iload_n 1, 1) := by decide +kernel
theorem d_Spelling_lengthOf_5 : decode b_Spelling_lengthOf 5 = .ok (.aload_n 0, 1) := by decide +kernel
theorem d_Spelling_lengthOf_6 : decode b_Spelling_lengthOf 6 = .ok (.getfield 18, 3) := by decide +kernel
theorem d_Spelling_lengthOf_9 : decode b_Spelling_lengthOf 9 = .ok (.if_icmp .ge 21, 3) := by decide +kernel
theorem d_Spelling_lengthOf_12 : decode b_Spelling_lengthOf 12 = .ok (.iload_n 1, 1) := by decide +kernel
theorem d_Spelling_lengthOf_13 : decode b_Spelling_lengthOf 13 = .ok (.aload_n 0, 1) := by decide +kernel
theorem d_Spelling_lengthOf_14 : decode b_Spelling_lengthOf 14 = .ok (.getfield 15, 3) := by decide +kernel
theorem d_Spelling_lengthOf_17 : decode b_Spelling_lengthOf 17 = .ok (.arraylength, 1) := by decide +kernel
theorem d_Spelling_lengthOf_18 : decode b_Spelling_lengthOf 18 = .ok (.if_icmp .ge 12, 3) := by decide +kernel
theorem d_Spelling_lengthOf_21 : decode b_Spelling_lengthOf 21 = .ok (.aload_n 0, 1) := by decide +kernel
theorem d_Spelling_lengthOf_22 : decode b_Spelling_lengthOf 22 = .ok (.getfield 15, 3) := by decide +kernel
theorem d_Spelling_lengthOf_25 : decode b_Spelling_lengthOf 25 = .ok (.iload_n 1, 1) := by decide +kernel
theorem d_Spelling_lengthOf_26 : decode b_Spelling_lengthOf 26 = .ok (.iaload, 1) := by decide +kernel
theorem d_Spelling_lengthOf_27 : decode b_Spelling_lengthOf 27 = .ok (.goto 4, 3) := by decide +kernel
theorem d_Spelling_lengthOf_30 : decode b_Spelling_lengthOf 30 = .ok (.iconst (-1), 1) := by decide +kernel
theorem d_Spelling_lengthOf_31 : decode b_Spelling_lengthOf 31 = .ok (.ireturn, 1) := by decide +kernel
