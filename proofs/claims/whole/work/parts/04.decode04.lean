theorem d_Kind_nesting_0 : decode b_Kind_nesting 0 = .ok (.iload_n 0, 1) := by decide +kernel
theorem d_Kind_nesting_1 : decode b_Kind_nesting 1 = .ok (.sipush 257, 3) := by decide +kernel
theorem d_Kind_nesting_4 : decode b_Kind_nesting 4 = .ok (.if_icmp .ne 5, 3) := by decide +kernel
theorem d_Kind_nesting_7 : decode b_Kind_nesting 7 = .ok (.iconst 1, 1) := by decide +kernel
theorem d_Kind_nesting_8 : decode b_Kind_nesting 8 = .ok (.ireturn, 1) := by decide +kernel
theorem d_Kind_nesting_9 : decode b_Kind_nesting 9 = .ok (.iload_n 0, 1) := by decide +kernel
theorem d_Kind_nesting_10 : decode b_Kind_nesting 10 = .ok (.sipush 258, 3) := by decide +kernel
theorem d_Kind_nesting_13 : decode b_Kind_nesting 13 = .ok (.if_icmp .ne 7, 3) := by decide +kernel
theorem d_Kind_nesting_16 : decode b_Kind_nesting 16 = .ok (.iconst (-1), 1) := by decide +kernel
theorem d_Kind_nesting_17 : decode b_Kind_nesting 17 = .ok (.goto 4, 3) := by decide +kernel
theorem d_Kind_nesting_20 : decode b_Kind_nesting 20 = .ok (.iconst 0, 1) := by decide +kernel
theorem d_Kind_nesting_21 : decode b_Kind_nesting 21 = .ok (.ireturn, 1) := by decide +kernel
theorem d_Arguments_readNext_0 : decode b_Arguments_readNext 0 = .ok (.aload_n 0, 1) := by decide +kernel
theorem d_Arguments_readNext_1 : decode b_Arguments_readNext 1 = .ok (.iload_n 1, 1) := by decide +kernel
theorem d_Arguments_readNext_2 : decode b_Arguments_readNext 2 = .ok (.invokevirtual 37, 3) := by decide +kernel
theorem d_Arguments_readNext_5 : decode b_Arguments_readNext 5 = .ok (.astore_n 3, 1) := by decide +kernel
theorem d_Arguments_readNext_6 : decode b_Arguments_readNext 6 = .ok (.aload_n 3, 1) := by decide +kernel
theorem d_Arguments_readNext_7 : decode b_Arguments_readNext 7 = .ok (.invokevirtual 65, 3) := by decide +kernel
theorem d_Arguments_readNext_10 : decode b_Arguments_readNext 10 = .ok (.iconst 0, 1) := by decide +kernel
theorem d_Arguments_readNext_11 : decode b_Arguments_readNext 11 = .ok (.istore 4, 2) := by decide +kernel
theorem d_Arguments_readNext_13 : decode b_Arguments_readNext 13 = .ok (.iload 4, 2) := by decide +kernel
theorem d_Arguments_readNext_15 : decode b_Arguments_readNext 15 = .ok (.sipush 3000, 3) := by decide +kernel
theorem d_Arguments_readNext_18 : decode b_Arguments_readNext 18 = .ok (.if_icmp .ge 31, 3) := by decide +kernel
theorem d_Arguments_readNext_21 : decode b_Arguments_readNext 21 = .ok (.aload_n 0, 1) := by decide +kernel
theorem d_Arguments_readNext_22 : decode b_Arguments_readNext 22 = .ok (.getfield 9, 3) := by decide +kernel
theorem d_Arguments_readNext_25 : decode b_Arguments_readNext 25 = .ok (.iconst 0, 1) := by decide +kernel
theorem d_Arguments_readNext_26 : decode b_Arguments_readNext 26 = .ok (.invokevirtual 68, 3) := by decide +kernel
theorem d_Arguments_readNext_29 : decode b_Arguments_readNext 29 = .ok (.sipush 256, 3) := by decide +kernel
theorem d_Arguments_readNext_32 : decode b_Arguments_readNext 32 = .ok (.if_icmp .ne 17, 3) := by decide +kernel
theorem d_Arguments_readNext_35 : decode b_Arguments_readNext 35 = .ok (.aload_n 0, 1) := by decide +kernel
theorem d_Arguments_readNext_36 : decode b_Arguments_readNext 36 = .ok (.getfield 9, 3) := by decide +kernel
theorem d_Arguments_readNext_39 : decode b_Arguments_readNext 39 = .ok (.invokevirtual 51, 3) := by decide +kernel
theorem d_Arguments_readNext_42 : decode b_Arguments_readNext 42 = .ok (.pop, 1) := by decide +kernel
theorem d_Arguments_readNext_43 : decode b_Arguments_readNext 43 = .ok (.iinc 4 1, 3) := by decide +kernel
theorem d_Arguments_readNext_46 : decode b_Arguments_readNext 46 = .ok (.goto (-33), 3) := by decide +kernel
theorem d_Arguments_readNext_49 : decode b_Arguments_readNext 49 = .ok (.iconst 0, 1) := by decide +kernel
theorem d_Arguments_readNext_50 : decode b_Arguments_readNext 50 = .ok (.istore 4, 2) := by decide +kernel
theorem d_Arguments_readNext_52 : decode b_Arguments_readNext 52 = .ok (.iconst 0, 1) := by decide +kernel
theorem d_Arguments_readNext_53 : decode b_Arguments_readNext 53 = .ok (.istore 5, 2) := by decide +kernel
theorem d_Arguments_readNext_55 : decode b_Arguments_readNext 55 = .ok (.iload 5, 2) := by decide +kernel
theorem d_Arguments_readNext_57 : decode b_Arguments_readNext 57 = .ok (.sipush 3000, 3) := by decide +kernel
theorem d_Arguments_readNext_60 : decode b_Arguments_readNext 60 = .ok (.if_icmp .ge 112, 3) := by decide +kernel
theorem d_Arguments_readNext_63 : decode b_Arguments_readNext 63 = .ok (.aload_n 0, 1) := by decide +kernel
theorem d_Arguments_readNext_64 : decode b_Arguments_readNext 64 = .ok (.getfield 9, 3) := by decide +kernel
theorem d_Arguments_readNext_67 : decode b_Arguments_readNext 67 = .ok (.invokevirtual 45, 3) := by decide +kernel
theorem d_Arguments_readNext_70 : decode b_Arguments_readNext 70 = .ok (.ifCond .ne 102, 3) := by decide +kernel
theorem d_Arguments_readNext_73 : decode b_Arguments_readNext 73 = .ok (.aload_n 0, 1) := by decide +kernel
theorem d_Arguments_readNext_74 : decode b_Arguments_readNext 74 = .ok (.getfield 9, 3) := by decide +kernel
theorem d_Arguments_readNext_77 : decode b_Arguments_readNext 77 = .ok (.invokevirtual 51, 3) := by decide +kernel
theorem d_Arguments_readNext_80 : decode b_Arguments_readNext 80 = .ok (.istore 6, 2) := by decide +kernel
theorem d_Arguments_readNext_82 : decode b_Arguments_readNext 82 = .ok (.aload_n 0, 1) := by decide +kernel
theorem d_Arguments_readNext_83 : decode b_Arguments_readNext 83 = .ok (.iload 6, 2) := by decide +kernel
theorem d_Arguments_readNext_85 : decode b_Arguments_readNext 85 = .ok (.aload_n 2, 1) := by decide +kernel
theorem d_Arguments_readNext_86 : decode b_Arguments_readNext 86 = .ok (.invokevirtual 69, 3) := by decide +kernel
theorem d_Arguments_readNext_89 : decode b_Arguments_readNext 89 = .ok (.ifCond .eq 5, 3) := by decide +kernel
theorem d_Arguments_readNext_92 : decode b_Arguments_readNext 92 = .ok (.iconst 2, 1) := by decide +kernel
theorem d_Arguments_readNext_93 : decode b_Arguments_readNext 93 = .ok (.ireturn, 1) := by decide +kernel
theorem d_Arguments_readNext_94 : decode b_Arguments_readNext 94 = .ok (.iload 4, 2) := by decide +kernel
theorem d_Arguments_readNext_96 : decode b_Arguments_readNext 96 = .ok (.istore 7, 2) := by decide +kernel
theorem d_Arguments_readNext_98 : decode b_Arguments_readNext 98 = .ok (.iload 4, 2) := by decide +kernel
theorem d_Arguments_readNext_100 : decode b_Arguments_readNext 100 = .ok (.iload 6, 2) := by decide +kernel
theorem d_Arguments_readNext_102 : decode b_Arguments_readNext 102 = .ok (.invokestatic 73, 3) := by decide +kernel
theorem d_Arguments_readNext_105 : decode b_Arguments_readNext 105 = .ok (.iadd, 1) := by decide +kernel
theorem d_Arguments_readNext_106 : decode b_Arguments_readNext 106 = .ok (.istore 4, 2) := by decide +kernel
theorem d_Arguments_readNext_108 : decode b_Arguments_readNext 108 = .ok (.iload 4, 2) := by decide +kernel
theorem d_Arguments_readNext_110 : decode b_Arguments_readNext 110 = .ok (.ifCond .ge 6, 3) := by decide +kernel
theorem d_Arguments_readNext_113 : decode b_Arguments_readNext 113 = .ok (.bipush 7, 2) := by decide +kernel
theorem d_Arguments_readNext_115 : decode b_Arguments_readNext 115 = .ok (.ireturn, 1) := by decide +kernel
theorem d_Arguments_readNext_116 : decode b_Arguments_readNext 116 = .ok (.iload 7, 2) := by decide +kernel
theorem d_Arguments_readNext_118 : decode b_Arguments_readNext 118 = .ok (.ifCond .ne 12, 3) := by decide +kernel
theorem d_Arguments_readNext_121 : decode b_Arguments_readNext 121 = .ok (.iload 4, 2) := by decide +kernel
theorem d_Arguments_readNext_123 : decode b_Arguments_readNext 123 = .ok (.iconst 1, 1) := by decide +kernel
theorem d_Arguments_readNext_124 : decode b_Arguments_readNext 124 = .ok (.if_icmp .ne 6, 3) := by decide +kernel
theorem d_Arguments_readNext_127 : decode b_Arguments_readNext 127 = .ok (.goto 39, 3) := by decide +kernel
theorem d_Arguments_readNext_130 : decode b_Arguments_readNext 130 = .ok (.iload 7, 2) := by decide +kernel
theorem d_Arguments_readNext_132 : decode b_Arguments_readNext 132 = .ok (.iconst 1, 1) := by decide +kernel
theorem d_Arguments_readNext_133 : decode b_Arguments_readNext 133 = .ok (.if_icmp .ne 10, 3) := by decide +kernel
theorem d_Arguments_readNext_136 : decode b_Arguments_readNext 136 = .ok (.iload 4, 2) := by decide +kernel
theorem d_Arguments_readNext_138 : decode b_Arguments_readNext 138 = .ok (.ifCond .ne 5, 3) := by decide +kernel
theorem d_Arguments_readNext_141 : decode b_Arguments_readNext 141 = .ok (.iconst 0, 1) := by decide +kernel
theorem d_Arguments_readNext_142 : decode b_Arguments_readNext 142 = .ok (.ireturn, 1) := by decide +kernel
theorem d_Arguments_readNext_143 : decode b_Arguments_readNext 143 = .ok (.aload_n 3, 1) := by decide +kernel
theorem d_Arguments_readNext_144 : decode b_Arguments_readNext 144 = .ok (.invokevirtual 78, 3) := by decide +kernel
theorem d_Arguments_readNext_147 : decode b_Arguments_readNext 147 = .ok (.ifCond .eq 6, 3) := by decide +kernel
theorem d_Arguments_readNext_150 : decode b_Arguments_readNext 150 = .ok (.bipush 8, 2) := by decide +kernel
theorem d_Arguments_readNext_152 : decode b_Arguments_readNext 152 = .ok (.ireturn, 1) := by decide +kernel
theorem d_Arguments_readNext_153 : decode b_Arguments_readNext 153 = .ok (.aload_n 3, 1) := by decide +kernel
theorem d_Arguments_readNext_154 : decode b_Arguments_readNext 154 = .ok (.iload 6, 2) := by decide +kernel
theorem d_Arguments_readNext_156 : decode b_Arguments_readNext 156 = .ok (.invokevirtual 81, 3) := by decide +kernel
theorem d_Arguments_readNext_159 : decode b_Arguments_readNext 159 = .ok (.iload 4, 2) := by decide +kernel
theorem d_Arguments_readNext_161 : decode b_Arguments_readNext 161 = .ok (.ifCond .ne 5, 3) := by decide +kernel
theorem d_Arguments_readNext_164 : decode b_Arguments_readNext 164 = .ok (.iconst 0, 1) := by decide +kernel
theorem d_Arguments_readNext_165 : decode b_Arguments_readNext 165 = .ok (.ireturn, 1) := by decide +kernel
theorem d_Arguments_readNext_166 : decode b_Arguments_readNext 166 = .ok (.iinc 5 1, 3) := by decide +kernel
theorem d_Arguments_readNext_169 : decode b_Arguments_readNext 169 = .ok (.goto (-114), 3) := by decide +kernel
theorem d_Arguments_readNext_172 : decode b_Arguments_readNext 172 = .ok (.iconst 1, 1) := by decide +kernel
theorem d_Arguments_readNext_173 : decode b_Arguments_readNext 173 = .ok (.ireturn, 1) := by decide +kernel
theorem d_Input_beginsWith_0 : decode b_Input_beginsWith 0 = .ok (.aload_n 1, 1) := by decide +kernel
theorem d_Input_beginsWith_1 : decode b_Input_beginsWith 1 = .ok (.getfield 19, 3) := by decide +kernel
theorem d_Input_beginsWith_4 : decode b_Input_beginsWith 4 = .ok (.aload_n 0, 1) := by decide +kernel
theorem d_Input_beginsWith_5 : decode b_Input_beginsWith 5 = .ok (.getfield 15, 3) := by decide +kernel
theorem d_Input_beginsWith_8 : decode b_Input_beginsWith 8 = .ok (.if_icmp .le 5, 3) := by decide +kernel
theorem d_Input_beginsWith_11 : decode b_Input_beginsWith 11 = .ok (.iconst 0, 1) := by decide +kernel
theorem d_Input_beginsWith_12 : decode b_Input_beginsWith 12 = .ok (.ireturn, 1) := by decide +kernel
theorem d_Input_beginsWith_13 : decode b_Input_beginsWith 13 = .ok (.iconst 0, 1) := by decide +kernel
theorem d_Input_beginsWith_14 : decode b_Input_beginsWith 14 = .ok (.istore_n 2, 1) := by decide +kernel
theorem d_Input_beginsWith_15 : decode b_Input_beginsWith 15 = .ok (.iload_n 2, 1) := by decide +kernel
theorem d_Input_beginsWith_16 : decode b_Input_beginsWith 16 = .ok (.aload_n 1, 1) := by decide +kernel
theorem d_Input_beginsWith_17 : decode b_Input_beginsWith 17 = .ok (.getfield 19, 3) := by decide +kernel
theorem d_Input_beginsWith_20 : decode b_Input_beginsWith 20 = .ok (.if_icmp .ge 24, 3) := by decide +kernel
theorem d_Input_beginsWith_23 : decode b_Input_beginsWith 23 = .ok (.aload_n 0, 1) := by decide +kernel
theorem d_Input_beginsWith_24 : decode b_Input_beginsWith 24 = .ok (.iload_n 2, 1) := by decide +kernel
theorem d_Input_beginsWith_25 : decode b_Input_beginsWith 25 = .ok (.invokevirtual 42, 3) := by decide +kernel
theorem d_Input_beginsWith_28 : decode b_Input_beginsWith 28 = .ok (.aload_n 1, 1) := by decide +kernel
theorem d_Input_beginsWith_29 : decode b_Input_beginsWith 29 = .ok (.iload_n 2, 1) := by decide +kernel
theorem d_Input_beginsWith_30 : decode b_Input_beginsWith 30 = .ok (.invokevirtual 22, 3) := by decide +kernel
theorem d_Input_beginsWith_33 : decode b_Input_beginsWith 33 = .ok (.if_icmp .eq 5, 3) := by decide +kernel
theorem d_Input_beginsWith_36 : decode b_Input_beginsWith 36 = .ok (.iconst 0, 1) := by decide +kernel
theorem d_Input_beginsWith_37 : decode b_Input_beginsWith 37 = .ok (.ireturn, 1) := by decide +kernel
theorem d_Input_beginsWith_38 : decode b_Input_beginsWith 38 = .ok (.iinc 2 1, 3) := by decide +kernel
theorem d_Input_beginsWith_41 : decode b_Input_beginsWith 41 = .ok (.goto (-26), 3) := by decide +kernel
theorem d_Input_beginsWith_44 : decode b_Input_beginsWith 44 = .ok (.iconst 1, 1) := by decide +kernel
theorem d_Input_beginsWith_45 : decode b_Input_beginsWith 45 = .ok (.ireturn, 1) := by decide +kernel
theorem d_Input_drop_0 : decode b_Input_drop 0 = .ok (.aload_n 0, 1) := by decide +kernel
theorem d_Input_drop_1 : decode b_Input_drop 1 = .ok (.iconst 0, 1) := by decide +kernel
theorem d_Input_drop_2 : decode b_Input_drop 2 = .ok (.aload_n 0, 1) := by decide +kernel
theorem d_Input_drop_3 : decode b_Input_drop 3 = .ok (.getfield 15, 3) := by decide +kernel
theorem d_Input_drop_6 : decode b_Input_drop 6 = .ok (.iconst 0, 1) := by decide +kernel
theorem d_Input_drop_7 : decode b_Input_drop 7 = .ok (.iload_n 1, 1) := by decide +kernel
theorem d_Input_drop_8 : decode b_Input_drop 8 = .ok (.invokestatic 36, 3) := by decide +kernel
theorem d_Input_drop_11 : decode b_Input_drop 11 = .ok (.isub, 1) := by decide +kernel
theorem d_Input_drop_12 : decode b_Input_drop 12 = .ok (.invokestatic 36, 3) := by decide +kernel
theorem d_Input_drop_15 : decode b_Input_drop 15 = .ok (.putfield 15, 3) := by decide +kernel
theorem d_Input_drop_18 : decode b_Input_drop 18 = .ok (.return_, 1) := by decide +kernel
theorem d_Row_leaveOutOuterPair_0 : decode b_Row_leaveOutOuterPair 0 = .ok (.aload_n 0, 1) := by decide +kernel
theorem d_Row_leaveOutOuterPair_1 : decode b_Row_leaveOutOuterPair 1 = .ok (.getfield 19, 3) := by decide +kernel
theorem d_Row_leaveOutOuterPair_4 : decode b_Row_leaveOutOuterPair 4 = .ok (.iconst 2, 1) := by decide +kernel
theorem d_Row_leaveOutOuterPair_5 : decode b_Row_leaveOutOuterPair 5 = .ok (.if_icmp .lt 30, 3) := by decide +kernel
theorem d_Row_leaveOutOuterPair_8 : decode b_Row_leaveOutOuterPair 8 = .ok (.aload_n 0, 1) := by decide +kernel
theorem d_Row_leaveOutOuterPair_9 : decode b_Row_leaveOutOuterPair 9 = .ok (.iconst 0, 1) := by decide +kernel
theorem d_Row_leaveOutOuterPair_10 : decode b_Row_leaveOutOuterPair 10 = .ok (.invokevirtual 34, 3) := by decide +kernel
theorem d_Row_leaveOutOuterPair_13 : decode b_Row_leaveOutOuterPair 13 = .ok (.sipush 257, 3) := by decide +kernel
theorem d_Row_leaveOutOuterPair_16 : decode b_Row_leaveOutOuterPair 16 = .ok (.if_icmp .ne 19, 3) := by decide +kernel
theorem d_Row_leaveOutOuterPair_19 : decode b_Row_leaveOutOuterPair 19 = .ok (.aload_n 0, 1) := by decide +kernel
theorem d_Row_leaveOutOuterPair_20 : decode b_Row_leaveOutOuterPair 20 = .ok (.aload_n 0, 1) := by decide +kernel
theorem d_Row_leaveOutOuterPair_21 : decode b_Row_leaveOutOuterPair 21 = .ok (.getfield 19, 3) := by decide +kernel
theorem d_Row_leaveOutOuterPair_24 : decode b_Row_leaveOutOuterPair 24 = .ok (.iconst 1, 1) := by decide +kernel
theorem d_Row_leaveOutOuterPair_25 : decode b_Row_leaveOutOuterPair 25 = .ok (.isub, 1) := by decide +kernel
theorem d_Row_leaveOutOuterPair_26 : decode b_Row_leaveOutOuterPair 26 = .ok (.invokevirtual 34, 3) := by decide +kernel
theorem d_Row_leaveOutOuterPair_29 : decode b_Row_leaveOutOuterPair 29 = .ok (.sipush 258, 3) := by decide +kernel
theorem d_Row_leaveOutOuterPair_32 : decode b_Row_leaveOutOuterPair 32 = .ok (.if_icmp .eq 4, 3) := by decide +kernel
theorem d_Row_leaveOutOuterPair_35 : decode b_Row_leaveOutOuterPair 35 = .ok (.return_, 1) := by decide +kernel
theorem d_Row_leaveOutOuterPair_36 : decode b_Row_leaveOutOuterPair 36 = .ok (.iconst 0, 1) := by decide +kernel
theorem d_Row_leaveOutOuterPair_37 : decode b_Row_leaveOutOuterPair 37 = .ok (.istore_n 1, 1) := by decide +kernel
theorem d_Row_leaveOutOuterPair_38 : decode b_Row_leaveOutOuterPair 38 = .ok (.iconst 0, 1) := by decide +kernel
theorem d_Row_leaveOutOuterPair_39 : decode b_Row_leaveOutOuterPair 39 = .ok (.istore_n 2, 1) := by decide +kernel
theorem d_Row_leaveOutOuterPair_40 : decode b_Row_leaveOutOuterPair 40 = .ok (.iload_n 2, 1) := by decide +kernel
theorem d_Row_leaveOutOuterPair_41 : decode b_Row_leaveOutOuterPair 41 = .ok (.aload_n 0, 1) := by decide +kernel
theorem d_Row_leaveOutOuterPair_42 : decode b_Row_leaveOutOuterPair 42 = .ok (.getfield 19, 3) := by decide +kernel
theorem d_Row_leaveOutOuterPair_45 : decode b_Row_leaveOutOuterPair 45 = .ok (.iconst 1, 1) := by decide +kernel
theorem d_Row_leaveOutOuterPair_46 : decode b_Row_leaveOutOuterPair 46 = .ok (.isub, 1) := by decide +kernel
theorem d_Row_leaveOutOuterPair_47 : decode b_Row_leaveOutOuterPair 47 = .ok (.if_icmp .ge 25, 3) := by decide +kernel
theorem d_Row_leaveOutOuterPair_50 : decode b_Row_leaveOutOuterPair 50 = .ok (.iload_n 1, 1) := by decide +kernel
theorem d_Row_leaveOutOuterPair_51 : decode b_Row_leaveOutOuterPair 51 = .ok (.aload_n 0, 1) := by decide +kernel
theorem d_Row_leaveOutOuterPair_52 : decode b_Row_leaveOutOuterPair 52 = .ok (.iload_n 2, 1) := by decide +kernel
theorem d_Row_leaveOutOuterPair_53 : decode b_Row_leaveOutOuterPair 53 = .ok (.invokevirtual 34, 3) := by decide +kernel
theorem d_Row_leaveOutOuterPair_56 : decode b_Row_leaveOutOuterPair 56 = .ok (.invokestatic 38, 3) := by decide +kernel
theorem d_Row_leaveOutOuterPair_59 : decode b_Row_leaveOutOuterPair 59 = .ok (.iadd, 1) := by decide +kernel
theorem d_Row_leaveOutOuterPair_60 : decode b_Row_leaveOutOuterPair 60 = .ok (.istore_n 1, 1) := by decide +kernel
theorem d_Row_leaveOutOuterPair_61 : decode b_Row_leaveOutOuterPair 61 = .ok (.iload_n 1, 1) := by decide +kernel
theorem d_Row_leaveOutOuterPair_62 : decode b_Row_leaveOutOuterPair 62 = .ok (.ifCond .ne 4, 3) := by decide +kernel
theorem d_Row_leaveOutOuterPair_65 : decode b_Row_leaveOutOuterPair 65 = .ok (.return_, 1) := by decide +kernel
theorem d_Row_leaveOutOuterPair_66 : decode b_Row_leaveOutOuterPair 66 = .ok (.iinc 2 1, 3) := by decide +kernel
theorem d_Row_leaveOutOuterPair_69 : decode b_Row_leaveOutOuterPair 69 = .ok (.goto (-29), 3) := by decide +kernel
theorem d_Row_leaveOutOuterPair_72 : decode b_Row_leaveOutOuterPair 72 = .ok (.aload_n 0, 1) := by decide +kernel
theorem d_Row_leaveOutOuterPair_73 : decode b_Row_leaveOutOuterPair 73 = .ok (.getfield 15, 3) := by decide +kernel
theorem d_Row_leaveOutOuterPair_76 : decode b_Row_leaveOutOuterPair 76 = .ok (.iconst 1, 1) := by decide +kernel
theorem d_Row_leaveOutOuterPair_77 : decode b_Row_leaveOutOuterPair 77 = .ok (.aload_n 0, 1) := by decide +kernel
theorem d_Row_leaveOutOuterPair_78 : decode b_Row_leaveOutOuterPair 78 = .ok (.getfield 15, 3) := by decide +kernel
theorem d_Row_leaveOutOuterPair_81 : decode b_Row_leaveOutOuterPair 81 = .ok (.iconst 0, 1) := by decide +kernel
theorem d_Row_leaveOutOuterPair_82 : decode b_Row_leaveOutOuterPair 82 = .ok (.aload_n 0, 1) := by decide +kernel
theorem d_Row_leaveOutOuterPair_83 : decode b_Row_leaveOutOuterPair 83 = .ok (.getfield 19, 3) := by decide +kernel
theorem d_Row_leaveOutOuterPair_86 : decode b_Row_leaveOutOuterPair 86 = .ok (.iconst 2, 1) := by decide +kernel
theorem d_Row_leaveOutOuterPair_87 : decode b_Row_leaveOutOuterPair 87 = .ok (.isub, 1) := by decide +kernel
theorem d_Row_leaveOutOuterPair_88 : decode b_Row_leaveOutOuterPair 88 = .ok (.invokestatic 43, 3) := by decide +kernel
theorem d_Row_leaveOutOuterPair_91 : decode b_Row_leaveOutOuterPair 91 = .ok (.aload_n 0, 1) := by decide +kernel
theorem d_Row_leaveOutOuterPair_92 : decode b_Row_leaveOutOuterPair 92 = .ok (.dup, 1) := by decide +kernel
theorem d_Row_leaveOutOuterPair_93 : decode b_Row_leaveOutOuterPair 93 = .ok (.getfield 19, 3) := by decide +kernel
theorem d_Row_leaveOutOuterPair_96 : decode b_Row_leaveOutOuterPair 96 = .ok (.iconst 2, 1) := by decide +kernel
theorem d_Row_leaveOutOuterPair_97 : decode b_Row_leaveOutOuterPair 97 = .ok (.isub, 1) := by decide +kernel
theorem d_Row_leaveOutOuterPair_98 : decode b_Row_leaveOutOuterPair 98 = .ok (.putfield 19, 3) := by decide +kernel
theorem d_Row_leaveOutOuterPair_101 : decode b_Row_leaveOutOuterPair 101 = .ok (.return_, 1) := by decide +kernel
theorem d_Arguments_readUpTo_0 : decode b_Arguments_readUpTo 0 = .ok (.aload_n 0, 1) := by decide +kernel
theorem d_Arguments_readUpTo_1 : decode b_Arguments_readUpTo 1 = .ok (.iload_n 2, 1) := by decide +kernel
theorem d_Arguments_readUpTo_2 : decode b_Arguments_readUpTo 2 = .ok (.invokevirtual 37, 3) := by decide +kernel
theorem d_Arguments_readUpTo_5 : decode b_Arguments_readUpTo 5 = .ok (.astore 4, 2) := by decide +kernel
theorem d_Arguments_readUpTo_7 : decode b_Arguments_readUpTo 7 = .ok (.aload 4, 2) := by decide +kernel
theorem d_Arguments_readUpTo_9 : decode b_Arguments_readUpTo 9 = .ok (.invokevirtual 65, 3) := by decide +kernel
theorem d_Arguments_readUpTo_12 : decode b_Arguments_readUpTo 12 = .ok (.iconst 0, 1) := by decide +kernel
theorem d_Arguments_readUpTo_13 : decode b_Arguments_readUpTo 13 = .ok (.istore 5, 2) := by decide +kernel
theorem d_Arguments_readUpTo_15 : decode b_Arguments_readUpTo 15 = .ok (.iconst 0, 1) := by decide +kernel
theorem d_Arguments_readUpTo_16 : decode b_Arguments_readUpTo 16 = .ok (.istore 6, 2) := by decide +kernel
theorem d_Arguments_readUpTo_18 : decode b_Arguments_readUpTo 18 = .ok (.iload 6, 2) := by decide +kernel
theorem d_Arguments_readUpTo_20 : decode b_Arguments_readUpTo 20 = .ok (.sipush 3000, 3) := by decide +kernel
theorem d_Arguments_readUpTo_23 : decode b_Arguments_readUpTo 23 = .ok (.if_icmp .ge 110, 3) := by decide +kernel
theorem d_Arguments_readUpTo_26 : decode b_Arguments_readUpTo 26 = .ok (.aload_n 0, 1) := by decide +kernel
theorem d_Arguments_readUpTo_27 : decode b_Arguments_readUpTo 27 = .ok (.getfield 9, 3) := by decide +kernel
theorem d_Arguments_readUpTo_30 : decode b_Arguments_readUpTo 30 = .ok (.invokevirtual 45, 3) := by decide +kernel
theorem d_Arguments_readUpTo_33 : decode b_Arguments_readUpTo 33 = .ok (.ifCond .ne 100, 3) := by decide +kernel
theorem d_Arguments_readUpTo_36 : decode b_Arguments_readUpTo 36 = .ok (.iload 5, 2) := by decide +kernel
theorem d_Arguments_readUpTo_38 : decode b_Arguments_readUpTo 38 = .ok (.ifCond .ne 32, 3) := by decide +kernel
theorem d_Arguments_readUpTo_41 : decode b_Arguments_readUpTo 41 = .ok (.aload_n 0, 1) := by decide +kernel
theorem d_Arguments_readUpTo_42 : decode b_Arguments_readUpTo 42 = .ok (.getfield 9, 3) := by decide +kernel
theorem d_Arguments_readUpTo_45 : decode b_Arguments_readUpTo 45 = .ok (.aload_n 1, 1) := by decide +kernel
theorem d_Arguments_readUpTo_46 : decode b_Arguments_readUpTo 46 = .ok (.invokevirtual 84, 3) := by decide +kernel
theorem d_Arguments_readUpTo_49 : decode b_Arguments_readUpTo 49 = .ok (.ifCond .eq 21, 3) := by decide +kernel
theorem d_Arguments_readUpTo_52 : decode b_Arguments_readUpTo 52 = .ok (.aload_n 0, 1) := by decide +kernel
theorem d_Arguments_readUpTo_53 : decode b_Arguments_readUpTo 53 = .ok (.getfield 9, 3) := by decide +kernel
theorem d_Arguments_readUpTo_56 : decode b_Arguments_readUpTo 56 = .ok (.aload_n 1, 1) := by decide +kernel
theorem d_Arguments_readUpTo_57 : decode b_Arguments_readUpTo 57 = .ok (.getfield 41, 3) := by decide +kernel
theorem d_Arguments_readUpTo_60 : decode b_Arguments_readUpTo 60 = .ok (.invokevirtual 88, 3) := by decide +kernel
theorem d_Arguments_readUpTo_63 : decode b_Arguments_readUpTo 63 = .ok (.aload 4, 2) := by decide +kernel
theorem d_Arguments_readUpTo_65 : decode b_Arguments_readUpTo 65 = .ok (.invokevirtual 91, 3) := by decide +kernel
theorem d_Arguments_readUpTo_68 : decode b_Arguments_readUpTo 68 = .ok (.iconst 0, 1) := by decide +kernel
theorem d_Arguments_readUpTo_69 : decode b_Arguments_readUpTo 69 = .ok (.ireturn, 1) := by decide +kernel
theorem d_Arguments_readUpTo_70 : decode b_Arguments_readUpTo 70 = .ok (.aload_n 0, 1) := by decide +kernel
theorem d_Arguments_readUpTo_71 : decode b_Arguments_readUpTo 71 = .ok (.getfield 9, 3) := by decide +kernel
theorem d_Arguments_readUpTo_74 : decode b_Arguments_readUpTo 74 = .ok (.invokevirtual 51, 3) := by decide +kernel
theorem d_Arguments_readUpTo_77 : decode b_Arguments_readUpTo 77 = .ok (.istore 7, 2) := by decide +kernel
theorem d_Arguments_readUpTo_79 : decode b_Arguments_readUpTo 79 = .ok (.aload_n 0, 1) := by decide +kernel
theorem d_Arguments_readUpTo_80 : decode b_Arguments_readUpTo 80 = .ok (.iload 7, 2) := by decide +kernel
theorem d_Arguments_readUpTo_82 : decode b_Arguments_readUpTo 82 = .ok (.aload_n 3, 1) := by decide +kernel
theorem d_Arguments_readUpTo_83 : decode b_Arguments_readUpTo 83 = .ok (.invokevirtual 69, 3) := by decide +kernel
theorem d_Arguments_readUpTo_86 : decode b_Arguments_readUpTo 86 = .ok (.ifCond .eq 5, 3) := by decide +kernel
theorem d_Arguments_readUpTo_89 : decode b_Arguments_readUpTo 89 = .ok (.iconst 2, 1) := by decide +kernel
theorem d_Arguments_readUpTo_90 : decode b_Arguments_readUpTo 90 = .ok (.ireturn, 1) := by decide +kernel
theorem d_Arguments_readUpTo_91 : decode b_Arguments_readUpTo 91 = .ok (.iload 5, 2) := by decide +kernel
theorem d_Arguments_readUpTo_93 : decode b_Arguments_readUpTo 93 = .ok (.iload 7, 2) := by decide +kernel
theorem d_Arguments_readUpTo_95 : decode b_Arguments_readUpTo 95 = .ok (.invokestatic 73, 3) := by decide +kernel
theorem d_Arguments_readUpTo_98 : decode b_Arguments_readUpTo 98 = .ok (.iadd, 1) := by decide +kernel
theorem d_Arguments_readUpTo_99 : decode b_Arguments_readUpTo 99 = .ok (.istore 5, 2) := by decide +kernel
theorem d_Arguments_readUpTo_101 : decode b_Arguments_readUpTo 101 = .ok (.iload 5, 2) := by decide +kernel
theorem d_Arguments_readUpTo_103 : decode b_Arguments_readUpTo 103 = .ok (.ifCond .ge 6, 3) := by decide +kernel
theorem d_Arguments_readUpTo_106 : decode b_Arguments_readUpTo 106 = .ok (.bipush 7, 2) := by decide +kernel
theorem d_Arguments_readUpTo_108 : decode b_Arguments_readUpTo 108 = .ok (.ireturn, 1) := by decide +kernel
theorem d_Arguments_readUpTo_109 : decode b_Arguments_readUpTo 109 = .ok (.aload 4, 2) := by decide +kernel
theorem d_Arguments_readUpTo_111 : decode b_Arguments_readUpTo 111 = .ok (.invokevirtual 78, 3) := by decide +kernel
theorem d_Arguments_readUpTo_114 : decode b_Arguments_readUpTo 114 = .ok (.ifCond .eq 6, 3) := by decide +kernel
theorem d_Arguments_readUpTo_117 : decode b_Arguments_readUpTo 117 = .ok (.bipush 8, 2) := by decide +kernel
theorem d_Arguments_readUpTo_119 : decode b_Arguments_readUpTo 119 = .ok (.ireturn, 1) := by decide +kernel
theorem d_Arguments_readUpTo_120 : decode b_Arguments_readUpTo 120 = .ok (.aload 4, 2) := by decide +kernel
theorem d_Arguments_readUpTo_122 : decode b_Arguments_readUpTo 122 = .ok (.iload 7, 2) := by decide +kernel
theorem d_Arguments_readUpTo_124 : decode b_Arguments_readUpTo 124 = .ok (.invokevirtual 81, 3) := by decide +kernel
theorem d_Arguments_readUpTo_127 : decode b_Arguments_readUpTo 127 = .ok (.iinc 6 1, 3) := by decide +kernel
theorem d_Arguments_readUpTo_130 : decode b_Arguments_readUpTo 130 = .ok (.goto (-112), 3) := by decide +kernel
theorem d_Arguments_readUpTo_133 : decode b_Arguments_readUpTo 133 = .ok (.iconst 1, 1) := by decide +kernel
theorem d_Arguments_readUpTo_134 : decode b_Arguments_readUpTo 134 = .ok (.ireturn, 1) := by decide +kernel
theorem d_Kind_argumentOf_0 : decode b_Kind_argumentOf 0 = .ok (.iload_n 0, 1) := by decide +kernel
theorem d_Kind_argumentOf_1 : decode b_Kind_argumentOf 1 = .ok (.sipush 310, 3) := by decide +kernel
theorem d_Kind_argumentOf_4 : decode b_Kind_argumentOf 4 = .ok (.if_icmp .le 18, 3) := by decide +kernel
theorem d_Kind_argumentOf_7 : decode b_Kind_argumentOf 7 = .ok (.iload_n 0, 1) := by decide +kernel
theorem d_Kind_argumentOf_8 : decode b_Kind_argumentOf 8 = .ok (.sipush 320, 3) := by decide +kernel
theorem d_Kind_argumentOf_11 : decode b_Kind_argumentOf 11 = .ok (.if_icmp .ge 11, 3) := by decide +kernel
theorem d_Kind_argumentOf_14 : decode b_Kind_argumentOf 14 = .ok (.iload_n 0, 1) := by decide +kernel
theorem d_Kind_argumentOf_15 : decode b_Kind_argumentOf 15 = .ok (.sipush 310, 3) := by decide +kernel
theorem d_Kind_argumentOf_18 : decode b_Kind_argumentOf 18 = .ok (.isub, 1) := by decide +kernel
theorem d_Kind_argumentOf_19 : decode b_Kind_argumentOf 19 = .ok (.goto 4, 3) := by decide +kernel
theorem d_Kind_argumentOf_22 : decode b_Kind_argumentOf 22 = .ok (.iconst 0, 1) := by decide +kernel
theorem d_Kind_argumentOf_23 : decode b_Kind_argumentOf 23 = .ok (.ireturn, 1) := by decide +kernel
theorem d_Expander_sizeOfText_0 : decode b_Expander_sizeOfText 0 = .ok (.iconst 0, 1) := by decide +kernel
theorem d_Expander_sizeOfText_1 : decode b_Expander_sizeOfText 1 = .ok (.istore_n 2, 1) := by decide +kernel
theorem d_Expander_sizeOfText_2 : decode b_Expander_sizeOfText 2 = .ok (.iconst 0, 1) := by decide +kernel
theorem d_Expander_sizeOfText_3 : decode b_Expander_sizeOfText 3 = .ok (.istore_n 3, 1) := by decide +kernel
theorem d_Expander_sizeOfText_4 : decode b_Expander_sizeOfText 4 = .ok (.iload_n 3, 1) := by decide +kernel
theorem d_Expander_sizeOfText_5 : decode b_Expander_sizeOfText 5 = .ok (.aload_n 1, 1) := by decide +kernel
theorem d_Expander_sizeOfText_6 : decode b_Expander_sizeOfText 6 = .ok (.getfield 181, 3) := by decide +kernel
theorem d_Expander_sizeOfText_9 : decode b_Expander_sizeOfText 9 = .ok (.getfield 156, 3) := by decide +kernel
theorem d_Expander_sizeOfText_12 : decode b_Expander_sizeOfText 12 = .ok (.if_icmp .ge 57, 3) := by decide +kernel
theorem d_Expander_sizeOfText_15 : decode b_Expander_sizeOfText 15 = .ok (.aload_n 1, 1) := by decide +kernel
theorem d_Expander_sizeOfText_16 : decode b_Expander_sizeOfText 16 = .ok (.getfield 181, 3) := by decide +kernel
theorem d_Expander_sizeOfText_19 : decode b_Expander_sizeOfText 19 = .ok (.iload_n 3, 1) := by decide +kernel
theorem d_Expander_sizeOfText_20 : decode b_Expander_sizeOfText 20 = .ok (.invokevirtual 185, 3) := by decide +kernel
theorem d_Expander_sizeOfText_23 : decode b_Expander_sizeOfText 23 = .ok (.invokestatic 186, 3) := by decide +kernel
theorem d_Expander_sizeOfText_26 : decode b_Expander_sizeOfText 26 = .ok (.istore 4, 2) := by decide +kernel
theorem d_Expander_sizeOfText_28 : decode b_Expander_sizeOfText 28 = .ok (.iload 4, 2) := by decide +kernel
theorem d_Expander_sizeOfText_30 : decode b_Expander_sizeOfText 30 = .ok (.ifCond .ne 9, 3) := by decide +kernel
theorem d_Expander_sizeOfText_33 : decode b_Expander_sizeOfText 33 = .ok (.iinc 2 1, 3) := by decide +kernel
theorem d_Expander_sizeOfText_36 : decode b_Expander_sizeOfText 36 = .ok (.goto 27, 3) := by decide +kernel
theorem d_Expander_sizeOfText_39 : decode b_Expander_sizeOfText 39 = .ok (.iload 4, 2) := by decide +kernel
theorem d_Expander_sizeOfText_41 : decode b_Expander_sizeOfText 41 = .ok (.aload_n 1, 1) := by decide +kernel
theorem d_Expander_sizeOfText_42 : decode b_Expander_sizeOfText 42 = .ok (.getfield 154, 3) := by decide +kernel
theorem d_Expander_sizeOfText_45 : decode b_Expander_sizeOfText 45 = .ok (.if_icmp .gt 18, 3) := by decide +kernel
theorem d_Expander_sizeOfText_48 : decode b_Expander_sizeOfText 48 = .ok (.iload_n 2, 1) := by decide +kernel
theorem d_Expander_sizeOfText_49 : decode b_Expander_sizeOfText 49 = .ok (.aload_n 0, 1) := by decide +kernel
theorem d_Expander_sizeOfText_50 : decode b_Expander_sizeOfText 50 = .ok (.getfield 39, 3) := by decide +kernel
theorem d_Expander_sizeOfText_53 : decode b_Expander_sizeOfText 53 = .ok (.iload 4, 2) := by decide +kernel
theorem d_Expander_sizeOfText_55 : decode b_Expander_sizeOfText 55 = .ok (.invokevirtual 189, 3) := by decide +kernel
theorem d_Expander_sizeOfText_58 : decode b_Expander_sizeOfText 58 = .ok (.getfield 156, 3) := by decide +kernel
theorem d_Expander_sizeOfText_61 : decode b_Expander_sizeOfText 61 = .ok (.iadd, 1) := by decide +kernel
theorem d_Expander_sizeOfText_62 : decode b_Expander_sizeOfText 62 = .ok (.istore_n 2, 1) := by decide +kernel
theorem d_Expander_sizeOfText_63 : decode b_Expander_sizeOfText 63 = .ok (.iinc 3 1, 3) := by decide +kernel
theorem d_Expander_sizeOfText_66 : decode b_Expander_sizeOfText 66 = .ok (.goto (-62), 3) := by decide +kernel
theorem d_Expander_sizeOfText_69 : decode b_Expander_sizeOfText 69 = .ok (.iload_n 2, 1) := by decide +kernel
theorem d_Expander_sizeOfText_70 : decode b_Expander_sizeOfText 70 = .ok (.ireturn, 1) := by decide +kernel
theorem d_Input_put_0 : decode b_Input_put 0 = .ok (.aload_n 0, 1) := by decide +kernel
theorem d_Input_put_1 : decode b_Input_put 1 = .ok (.getfield 15, 3) := by decide +kernel
theorem d_Input_put_4 : decode b_Input_put 4 = .ok (.sipush 3000, 3) := by decide +kernel
theorem d_Input_put_7 : decode b_Input_put 7 = .ok (.if_icmp .ge 23, 3) := by decide +kernel
theorem d_Input_put_10 : decode b_Input_put 10 = .ok (.aload_n 0, 1) := by decide +kernel
theorem d_Input_put_11 : decode b_Input_put 11 = .ok (.getfield 9, 3) := by decide +kernel
theorem d_Input_put_14 : decode b_Input_put 14 = .ok (.aload_n 0, 1) := by decide +kernel
theorem d_Input_put_15 : decode b_Input_put 15 = .ok (.getfield 15, 3) := by decide +kernel
theorem d_Input_put_18 : decode b_Input_put 18 = .ok (.iload_n 1, 1) := by decide +kernel
theorem d_Input_put_19 : decode b_Input_put 19 = .ok (.iastore, 1) := by decide +kernel
theorem d_Input_put_20 : decode b_Input_put 20 = .ok (.aload_n 0, 1) := by decide +kernel
theorem d_Input_put_21 : decode b_Input_put 21 = .ok (.dup, 1) := by decide +kernel
theorem d_Input_put_22 : decode b_Input_put 22 = .ok (.getfield 15, 3) := by decide +kernel
theorem d_Input_put_25 : decode b_Input_put 25 = .ok (.iconst 1, 1) := by decide +kernel
theorem d_Input_put_26 : decode b_Input_put 26 = .ok (.iadd, 1) := by decide +kernel
theorem d_Input_put_27 : decode b_Input_put 27 = .ok (.putfield 15, 3) := by decide +kernel
theorem d_Input_put_30 : decode b_Input_put 30 = .ok (.return_, 1) := by decide +kernel
theorem d_Input_putAll_0 : decode b_Input_putAll 0 = .ok (.aload_n 1, 1) := by decide +kernel
theorem d_Input_putAll_1 : decode b_Input_putAll 1 = .ok (.getfield 19, 3) := by decide +kernel
theorem d_Input_putAll_4 : decode b_Input_putAll 4 = .ok (.iconst 1, 1) := by decide +kernel
theorem d_Input_putAll_5 : decode b_Input_putAll 5 = .ok (.isub, 1) := by decide +kernel
theorem d_Input_putAll_6 : decode b_Input_putAll 6 = .ok (.istore_n 2, 1) := by decide +kernel
theorem d_Input_putAll_7 : decode b_Input_putAll 7 = .ok (.iload_n 2, 1) := by decide +kernel
theorem d_Input_putAll_8 : decode b_Input_putAll 8 = .ok (.ifCond .lt 18, 3) := by decide +kernel
theorem d_Input_putAll_11 : decode b_Input_putAll 11 = .ok (.aload_n 0, 1) := by decide +kernel
theorem d_Input_putAll_12 : decode b_Input_putAll 12 = .ok (.aload_n 1, 1) := by decide +kernel
theorem d_Input_putAll_13 : decode b_Input_putAll 13 = .ok (.iload_n 2, 1) := by decide +kernel
theorem d_Input_putAll_14 : decode b_Input_putAll 14 = .ok (.invokevirtual 22, 3) := by decide +kernel
theorem d_Input_putAll_17 : decode b_Input_putAll 17 = .ok (.invokevirtual 26, 3) := by decide +kernel
theorem d_Input_putAll_20 : decode b_Input_putAll 20 = .ok (.iinc 2 (-1), 3) := by decide +kernel
theorem d_Input_putAll_23 : decode b_Input_putAll 23 = .ok (.goto (-16), 3) := by decide +kernel
theorem d_Input_putAll_26 : decode b_Input_putAll 26 = .ok (.return_, 1) := by decide +kernel
