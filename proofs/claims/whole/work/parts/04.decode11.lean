theorem d_Expander_expandName_0 : decode b_Expander_expandName 0 = .ok (.aload_n 0, 1) := by decide +kernel
theorem d_Expander_expandName_1 : decode b_Expander_expandName 1 = .ok (.getfield 69, 3) := by decide +kernel
theorem d_Expander_expandName_4 : decode b_Expander_expandName 4 = .ok (.istore_n 3, 1) := by decide +kernel
theorem d_Expander_expandName_5 : decode b_Expander_expandName 5 = .ok (.aload_n 0, 1) := by decide +kernel
theorem d_Expander_expandName_6 : decode b_Expander_expandName 6 = .ok (.iload_n 1, 1) := by decide +kernel
theorem d_Expander_expandName_7 : decode b_Expander_expandName 7 = .ok (.putfield 69, 3) := by decide +kernel
theorem d_Expander_expandName_10 : decode b_Expander_expandName 10 = .ok (.aload_n 0, 1) := by decide +kernel
theorem d_Expander_expandName_11 : decode b_Expander_expandName 11 = .ok (.getfield 39, 3) := by decide +kernel
theorem d_Expander_expandName_14 : decode b_Expander_expandName 14 = .ok (.aload_n 2, 1) := by decide +kernel
theorem d_Expander_expandName_15 : decode b_Expander_expandName 15 = .ok (.iconst 0, 1) := by decide +kernel
theorem d_Expander_expandName_16 : decode b_Expander_expandName 16 = .ok (.invokevirtual 144, 3) := by decide +kernel
theorem d_Expander_expandName_19 : decode b_Expander_expandName 19 = .ok (.invokevirtual 150, 3) := by decide +kernel
theorem d_Expander_expandName_22 : decode b_Expander_expandName 22 = .ok (.istore 4, 2) := by decide +kernel
theorem d_Expander_expandName_24 : decode b_Expander_expandName 24 = .ok (.iconst 1, 1) := by decide +kernel
theorem d_Expander_expandName_25 : decode b_Expander_expandName 25 = .ok (.istore 5, 2) := by decide +kernel
theorem d_Expander_expandName_27 : decode b_Expander_expandName 27 = .ok (.iload 5, 2) := by decide +kernel
theorem d_Expander_expandName_29 : decode b_Expander_expandName 29 = .ok (.aload_n 2, 1) := by decide +kernel
theorem d_Expander_expandName_30 : decode b_Expander_expandName 30 = .ok (.getfield 154, 3) := by decide +kernel
theorem d_Expander_expandName_33 : decode b_Expander_expandName 33 = .ok (.if_icmp .gt 57, 3) := by decide +kernel
theorem d_Expander_expandName_36 : decode b_Expander_expandName 36 = .ok (.iload 4, 2) := by decide +kernel
theorem d_Expander_expandName_38 : decode b_Expander_expandName 38 = .ok (.ifCond .ne 52, 3) := by decide +kernel
theorem d_Expander_expandName_41 : decode b_Expander_expandName 41 = .ok (.aload_n 2, 1) := by decide +kernel
theorem d_Expander_expandName_42 : decode b_Expander_expandName 42 = .ok (.iload 5, 2) := by decide +kernel
theorem d_Expander_expandName_44 : decode b_Expander_expandName 44 = .ok (.invokevirtual 144, 3) := by decide +kernel
theorem d_Expander_expandName_47 : decode b_Expander_expandName 47 = .ok (.astore 6, 2) := by decide +kernel
theorem d_Expander_expandName_49 : decode b_Expander_expandName 49 = .ok (.aload 6, 2) := by decide +kernel
theorem d_Expander_expandName_51 : decode b_Expander_expandName 51 = .ok (.getfield 156, 3) := by decide +kernel
theorem d_Expander_expandName_54 : decode b_Expander_expandName 54 = .ok (.ifCond .ne 16, 3) := by decide +kernel
theorem d_Expander_expandName_57 : decode b_Expander_expandName 57 = .ok (.aload_n 0, 1) := by decide +kernel
theorem d_Expander_expandName_58 : decode b_Expander_expandName 58 = .ok (.getfield 39, 3) := by decide +kernel
theorem d_Expander_expandName_61 : decode b_Expander_expandName 61 = .ok (.iload 5, 2) := by decide +kernel
theorem d_Expander_expandName_63 : decode b_Expander_expandName 63 = .ok (.aload_n 2, 1) := by decide +kernel
theorem d_Expander_expandName_64 : decode b_Expander_expandName 64 = .ok (.invokevirtual 159, 3) := by decide +kernel
theorem d_Expander_expandName_67 : decode b_Expander_expandName 67 = .ok (.goto 15, 3) := by decide +kernel
theorem d_Expander_expandName_70 : decode b_Expander_expandName 70 = .ok (.aload_n 0, 1) := by decide +kernel
theorem d_Expander_expandName_71 : decode b_Expander_expandName 71 = .ok (.getfield 39, 3) := by decide +kernel
theorem d_Expander_expandName_74 : decode b_Expander_expandName 74 = .ok (.aload 6, 2) := by decide +kernel
theorem d_Expander_expandName_76 : decode b_Expander_expandName 76 = .ok (.iload 5, 2) := by decide +kernel
theorem d_Expander_expandName_78 : decode b_Expander_expandName 78 = .ok (.aload_n 2, 1) := by decide +kernel
theorem d_Expander_expandName_79 : decode b_Expander_expandName 79 = .ok (.invokevirtual 162, 3) := by decide +kernel
theorem d_Expander_expandName_82 : decode b_Expander_expandName 82 = .ok (.istore 4, 2) := by decide +kernel
theorem d_Expander_expandName_84 : decode b_Expander_expandName 84 = .ok (.iinc 5 1, 3) := by decide +kernel
theorem d_Expander_expandName_87 : decode b_Expander_expandName 87 = .ok (.goto (-60), 3) := by decide +kernel
theorem d_Expander_expandName_90 : decode b_Expander_expandName 90 = .ok (.iload 4, 2) := by decide +kernel
theorem d_Expander_expandName_92 : decode b_Expander_expandName 92 = .ok (.ifCond .eq 6, 3) := by decide +kernel
theorem d_Expander_expandName_95 : decode b_Expander_expandName 95 = .ok (.iload 4, 2) := by decide +kernel
theorem d_Expander_expandName_97 : decode b_Expander_expandName 97 = .ok (.ireturn, 1) := by decide +kernel
theorem d_Expander_expandName_98 : decode b_Expander_expandName 98 = .ok (.aload_n 0, 1) := by decide +kernel
theorem d_Expander_expandName_99 : decode b_Expander_expandName 99 = .ok (.aload_n 2, 1) := by decide +kernel
theorem d_Expander_expandName_100 : decode b_Expander_expandName 100 = .ok (.invokevirtual 166, 3) := by decide +kernel
theorem d_Expander_expandName_103 : decode b_Expander_expandName 103 = .ok (.istore 5, 2) := by decide +kernel
theorem d_Expander_expandName_105 : decode b_Expander_expandName 105 = .ok (.iload 5, 2) := by decide +kernel
theorem d_Expander_expandName_107 : decode b_Expander_expandName 107 = .ok (.sipush 3000, 3) := by decide +kernel
theorem d_Expander_expandName_110 : decode b_Expander_expandName 110 = .ok (.aload_n 0, 1) := by decide +kernel
theorem d_Expander_expandName_111 : decode b_Expander_expandName 111 = .ok (.getfield 15, 3) := by decide +kernel
theorem d_Expander_expandName_114 : decode b_Expander_expandName 114 = .ok (.getfield 115, 3) := by decide +kernel
theorem d_Expander_expandName_117 : decode b_Expander_expandName 117 = .ok (.isub, 1) := by decide +kernel
theorem d_Expander_expandName_118 : decode b_Expander_expandName 118 = .ok (.if_icmp .le 6, 3) := by decide +kernel
theorem d_Expander_expandName_121 : decode b_Expander_expandName 121 = .ok (.bipush 8, 2) := by decide +kernel
theorem d_Expander_expandName_123 : decode b_Expander_expandName 123 = .ok (.ireturn, 1) := by decide +kernel
theorem d_Expander_expandName_124 : decode b_Expander_expandName 124 = .ok (.aload_n 0, 1) := by decide +kernel
theorem d_Expander_expandName_125 : decode b_Expander_expandName 125 = .ok (.aload_n 2, 1) := by decide +kernel
theorem d_Expander_expandName_126 : decode b_Expander_expandName 126 = .ok (.invokevirtual 170, 3) := by decide +kernel
theorem d_Expander_expandName_129 : decode b_Expander_expandName 129 = .ok (.aload_n 0, 1) := by decide +kernel
theorem d_Expander_expandName_130 : decode b_Expander_expandName 130 = .ok (.getfield 30, 3) := by decide +kernel
theorem d_Expander_expandName_133 : decode b_Expander_expandName 133 = .ok (.iload_n 1, 1) := by decide +kernel
theorem d_Expander_expandName_134 : decode b_Expander_expandName 134 = .ok (.aload_n 0, 1) := by decide +kernel
theorem d_Expander_expandName_135 : decode b_Expander_expandName 135 = .ok (.getfield 39, 3) := by decide +kernel
theorem d_Expander_expandName_138 : decode b_Expander_expandName 138 = .ok (.aload_n 2, 1) := by decide +kernel
theorem d_Expander_expandName_139 : decode b_Expander_expandName 139 = .ok (.getfield 154, 3) := by decide +kernel
theorem d_Expander_expandName_142 : decode b_Expander_expandName 142 = .ok (.invokevirtual 174, 3) := by decide +kernel
theorem d_Expander_expandName_145 : decode b_Expander_expandName 145 = .ok (.iload 5, 2) := by decide +kernel
theorem d_Expander_expandName_147 : decode b_Expander_expandName 147 = .ok (.invokevirtual 177, 3) := by decide +kernel
theorem d_Expander_expandName_150 : decode b_Expander_expandName 150 = .ok (.aload_n 0, 1) := by decide +kernel
theorem d_Expander_expandName_151 : decode b_Expander_expandName 151 = .ok (.iload_n 3, 1) := by decide +kernel
theorem d_Expander_expandName_152 : decode b_Expander_expandName 152 = .ok (.putfield 69, 3) := by decide +kernel
theorem d_Expander_expandName_155 : decode b_Expander_expandName 155 = .ok (.iconst 0, 1) := by decide +kernel
theorem d_Expander_expandName_156 : decode b_Expander_expandName 156 = .ok (.ireturn, 1) := by decide +kernel
theorem d_Expander_expandFirst_0 : decode b_Expander_expandFirst 0 = .ok (.aload_n 0, 1) := by decide +kernel
theorem d_Expander_expandFirst_1 : decode b_Expander_expandFirst 1 = .ok (.getfield 66, 3) := by decide +kernel
theorem d_Expander_expandFirst_4 : decode b_Expander_expandFirst 4 = .ok (.aload_n 0, 1) := by decide +kernel
theorem d_Expander_expandFirst_5 : decode b_Expander_expandFirst 5 = .ok (.getfield 9, 3) := by decide +kernel
theorem d_Expander_expandFirst_8 : decode b_Expander_expandFirst 8 = .ok (.if_icmp .lt 5, 3) := by decide +kernel
theorem d_Expander_expandFirst_11 : decode b_Expander_expandFirst 11 = .ok (.iconst 5, 1) := by decide +kernel
theorem d_Expander_expandFirst_12 : decode b_Expander_expandFirst 12 = .ok (.ireturn, 1) := by decide +kernel
theorem d_Expander_expandFirst_13 : decode b_Expander_expandFirst 13 = .ok (.aload_n 0, 1) := by decide +kernel
theorem d_Expander_expandFirst_14 : decode b_Expander_expandFirst 14 = .ok (.dup, 1) := by decide +kernel
theorem d_Expander_expandFirst_15 : decode b_Expander_expandFirst 15 = .ok (.getfield 66, 3) := by decide +kernel
theorem d_Expander_expandFirst_18 : decode b_Expander_expandFirst 18 = .ok (.iconst 1, 1) := by decide +kernel
theorem d_Expander_expandFirst_19 : decode b_Expander_expandFirst 19 = .ok (.iadd, 1) := by decide +kernel
theorem d_Expander_expandFirst_20 : decode b_Expander_expandFirst 20 = .ok (.putfield 66, 3) := by decide +kernel
theorem d_Expander_expandFirst_23 : decode b_Expander_expandFirst 23 = .ok (.aload_n 0, 1) := by decide +kernel
theorem d_Expander_expandFirst_24 : decode b_Expander_expandFirst 24 = .ok (.getfield 15, 3) := by decide +kernel
theorem d_Expander_expandFirst_27 : decode b_Expander_expandFirst 27 = .ok (.invokevirtual 84, 3) := by decide +kernel
theorem d_Expander_expandFirst_30 : decode b_Expander_expandFirst 30 = .ok (.istore_n 1, 1) := by decide +kernel
theorem d_Expander_expandFirst_31 : decode b_Expander_expandFirst 31 = .ok (.iload_n 1, 1) := by decide +kernel
theorem d_Expander_expandFirst_32 : decode b_Expander_expandFirst 32 = .ok (.sipush 260, 3) := by decide +kernel
theorem d_Expander_expandFirst_35 : decode b_Expander_expandFirst 35 = .ok (.if_icmp .ne 24, 3) := by decide +kernel
theorem d_Expander_expandFirst_38 : decode b_Expander_expandFirst 38 = .ok (.aload_n 0, 1) := by decide +kernel
theorem d_Expander_expandFirst_39 : decode b_Expander_expandFirst 39 = .ok (.iconst 1, 1) := by decide +kernel
theorem d_Expander_expandFirst_40 : decode b_Expander_expandFirst 40 = .ok (.putfield 63, 3) := by decide +kernel
theorem d_Expander_expandFirst_43 : decode b_Expander_expandFirst 43 = .ok (.aload_n 0, 1) := by decide +kernel
theorem d_Expander_expandFirst_44 : decode b_Expander_expandFirst 44 = .ok (.getfield 15, 3) := by decide +kernel
theorem d_Expander_expandFirst_47 : decode b_Expander_expandFirst 47 = .ok (.invokevirtual 102, 3) := by decide +kernel
theorem d_Expander_expandFirst_50 : decode b_Expander_expandFirst 50 = .ok (.ifCond .eq 7, 3) := by decide +kernel
theorem d_Expander_expandFirst_53 : decode b_Expander_expandFirst 53 = .ok (.iconst 1, 1) := by decide +kernel
theorem d_Expander_expandFirst_54 : decode b_Expander_expandFirst 54 = .ok (.goto 4, 3) := by decide +kernel
theorem d_Expander_expandFirst_57 : decode b_Expander_expandFirst 57 = .ok (.iconst 0, 1) := by decide +kernel
theorem d_Expander_expandFirst_58 : decode b_Expander_expandFirst 58 = .ok (.ireturn, 1) := by decide +kernel
theorem d_Expander_expandFirst_59 : decode b_Expander_expandFirst 59 = .ok (.iload_n 1, 1) := by decide +kernel
theorem d_Expander_expandFirst_60 : decode b_Expander_expandFirst 60 = .ok (.sipush 261, 3) := by decide +kernel
theorem d_Expander_expandFirst_63 : decode b_Expander_expandFirst 63 = .ok (.if_icmp .ne 8, 3) := by decide +kernel
theorem d_Expander_expandFirst_66 : decode b_Expander_expandFirst 66 = .ok (.aload_n 0, 1) := by decide +kernel
theorem d_Expander_expandFirst_67 : decode b_Expander_expandFirst 67 = .ok (.invokevirtual 105, 3) := by decide +kernel
theorem d_Expander_expandFirst_70 : decode b_Expander_expandFirst 70 = .ok (.ireturn, 1) := by decide +kernel
theorem d_Expander_expandFirst_71 : decode b_Expander_expandFirst 71 = .ok (.iload_n 1, 1) := by decide +kernel
theorem d_Expander_expandFirst_72 : decode b_Expander_expandFirst 72 = .ok (.sipush 262, 3) := by decide +kernel
theorem d_Expander_expandFirst_75 : decode b_Expander_expandFirst 75 = .ok (.if_icmp .ne 8, 3) := by decide +kernel
theorem d_Expander_expandFirst_78 : decode b_Expander_expandFirst 78 = .ok (.aload_n 0, 1) := by decide +kernel
theorem d_Expander_expandFirst_79 : decode b_Expander_expandFirst 79 = .ok (.invokevirtual 108, 3) := by decide +kernel
theorem d_Expander_expandFirst_82 : decode b_Expander_expandFirst 82 = .ok (.ireturn, 1) := by decide +kernel
theorem d_Expander_expandFirst_83 : decode b_Expander_expandFirst 83 = .ok (.aload_n 0, 1) := by decide +kernel
theorem d_Expander_expandFirst_84 : decode b_Expander_expandFirst 84 = .ok (.getfield 19, 3) := by decide +kernel
theorem d_Expander_expandFirst_87 : decode b_Expander_expandFirst 87 = .ok (.iload_n 1, 1) := by decide +kernel
theorem d_Expander_expandFirst_88 : decode b_Expander_expandFirst 88 = .ok (.invokevirtual 78, 3) := by decide +kernel
theorem d_Expander_expandFirst_91 : decode b_Expander_expandFirst 91 = .ok (.astore_n 2, 1) := by decide +kernel
theorem d_Expander_expandFirst_92 : decode b_Expander_expandFirst 92 = .ok (.aload_n 2, 1) := by decide +kernel
theorem d_Expander_expandFirst_93 : decode b_Expander_expandFirst 93 = .ok (.ifnonnull 7, 3) := by decide +kernel
theorem d_Expander_expandFirst_96 : decode b_Expander_expandFirst 96 = .ok (.iconst 0, 1) := by decide +kernel
theorem d_Expander_expandFirst_97 : decode b_Expander_expandFirst 97 = .ok (.goto 9, 3) := by decide +kernel
theorem d_Expander_expandFirst_100 : decode b_Expander_expandFirst 100 = .ok (.aload_n 0, 1) := by decide +kernel
theorem d_Expander_expandFirst_101 : decode b_Expander_expandFirst 101 = .ok (.iload_n 1, 1) := by decide +kernel
theorem d_Expander_expandFirst_102 : decode b_Expander_expandFirst 102 = .ok (.aload_n 2, 1) := by decide +kernel
theorem d_Expander_expandFirst_103 : decode b_Expander_expandFirst 103 = .ok (.invokevirtual 111, 3) := by decide +kernel
theorem d_Expander_expandFirst_106 : decode b_Expander_expandFirst 106 = .ok (.ireturn, 1) := by decide +kernel
theorem d_Expander_takeFirst_0 : decode b_Expander_takeFirst 0 = .ok (.aload_n 0, 1) := by decide +kernel
theorem d_Expander_takeFirst_1 : decode b_Expander_takeFirst 1 = .ok (.iconst 0, 1) := by decide +kernel
theorem d_Expander_takeFirst_2 : decode b_Expander_takeFirst 2 = .ok (.putfield 63, 3) := by decide +kernel
theorem d_Expander_takeFirst_5 : decode b_Expander_takeFirst 5 = .ok (.aload_n 0, 1) := by decide +kernel
theorem d_Expander_takeFirst_6 : decode b_Expander_takeFirst 6 = .ok (.getfield 15, 3) := by decide +kernel
theorem d_Expander_takeFirst_9 : decode b_Expander_takeFirst 9 = .ok (.invokevirtual 84, 3) := by decide +kernel
theorem d_Expander_takeFirst_12 : decode b_Expander_takeFirst 12 = .ok (.ireturn, 1) := by decide +kernel
theorem d_Spelling_isSpelled_0 : decode b_Spelling_isSpelled 0 = .ok (.aload_n 0, 1) := by decide +kernel
theorem d_Spelling_isSpelled_1 : decode b_Spelling_isSpelled 1 = .ok (.getfield 15, 3) := by decide +kernel
theorem d_Spelling_isSpelled_4 : decode b_Spelling_isSpelled 4 = .ok (.iload_n 1, 1) := by decide +kernel
theorem d_Spelling_isSpelled_5 : decode b_Spelling_isSpelled 5 = .ok (.iaload, 1) := by decide +kernel
theorem d_Spelling_isSpelled_6 : decode b_Spelling_isSpelled 6 = .ok (.iload 4, 2) := by decide +kernel
theorem d_Spelling_isSpelled_8 : decode b_Spelling_isSpelled 8 = .ok (.if_icmp .eq 5, 3) := by decide +kernel
theorem d_Spelling_isSpelled_11 : decode b_Spelling_isSpelled 11 = .ok (.iconst 0, 1) := by decide +kernel
theorem d_Spelling_isSpelled_12 : decode b_Spelling_isSpelled 12 = .ok (.ireturn, 1) := by decide +kernel
theorem d_Spelling_isSpelled_13 : decode b_Spelling_isSpelled 13 = .ok (.iconst 0, 1) := by decide +kernel
theorem d_Spelling_isSpelled_14 : decode b_Spelling_isSpelled 14 = .ok (.istore 5, 2) := by decide +kernel
theorem d_Spelling_isSpelled_16 : decode b_Spelling_isSpelled 16 = .ok (.iload 5, 2) := by decide +kernel
theorem d_Spelling_isSpelled_18 : decode b_Spelling_isSpelled 18 = .ok (.iload 4, 2) := by decide +kernel
theorem d_Spelling_isSpelled_20 : decode b_Spelling_isSpelled 20 = .ok (.if_icmp .ge 32, 3) := by decide +kernel
theorem d_Spelling_isSpelled_23 : decode b_Spelling_isSpelled 23 = .ok (.aload_n 0, 1) := by decide +kernel
theorem d_Spelling_isSpelled_24 : decode b_Spelling_isSpelled 24 = .ok (.getfield 9, 3) := by decide +kernel
theorem d_Spelling_isSpelled_27 : decode b_Spelling_isSpelled 27 = .ok (.iload_n 1, 1) := by decide +kernel
theorem d_Spelling_isSpelled_28 : decode b_Spelling_isSpelled 28 = .ok (.bipush 8, 2) := by decide +kernel
theorem d_Spelling_isSpelled_30 : decode b_Spelling_isSpelled 30 = .ok (.imul, 1) := by decide +kernel
theorem d_Spelling_isSpelled_31 : decode b_Spelling_isSpelled 31 = .ok (.iload 5, 2) := by decide +kernel
theorem d_Spelling_isSpelled_33 : decode b_Spelling_isSpelled 33 = .ok (.iadd, 1) := by decide +kernel
theorem d_Spelling_isSpelled_34 : decode b_Spelling_isSpelled 34 = .ok (.iaload, 1) := by decide +kernel
theorem d_Spelling_isSpelled_35 : decode b_Spelling_isSpelled 35 = .ok (.aload_n 2, 1) := by decide +kernel
theorem d_Spelling_isSpelled_36 : decode b_Spelling_isSpelled 36 = .ok (.iload_n 3, 1) := by decide +kernel
theorem d_Spelling_isSpelled_37 : decode b_Spelling_isSpelled 37 = .ok (.iload 5, 2) := by decide +kernel
theorem d_Spelling_isSpelled_39 : decode b_Spelling_isSpelled 39 = .ok (.iadd, 1) := by decide +kernel
theorem d_Spelling_isSpelled_40 : decode b_Spelling_isSpelled 40 = .ok (.iaload, 1) := by decide +kernel
theorem d_Spelling_isSpelled_41 : decode b_Spelling_isSpelled 41 = .ok (.if_icmp .eq 5, 3) := by decide +kernel
theorem d_Spelling_isSpelled_44 : decode b_Spelling_isSpelled 44 = .ok (.iconst 0, 1) := by decide +kernel
theorem d_Spelling_isSpelled_45 : decode b_Spelling_isSpelled 45 = .ok (.ireturn, 1) := by decide +kernel
theorem d_Spelling_isSpelled_46 : decode b_Spelling_isSpelled 46 = .ok (.iinc 5 1, 3) := by decide +kernel
theorem d_Spelling_isSpelled_49 : decode b_Spelling_isSpelled 49 = .ok (.goto (-33), 3) := by decide +kernel
theorem d_Spelling_isSpelled_52 : decode b_Spelling_isSpelled 52 = .ok (.iconst 1, 1) := by decide +kernel
theorem d_Spelling_isSpelled_53 : decode b_Spelling_isSpelled 53 = .ok (.ireturn, 1) := by decide +kernel
theorem d_Spelling_numberOf_0 : decode b_Spelling_numberOf 0 = .ok (.iload_n 2, 1) := by decide +kernel
theorem d_Spelling_numberOf_1 : decode b_Spelling_numberOf 1 = .ok (.ifCond .lt 21, 3) := by decide +kernel
theorem d_Spelling_numberOf_4 : decode b_Spelling_numberOf 4 = .ok (.iload_n 3, 1) := by decide +kernel
theorem d_Spelling_numberOf_5 : decode b_Spelling_numberOf 5 = .ok (.ifCond .lt 17, 3) := by decide +kernel
theorem d_Spelling_numberOf_8 : decode b_Spelling_numberOf 8 = .ok (.iload_n 3, 1) := by decide +kernel
theorem d_Spelling_numberOf_9 : decode b_Spelling_numberOf 9 = .ok (.bipush 8, 2) := by decide +kernel
theorem d_Spelling_numberOf_11 : decode b_Spelling_numberOf 11 = .ok (.if_icmp .gt 11, 3) := by decide +kernel
theorem d_Spelling_numberOf_14 : decode b_Spelling_numberOf 14 = .ok (.iload_n 2, 1) := by decide +kernel
theorem d_Spelling_numberOf_15 : decode b_Spelling_numberOf 15 = .ok (.aload_n 1, 1) := by decide +kernel
theorem d_Spelling_numberOf_16 : decode b_Spelling_numberOf 16 = .ok (.arraylength, 1) := by decide +kernel
theorem d_Spelling_numberOf_17 : decode b_Spelling_numberOf 17 = .ok (.iload_n 3, 1) := by decide +kernel
theorem d_Spelling_numberOf_18 : decode b_Spelling_numberOf 18 = .ok (.isub, 1) := by decide +kernel
theorem d_Spelling_numberOf_19 : decode b_Spelling_numberOf 19 = .ok (.if_icmp .le 5, 3) := by decide +kernel
theorem d_Spelling_numberOf_22 : decode b_Spelling_numberOf 22 = .ok (.iconst (-1), 1) := by decide +kernel
theorem d_Spelling_numberOf_23 : decode b_Spelling_numberOf 23 = .ok (.ireturn, 1) := by decide +kernel
theorem d_Spelling_numberOf_24 : decode b_Spelling_numberOf 24 = .ok (.iconst 0, 1) := by decide +kernel
theorem d_Spelling_numberOf_25 : decode b_Spelling_numberOf 25 = .ok (.istore 4, 2) := by decide +kernel
theorem d_Spelling_numberOf_27 : decode b_Spelling_numberOf 27 = .ok (.iload 4, 2) := by decide +kernel
theorem d_Spelling_numberOf_29 : decode b_Spelling_numberOf 29 = .ok (.aload_n 0, 1) := by decide +kernel
theorem d_Spelling_numberOf_30 : decode b_Spelling_numberOf 30 = .ok (.getfield 18, 3) := by decide +kernel
theorem d_Spelling_numberOf_33 : decode b_Spelling_numberOf 33 = .ok (.if_icmp .ge 24, 3) := by decide +kernel
theorem d_Spelling_numberOf_36 : decode b_Spelling_numberOf 36 = .ok (.aload_n 0, 1) := by decide +kernel
theorem d_Spelling_numberOf_37 : decode b_Spelling_numberOf 37 = .ok (.iload 4, 2) := by decide +kernel
theorem d_Spelling_numberOf_39 : decode b_Spelling_numberOf 39 = .ok (.aload_n 1, 1) := by decide +kernel
theorem d_Spelling_numberOf_40 : decode b_Spelling_numberOf 40 = .ok (.iload_n 2, 1) := by decide +kernel
theorem d_Spelling_numberOf_41 : decode b_Spelling_numberOf 41 = .ok (.iload_n 3, 1) := by decide +kernel
theorem d_Spelling_numberOf_42 : decode b_Spelling_numberOf 42 = .ok (.invokevirtual 22, 3) := by decide +kernel
theorem d_Spelling_numberOf_45 : decode b_Spelling_numberOf 45 = .ok (.ifCond .eq 6, 3) := by decide +kernel
theorem d_Spelling_numberOf_48 : decode b_Spelling_numberOf 48 = .ok (.iload 4, 2) := by decide +kernel
theorem d_Spelling_numberOf_50 : decode b_Spelling_numberOf 50 = .ok (.ireturn, 1) := by decide +kernel
theorem d_Spelling_numberOf_51 : decode b_Spelling_numberOf 51 = .ok (.iinc 4 1, 3) := by decide +kernel
theorem d_Spelling_numberOf_54 : decode b_Spelling_numberOf 54 = .ok (.goto (-27), 3) := by decide +kernel
theorem d_Spelling_numberOf_57 : decode b_Spelling_numberOf 57 = .ok (.aload_n 0, 1) := by decide +kernel
theorem d_Spelling_numberOf_58 : decode b_Spelling_numberOf 58 = .ok (.getfield 18, 3) := by decide +kernel
theorem d_Spelling_numberOf_61 : decode b_Spelling_numberOf 61 = .ok (.bipush 100, 2) := by decide +kernel
theorem d_Spelling_numberOf_63 : decode b_Spelling_numberOf 63 = .ok (.if_icmp .lt 5, 3) := by decide +kernel
theorem d_Spelling_numberOf_66 : decode b_Spelling_numberOf 66 = .ok (.iconst (-1), 1) := by decide +kernel
theorem d_Spelling_numberOf_67 : decode b_Spelling_numberOf 67 = .ok (.ireturn, 1) := by decide +kernel
theorem d_Spelling_numberOf_68 : decode b_Spelling_numberOf 68 = .ok (.aload_n 1, 1) := by decide +kernel
theorem d_Spelling_numberOf_69 : decode b_Spelling_numberOf 69 = .ok (.iload_n 2, 1) := by decide +kernel
theorem d_Spelling_numberOf_70 : decode b_Spelling_numberOf 70 = .ok (.aload_n 0, 1) := by decide +kernel
theorem d_Spelling_numberOf_71 : decode b_Spelling_numberOf 71 = .ok (.getfield 9, 3) := by decide +kernel
theorem d_Spelling_numberOf_74 : decode b_Spelling_numberOf 74 = .ok (.aload_n 0, 1) := by decide +kernel
theorem d_Spelling_numberOf_75 : decode b_Spelling_numberOf 75 = .ok (.getfield 18, 3) := by decide +kernel
theorem d_Spelling_numberOf_78 : decode b_Spelling_numberOf 78 = .ok (.bipush 8, 2) := by decide +kernel
theorem d_Spelling_numberOf_80 : decode b_Spelling_numberOf 80 = .ok (.imul, 1) := by decide +kernel
theorem d_Spelling_numberOf_81 : decode b_Spelling_numberOf 81 = .ok (.iload_n 3, 1) := by decide +kernel
theorem d_Spelling_numberOf_82 : decode b_Spelling_numberOf 82 = .ok (.invokestatic 26, 3) := by decide +kernel
theorem d_Spelling_numberOf_85 : decode b_Spelling_numberOf 85 = .ok (.aload_n 0, 1) := by decide +kernel
theorem d_Spelling_numberOf_86 : decode b_Spelling_numberOf 86 = .ok (.getfield 15, 3) := by decide +kernel
theorem d_Spelling_numberOf_89 : decode b_Spelling_numberOf 89 = .ok (.aload_n 0, 1) := by decide +kernel
theorem d_Spelling_numberOf_90 : decode b_Spelling_numberOf 90 = .ok (.getfield 18, 3) := by decide +kernel
theorem d_Spelling_numberOf_93 : decode b_Spelling_numberOf 93 = .ok (.iload_n 3, 1) := by decide +kernel
theorem d_Spelling_numberOf_94 : decode b_Spelling_numberOf 94 = .ok (.iastore, 1) := by decide +kernel
theorem d_Spelling_numberOf_95 : decode b_Spelling_numberOf 95 = .ok (.aload_n 0, 1) := by decide +kernel
theorem d_Spelling_numberOf_96 : decode b_Spelling_numberOf 96 = .ok (.dup, 1) := by decide +kernel
theorem d_Spelling_numberOf_97 : decode b_Spelling_numberOf 97 = .ok (.getfield 18, 3) := by decide +kernel
theorem d_Spelling_numberOf_100 : decode b_Spelling_numberOf 100 = .ok (.iconst 1, 1) := by decide +kernel
theorem d_Spelling_numberOf_101 : decode b_Spelling_numberOf 101 = .ok (.iadd, 1) := by decide +kernel
theorem d_Spelling_numberOf_102 : decode b_Spelling_numberOf 102 = .ok (.putfield 18, 3) := by decide +kernel
theorem d_Spelling_numberOf_105 : decode b_Spelling_numberOf 105 = .ok (.aload_n 0, 1) := by decide +kernel
theorem d_Spelling_numberOf_106 : decode b_Spelling_numberOf 106 = .ok (.getfield 18, 3) := by decide +kernel
theorem d_Spelling_numberOf_109 : decode b_Spelling_numberOf 109 = .ok (.iconst 1, 1) := by decide +kernel
theorem d_Spelling_numberOf_110 : decode b_Spelling_numberOf 110 = .ok (.isub, 1) := by decide +kernel
theorem d_Spelling_numberOf_111 : decode b_Spelling_numberOf 111 = .ok (.ireturn, 1) := by decide +kernel
theorem d_Expander_endNaming_0 : decode b_Expander_endNaming 0 = .ok (.iload_n 2, 1) := by decide +kernel
theorem d_Expander_endNaming_1 : decode b_Expander_endNaming 1 = .ok (.ifCond .ne 5, 3) := by decide +kernel
theorem d_Expander_endNaming_4 : decode b_Expander_endNaming 4 = .ok (.iconst 4, 1) := by decide +kernel
theorem d_Expander_endNaming_5 : decode b_Expander_endNaming 5 = .ok (.ireturn, 1) := by decide +kernel
theorem d_Expander_endNaming_6 : decode b_Expander_endNaming 6 = .ok (.aload_n 0, 1) := by decide +kernel
theorem d_Expander_endNaming_7 : decode b_Expander_endNaming 7 = .ok (.getfield 23, 3) := by decide +kernel
theorem d_Expander_endNaming_10 : decode b_Expander_endNaming 10 = .ok (.aload_n 0, 1) := by decide +kernel
theorem d_Expander_endNaming_11 : decode b_Expander_endNaming 11 = .ok (.getfield 47, 3) := by decide +kernel
theorem d_Expander_endNaming_14 : decode b_Expander_endNaming 14 = .ok (.iload_n 1, 1) := by decide +kernel
theorem d_Expander_endNaming_15 : decode b_Expander_endNaming 15 = .ok (.bipush 8, 2) := by decide +kernel
theorem d_Expander_endNaming_17 : decode b_Expander_endNaming 17 = .ok (.imul, 1) := by decide +kernel
theorem d_Expander_endNaming_18 : decode b_Expander_endNaming 18 = .ok (.iload_n 2, 1) := by decide +kernel
theorem d_Expander_endNaming_19 : decode b_Expander_endNaming 19 = .ok (.invokevirtual 138, 3) := by decide +kernel
theorem d_Expander_endNaming_22 : decode b_Expander_endNaming 22 = .ok (.istore_n 3, 1) := by decide +kernel
theorem d_Expander_endNaming_23 : decode b_Expander_endNaming 23 = .ok (.iload_n 3, 1) := by decide +kernel
theorem d_Expander_endNaming_24 : decode b_Expander_endNaming 24 = .ok (.iconst (-1), 1) := by decide +kernel
theorem d_Expander_endNaming_25 : decode b_Expander_endNaming 25 = .ok (.if_icmp .ne 6, 3) := by decide +kernel
theorem d_Expander_endNaming_28 : decode b_Expander_endNaming 28 = .ok (.bipush 8, 2) := by decide +kernel
theorem d_Expander_endNaming_30 : decode b_Expander_endNaming 30 = .ok (.ireturn, 1) := by decide +kernel
theorem d_Expander_endNaming_31 : decode b_Expander_endNaming 31 = .ok (.aload_n 0, 1) := by decide +kernel
theorem d_Expander_endNaming_32 : decode b_Expander_endNaming 32 = .ok (.dup, 1) := by decide +kernel
theorem d_Expander_endNaming_33 : decode b_Expander_endNaming 33 = .ok (.getfield 56, 3) := by decide +kernel
theorem d_Expander_endNaming_36 : decode b_Expander_endNaming 36 = .ok (.iconst 1, 1) := by decide +kernel
theorem d_Expander_endNaming_37 : decode b_Expander_endNaming 37 = .ok (.isub, 1) := by decide +kernel
theorem d_Expander_endNaming_38 : decode b_Expander_endNaming 38 = .ok (.putfield 56, 3) := by decide +kernel
theorem d_Expander_endNaming_41 : decode b_Expander_endNaming 41 = .ok (.aload_n 0, 1) := by decide +kernel
theorem d_Expander_endNaming_42 : decode b_Expander_endNaming 42 = .ok (.getfield 15, 3) := by decide +kernel
theorem d_Expander_endNaming_45 : decode b_Expander_endNaming 45 = .ok (.sipush 1100, 3) := by decide +kernel
theorem d_Expander_endNaming_48 : decode b_Expander_endNaming 48 = .ok (.iload_n 3, 1) := by decide +kernel
theorem d_Expander_endNaming_49 : decode b_Expander_endNaming 49 = .ok (.iadd, 1) := by decide +kernel
theorem d_Expander_endNaming_50 : decode b_Expander_endNaming 50 = .ok (.invokevirtual 121, 3) := by decide +kernel
theorem d_Expander_endNaming_53 : decode b_Expander_endNaming 53 = .ok (.iconst 0, 1) := by decide +kernel
theorem d_Expander_endNaming_54 : decode b_Expander_endNaming 54 = .ok (.ireturn, 1) := by decide +kernel
theorem d_Kind_isSign_0 : decode b_Kind_isSign 0 = .ok (.iload_n 0, 1) := by decide +kernel
theorem d_Kind_isSign_1 : decode b_Kind_isSign 1 = .ok (.ifCond .lt 14, 3) := by decide +kernel
theorem d_Kind_isSign_4 : decode b_Kind_isSign 4 = .ok (.iload_n 0, 1) := by decide +kernel
theorem d_Kind_isSign_5 : decode b_Kind_isSign 5 = .ok (.sipush 255, 3) := by decide +kernel
theorem d_Kind_isSign_8 : decode b_Kind_isSign 8 = .ok (.if_icmp .gt 7, 3) := by decide +kernel
theorem d_Kind_isSign_11 : decode b_Kind_isSign 11 = .ok (.iconst 1, 1) := by decide +kernel
theorem d_Kind_isSign_12 : decode b_Kind_isSign 12 = .ok (.goto 4, 3) := by decide +kernel
theorem d_Kind_isSign_15 : decode b_Kind_isSign 15 = .ok (.iconst 0, 1) := by decide +kernel
theorem d_Kind_isSign_16 : decode b_Kind_isSign 16 = .ok (.ireturn, 1) := by decide +kernel
theorem d_Expander_goOnNaming_0 : decode b_Expander_goOnNaming 0 = .ok (.aload_n 0, 1) := by decide +kernel
theorem d_Expander_goOnNaming_1 : decode b_Expander_goOnNaming 1 = .ok (.getfield 15, 3) := by decide +kernel
theorem d_Expander_goOnNaming_4 : decode b_Expander_goOnNaming 4 = .ok (.invokevirtual 102, 3) := by decide +kernel
theorem d_Expander_goOnNaming_7 : decode b_Expander_goOnNaming 7 = .ok (.ifCond .eq 5, 3) := by decide +kernel
theorem d_Expander_goOnNaming_10 : decode b_Expander_goOnNaming 10 = .ok (.iconst 1, 1) := by decide +kernel
theorem d_Expander_goOnNaming_11 : decode b_Expander_goOnNaming 11 = .ok (.ireturn, 1) := by decide +kernel
theorem d_Expander_goOnNaming_12 : decode b_Expander_goOnNaming 12 = .ok (.aload_n 0, 1) := by decide +kernel
theorem d_Expander_goOnNaming_13 : decode b_Expander_goOnNaming 13 = .ok (.invokevirtual 125, 3) := by decide +kernel
theorem d_Expander_goOnNaming_16 : decode b_Expander_goOnNaming 16 = .ok (.istore_n 1, 1) := by decide +kernel
theorem d_Expander_goOnNaming_17 : decode b_Expander_goOnNaming 17 = .ok (.aload_n 0, 1) := by decide +kernel
theorem d_Expander_goOnNaming_18 : decode b_Expander_goOnNaming 18 = .ok (.getfield 56, 3) := by decide +kernel
theorem d_Expander_goOnNaming_21 : decode b_Expander_goOnNaming 21 = .ok (.iconst 1, 1) := by decide +kernel
theorem d_Expander_goOnNaming_22 : decode b_Expander_goOnNaming 22 = .ok (.isub, 1) := by decide +kernel
theorem d_Expander_goOnNaming_23 : decode b_Expander_goOnNaming 23 = .ok (.istore_n 2, 1) := by decide +kernel
theorem d_Expander_goOnNaming_24 : decode b_Expander_goOnNaming 24 = .ok (.aload_n 0, 1) := by decide +kernel
theorem d_Expander_goOnNaming_25 : decode b_Expander_goOnNaming 25 = .ok (.getfield 50, 3) := by decide +kernel
theorem d_Expander_goOnNaming_28 : decode b_Expander_goOnNaming 28 = .ok (.iload_n 2, 1) := by decide +kernel
theorem d_Expander_goOnNaming_29 : decode b_Expander_goOnNaming 29 = .ok (.iaload, 1) := by decide +kernel
theorem d_Expander_goOnNaming_30 : decode b_Expander_goOnNaming 30 = .ok (.istore_n 3, 1) := by decide +kernel
theorem d_Expander_goOnNaming_31 : decode b_Expander_goOnNaming 31 = .ok (.iload_n 1, 1) := by decide +kernel
theorem d_Expander_goOnNaming_32 : decode b_Expander_goOnNaming 32 = .ok (.sipush 263, 3) := by decide +kernel
theorem d_Expander_goOnNaming_35 : decode b_Expander_goOnNaming 35 = .ok (.if_icmp .ne 10, 3) := by decide +kernel
theorem d_Expander_goOnNaming_38 : decode b_Expander_goOnNaming 38 = .ok (.aload_n 0, 1) := by decide +kernel
theorem d_Expander_goOnNaming_39 : decode b_Expander_goOnNaming 39 = .ok (.iload_n 2, 1) := by decide +kernel
theorem d_Expander_goOnNaming_40 : decode b_Expander_goOnNaming 40 = .ok (.iload_n 3, 1) := by decide +kernel
theorem d_Expander_goOnNaming_41 : decode b_Expander_goOnNaming 41 = .ok (.invokevirtual 128, 3) := by decide +kernel
theorem d_Expander_goOnNaming_44 : decode b_Expander_goOnNaming 44 = .ok (.ireturn, 1) := by decide +kernel
theorem d_Expander_goOnNaming_45 : decode b_Expander_goOnNaming 45 = .ok (.iload_n 1, 1) := by decide +kernel
theorem d_Expander_goOnNaming_46 : decode b_Expander_goOnNaming 46 = .ok (.invokestatic 132, 3) := by decide +kernel
theorem d_Expander_goOnNaming_49 : decode b_Expander_goOnNaming 49 = .ok (.ifCond .eq 9, 3) := by decide +kernel
theorem d_Expander_goOnNaming_52 : decode b_Expander_goOnNaming 52 = .ok (.iload_n 3, 1) := by decide +kernel
theorem d_Expander_goOnNaming_53 : decode b_Expander_goOnNaming 53 = .ok (.bipush 8, 2) := by decide +kernel
theorem d_Expander_goOnNaming_55 : decode b_Expander_goOnNaming 55 = .ok (.if_icmp .lt 5, 3) := by decide +kernel
theorem d_Expander_goOnNaming_58 : decode b_Expander_goOnNaming 58 = .ok (.iconst 4, 1) := by decide +kernel
theorem d_Expander_goOnNaming_59 : decode b_Expander_goOnNaming 59 = .ok (.ireturn, 1) := by decide +kernel
theorem d_Expander_goOnNaming_60 : decode b_Expander_goOnNaming 60 = .ok (.aload_n 0, 1) := by decide +kernel
theorem d_Expander_goOnNaming_61 : decode b_Expander_goOnNaming 61 = .ok (.getfield 47, 3) := by decide +kernel
theorem d_Expander_goOnNaming_64 : decode b_Expander_goOnNaming 64 = .ok (.iload_n 2, 1) := by decide +kernel
theorem d_Expander_goOnNaming_65 : decode b_Expander_goOnNaming 65 = .ok (.bipush 8, 2) := by decide +kernel
theorem d_Expander_goOnNaming_67 : decode b_Expander_goOnNaming 67 = .ok (.imul, 1) := by decide +kernel
theorem d_Expander_goOnNaming_68 : decode b_Expander_goOnNaming 68 = .ok (.iload_n 3, 1) := by decide +kernel
theorem d_Expander_goOnNaming_69 : decode b_Expander_goOnNaming 69 = .ok (.iadd, 1) := by decide +kernel
theorem d_Expander_goOnNaming_70 : decode b_Expander_goOnNaming 70 = .ok (.iload_n 1, 1) := by decide +kernel
theorem d_Expander_goOnNaming_71 : decode b_Expander_goOnNaming 71 = .ok (.iastore, 1) := by decide +kernel
theorem d_Expander_goOnNaming_72 : decode b_Expander_goOnNaming 72 = .ok (.aload_n 0, 1) := by decide +kernel
theorem d_Expander_goOnNaming_73 : decode b_Expander_goOnNaming 73 = .ok (.getfield 50, 3) := by decide +kernel
theorem d_Expander_goOnNaming_76 : decode b_Expander_goOnNaming 76 = .ok (.iload_n 2, 1) := by decide +kernel
theorem d_Expander_goOnNaming_77 : decode b_Expander_goOnNaming 77 = .ok (.iload_n 3, 1) := by decide +kernel
theorem d_Expander_goOnNaming_78 : decode b_Expander_goOnNaming 78 = .ok (.iconst 1, 1) := by decide +kernel
theorem d_Expander_goOnNaming_79 : decode b_Expander_goOnNaming 79 = .ok (.iadd, 1) := by decide +kernel
theorem d_Expander_goOnNaming_80 : decode b_Expander_goOnNaming 80 = .ok (.iastore, 1) := by decide +kernel
theorem d_Expander_goOnNaming_81 : decode b_Expander_goOnNaming 81 = .ok (.iconst 0, 1) := by decide +kernel
theorem d_Expander_goOnNaming_82 : decode b_Expander_goOnNaming 82 = .ok (.ireturn, 1) := by decide +kernel
