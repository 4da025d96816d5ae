theorem d_MacroExpandModel_plain_0 : decode b_MacroExpandModel_plain 0 = .ok (.iload_n 2, 1) := by decide +kernel
theorem d_MacroExpandModel_plain_1 : decode b_MacroExpandModel_plain 1 = .ok (.istore 4, 2) := by decide +kernel
theorem d_MacroExpandModel_plain_3 : decode b_MacroExpandModel_plain 3 = .ok (.iload 4, 2) := by decide +kernel
theorem d_MacroExpandModel_plain_5 : decode b_MacroExpandModel_plain 5 = .ok (.aload_n 0, 1) := by decide +kernel
theorem d_MacroExpandModel_plain_6 : decode b_MacroExpandModel_plain 6 = .ok (.getfield 107, 3) := by decide +kernel
theorem d_MacroExpandModel_plain_9 : decode b_MacroExpandModel_plain 9 = .ok (.if_icmp .ge 21, 3) := by decide +kernel
theorem d_MacroExpandModel_plain_12 : decode b_MacroExpandModel_plain 12 = .ok (.aload_n 0, 1) := by decide +kernel
theorem d_MacroExpandModel_plain_13 : decode b_MacroExpandModel_plain 13 = .ok (.iload 4, 2) := by decide +kernel
theorem d_MacroExpandModel_plain_15 : decode b_MacroExpandModel_plain 15 = .ok (.invokevirtual 116, 3) := by decide +kernel
theorem d_MacroExpandModel_plain_18 : decode b_MacroExpandModel_plain 18 = .ok (.sipush 256, 3) := by decide +kernel
theorem d_MacroExpandModel_plain_21 : decode b_MacroExpandModel_plain 21 = .ok (.if_icmp .ne 9, 3) := by decide +kernel
theorem d_MacroExpandModel_plain_24 : decode b_MacroExpandModel_plain 24 = .ok (.iinc 4 1, 3) := by decide +kernel
theorem d_MacroExpandModel_plain_27 : decode b_MacroExpandModel_plain 27 = .ok (.goto (-24), 3) := by decide +kernel
theorem d_MacroExpandModel_plain_30 : decode b_MacroExpandModel_plain 30 = .ok (.aload_n 0, 1) := by decide +kernel
theorem d_MacroExpandModel_plain_31 : decode b_MacroExpandModel_plain 31 = .ok (.iload 4, 2) := by decide +kernel
theorem d_MacroExpandModel_plain_33 : decode b_MacroExpandModel_plain 33 = .ok (.iload_n 3, 1) := by decide +kernel
theorem d_MacroExpandModel_plain_34 : decode b_MacroExpandModel_plain 34 = .ok (.invokevirtual 127, 3) := by decide +kernel
theorem d_MacroExpandModel_plain_37 : decode b_MacroExpandModel_plain 37 = .ok (.ifCond .ne 6, 3) := by decide +kernel
theorem d_MacroExpandModel_plain_40 : decode b_MacroExpandModel_plain 40 = .ok (.iload 4, 2) := by decide +kernel
theorem d_MacroExpandModel_plain_42 : decode b_MacroExpandModel_plain 42 = .ok (.ireturn, 1) := by decide +kernel
theorem d_MacroExpandModel_plain_43 : decode b_MacroExpandModel_plain 43 = .ok (.aload_n 0, 1) := by decide +kernel
theorem d_MacroExpandModel_plain_44 : decode b_MacroExpandModel_plain 44 = .ok (.iload 4, 2) := by decide +kernel
theorem d_MacroExpandModel_plain_46 : decode b_MacroExpandModel_plain 46 = .ok (.invokevirtual 116, 3) := by decide +kernel
theorem d_MacroExpandModel_plain_49 : decode b_MacroExpandModel_plain 49 = .ok (.sipush 258, 3) := by decide +kernel
theorem d_MacroExpandModel_plain_52 : decode b_MacroExpandModel_plain 52 = .ok (.if_icmp .ne 12, 3) := by decide +kernel
theorem d_MacroExpandModel_plain_55 : decode b_MacroExpandModel_plain 55 = .ok (.aload_n 0, 1) := by decide +kernel
theorem d_MacroExpandModel_plain_56 : decode b_MacroExpandModel_plain 56 = .ok (.bipush 7, 2) := by decide +kernel
theorem d_MacroExpandModel_plain_58 : decode b_MacroExpandModel_plain 58 = .ok (.invokevirtual 123, 3) := by decide +kernel
theorem d_MacroExpandModel_plain_61 : decode b_MacroExpandModel_plain 61 = .ok (.iload 4, 2) := by decide +kernel
theorem d_MacroExpandModel_plain_63 : decode b_MacroExpandModel_plain 63 = .ok (.ireturn, 1) := by decide +kernel
theorem d_MacroExpandModel_plain_64 : decode b_MacroExpandModel_plain 64 = .ok (.aload_n 0, 1) := by decide +kernel
theorem d_MacroExpandModel_plain_65 : decode b_MacroExpandModel_plain 65 = .ok (.iload 4, 2) := by decide +kernel
theorem d_MacroExpandModel_plain_67 : decode b_MacroExpandModel_plain 67 = .ok (.invokevirtual 116, 3) := by decide +kernel
theorem d_MacroExpandModel_plain_70 : decode b_MacroExpandModel_plain 70 = .ok (.sipush 257, 3) := by decide +kernel
theorem d_MacroExpandModel_plain_73 : decode b_MacroExpandModel_plain 73 = .ok (.if_icmp .eq 19, 3) := by decide +kernel
theorem d_MacroExpandModel_plain_76 : decode b_MacroExpandModel_plain 76 = .ok (.aload_n 0, 1) := by decide +kernel
theorem d_MacroExpandModel_plain_77 : decode b_MacroExpandModel_plain 77 = .ok (.iload_n 1, 1) := by decide +kernel
theorem d_MacroExpandModel_plain_78 : decode b_MacroExpandModel_plain 78 = .ok (.aload_n 0, 1) := by decide +kernel
theorem d_MacroExpandModel_plain_79 : decode b_MacroExpandModel_plain 79 = .ok (.iload 4, 2) := by decide +kernel
theorem d_MacroExpandModel_plain_81 : decode b_MacroExpandModel_plain 81 = .ok (.invokevirtual 116, 3) := by decide +kernel
theorem d_MacroExpandModel_plain_84 : decode b_MacroExpandModel_plain 84 = .ok (.invokevirtual 131, 3) := by decide +kernel
theorem d_MacroExpandModel_plain_87 : decode b_MacroExpandModel_plain 87 = .ok (.iload 4, 2) := by decide +kernel
theorem d_MacroExpandModel_plain_89 : decode b_MacroExpandModel_plain 89 = .ok (.iconst 1, 1) := by decide +kernel
theorem d_MacroExpandModel_plain_90 : decode b_MacroExpandModel_plain 90 = .ok (.iadd, 1) := by decide +kernel
theorem d_MacroExpandModel_plain_91 : decode b_MacroExpandModel_plain 91 = .ok (.ireturn, 1) := by decide +kernel
theorem d_MacroExpandModel_plain_92 : decode b_MacroExpandModel_plain 92 = .ok (.iinc 4 1, 3) := by decide +kernel
theorem d_MacroExpandModel_plain_95 : decode b_MacroExpandModel_plain 95 = .ok (.iconst 1, 1) := by decide +kernel
theorem d_MacroExpandModel_plain_96 : decode b_MacroExpandModel_plain 96 = .ok (.istore 5, 2) := by decide +kernel
theorem d_MacroExpandModel_plain_98 : decode b_MacroExpandModel_plain 98 = .ok (.iload 5, 2) := by decide +kernel
theorem d_MacroExpandModel_plain_100 : decode b_MacroExpandModel_plain 100 = .ok (.ifCond .le 80, 3) := by decide +kernel
theorem d_MacroExpandModel_plain_103 : decode b_MacroExpandModel_plain 103 = .ok (.aload_n 0, 1) := by decide +kernel
theorem d_MacroExpandModel_plain_104 : decode b_MacroExpandModel_plain 104 = .ok (.getfield 113, 3) := by decide +kernel
theorem d_MacroExpandModel_plain_107 : decode b_MacroExpandModel_plain 107 = .ok (.ifCond .ne 73, 3) := by decide +kernel
theorem d_MacroExpandModel_plain_110 : decode b_MacroExpandModel_plain 110 = .ok (.aload_n 0, 1) := by decide +kernel
theorem d_MacroExpandModel_plain_111 : decode b_MacroExpandModel_plain 111 = .ok (.iload 4, 2) := by decide +kernel
theorem d_MacroExpandModel_plain_113 : decode b_MacroExpandModel_plain 113 = .ok (.iload_n 3, 1) := by decide +kernel
theorem d_MacroExpandModel_plain_114 : decode b_MacroExpandModel_plain 114 = .ok (.invokevirtual 127, 3) := by decide +kernel
theorem d_MacroExpandModel_plain_117 : decode b_MacroExpandModel_plain 117 = .ok (.ifCond .eq 63, 3) := by decide +kernel
theorem d_MacroExpandModel_plain_120 : decode b_MacroExpandModel_plain 120 = .ok (.iload 5, 2) := by decide +kernel
theorem d_MacroExpandModel_plain_122 : decode b_MacroExpandModel_plain 122 = .ok (.aload_n 0, 1) := by decide +kernel
theorem d_MacroExpandModel_plain_123 : decode b_MacroExpandModel_plain 123 = .ok (.iload 4, 2) := by decide +kernel
theorem d_MacroExpandModel_plain_125 : decode b_MacroExpandModel_plain 125 = .ok (.invokevirtual 116, 3) := by decide +kernel
theorem d_MacroExpandModel_plain_128 : decode b_MacroExpandModel_plain 128 = .ok (.sipush 257, 3) := by decide +kernel
theorem d_MacroExpandModel_plain_131 : decode b_MacroExpandModel_plain 131 = .ok (.if_icmp .ne 7, 3) := by decide +kernel
theorem d_MacroExpandModel_plain_134 : decode b_MacroExpandModel_plain 134 = .ok (.iconst 1, 1) := by decide +kernel
theorem d_MacroExpandModel_plain_135 : decode b_MacroExpandModel_plain 135 = .ok (.goto 20, 3) := by decide +kernel
theorem d_MacroExpandModel_plain_138 : decode b_MacroExpandModel_plain 138 = .ok (.aload_n 0, 1) := by decide +kernel
theorem d_MacroExpandModel_plain_139 : decode b_MacroExpandModel_plain 139 = .ok (.iload 4, 2) := by decide +kernel
theorem d_MacroExpandModel_plain_141 : decode b_MacroExpandModel_plain 141 = .ok (.invokevirtual 116, 3) := by decide +kernel
theorem d_MacroExpandModel_plain_144 : decode b_MacroExpandModel_plain 144 = .ok (.sipush 258, 3) := by decide +kernel
theorem d_MacroExpandModel_plain_147 : decode b_MacroExpandModel_plain 147 = .ok (.if_icmp .ne 7, 3) := by decide +kernel
theorem d_MacroExpandModel_plain_150 : decode b_MacroExpandModel_plain 150 = .ok (.iconst (-1), 1) := by decide +kernel
theorem d_MacroExpandModel_plain_151 : decode b_MacroExpandModel_plain 151 = .ok (.goto 4, 3) := by decide +kernel
theorem d_MacroExpandModel_plain_154 : decode b_MacroExpandModel_plain 154 = .ok (.iconst 0, 1) := by decide +kernel
theorem d_MacroExpandModel_plain_155 : decode b_MacroExpandModel_plain 155 = .ok (.iadd, 1) := by decide +kernel
theorem d_MacroExpandModel_plain_156 : decode b_MacroExpandModel_plain 156 = .ok (.istore 5, 2) := by decide +kernel
theorem d_MacroExpandModel_plain_158 : decode b_MacroExpandModel_plain 158 = .ok (.iload 5, 2) := by decide +kernel
theorem d_MacroExpandModel_plain_160 : decode b_MacroExpandModel_plain 160 = .ok (.ifCond .le 14, 3) := by decide +kernel
theorem d_MacroExpandModel_plain_163 : decode b_MacroExpandModel_plain 163 = .ok (.aload_n 0, 1) := by decide +kernel
theorem d_MacroExpandModel_plain_164 : decode b_MacroExpandModel_plain 164 = .ok (.iload_n 1, 1) := by decide +kernel
theorem d_MacroExpandModel_plain_165 : decode b_MacroExpandModel_plain 165 = .ok (.aload_n 0, 1) := by decide +kernel
theorem d_MacroExpandModel_plain_166 : decode b_MacroExpandModel_plain 166 = .ok (.iload 4, 2) := by decide +kernel
theorem d_MacroExpandModel_plain_168 : decode b_MacroExpandModel_plain 168 = .ok (.invokevirtual 116, 3) := by decide +kernel
theorem d_MacroExpandModel_plain_171 : decode b_MacroExpandModel_plain 171 = .ok (.invokevirtual 131, 3) := by decide +kernel
theorem d_MacroExpandModel_plain_174 : decode b_MacroExpandModel_plain 174 = .ok (.iinc 4 1, 3) := by decide +kernel
theorem d_MacroExpandModel_plain_177 : decode b_MacroExpandModel_plain 177 = .ok (.goto (-79), 3) := by decide +kernel
theorem d_MacroExpandModel_plain_180 : decode b_MacroExpandModel_plain 180 = .ok (.iload 4, 2) := by decide +kernel
theorem d_MacroExpandModel_plain_182 : decode b_MacroExpandModel_plain 182 = .ok (.ireturn, 1) := by decide +kernel
theorem d_MacroExpandModel_delimited_0 : decode b_MacroExpandModel_delimited 0 = .ok (.iload_n 3, 1) := by decide +kernel
theorem d_MacroExpandModel_delimited_1 : decode b_MacroExpandModel_delimited 1 = .ok (.istore 5, 2) := by decide +kernel
theorem d_MacroExpandModel_delimited_3 : decode b_MacroExpandModel_delimited 3 = .ok (.iconst 0, 1) := by decide +kernel
theorem d_MacroExpandModel_delimited_4 : decode b_MacroExpandModel_delimited 4 = .ok (.istore 6, 2) := by decide +kernel
theorem d_MacroExpandModel_delimited_6 : decode b_MacroExpandModel_delimited 6 = .ok (.iconst 1, 1) := by decide +kernel
theorem d_MacroExpandModel_delimited_7 : decode b_MacroExpandModel_delimited 7 = .ok (.istore 7, 2) := by decide +kernel
theorem d_MacroExpandModel_delimited_9 : decode b_MacroExpandModel_delimited 9 = .ok (.aload_n 0, 1) := by decide +kernel
theorem d_MacroExpandModel_delimited_10 : decode b_MacroExpandModel_delimited 10 = .ok (.getfield 113, 3) := by decide +kernel
theorem d_MacroExpandModel_delimited_13 : decode b_MacroExpandModel_delimited 13 = .ok (.ifCond .ne 133, 3) := by decide +kernel
theorem d_MacroExpandModel_delimited_16 : decode b_MacroExpandModel_delimited 16 = .ok (.iload 6, 2) := by decide +kernel
theorem d_MacroExpandModel_delimited_18 : decode b_MacroExpandModel_delimited 18 = .ok (.ifCond .ne 13, 3) := by decide +kernel
theorem d_MacroExpandModel_delimited_21 : decode b_MacroExpandModel_delimited 21 = .ok (.aload_n 0, 1) := by decide +kernel
theorem d_MacroExpandModel_delimited_22 : decode b_MacroExpandModel_delimited 22 = .ok (.iload_n 2, 1) := by decide +kernel
theorem d_MacroExpandModel_delimited_23 : decode b_MacroExpandModel_delimited 23 = .ok (.iload 5, 2) := by decide +kernel
theorem d_MacroExpandModel_delimited_25 : decode b_MacroExpandModel_delimited 25 = .ok (.invokevirtual 135, 3) := by decide +kernel
theorem d_MacroExpandModel_delimited_28 : decode b_MacroExpandModel_delimited 28 = .ok (.ifCond .ne 118, 3) := by decide +kernel
theorem d_MacroExpandModel_delimited_31 : decode b_MacroExpandModel_delimited 31 = .ok (.aload_n 0, 1) := by decide +kernel
theorem d_MacroExpandModel_delimited_32 : decode b_MacroExpandModel_delimited 32 = .ok (.iload 5, 2) := by decide +kernel
theorem d_MacroExpandModel_delimited_34 : decode b_MacroExpandModel_delimited 34 = .ok (.iload 4, 2) := by decide +kernel
theorem d_MacroExpandModel_delimited_36 : decode b_MacroExpandModel_delimited 36 = .ok (.invokevirtual 127, 3) := by decide +kernel
theorem d_MacroExpandModel_delimited_39 : decode b_MacroExpandModel_delimited 39 = .ok (.ifCond .eq (-30), 3) := by decide +kernel
theorem d_MacroExpandModel_delimited_42 : decode b_MacroExpandModel_delimited 42 = .ok (.aload_n 0, 1) := by decide +kernel
theorem d_MacroExpandModel_delimited_43 : decode b_MacroExpandModel_delimited 43 = .ok (.iload 5, 2) := by decide +kernel
theorem d_MacroExpandModel_delimited_45 : decode b_MacroExpandModel_delimited 45 = .ok (.invokevirtual 116, 3) := by decide +kernel
theorem d_MacroExpandModel_delimited_48 : decode b_MacroExpandModel_delimited 48 = .ok (.istore 8, 2) := by decide +kernel
theorem d_MacroExpandModel_delimited_50 : decode b_MacroExpandModel_delimited 50 = .ok (.iload 7, 2) := by decide +kernel
theorem d_MacroExpandModel_delimited_52 : decode b_MacroExpandModel_delimited 52 = .ok (.ifCond .eq 26, 3) := by decide +kernel
theorem d_MacroExpandModel_delimited_55 : decode b_MacroExpandModel_delimited 55 = .ok (.iload 6, 2) := by decide +kernel
theorem d_MacroExpandModel_delimited_57 : decode b_MacroExpandModel_delimited 57 = .ok (.ifCond .gt 17, 3) := by decide +kernel
theorem d_MacroExpandModel_delimited_60 : decode b_MacroExpandModel_delimited 60 = .ok (.iload 5, 2) := by decide +kernel
theorem d_MacroExpandModel_delimited_62 : decode b_MacroExpandModel_delimited 62 = .ok (.iload_n 3, 1) := by decide +kernel
theorem d_MacroExpandModel_delimited_63 : decode b_MacroExpandModel_delimited 63 = .ok (.if_icmp .ne 15, 3) := by decide +kernel
theorem d_MacroExpandModel_delimited_66 : decode b_MacroExpandModel_delimited 66 = .ok (.iload 8, 2) := by decide +kernel
theorem d_MacroExpandModel_delimited_68 : decode b_MacroExpandModel_delimited 68 = .ok (.sipush 257, 3) := by decide +kernel
theorem d_MacroExpandModel_delimited_71 : decode b_MacroExpandModel_delimited 71 = .ok (.if_icmp .ne 7, 3) := by decide +kernel
theorem d_MacroExpandModel_delimited_74 : decode b_MacroExpandModel_delimited 74 = .ok (.iconst 1, 1) := by decide +kernel
theorem d_MacroExpandModel_delimited_75 : decode b_MacroExpandModel_delimited 75 = .ok (.goto 4, 3) := by decide +kernel
theorem d_MacroExpandModel_delimited_78 : decode b_MacroExpandModel_delimited 78 = .ok (.iconst 0, 1) := by decide +kernel
theorem d_MacroExpandModel_delimited_79 : decode b_MacroExpandModel_delimited 79 = .ok (.istore 7, 2) := by decide +kernel
theorem d_MacroExpandModel_delimited_81 : decode b_MacroExpandModel_delimited 81 = .ok (.iload 8, 2) := by decide +kernel
theorem d_MacroExpandModel_delimited_83 : decode b_MacroExpandModel_delimited 83 = .ok (.sipush 258, 3) := by decide +kernel
theorem d_MacroExpandModel_delimited_86 : decode b_MacroExpandModel_delimited 86 = .ok (.if_icmp .ne 17, 3) := by decide +kernel
theorem d_MacroExpandModel_delimited_89 : decode b_MacroExpandModel_delimited 89 = .ok (.iload 6, 2) := by decide +kernel
theorem d_MacroExpandModel_delimited_91 : decode b_MacroExpandModel_delimited 91 = .ok (.ifCond .ne 12, 3) := by decide +kernel
theorem d_MacroExpandModel_delimited_94 : decode b_MacroExpandModel_delimited 94 = .ok (.aload_n 0, 1) := by decide +kernel
theorem d_MacroExpandModel_delimited_95 : decode b_MacroExpandModel_delimited 95 = .ok (.bipush 7, 2) := by decide +kernel
theorem d_MacroExpandModel_delimited_97 : decode b_MacroExpandModel_delimited 97 = .ok (.invokevirtual 123, 3) := by decide +kernel
theorem d_MacroExpandModel_delimited_100 : decode b_MacroExpandModel_delimited 100 = .ok (.goto 40, 3) := by decide +kernel
theorem d_MacroExpandModel_delimited_103 : decode b_MacroExpandModel_delimited 103 = .ok (.iload 6, 2) := by decide +kernel
theorem d_MacroExpandModel_delimited_105 : decode b_MacroExpandModel_delimited 105 = .ok (.iload 8, 2) := by decide +kernel
theorem d_MacroExpandModel_delimited_107 : decode b_MacroExpandModel_delimited 107 = .ok (.sipush 257, 3) := by decide +kernel
theorem d_MacroExpandModel_delimited_110 : decode b_MacroExpandModel_delimited 110 = .ok (.if_icmp .ne 7, 3) := by decide +kernel
theorem d_MacroExpandModel_delimited_113 : decode b_MacroExpandModel_delimited 113 = .ok (.iconst 1, 1) := by decide +kernel
theorem d_MacroExpandModel_delimited_114 : decode b_MacroExpandModel_delimited 114 = .ok (.goto 16, 3) := by decide +kernel
theorem d_MacroExpandModel_delimited_117 : decode b_MacroExpandModel_delimited 117 = .ok (.iload 8, 2) := by decide +kernel
theorem d_MacroExpandModel_delimited_119 : decode b_MacroExpandModel_delimited 119 = .ok (.sipush 258, 3) := by decide +kernel
theorem d_MacroExpandModel_delimited_122 : decode b_MacroExpandModel_delimited 122 = .ok (.if_icmp .ne 7, 3) := by decide +kernel
theorem d_MacroExpandModel_delimited_125 : decode b_MacroExpandModel_delimited 125 = .ok (.iconst (-1), 1) := by decide +kernel
theorem d_MacroExpandModel_delimited_126 : decode b_MacroExpandModel_delimited 126 = .ok (.goto 4, 3) := by decide +kernel
theorem d_MacroExpandModel_delimited_129 : decode b_MacroExpandModel_delimited 129 = .ok (.iconst 0, 1) := by decide +kernel
theorem d_MacroExpandModel_delimited_130 : decode b_MacroExpandModel_delimited 130 = .ok (.iadd, 1) := by decide +kernel
theorem d_MacroExpandModel_delimited_131 : decode b_MacroExpandModel_delimited 131 = .ok (.istore 6, 2) := by decide +kernel
theorem d_MacroExpandModel_delimited_133 : decode b_MacroExpandModel_delimited 133 = .ok (.aload_n 0, 1) := by decide +kernel
theorem d_MacroExpandModel_delimited_134 : decode b_MacroExpandModel_delimited 134 = .ok (.iload_n 1, 1) := by decide +kernel
theorem d_MacroExpandModel_delimited_135 : decode b_MacroExpandModel_delimited 135 = .ok (.iload 8, 2) := by decide +kernel
theorem d_MacroExpandModel_delimited_137 : decode b_MacroExpandModel_delimited 137 = .ok (.invokevirtual 131, 3) := by decide +kernel
theorem d_MacroExpandModel_delimited_140 : decode b_MacroExpandModel_delimited 140 = .ok (.iinc 5 1, 3) := by decide +kernel
theorem d_MacroExpandModel_delimited_143 : decode b_MacroExpandModel_delimited 143 = .ok (.goto (-134), 3) := by decide +kernel
theorem d_MacroExpandModel_delimited_146 : decode b_MacroExpandModel_delimited 146 = .ok (.aload_n 0, 1) := by decide +kernel
theorem d_MacroExpandModel_delimited_147 : decode b_MacroExpandModel_delimited 147 = .ok (.getfield 113, 3) := by decide +kernel
theorem d_MacroExpandModel_delimited_150 : decode b_MacroExpandModel_delimited 150 = .ok (.ifCond .ne 76, 3) := by decide +kernel
theorem d_MacroExpandModel_delimited_153 : decode b_MacroExpandModel_delimited 153 = .ok (.iload 7, 2) := by decide +kernel
theorem d_MacroExpandModel_delimited_155 : decode b_MacroExpandModel_delimited 155 = .ok (.ifCond .eq 71, 3) := by decide +kernel
theorem d_MacroExpandModel_delimited_158 : decode b_MacroExpandModel_delimited 158 = .ok (.aload_n 0, 1) := by decide +kernel
theorem d_MacroExpandModel_delimited_159 : decode b_MacroExpandModel_delimited 159 = .ok (.getfield 47, 3) := by decide +kernel
theorem d_MacroExpandModel_delimited_162 : decode b_MacroExpandModel_delimited 162 = .ok (.iload_n 1, 1) := by decide +kernel
theorem d_MacroExpandModel_delimited_163 : decode b_MacroExpandModel_delimited 163 = .ok (.iaload, 1) := by decide +kernel
theorem d_MacroExpandModel_delimited_164 : decode b_MacroExpandModel_delimited 164 = .ok (.iconst 1, 1) := by decide +kernel
theorem d_MacroExpandModel_delimited_165 : decode b_MacroExpandModel_delimited 165 = .ok (.if_icmp .le 61, 3) := by decide +kernel
theorem d_MacroExpandModel_delimited_168 : decode b_MacroExpandModel_delimited 168 = .ok (.aload_n 0, 1) := by decide +kernel
theorem d_MacroExpandModel_delimited_169 : decode b_MacroExpandModel_delimited 169 = .ok (.getfield 47, 3) := by decide +kernel
theorem d_MacroExpandModel_delimited_172 : decode b_MacroExpandModel_delimited 172 = .ok (.iload_n 1, 1) := by decide +kernel
theorem d_MacroExpandModel_delimited_173 : decode b_MacroExpandModel_delimited 173 = .ok (.dup2, 1) := by decide +kernel
theorem d_MacroExpandModel_delimited_174 : decode b_MacroExpandModel_delimited 174 = .ok (.iaload, 1) := by decide +kernel
theorem d_MacroExpandModel_delimited_175 : decode b_MacroExpandModel_delimited 175 = .ok (.iconst 2, 1) := by decide +kernel
theorem d_MacroExpandModel_delimited_176 : decode b_MacroExpandModel_delimited 176 = .ok (.isub, 1) := by decide +kernel
theorem d_MacroExpandModel_delimited_177 : decode b_MacroExpandModel_delimited 177 = .ok (.iastore, 1) := by decide +kernel
theorem d_MacroExpandModel_delimited_178 : decode b_MacroExpandModel_delimited 178 = .ok (.iconst 0, 1) := by decide +kernel
theorem d_MacroExpandModel_delimited_179 : decode b_MacroExpandModel_delimited 179 = .ok (.istore 8, 2) := by decide +kernel
theorem d_MacroExpandModel_delimited_181 : decode b_MacroExpandModel_delimited 181 = .ok (.iload 8, 2) := by decide +kernel
theorem d_MacroExpandModel_delimited_183 : decode b_MacroExpandModel_delimited 183 = .ok (.aload_n 0, 1) := by decide +kernel
theorem d_MacroExpandModel_delimited_184 : decode b_MacroExpandModel_delimited 184 = .ok (.getfield 47, 3) := by decide +kernel
theorem d_MacroExpandModel_delimited_187 : decode b_MacroExpandModel_delimited 187 = .ok (.iload_n 1, 1) := by decide +kernel
theorem d_MacroExpandModel_delimited_188 : decode b_MacroExpandModel_delimited 188 = .ok (.iaload, 1) := by decide +kernel
theorem d_MacroExpandModel_delimited_189 : decode b_MacroExpandModel_delimited 189 = .ok (.if_icmp .ge 37, 3) := by decide +kernel
theorem d_MacroExpandModel_delimited_192 : decode b_MacroExpandModel_delimited 192 = .ok (.aload_n 0, 1) := by decide +kernel
theorem d_MacroExpandModel_delimited_193 : decode b_MacroExpandModel_delimited 193 = .ok (.getfield 50, 3) := by decide +kernel
theorem d_MacroExpandModel_delimited_196 : decode b_MacroExpandModel_delimited 196 = .ok (.sipush 400, 3) := by decide +kernel
theorem d_MacroExpandModel_delimited_199 : decode b_MacroExpandModel_delimited 199 = .ok (.iload_n 1, 1) := by decide +kernel
theorem d_MacroExpandModel_delimited_200 : decode b_MacroExpandModel_delimited 200 = .ok (.imul, 1) := by decide +kernel
theorem d_MacroExpandModel_delimited_201 : decode b_MacroExpandModel_delimited 201 = .ok (.iload 8, 2) := by decide +kernel
theorem d_MacroExpandModel_delimited_203 : decode b_MacroExpandModel_delimited 203 = .ok (.iadd, 1) := by decide +kernel
theorem d_MacroExpandModel_delimited_204 : decode b_MacroExpandModel_delimited 204 = .ok (.aload_n 0, 1) := by decide +kernel
theorem d_MacroExpandModel_delimited_205 : decode b_MacroExpandModel_delimited 205 = .ok (.getfield 50, 3) := by decide +kernel
theorem d_MacroExpandModel_delimited_208 : decode b_MacroExpandModel_delimited 208 = .ok (.sipush 400, 3) := by decide +kernel
theorem d_MacroExpandModel_delimited_211 : decode b_MacroExpandModel_delimited 211 = .ok (.iload_n 1, 1) := by decide +kernel
theorem d_MacroExpandModel_delimited_212 : decode b_MacroExpandModel_delimited 212 = .ok (.imul, 1) := by decide +kernel
theorem d_MacroExpandModel_delimited_213 : decode b_MacroExpandModel_delimited 213 = .ok (.iload 8, 2) := by decide +kernel
theorem d_MacroExpandModel_delimited_215 : decode b_MacroExpandModel_delimited 215 = .ok (.iadd, 1) := by decide +kernel
theorem d_MacroExpandModel_delimited_216 : decode b_MacroExpandModel_delimited 216 = .ok (.iconst 1, 1) := by decide +kernel
theorem d_MacroExpandModel_delimited_217 : decode b_MacroExpandModel_delimited 217 = .ok (.iadd, 1) := by decide +kernel
theorem d_MacroExpandModel_delimited_218 : decode b_MacroExpandModel_delimited 218 = .ok (.iaload, 1) := by decide +kernel
theorem d_MacroExpandModel_delimited_219 : decode b_MacroExpandModel_delimited 219 = .ok (.iastore, 1) := by decide +kernel
theorem d_MacroExpandModel_delimited_220 : decode b_MacroExpandModel_delimited 220 = .ok (.iinc 8 1, 3) := by decide +kernel
theorem d_MacroExpandModel_delimited_223 : decode b_MacroExpandModel_delimited 223 = .ok (.goto (-42), 3) := by decide +kernel
theorem d_MacroExpandModel_delimited_226 : decode b_MacroExpandModel_delimited 226 = .ok (.iload 5, 2) := by decide +kernel
theorem d_MacroExpandModel_delimited_228 : decode b_MacroExpandModel_delimited 228 = .ok (.aload_n 0, 1) := by decide +kernel
theorem d_MacroExpandModel_delimited_229 : decode b_MacroExpandModel_delimited 229 = .ok (.getfield 28, 3) := by decide +kernel
theorem d_MacroExpandModel_delimited_232 : decode b_MacroExpandModel_delimited 232 = .ok (.iload_n 2, 1) := by decide +kernel
theorem d_MacroExpandModel_delimited_233 : decode b_MacroExpandModel_delimited 233 = .ok (.iaload, 1) := by decide +kernel
theorem d_MacroExpandModel_delimited_234 : decode b_MacroExpandModel_delimited 234 = .ok (.iadd, 1) := by decide +kernel
theorem d_MacroExpandModel_delimited_235 : decode b_MacroExpandModel_delimited 235 = .ok (.ireturn, 1) := by decide +kernel
theorem d_MacroExpandModel_comes_0 : decode b_MacroExpandModel_comes 0 = .ok (.iconst 0, 1) := by decide +kernel
theorem d_MacroExpandModel_comes_1 : decode b_MacroExpandModel_comes 1 = .ok (.istore_n 2, 1) := by decide +kernel
theorem d_MacroExpandModel_comes_2 : decode b_MacroExpandModel_comes 2 = .ok (.iconst 0, 1) := by decide +kernel
theorem d_MacroExpandModel_comes_3 : decode b_MacroExpandModel_comes 3 = .ok (.istore_n 3, 1) := by decide +kernel
theorem d_MacroExpandModel_comes_4 : decode b_MacroExpandModel_comes 4 = .ok (.iload_n 3, 1) := by decide +kernel
theorem d_MacroExpandModel_comes_5 : decode b_MacroExpandModel_comes 5 = .ok (.aload_n 0, 1) := by decide +kernel
theorem d_MacroExpandModel_comes_6 : decode b_MacroExpandModel_comes 6 = .ok (.getfield 22, 3) := by decide +kernel
theorem d_MacroExpandModel_comes_9 : decode b_MacroExpandModel_comes 9 = .ok (.iload_n 1, 1) := by decide +kernel
theorem d_MacroExpandModel_comes_10 : decode b_MacroExpandModel_comes 10 = .ok (.iaload, 1) := by decide +kernel
theorem d_MacroExpandModel_comes_11 : decode b_MacroExpandModel_comes 11 = .ok (.if_icmp .ge 78, 3) := by decide +kernel
theorem d_MacroExpandModel_comes_14 : decode b_MacroExpandModel_comes 14 = .ok (.aload_n 0, 1) := by decide +kernel
theorem d_MacroExpandModel_comes_15 : decode b_MacroExpandModel_comes 15 = .ok (.getfield 25, 3) := by decide +kernel
theorem d_MacroExpandModel_comes_18 : decode b_MacroExpandModel_comes 18 = .ok (.sipush 200, 3) := by decide +kernel
theorem d_MacroExpandModel_comes_21 : decode b_MacroExpandModel_comes 21 = .ok (.iload_n 1, 1) := by decide +kernel
theorem d_MacroExpandModel_comes_22 : decode b_MacroExpandModel_comes 22 = .ok (.imul, 1) := by decide +kernel
theorem d_MacroExpandModel_comes_23 : decode b_MacroExpandModel_comes 23 = .ok (.iload_n 3, 1) := by decide +kernel
theorem d_MacroExpandModel_comes_24 : decode b_MacroExpandModel_comes 24 = .ok (.iadd, 1) := by decide +kernel
theorem d_MacroExpandModel_comes_25 : decode b_MacroExpandModel_comes 25 = .ok (.iaload, 1) := by decide +kernel
theorem d_MacroExpandModel_comes_26 : decode b_MacroExpandModel_comes 26 = .ok (.istore 4, 2) := by decide +kernel
theorem d_MacroExpandModel_comes_28 : decode b_MacroExpandModel_comes 28 = .ok (.iload 4, 2) := by decide +kernel
theorem d_MacroExpandModel_comes_30 : decode b_MacroExpandModel_comes 30 = .ok (.sipush 311, 3) := by decide +kernel
theorem d_MacroExpandModel_comes_33 : decode b_MacroExpandModel_comes 33 = .ok (.sipush 319, 3) := by decide +kernel
theorem d_MacroExpandModel_comes_36 : decode b_MacroExpandModel_comes 36 = .ok (.invokestatic 83, 3) := by decide +kernel
theorem d_MacroExpandModel_comes_39 : decode b_MacroExpandModel_comes 39 = .ok (.istore 5, 2) := by decide +kernel
theorem d_MacroExpandModel_comes_41 : decode b_MacroExpandModel_comes 41 = .ok (.iload_n 2, 1) := by decide +kernel
theorem d_MacroExpandModel_comes_42 : decode b_MacroExpandModel_comes 42 = .ok (.iload 5, 2) := by decide +kernel
theorem d_MacroExpandModel_comes_44 : decode b_MacroExpandModel_comes 44 = .ok (.ifCond .ne 7, 3) := by decide +kernel
theorem d_MacroExpandModel_comes_47 : decode b_MacroExpandModel_comes 47 = .ok (.iconst 1, 1) := by decide +kernel
theorem d_MacroExpandModel_comes_48 : decode b_MacroExpandModel_comes 48 = .ok (.goto 33, 3) := by decide +kernel
theorem d_MacroExpandModel_comes_51 : decode b_MacroExpandModel_comes 51 = .ok (.iload 4, 2) := by decide +kernel
theorem d_MacroExpandModel_comes_53 : decode b_MacroExpandModel_comes 53 = .ok (.sipush 310, 3) := by decide +kernel
theorem d_MacroExpandModel_comes_56 : decode b_MacroExpandModel_comes 56 = .ok (.isub, 1) := by decide +kernel
theorem d_MacroExpandModel_comes_57 : decode b_MacroExpandModel_comes 57 = .ok (.aload_n 0, 1) := by decide +kernel
theorem d_MacroExpandModel_comes_58 : decode b_MacroExpandModel_comes 58 = .ok (.getfield 16, 3) := by decide +kernel
theorem d_MacroExpandModel_comes_61 : decode b_MacroExpandModel_comes 61 = .ok (.iload_n 1, 1) := by decide +kernel
theorem d_MacroExpandModel_comes_62 : decode b_MacroExpandModel_comes 62 = .ok (.iaload, 1) := by decide +kernel
theorem d_MacroExpandModel_comes_63 : decode b_MacroExpandModel_comes 63 = .ok (.if_icmp .gt 17, 3) := by decide +kernel
theorem d_MacroExpandModel_comes_66 : decode b_MacroExpandModel_comes 66 = .ok (.aload_n 0, 1) := by decide +kernel
theorem d_MacroExpandModel_comes_67 : decode b_MacroExpandModel_comes 67 = .ok (.getfield 47, 3) := by decide +kernel
theorem d_MacroExpandModel_comes_70 : decode b_MacroExpandModel_comes 70 = .ok (.iload 4, 2) := by decide +kernel
theorem d_MacroExpandModel_comes_72 : decode b_MacroExpandModel_comes 72 = .ok (.sipush 310, 3) := by decide +kernel
theorem d_MacroExpandModel_comes_75 : decode b_MacroExpandModel_comes 75 = .ok (.isub, 1) := by decide +kernel
theorem d_MacroExpandModel_comes_76 : decode b_MacroExpandModel_comes 76 = .ok (.iaload, 1) := by decide +kernel
theorem d_MacroExpandModel_comes_77 : decode b_MacroExpandModel_comes 77 = .ok (.goto 4, 3) := by decide +kernel
theorem d_MacroExpandModel_comes_80 : decode b_MacroExpandModel_comes 80 = .ok (.iconst 0, 1) := by decide +kernel
theorem d_MacroExpandModel_comes_81 : decode b_MacroExpandModel_comes 81 = .ok (.iadd, 1) := by decide +kernel
theorem d_MacroExpandModel_comes_82 : decode b_MacroExpandModel_comes 82 = .ok (.istore_n 2, 1) := by decide +kernel
theorem d_MacroExpandModel_comes_83 : decode b_MacroExpandModel_comes 83 = .ok (.iinc 3 1, 3) := by decide +kernel
theorem d_MacroExpandModel_comes_86 : decode b_MacroExpandModel_comes 86 = .ok (.goto (-82), 3) := by decide +kernel
theorem d_MacroExpandModel_comes_89 : decode b_MacroExpandModel_comes 89 = .ok (.iload_n 2, 1) := by decide +kernel
theorem d_MacroExpandModel_comes_90 : decode b_MacroExpandModel_comes 90 = .ok (.ireturn, 1) := by decide +kernel
theorem d_MacroExpandModel_passed_0 : decode b_MacroExpandModel_passed 0 = .ok (.iconst 0, 1) := by decide +kernel
theorem d_MacroExpandModel_passed_1 : decode b_MacroExpandModel_passed 1 = .ok (.istore_n 1, 1) := by decide +kernel
theorem d_MacroExpandModel_passed_2 : decode b_MacroExpandModel_passed 2 = .ok (.iconst 0, 1) := by decide +kernel
theorem d_MacroExpandModel_passed_3 : decode b_MacroExpandModel_passed 3 = .ok (.istore_n 2, 1) := by decide +kernel
theorem d_MacroExpandModel_passed_4 : decode b_MacroExpandModel_passed 4 = .ok (.iload_n 2, 1) := by decide +kernel
theorem d_MacroExpandModel_passed_5 : decode b_MacroExpandModel_passed 5 = .ok (.aload_n 0, 1) := by decide +kernel
theorem d_MacroExpandModel_passed_6 : decode b_MacroExpandModel_passed 6 = .ok (.getfield 139, 3) := by decide +kernel
theorem d_MacroExpandModel_passed_9 : decode b_MacroExpandModel_passed 9 = .ok (.if_icmp .ge 29, 3) := by decide +kernel
theorem d_MacroExpandModel_passed_12 : decode b_MacroExpandModel_passed 12 = .ok (.iload_n 1, 1) := by decide +kernel
theorem d_MacroExpandModel_passed_13 : decode b_MacroExpandModel_passed 13 = .ok (.aload_n 0, 1) := by decide +kernel
theorem d_MacroExpandModel_passed_14 : decode b_MacroExpandModel_passed 14 = .ok (.getfield 59, 3) := by decide +kernel
theorem d_MacroExpandModel_passed_17 : decode b_MacroExpandModel_passed 17 = .ok (.iload_n 2, 1) := by decide +kernel
theorem d_MacroExpandModel_passed_18 : decode b_MacroExpandModel_passed 18 = .ok (.iaload, 1) := by decide +kernel
theorem d_MacroExpandModel_passed_19 : decode b_MacroExpandModel_passed 19 = .ok (.sipush 261, 3) := by decide +kernel
theorem d_MacroExpandModel_passed_22 : decode b_MacroExpandModel_passed 22 = .ok (.if_icmp .ne 7, 3) := by decide +kernel
theorem d_MacroExpandModel_passed_25 : decode b_MacroExpandModel_passed 25 = .ok (.iconst 1, 1) := by decide +kernel
theorem d_MacroExpandModel_passed_26 : decode b_MacroExpandModel_passed 26 = .ok (.goto 4, 3) := by decide +kernel
theorem d_MacroExpandModel_passed_29 : decode b_MacroExpandModel_passed 29 = .ok (.iconst 0, 1) := by decide +kernel
theorem d_MacroExpandModel_passed_30 : decode b_MacroExpandModel_passed 30 = .ok (.iadd, 1) := by decide +kernel
theorem d_MacroExpandModel_passed_31 : decode b_MacroExpandModel_passed 31 = .ok (.istore_n 1, 1) := by decide +kernel
theorem d_MacroExpandModel_passed_32 : decode b_MacroExpandModel_passed 32 = .ok (.iinc 2 1, 3) := by decide +kernel
theorem d_MacroExpandModel_passed_35 : decode b_MacroExpandModel_passed 35 = .ok (.goto (-31), 3) := by decide +kernel
theorem d_MacroExpandModel_passed_38 : decode b_MacroExpandModel_passed 38 = .ok (.iload_n 1, 1) := by decide +kernel
theorem d_MacroExpandModel_passed_39 : decode b_MacroExpandModel_passed 39 = .ok (.ireturn, 1) := by decide +kernel
theorem d_MacroExpandModel_expandName_0 : decode b_MacroExpandModel_expandName 0 = .ok (.aload_n 0, 1) := by decide +kernel
theorem d_MacroExpandModel_expandName_1 : decode b_MacroExpandModel_expandName 1 = .ok (.getfield 142, 3) := by decide +kernel
theorem d_MacroExpandModel_expandName_4 : decode b_MacroExpandModel_expandName 4 = .ok (.istore_n 2, 1) := by decide +kernel
theorem d_MacroExpandModel_expandName_5 : decode b_MacroExpandModel_expandName 5 = .ok (.aload_n 0, 1) := by decide +kernel
theorem d_MacroExpandModel_expandName_6 : decode b_MacroExpandModel_expandName 6 = .ok (.aload_n 0, 1) := by decide +kernel
theorem d_MacroExpandModel_expandName_7 : decode b_MacroExpandModel_expandName 7 = .ok (.iload_n 1, 1) := by decide +kernel
theorem d_MacroExpandModel_expandName_8 : decode b_MacroExpandModel_expandName 8 = .ok (.invokevirtual 116, 3) := by decide +kernel
theorem d_MacroExpandModel_expandName_11 : decode b_MacroExpandModel_expandName 11 = .ok (.putfield 142, 3) := by decide +kernel
theorem d_MacroExpandModel_expandName_14 : decode b_MacroExpandModel_expandName 14 = .ok (.aload_n 0, 1) := by decide +kernel
theorem d_MacroExpandModel_expandName_15 : decode b_MacroExpandModel_expandName 15 = .ok (.iload_n 1, 1) := by decide +kernel
theorem d_MacroExpandModel_expandName_16 : decode b_MacroExpandModel_expandName 16 = .ok (.invokevirtual 120, 3) := by decide +kernel
theorem d_MacroExpandModel_expandName_19 : decode b_MacroExpandModel_expandName 19 = .ok (.istore_n 3, 1) := by decide +kernel
theorem d_MacroExpandModel_expandName_20 : decode b_MacroExpandModel_expandName 20 = .ok (.aload_n 0, 1) := by decide +kernel
theorem d_MacroExpandModel_expandName_21 : decode b_MacroExpandModel_expandName 21 = .ok (.getfield 19, 3) := by decide +kernel
theorem d_MacroExpandModel_expandName_24 : decode b_MacroExpandModel_expandName 24 = .ok (.iload_n 3, 1) := by decide +kernel
theorem d_MacroExpandModel_expandName_25 : decode b_MacroExpandModel_expandName 25 = .ok (.iaload, 1) := by decide +kernel
theorem d_MacroExpandModel_expandName_26 : decode b_MacroExpandModel_expandName 26 = .ok (.iconst 1, 1) := by decide +kernel
theorem d_MacroExpandModel_expandName_27 : decode b_MacroExpandModel_expandName 27 = .ok (.iand, 1) := by decide +kernel
theorem d_MacroExpandModel_expandName_28 : decode b_MacroExpandModel_expandName 28 = .ok (.ifCond .eq 7, 3) := by decide +kernel
theorem d_MacroExpandModel_expandName_31 : decode b_MacroExpandModel_expandName 31 = .ok (.iconst 1, 1) := by decide +kernel
theorem d_MacroExpandModel_expandName_32 : decode b_MacroExpandModel_expandName 32 = .ok (.goto 4, 3) := by decide +kernel
theorem d_MacroExpandModel_expandName_35 : decode b_MacroExpandModel_expandName 35 = .ok (.iconst 0, 1) := by decide +kernel
theorem d_MacroExpandModel_expandName_36 : decode b_MacroExpandModel_expandName 36 = .ok (.istore 4, 2) := by decide +kernel
theorem d_MacroExpandModel_expandName_38 : decode b_MacroExpandModel_expandName 38 = .ok (.iload_n 1, 1) := by decide +kernel
theorem d_MacroExpandModel_expandName_39 : decode b_MacroExpandModel_expandName 39 = .ok (.iconst 1, 1) := by decide +kernel
theorem d_MacroExpandModel_expandName_40 : decode b_MacroExpandModel_expandName 40 = .ok (.iadd, 1) := by decide +kernel
theorem d_MacroExpandModel_expandName_41 : decode b_MacroExpandModel_expandName 41 = .ok (.istore 5, 2) := by decide +kernel
theorem d_MacroExpandModel_expandName_43 : decode b_MacroExpandModel_expandName 43 = .ok (.iconst 0, 1) := by decide +kernel
theorem d_MacroExpandModel_expandName_44 : decode b_MacroExpandModel_expandName 44 = .ok (.istore 6, 2) := by decide +kernel
theorem d_MacroExpandModel_expandName_46 : decode b_MacroExpandModel_expandName 46 = .ok (.iload 6, 2) := by decide +kernel
theorem d_MacroExpandModel_expandName_48 : decode b_MacroExpandModel_expandName 48 = .ok (.aload_n 0, 1) := by decide +kernel
theorem d_MacroExpandModel_expandName_49 : decode b_MacroExpandModel_expandName 49 = .ok (.getfield 28, 3) := by decide +kernel
theorem d_MacroExpandModel_expandName_52 : decode b_MacroExpandModel_expandName 52 = .ok (.bipush 10, 2) := by decide +kernel
theorem d_MacroExpandModel_expandName_54 : decode b_MacroExpandModel_expandName 54 = .ok (.iload_n 3, 1) := by decide +kernel
theorem d_MacroExpandModel_expandName_55 : decode b_MacroExpandModel_expandName 55 = .ok (.imul, 1) := by decide +kernel
theorem d_MacroExpandModel_expandName_56 : decode b_MacroExpandModel_expandName 56 = .ok (.iaload, 1) := by decide +kernel
theorem d_MacroExpandModel_expandName_57 : decode b_MacroExpandModel_expandName 57 = .ok (.if_icmp .ge 56, 3) := by decide +kernel
theorem d_MacroExpandModel_expandName_60 : decode b_MacroExpandModel_expandName 60 = .ok (.aload_n 0, 1) := by decide +kernel
theorem d_MacroExpandModel_expandName_61 : decode b_MacroExpandModel_expandName 61 = .ok (.getfield 113, 3) := by decide +kernel
theorem d_MacroExpandModel_expandName_64 : decode b_MacroExpandModel_expandName 64 = .ok (.ifCond .ne 49, 3) := by decide +kernel
theorem d_MacroExpandModel_expandName_67 : decode b_MacroExpandModel_expandName 67 = .ok (.aload_n 0, 1) := by decide +kernel
theorem d_MacroExpandModel_expandName_68 : decode b_MacroExpandModel_expandName 68 = .ok (.iload 5, 2) := by decide +kernel
theorem d_MacroExpandModel_expandName_70 : decode b_MacroExpandModel_expandName 70 = .ok (.iconst 1, 1) := by decide +kernel
theorem d_MacroExpandModel_expandName_71 : decode b_MacroExpandModel_expandName 71 = .ok (.invokevirtual 127, 3) := by decide +kernel
theorem d_MacroExpandModel_expandName_74 : decode b_MacroExpandModel_expandName 74 = .ok (.ifCond .eq 30, 3) := by decide +kernel
theorem d_MacroExpandModel_expandName_77 : decode b_MacroExpandModel_expandName 77 = .ok (.aload_n 0, 1) := by decide +kernel
theorem d_MacroExpandModel_expandName_78 : decode b_MacroExpandModel_expandName 78 = .ok (.iload 5, 2) := by decide +kernel
theorem d_MacroExpandModel_expandName_80 : decode b_MacroExpandModel_expandName 80 = .ok (.invokevirtual 116, 3) := by decide +kernel
theorem d_MacroExpandModel_expandName_83 : decode b_MacroExpandModel_expandName 83 = .ok (.aload_n 0, 1) := by decide +kernel
theorem d_MacroExpandModel_expandName_84 : decode b_MacroExpandModel_expandName 84 = .ok (.getfield 32, 3) := by decide +kernel
theorem d_MacroExpandModel_expandName_87 : decode b_MacroExpandModel_expandName 87 = .ok (.sipush 2000, 3) := by decide +kernel
theorem d_MacroExpandModel_expandName_90 : decode b_MacroExpandModel_expandName 90 = .ok (.iload_n 3, 1) := by decide +kernel
theorem d_MacroExpandModel_expandName_91 : decode b_MacroExpandModel_expandName 91 = .ok (.imul, 1) := by decide +kernel
theorem d_MacroExpandModel_expandName_92 : decode b_MacroExpandModel_expandName 92 = .ok (.iload 6, 2) := by decide +kernel
theorem d_MacroExpandModel_expandName_94 : decode b_MacroExpandModel_expandName 94 = .ok (.iadd, 1) := by decide +kernel
theorem d_MacroExpandModel_expandName_95 : decode b_MacroExpandModel_expandName 95 = .ok (.iaload, 1) := by decide +kernel
theorem d_MacroExpandModel_expandName_96 : decode b_MacroExpandModel_expandName 96 = .ok (.if_icmp .eq 8, 3) := by decide +kernel
theorem d_MacroExpandModel_expandName_99 : decode b_MacroExpandModel_expandName 99 = .ok (.aload_n 0, 1) := by decide +kernel
theorem d_MacroExpandModel_expandName_100 : decode b_MacroExpandModel_expandName 100 = .ok (.iconst 3, 1) := by decide +kernel
theorem d_MacroExpandModel_expandName_101 : decode b_MacroExpandModel_expandName 101 = .ok (.invokevirtual 123, 3) := by decide +kernel
theorem d_MacroExpandModel_expandName_104 : decode b_MacroExpandModel_expandName 104 = .ok (.iinc 5 1, 3) := by decide +kernel
theorem d_MacroExpandModel_expandName_107 : decode b_MacroExpandModel_expandName 107 = .ok (.iinc 6 1, 3) := by decide +kernel
theorem d_MacroExpandModel_expandName_110 : decode b_MacroExpandModel_expandName 110 = .ok (.goto (-64), 3) := by decide +kernel
theorem d_MacroExpandModel_expandName_113 : decode b_MacroExpandModel_expandName 113 = .ok (.iconst 0, 1) := by decide +kernel
theorem d_MacroExpandModel_expandName_114 : decode b_MacroExpandModel_expandName 114 = .ok (.istore 6, 2) := by decide +kernel
theorem d_MacroExpandModel_expandName_116 : decode b_MacroExpandModel_expandName 116 = .ok (.iconst 1, 1) := by decide +kernel
theorem d_MacroExpandModel_expandName_117 : decode b_MacroExpandModel_expandName 117 = .ok (.istore 7, 2) := by decide +kernel
theorem d_MacroExpandModel_expandName_119 : decode b_MacroExpandModel_expandName 119 = .ok (.iload 7, 2) := by decide +kernel
theorem d_MacroExpandModel_expandName_121 : decode b_MacroExpandModel_expandName 121 = .ok (.aload_n 0, 1) := by decide +kernel
theorem d_MacroExpandModel_expandName_122 : decode b_MacroExpandModel_expandName 122 = .ok (.getfield 16, 3) := by decide +kernel
theorem d_MacroExpandModel_expandName_125 : decode b_MacroExpandModel_expandName 125 = .ok (.iload_n 3, 1) := by decide +kernel
theorem d_MacroExpandModel_expandName_126 : decode b_MacroExpandModel_expandName 126 = .ok (.iaload, 1) := by decide +kernel
theorem d_MacroExpandModel_expandName_127 : decode b_MacroExpandModel_expandName 127 = .ok (.if_icmp .gt 83, 3) := by decide +kernel
theorem d_MacroExpandModel_expandName_130 : decode b_MacroExpandModel_expandName 130 = .ok (.aload_n 0, 1) := by decide +kernel
theorem d_MacroExpandModel_expandName_131 : decode b_MacroExpandModel_expandName 131 = .ok (.getfield 113, 3) := by decide +kernel
theorem d_MacroExpandModel_expandName_134 : decode b_MacroExpandModel_expandName 134 = .ok (.ifCond .ne 76, 3) := by decide +kernel
theorem d_MacroExpandModel_expandName_137 : decode b_MacroExpandModel_expandName 137 = .ok (.aload_n 0, 1) := by decide +kernel
theorem d_MacroExpandModel_expandName_138 : decode b_MacroExpandModel_expandName 138 = .ok (.getfield 47, 3) := by decide +kernel
theorem d_MacroExpandModel_expandName_141 : decode b_MacroExpandModel_expandName 141 = .ok (.iload 7, 2) := by decide +kernel
theorem d_MacroExpandModel_expandName_143 : decode b_MacroExpandModel_expandName 143 = .ok (.iconst 0, 1) := by decide +kernel
theorem d_MacroExpandModel_expandName_144 : decode b_MacroExpandModel_expandName 144 = .ok (.iastore, 1) := by decide +kernel
theorem d_MacroExpandModel_expandName_145 : decode b_MacroExpandModel_expandName 145 = .ok (.aload_n 0, 1) := by decide +kernel
theorem d_MacroExpandModel_expandName_146 : decode b_MacroExpandModel_expandName 146 = .ok (.getfield 28, 3) := by decide +kernel
theorem d_MacroExpandModel_expandName_149 : decode b_MacroExpandModel_expandName 149 = .ok (.bipush 10, 2) := by decide +kernel
theorem d_MacroExpandModel_expandName_151 : decode b_MacroExpandModel_expandName 151 = .ok (.iload_n 3, 1) := by decide +kernel
theorem d_MacroExpandModel_expandName_152 : decode b_MacroExpandModel_expandName 152 = .ok (.imul, 1) := by decide +kernel
theorem d_MacroExpandModel_expandName_153 : decode b_MacroExpandModel_expandName 153 = .ok (.iload 7, 2) := by decide +kernel
theorem d_MacroExpandModel_expandName_155 : decode b_MacroExpandModel_expandName 155 = .ok (.iadd, 1) := by decide +kernel
theorem d_MacroExpandModel_expandName_156 : decode b_MacroExpandModel_expandName 156 = .ok (.iaload, 1) := by decide +kernel
theorem d_MacroExpandModel_expandName_157 : decode b_MacroExpandModel_expandName 157 = .ok (.ifCond .ne 16, 3) := by decide +kernel
theorem d_MacroExpandModel_expandName_160 : decode b_MacroExpandModel_expandName 160 = .ok (.aload_n 0, 1) := by decide +kernel
theorem d_MacroExpandModel_expandName_161 : decode b_MacroExpandModel_expandName 161 = .ok (.iload 7, 2) := by decide +kernel
theorem d_MacroExpandModel_expandName_163 : decode b_MacroExpandModel_expandName 163 = .ok (.iload 5, 2) := by decide +kernel
theorem d_MacroExpandModel_expandName_165 : decode b_MacroExpandModel_expandName 165 = .ok (.iload 4, 2) := by decide +kernel
theorem d_MacroExpandModel_expandName_167 : decode b_MacroExpandModel_expandName 167 = .ok (.invokevirtual 145, 3) := by decide +kernel
theorem d_MacroExpandModel_expandName_170 : decode b_MacroExpandModel_expandName 170 = .ok (.goto 20, 3) := by decide +kernel
theorem d_MacroExpandModel_expandName_173 : decode b_MacroExpandModel_expandName 173 = .ok (.aload_n 0, 1) := by decide +kernel
theorem d_MacroExpandModel_expandName_174 : decode b_MacroExpandModel_expandName 174 = .ok (.iload 7, 2) := by decide +kernel
theorem d_MacroExpandModel_expandName_176 : decode b_MacroExpandModel_expandName 176 = .ok (.bipush 10, 2) := by decide +kernel
theorem d_MacroExpandModel_expandName_178 : decode b_MacroExpandModel_expandName 178 = .ok (.iload_n 3, 1) := by decide +kernel
theorem d_MacroExpandModel_expandName_179 : decode b_MacroExpandModel_expandName 179 = .ok (.imul, 1) := by decide +kernel
theorem d_MacroExpandModel_expandName_180 : decode b_MacroExpandModel_expandName 180 = .ok (.iload 7, 2) := by decide +kernel
theorem d_MacroExpandModel_expandName_182 : decode b_MacroExpandModel_expandName 182 = .ok (.iadd, 1) := by decide +kernel
theorem d_MacroExpandModel_expandName_183 : decode b_MacroExpandModel_expandName 183 = .ok (.iload 5, 2) := by decide +kernel
theorem d_MacroExpandModel_expandName_185 : decode b_MacroExpandModel_expandName 185 = .ok (.iload 4, 2) := by decide +kernel
theorem d_MacroExpandModel_expandName_187 : decode b_MacroExpandModel_expandName 187 = .ok (.invokevirtual 149, 3) := by decide +kernel
theorem d_MacroExpandModel_expandName_190 : decode b_MacroExpandModel_expandName 190 = .ok (.istore 5, 2) := by decide +kernel
theorem d_MacroExpandModel_expandName_192 : decode b_MacroExpandModel_expandName 192 = .ok (.iload 6, 2) := by decide +kernel
theorem d_MacroExpandModel_expandName_194 : decode b_MacroExpandModel_expandName 194 = .ok (.aload_n 0, 1) := by decide +kernel
theorem d_MacroExpandModel_expandName_195 : decode b_MacroExpandModel_expandName 195 = .ok (.getfield 47, 3) := by decide +kernel
theorem d_MacroExpandModel_expandName_198 : decode b_MacroExpandModel_expandName 198 = .ok (.iload 7, 2) := by decide +kernel
theorem d_MacroExpandModel_expandName_200 : decode b_MacroExpandModel_expandName 200 = .ok (.iaload, 1) := by decide +kernel
theorem d_MacroExpandModel_expandName_201 : decode b_MacroExpandModel_expandName 201 = .ok (.iadd, 1) := by decide +kernel
theorem d_MacroExpandModel_expandName_202 : decode b_MacroExpandModel_expandName 202 = .ok (.istore 6, 2) := by decide +kernel
theorem d_MacroExpandModel_expandName_204 : decode b_MacroExpandModel_expandName 204 = .ok (.iinc 7 1, 3) := by decide +kernel
theorem d_MacroExpandModel_expandName_207 : decode b_MacroExpandModel_expandName 207 = .ok (.goto (-88), 3) := by decide +kernel
theorem d_MacroExpandModel_expandName_210 : decode b_MacroExpandModel_expandName 210 = .ok (.aload_n 0, 1) := by decide +kernel
theorem d_MacroExpandModel_expandName_211 : decode b_MacroExpandModel_expandName 211 = .ok (.getfield 113, 3) := by decide +kernel
theorem d_MacroExpandModel_expandName_214 : decode b_MacroExpandModel_expandName 214 = .ok (.ifCond .ne 11, 3) := by decide +kernel
theorem d_MacroExpandModel_expandName_217 : decode b_MacroExpandModel_expandName 217 = .ok (.aload_n 0, 1) := by decide +kernel
theorem d_MacroExpandModel_expandName_218 : decode b_MacroExpandModel_expandName 218 = .ok (.iload_n 3, 1) := by decide +kernel
theorem d_MacroExpandModel_expandName_219 : decode b_MacroExpandModel_expandName 219 = .ok (.invokevirtual 153, 3) := by decide +kernel
theorem d_MacroExpandModel_expandName_222 : decode b_MacroExpandModel_expandName 222 = .ok (.goto 4, 3) := by decide +kernel
theorem d_MacroExpandModel_expandName_225 : decode b_MacroExpandModel_expandName 225 = .ok (.iconst 0, 1) := by decide +kernel
theorem d_MacroExpandModel_expandName_226 : decode b_MacroExpandModel_expandName 226 = .ok (.istore 7, 2) := by decide +kernel
theorem d_MacroExpandModel_expandName_228 : decode b_MacroExpandModel_expandName 228 = .ok (.aload_n 0, 1) := by decide +kernel
theorem d_MacroExpandModel_expandName_229 : decode b_MacroExpandModel_expandName 229 = .ok (.getfield 113, 3) := by decide +kernel
theorem d_MacroExpandModel_expandName_232 : decode b_MacroExpandModel_expandName 232 = .ok (.ifCond .ne 32, 3) := by decide +kernel
theorem d_MacroExpandModel_expandName_235 : decode b_MacroExpandModel_expandName 235 = .ok (.aload_n 0, 1) := by decide +kernel
theorem d_MacroExpandModel_expandName_236 : decode b_MacroExpandModel_expandName 236 = .ok (.getfield 107, 3) := by decide +kernel
theorem d_MacroExpandModel_expandName_239 : decode b_MacroExpandModel_expandName 239 = .ok (.aload_n 0, 1) := by decide +kernel
theorem d_MacroExpandModel_expandName_240 : decode b_MacroExpandModel_expandName 240 = .ok (.invokevirtual 156, 3) := by decide +kernel
theorem d_MacroExpandModel_expandName_243 : decode b_MacroExpandModel_expandName 243 = .ok (.isub, 1) := by decide +kernel
theorem d_MacroExpandModel_expandName_244 : decode b_MacroExpandModel_expandName 244 = .ok (.iload 5, 2) := by decide +kernel
theorem d_MacroExpandModel_expandName_246 : decode b_MacroExpandModel_expandName 246 = .ok (.iload_n 1, 1) := by decide +kernel
theorem d_MacroExpandModel_expandName_247 : decode b_MacroExpandModel_expandName 247 = .ok (.isub, 1) := by decide +kernel
theorem d_MacroExpandModel_expandName_248 : decode b_MacroExpandModel_expandName 248 = .ok (.isub, 1) := by decide +kernel
theorem d_MacroExpandModel_expandName_249 : decode b_MacroExpandModel_expandName 249 = .ok (.iload 7, 2) := by decide +kernel
theorem d_MacroExpandModel_expandName_251 : decode b_MacroExpandModel_expandName 251 = .ok (.iadd, 1) := by decide +kernel
theorem d_MacroExpandModel_expandName_252 : decode b_MacroExpandModel_expandName 252 = .ok (.sipush 3000, 3) := by decide +kernel
theorem d_MacroExpandModel_expandName_255 : decode b_MacroExpandModel_expandName 255 = .ok (.if_icmp .le 9, 3) := by decide +kernel
theorem d_MacroExpandModel_expandName_258 : decode b_MacroExpandModel_expandName 258 = .ok (.aload_n 0, 1) := by decide +kernel
theorem d_MacroExpandModel_expandName_259 : decode b_MacroExpandModel_expandName 259 = .ok (.bipush 8, 2) := by decide +kernel
theorem d_MacroExpandModel_expandName_261 : decode b_MacroExpandModel_expandName 261 = .ok (.invokevirtual 123, 3) := by decide +kernel
theorem d_MacroExpandModel_expandName_264 : decode b_MacroExpandModel_expandName 264 = .ok (.aload_n 0, 1) := by decide +kernel
theorem d_MacroExpandModel_expandName_265 : decode b_MacroExpandModel_expandName 265 = .ok (.getfield 113, 3) := by decide +kernel
theorem d_MacroExpandModel_expandName_268 : decode b_MacroExpandModel_expandName 268 = .ok (.ifCond .eq 4, 3) := by decide +kernel
theorem d_MacroExpandModel_expandName_271 : decode b_MacroExpandModel_expandName 271 = .ok (.return_, 1) := by decide +kernel
theorem d_MacroExpandModel_expandName_272 : decode b_MacroExpandModel_expandName 272 = .ok (.aload_n 0, 1) := by decide +kernel
theorem d_MacroExpandModel_expandName_273 : decode b_MacroExpandModel_expandName 273 = .ok (.getfield 142, 3) := by decide +kernel
theorem d_MacroExpandModel_expandName_276 : decode b_MacroExpandModel_expandName 276 = .ok (.istore 8, 2) := by decide +kernel
theorem d_MacroExpandModel_expandName_278 : decode b_MacroExpandModel_expandName 278 = .ok (.aload_n 0, 1) := by decide +kernel
theorem d_MacroExpandModel_expandName_279 : decode b_MacroExpandModel_expandName 279 = .ok (.iload_n 1, 1) := by decide +kernel
theorem d_MacroExpandModel_expandName_280 : decode b_MacroExpandModel_expandName 280 = .ok (.iload 5, 2) := by decide +kernel
theorem d_MacroExpandModel_expandName_282 : decode b_MacroExpandModel_expandName 282 = .ok (.iload_n 1, 1) := by decide +kernel
theorem d_MacroExpandModel_expandName_283 : decode b_MacroExpandModel_expandName 283 = .ok (.isub, 1) := by decide +kernel
theorem d_MacroExpandModel_expandName_284 : decode b_MacroExpandModel_expandName 284 = .ok (.invokevirtual 160, 3) := by decide +kernel
theorem d_MacroExpandModel_expandName_287 : decode b_MacroExpandModel_expandName 287 = .ok (.aload_n 0, 1) := by decide +kernel
theorem d_MacroExpandModel_expandName_288 : decode b_MacroExpandModel_expandName 288 = .ok (.iload_n 1, 1) := by decide +kernel
theorem d_MacroExpandModel_expandName_289 : decode b_MacroExpandModel_expandName 289 = .ok (.iload 7, 2) := by decide +kernel
theorem d_MacroExpandModel_expandName_291 : decode b_MacroExpandModel_expandName 291 = .ok (.invokevirtual 163, 3) := by decide +kernel
theorem d_MacroExpandModel_expandName_294 : decode b_MacroExpandModel_expandName 294 = .ok (.iload_n 1, 1) := by decide +kernel
theorem d_MacroExpandModel_expandName_295 : decode b_MacroExpandModel_expandName 295 = .ok (.istore 9, 2) := by decide +kernel
theorem d_MacroExpandModel_expandName_297 : decode b_MacroExpandModel_expandName 297 = .ok (.iconst 0, 1) := by decide +kernel
theorem d_MacroExpandModel_expandName_298 : decode b_MacroExpandModel_expandName 298 = .ok (.istore 10, 2) := by decide +kernel
theorem d_MacroExpandModel_expandName_300 : decode b_MacroExpandModel_expandName 300 = .ok (.iload 10, 2) := by decide +kernel
theorem d_MacroExpandModel_expandName_302 : decode b_MacroExpandModel_expandName 302 = .ok (.aload_n 0, 1) := by decide +kernel
theorem d_MacroExpandModel_expandName_303 : decode b_MacroExpandModel_expandName 303 = .ok (.getfield 22, 3) := by decide +kernel
theorem d_MacroExpandModel_expandName_306 : decode b_MacroExpandModel_expandName 306 = .ok (.iload_n 3, 1) := by decide +kernel
theorem d_MacroExpandModel_expandName_307 : decode b_MacroExpandModel_expandName 307 = .ok (.iaload, 1) := by decide +kernel
theorem d_MacroExpandModel_expandName_308 : decode b_MacroExpandModel_expandName 308 = .ok (.if_icmp .ge 131, 3) := by decide +kernel
theorem d_MacroExpandModel_expandName_311 : decode b_MacroExpandModel_expandName 311 = .ok (.aload_n 0, 1) := by decide +kernel
theorem d_MacroExpandModel_expandName_312 : decode b_MacroExpandModel_expandName 312 = .ok (.getfield 25, 3) := by decide +kernel
theorem d_MacroExpandModel_expandName_315 : decode b_MacroExpandModel_expandName 315 = .ok (.sipush 200, 3) := by decide +kernel
theorem d_MacroExpandModel_expandName_318 : decode b_MacroExpandModel_expandName 318 = .ok (.iload_n 3, 1) := by decide +kernel
theorem d_MacroExpandModel_expandName_319 : decode b_MacroExpandModel_expandName 319 = .ok (.imul, 1) := by decide +kernel
theorem d_MacroExpandModel_expandName_320 : decode b_MacroExpandModel_expandName 320 = .ok (.iload 10, 2) := by decide +kernel
theorem d_MacroExpandModel_expandName_322 : decode b_MacroExpandModel_expandName 322 = .ok (.iadd, 1) := by decide +kernel
theorem d_MacroExpandModel_expandName_323 : decode b_MacroExpandModel_expandName 323 = .ok (.iaload, 1) := by decide +kernel
theorem d_MacroExpandModel_expandName_324 : decode b_MacroExpandModel_expandName 324 = .ok (.istore 11, 2) := by decide +kernel
theorem d_MacroExpandModel_expandName_326 : decode b_MacroExpandModel_expandName 326 = .ok (.iload 11, 2) := by decide +kernel
theorem d_MacroExpandModel_expandName_328 : decode b_MacroExpandModel_expandName 328 = .ok (.sipush 311, 3) := by decide +kernel
theorem d_MacroExpandModel_expandName_331 : decode b_MacroExpandModel_expandName 331 = .ok (.sipush 319, 3) := by decide +kernel
theorem d_MacroExpandModel_expandName_334 : decode b_MacroExpandModel_expandName 334 = .ok (.invokestatic 83, 3) := by decide +kernel
theorem d_MacroExpandModel_expandName_337 : decode b_MacroExpandModel_expandName 337 = .ok (.ifCond .eq 69, 3) := by decide +kernel
theorem d_MacroExpandModel_expandName_340 : decode b_MacroExpandModel_expandName 340 = .ok (.iload 11, 2) := by decide +kernel
theorem d_MacroExpandModel_expandName_342 : decode b_MacroExpandModel_expandName 342 = .ok (.sipush 310, 3) := by decide +kernel
theorem d_MacroExpandModel_expandName_345 : decode b_MacroExpandModel_expandName 345 = .ok (.isub, 1) := by decide +kernel
theorem d_MacroExpandModel_expandName_346 : decode b_MacroExpandModel_expandName 346 = .ok (.istore 12, 2) := by decide +kernel
theorem d_MacroExpandModel_expandName_348 : decode b_MacroExpandModel_expandName 348 = .ok (.iconst 0, 1) := by decide +kernel
theorem d_MacroExpandModel_expandName_349 : decode b_MacroExpandModel_expandName 349 = .ok (.istore 13, 2) := by decide +kernel
theorem d_MacroExpandModel_expandName_351 : decode b_MacroExpandModel_expandName 351 = .ok (.iload 12, 2) := by decide +kernel
theorem d_MacroExpandModel_expandName_353 : decode b_MacroExpandModel_expandName 353 = .ok (.aload_n 0, 1) := by decide +kernel
theorem d_MacroExpandModel_expandName_354 : decode b_MacroExpandModel_expandName 354 = .ok (.getfield 16, 3) := by decide +kernel
theorem d_MacroExpandModel_expandName_357 : decode b_MacroExpandModel_expandName 357 = .ok (.iload_n 3, 1) := by decide +kernel
theorem d_MacroExpandModel_expandName_358 : decode b_MacroExpandModel_expandName 358 = .ok (.iaload, 1) := by decide +kernel
theorem d_MacroExpandModel_expandName_359 : decode b_MacroExpandModel_expandName 359 = .ok (.if_icmp .gt 44, 3) := by decide +kernel
theorem d_MacroExpandModel_expandName_362 : decode b_MacroExpandModel_expandName 362 = .ok (.iload 13, 2) := by decide +kernel
theorem d_MacroExpandModel_expandName_364 : decode b_MacroExpandModel_expandName 364 = .ok (.aload_n 0, 1) := by decide +kernel
theorem d_MacroExpandModel_expandName_365 : decode b_MacroExpandModel_expandName 365 = .ok (.getfield 47, 3) := by decide +kernel
theorem d_MacroExpandModel_expandName_368 : decode b_MacroExpandModel_expandName 368 = .ok (.iload 12, 2) := by decide +kernel
theorem d_MacroExpandModel_expandName_370 : decode b_MacroExpandModel_expandName 370 = .ok (.iaload, 1) := by decide +kernel
theorem d_MacroExpandModel_expandName_371 : decode b_MacroExpandModel_expandName 371 = .ok (.if_icmp .ge 32, 3) := by decide +kernel
theorem d_MacroExpandModel_expandName_374 : decode b_MacroExpandModel_expandName 374 = .ok (.aload_n 0, 1) := by decide +kernel
theorem d_MacroExpandModel_expandName_375 : decode b_MacroExpandModel_expandName 375 = .ok (.iload 9, 2) := by decide +kernel
theorem d_MacroExpandModel_expandName_377 : decode b_MacroExpandModel_expandName 377 = .ok (.aload_n 0, 1) := by decide +kernel
theorem d_MacroExpandModel_expandName_378 : decode b_MacroExpandModel_expandName 378 = .ok (.getfield 50, 3) := by decide +kernel
theorem d_MacroExpandModel_expandName_381 : decode b_MacroExpandModel_expandName 381 = .ok (.sipush 400, 3) := by decide +kernel
theorem d_MacroExpandModel_expandName_384 : decode b_MacroExpandModel_expandName 384 = .ok (.iload 12, 2) := by decide +kernel
theorem d_MacroExpandModel_expandName_386 : decode b_MacroExpandModel_expandName 386 = .ok (.imul, 1) := by decide +kernel
theorem d_MacroExpandModel_expandName_387 : decode b_MacroExpandModel_expandName 387 = .ok (.iload 13, 2) := by decide +kernel
theorem d_MacroExpandModel_expandName_389 : decode b_MacroExpandModel_expandName 389 = .ok (.iadd, 1) := by decide +kernel
theorem d_MacroExpandModel_expandName_390 : decode b_MacroExpandModel_expandName 390 = .ok (.iaload, 1) := by decide +kernel
theorem d_MacroExpandModel_expandName_391 : decode b_MacroExpandModel_expandName 391 = .ok (.invokevirtual 166, 3) := by decide +kernel
theorem d_MacroExpandModel_expandName_394 : decode b_MacroExpandModel_expandName 394 = .ok (.iinc 9 1, 3) := by decide +kernel
theorem d_MacroExpandModel_expandName_397 : decode b_MacroExpandModel_expandName 397 = .ok (.iinc 13 1, 3) := by decide +kernel
theorem d_MacroExpandModel_expandName_400 : decode b_MacroExpandModel_expandName 400 = .ok (.goto (-49), 3) := by decide +kernel
theorem d_MacroExpandModel_expandName_403 : decode b_MacroExpandModel_expandName 403 = .ok (.goto 30, 3) := by decide +kernel
theorem d_MacroExpandModel_expandName_406 : decode b_MacroExpandModel_expandName 406 = .ok (.aload_n 0, 1) := by decide +kernel
theorem d_MacroExpandModel_expandName_407 : decode b_MacroExpandModel_expandName 407 = .ok (.iload 9, 2) := by decide +kernel
theorem d_MacroExpandModel_expandName_409 : decode b_MacroExpandModel_expandName 409 = .ok (.iload 11, 2) := by decide +kernel
theorem d_MacroExpandModel_expandName_411 : decode b_MacroExpandModel_expandName 411 = .ok (.invokestatic 87, 3) := by decide +kernel
theorem d_MacroExpandModel_expandName_414 : decode b_MacroExpandModel_expandName 414 = .ok (.ifCond .eq 11, 3) := by decide +kernel
theorem d_MacroExpandModel_expandName_417 : decode b_MacroExpandModel_expandName 417 = .ok (.iload 11, 2) := by decide +kernel
theorem d_MacroExpandModel_expandName_419 : decode b_MacroExpandModel_expandName 419 = .ok (.bipush 10, 2) := by decide +kernel
theorem d_MacroExpandModel_expandName_421 : decode b_MacroExpandModel_expandName 421 = .ok (.isub, 1) := by decide +kernel
theorem d_MacroExpandModel_expandName_422 : decode b_MacroExpandModel_expandName 422 = .ok (.goto 5, 3) := by decide +kernel
theorem d_MacroExpandModel_expandName_425 : decode b_MacroExpandModel_expandName 425 = .ok (.iload 11, 2) := by decide +kernel
theorem d_MacroExpandModel_expandName_427 : decode b_MacroExpandModel_expandName 427 = .ok (.invokevirtual 166, 3) := by decide +kernel
theorem d_MacroExpandModel_expandName_430 : decode b_MacroExpandModel_expandName 430 = .ok (.iinc 9 1, 3) := by decide +kernel
theorem d_MacroExpandModel_expandName_433 : decode b_MacroExpandModel_expandName 433 = .ok (.iinc 10 1, 3) := by decide +kernel
theorem d_MacroExpandModel_expandName_436 : decode b_MacroExpandModel_expandName 436 = .ok (.goto (-136), 3) := by decide +kernel
theorem d_MacroExpandModel_expandName_439 : decode b_MacroExpandModel_expandName 439 = .ok (.aload_n 0, 1) := by decide +kernel
theorem d_MacroExpandModel_expandName_440 : decode b_MacroExpandModel_expandName 440 = .ok (.getfield 169, 3) := by decide +kernel
theorem d_MacroExpandModel_expandName_443 : decode b_MacroExpandModel_expandName 443 = .ok (.bipush 100, 2) := by decide +kernel
theorem d_MacroExpandModel_expandName_445 : decode b_MacroExpandModel_expandName 445 = .ok (.if_icmp .ge 56, 3) := by decide +kernel
theorem d_MacroExpandModel_expandName_448 : decode b_MacroExpandModel_expandName 448 = .ok (.aload_n 0, 1) := by decide +kernel
theorem d_MacroExpandModel_expandName_449 : decode b_MacroExpandModel_expandName 449 = .ok (.getfield 53, 3) := by decide +kernel
theorem d_MacroExpandModel_expandName_452 : decode b_MacroExpandModel_expandName 452 = .ok (.iconst 3, 1) := by decide +kernel
theorem d_MacroExpandModel_expandName_453 : decode b_MacroExpandModel_expandName 453 = .ok (.aload_n 0, 1) := by decide +kernel
theorem d_MacroExpandModel_expandName_454 : decode b_MacroExpandModel_expandName 454 = .ok (.getfield 169, 3) := by decide +kernel
theorem d_MacroExpandModel_expandName_457 : decode b_MacroExpandModel_expandName 457 = .ok (.imul, 1) := by decide +kernel
theorem d_MacroExpandModel_expandName_458 : decode b_MacroExpandModel_expandName 458 = .ok (.iload 8, 2) := by decide +kernel
theorem d_MacroExpandModel_expandName_460 : decode b_MacroExpandModel_expandName 460 = .ok (.iastore, 1) := by decide +kernel
theorem d_MacroExpandModel_expandName_461 : decode b_MacroExpandModel_expandName 461 = .ok (.aload_n 0, 1) := by decide +kernel
theorem d_MacroExpandModel_expandName_462 : decode b_MacroExpandModel_expandName 462 = .ok (.getfield 53, 3) := by decide +kernel
theorem d_MacroExpandModel_expandName_465 : decode b_MacroExpandModel_expandName 465 = .ok (.iconst 3, 1) := by decide +kernel
theorem d_MacroExpandModel_expandName_466 : decode b_MacroExpandModel_expandName 466 = .ok (.aload_n 0, 1) := by decide +kernel
theorem d_MacroExpandModel_expandName_467 : decode b_MacroExpandModel_expandName 467 = .ok (.getfield 169, 3) := by decide +kernel
theorem d_MacroExpandModel_expandName_470 : decode b_MacroExpandModel_expandName 470 = .ok (.imul, 1) := by decide +kernel
theorem d_MacroExpandModel_expandName_471 : decode b_MacroExpandModel_expandName 471 = .ok (.iconst 1, 1) := by decide +kernel
theorem d_MacroExpandModel_expandName_472 : decode b_MacroExpandModel_expandName 472 = .ok (.iadd, 1) := by decide +kernel
theorem d_MacroExpandModel_expandName_473 : decode b_MacroExpandModel_expandName 473 = .ok (.iload 6, 2) := by decide +kernel
theorem d_MacroExpandModel_expandName_475 : decode b_MacroExpandModel_expandName 475 = .ok (.iastore, 1) := by decide +kernel
theorem d_MacroExpandModel_expandName_476 : decode b_MacroExpandModel_expandName 476 = .ok (.aload_n 0, 1) := by decide +kernel
theorem d_MacroExpandModel_expandName_477 : decode b_MacroExpandModel_expandName 477 = .ok (.getfield 53, 3) := by decide +kernel
theorem d_MacroExpandModel_expandName_480 : decode b_MacroExpandModel_expandName 480 = .ok (.iconst 3, 1) := by decide +kernel
theorem d_MacroExpandModel_expandName_481 : decode b_MacroExpandModel_expandName 481 = .ok (.aload_n 0, 1) := by decide +kernel
theorem d_MacroExpandModel_expandName_482 : decode b_MacroExpandModel_expandName 482 = .ok (.getfield 169, 3) := by decide +kernel
theorem d_MacroExpandModel_expandName_485 : decode b_MacroExpandModel_expandName 485 = .ok (.imul, 1) := by decide +kernel
theorem d_MacroExpandModel_expandName_486 : decode b_MacroExpandModel_expandName 486 = .ok (.iconst 2, 1) := by decide +kernel
theorem d_MacroExpandModel_expandName_487 : decode b_MacroExpandModel_expandName 487 = .ok (.iadd, 1) := by decide +kernel
theorem d_MacroExpandModel_expandName_488 : decode b_MacroExpandModel_expandName 488 = .ok (.iload 7, 2) := by decide +kernel
theorem d_MacroExpandModel_expandName_490 : decode b_MacroExpandModel_expandName 490 = .ok (.iastore, 1) := by decide +kernel
theorem d_MacroExpandModel_expandName_491 : decode b_MacroExpandModel_expandName 491 = .ok (.aload_n 0, 1) := by decide +kernel
theorem d_MacroExpandModel_expandName_492 : decode b_MacroExpandModel_expandName 492 = .ok (.dup, 1) := by decide +kernel
theorem d_MacroExpandModel_expandName_493 : decode b_MacroExpandModel_expandName 493 = .ok (.getfield 169, 3) := by decide +kernel
theorem d_MacroExpandModel_expandName_496 : decode b_MacroExpandModel_expandName 496 = .ok (.iconst 1, 1) := by decide +kernel
theorem d_MacroExpandModel_expandName_497 : decode b_MacroExpandModel_expandName 497 = .ok (.iadd, 1) := by decide +kernel
theorem d_MacroExpandModel_expandName_498 : decode b_MacroExpandModel_expandName 498 = .ok (.putfield 169, 3) := by decide +kernel
theorem d_MacroExpandModel_expandName_501 : decode b_MacroExpandModel_expandName 501 = .ok (.aload_n 0, 1) := by decide +kernel
theorem d_MacroExpandModel_expandName_502 : decode b_MacroExpandModel_expandName 502 = .ok (.iload_n 2, 1) := by decide +kernel
theorem d_MacroExpandModel_expandName_503 : decode b_MacroExpandModel_expandName 503 = .ok (.putfield 142, 3) := by decide +kernel
theorem d_MacroExpandModel_expandName_506 : decode b_MacroExpandModel_expandName 506 = .ok (.return_, 1) := by decide +kernel
