theorem d_MacroExpandModel_init_0 : decode b_MacroExpandModel_init 0 = .ok (.aload_n 0, 1) := by decide +kernel
theorem d_MacroExpandModel_init_1 : decode b_MacroExpandModel_init 1 = .ok (.invokespecial 1, 3) := by decide +kernel
theorem d_MacroExpandModel_init_4 : decode b_MacroExpandModel_init 4 = .ok (.aload_n 0, 1) := by decide +kernel
theorem d_MacroExpandModel_init_5 : decode b_MacroExpandModel_init 5 = .ok (.sipush 4096, 3) := by decide +kernel
theorem d_MacroExpandModel_init_8 : decode b_MacroExpandModel_init 8 = .ok (.newarray .int, 2) := by decide +kernel
theorem d_MacroExpandModel_init_10 : decode b_MacroExpandModel_init 10 = .ok (.putfield 7, 3) := by decide +kernel
theorem d_MacroExpandModel_init_13 : decode b_MacroExpandModel_init 13 = .ok (.aload_n 0, 1) := by decide +kernel
theorem d_MacroExpandModel_init_14 : decode b_MacroExpandModel_init 14 = .ok (.sipush 3000, 3) := by decide +kernel
theorem d_MacroExpandModel_init_17 : decode b_MacroExpandModel_init 17 = .ok (.newarray .int, 2) := by decide +kernel
theorem d_MacroExpandModel_init_19 : decode b_MacroExpandModel_init 19 = .ok (.putfield 13, 3) := by decide +kernel
theorem d_MacroExpandModel_init_22 : decode b_MacroExpandModel_init 22 = .ok (.aload_n 0, 1) := by decide +kernel
theorem d_MacroExpandModel_init_23 : decode b_MacroExpandModel_init 23 = .ok (.bipush 100, 2) := by decide +kernel
theorem d_MacroExpandModel_init_25 : decode b_MacroExpandModel_init 25 = .ok (.newarray .int, 2) := by decide +kernel
theorem d_MacroExpandModel_init_27 : decode b_MacroExpandModel_init 27 = .ok (.putfield 16, 3) := by decide +kernel
theorem d_MacroExpandModel_init_30 : decode b_MacroExpandModel_init 30 = .ok (.aload_n 0, 1) := by decide +kernel
theorem d_MacroExpandModel_init_31 : decode b_MacroExpandModel_init 31 = .ok (.bipush 100, 2) := by decide +kernel
theorem d_MacroExpandModel_init_33 : decode b_MacroExpandModel_init 33 = .ok (.newarray .int, 2) := by decide +kernel
theorem d_MacroExpandModel_init_35 : decode b_MacroExpandModel_init 35 = .ok (.putfield 19, 3) := by decide +kernel
theorem d_MacroExpandModel_init_38 : decode b_MacroExpandModel_init 38 = .ok (.aload_n 0, 1) := by decide +kernel
theorem d_MacroExpandModel_init_39 : decode b_MacroExpandModel_init 39 = .ok (.bipush 100, 2) := by decide +kernel
theorem d_MacroExpandModel_init_41 : decode b_MacroExpandModel_init 41 = .ok (.newarray .int, 2) := by decide +kernel
theorem d_MacroExpandModel_init_43 : decode b_MacroExpandModel_init 43 = .ok (.putfield 22, 3) := by decide +kernel
theorem d_MacroExpandModel_init_46 : decode b_MacroExpandModel_init 46 = .ok (.aload_n 0, 1) := by decide +kernel
theorem d_MacroExpandModel_init_47 : decode b_MacroExpandModel_init 47 = .ok (.sipush 20000, 3) := by decide +kernel
theorem d_MacroExpandModel_init_50 : decode b_MacroExpandModel_init 50 = .ok (.newarray .int, 2) := by decide +kernel
theorem d_MacroExpandModel_init_52 : decode b_MacroExpandModel_init 52 = .ok (.putfield 25, 3) := by decide +kernel
theorem d_MacroExpandModel_init_55 : decode b_MacroExpandModel_init 55 = .ok (.aload_n 0, 1) := by decide +kernel
theorem d_MacroExpandModel_init_56 : decode b_MacroExpandModel_init 56 = .ok (.sipush 1000, 3) := by decide +kernel
theorem d_MacroExpandModel_init_59 : decode b_MacroExpandModel_init 59 = .ok (.newarray .int, 2) := by decide +kernel
theorem d_MacroExpandModel_init_61 : decode b_MacroExpandModel_init 61 = .ok (.putfield 28, 3) := by decide +kernel
theorem d_MacroExpandModel_init_64 : decode b_MacroExpandModel_init 64 = .ok (.aload_n 0, 1) := by decide +kernel
theorem d_MacroExpandModel_init_65 : decode b_MacroExpandModel_init 65 = .ok (.ldc 31, 2) := by decide +kernel
theorem d_MacroExpandModel_init_67 : decode b_MacroExpandModel_init 67 = .ok (.newarray .int, 2) := by decide +kernel
theorem d_MacroExpandModel_init_69 : decode b_MacroExpandModel_init 69 = .ok (.putfield 32, 3) := by decide +kernel
theorem d_MacroExpandModel_init_72 : decode b_MacroExpandModel_init 72 = .ok (.aload_n 0, 1) := by decide +kernel
theorem d_MacroExpandModel_init_73 : decode b_MacroExpandModel_init 73 = .ok (.sipush 200, 3) := by decide +kernel
theorem d_MacroExpandModel_init_76 : decode b_MacroExpandModel_init 76 = .ok (.newarray .int, 2) := by decide +kernel
theorem d_MacroExpandModel_init_78 : decode b_MacroExpandModel_init 78 = .ok (.putfield 35, 3) := by decide +kernel
theorem d_MacroExpandModel_init_81 : decode b_MacroExpandModel_init 81 = .ok (.aload_n 0, 1) := by decide +kernel
theorem d_MacroExpandModel_init_82 : decode b_MacroExpandModel_init 82 = .ok (.sipush 4000, 3) := by decide +kernel
theorem d_MacroExpandModel_init_85 : decode b_MacroExpandModel_init 85 = .ok (.newarray .int, 2) := by decide +kernel
theorem d_MacroExpandModel_init_87 : decode b_MacroExpandModel_init 87 = .ok (.putfield 38, 3) := by decide +kernel
theorem d_MacroExpandModel_init_90 : decode b_MacroExpandModel_init 90 = .ok (.aload_n 0, 1) := by decide +kernel
theorem d_MacroExpandModel_init_91 : decode b_MacroExpandModel_init 91 = .ok (.bipush 100, 2) := by decide +kernel
theorem d_MacroExpandModel_init_93 : decode b_MacroExpandModel_init 93 = .ok (.newarray .int, 2) := by decide +kernel
theorem d_MacroExpandModel_init_95 : decode b_MacroExpandModel_init 95 = .ok (.putfield 41, 3) := by decide +kernel
theorem d_MacroExpandModel_init_98 : decode b_MacroExpandModel_init 98 = .ok (.aload_n 0, 1) := by decide +kernel
theorem d_MacroExpandModel_init_99 : decode b_MacroExpandModel_init 99 = .ok (.sipush 800, 3) := by decide +kernel
theorem d_MacroExpandModel_init_102 : decode b_MacroExpandModel_init 102 = .ok (.newarray .int, 2) := by decide +kernel
theorem d_MacroExpandModel_init_104 : decode b_MacroExpandModel_init 104 = .ok (.putfield 44, 3) := by decide +kernel
theorem d_MacroExpandModel_init_107 : decode b_MacroExpandModel_init 107 = .ok (.aload_n 0, 1) := by decide +kernel
theorem d_MacroExpandModel_init_108 : decode b_MacroExpandModel_init 108 = .ok (.bipush 10, 2) := by decide +kernel
theorem d_MacroExpandModel_init_110 : decode b_MacroExpandModel_init 110 = .ok (.newarray .int, 2) := by decide +kernel
theorem d_MacroExpandModel_init_112 : decode b_MacroExpandModel_init 112 = .ok (.putfield 47, 3) := by decide +kernel
theorem d_MacroExpandModel_init_115 : decode b_MacroExpandModel_init 115 = .ok (.aload_n 0, 1) := by decide +kernel
theorem d_MacroExpandModel_init_116 : decode b_MacroExpandModel_init 116 = .ok (.sipush 4000, 3) := by decide +kernel
theorem d_MacroExpandModel_init_119 : decode b_MacroExpandModel_init 119 = .ok (.newarray .int, 2) := by decide +kernel
theorem d_MacroExpandModel_init_121 : decode b_MacroExpandModel_init 121 = .ok (.putfield 50, 3) := by decide +kernel
theorem d_MacroExpandModel_init_124 : decode b_MacroExpandModel_init 124 = .ok (.aload_n 0, 1) := by decide +kernel
theorem d_MacroExpandModel_init_125 : decode b_MacroExpandModel_init 125 = .ok (.sipush 300, 3) := by decide +kernel
theorem d_MacroExpandModel_init_128 : decode b_MacroExpandModel_init 128 = .ok (.newarray .int, 2) := by decide +kernel
theorem d_MacroExpandModel_init_130 : decode b_MacroExpandModel_init 130 = .ok (.putfield 53, 3) := by decide +kernel
theorem d_MacroExpandModel_init_133 : decode b_MacroExpandModel_init 133 = .ok (.aload_n 0, 1) := by decide +kernel
theorem d_MacroExpandModel_init_134 : decode b_MacroExpandModel_init 134 = .ok (.sipush 512, 3) := by decide +kernel
theorem d_MacroExpandModel_init_137 : decode b_MacroExpandModel_init 137 = .ok (.newarray .int, 2) := by decide +kernel
theorem d_MacroExpandModel_init_139 : decode b_MacroExpandModel_init 139 = .ok (.putfield 56, 3) := by decide +kernel
theorem d_MacroExpandModel_init_142 : decode b_MacroExpandModel_init 142 = .ok (.aload_n 0, 1) := by decide +kernel
theorem d_MacroExpandModel_init_143 : decode b_MacroExpandModel_init 143 = .ok (.bipush 51, 2) := by decide +kernel
theorem d_MacroExpandModel_init_145 : decode b_MacroExpandModel_init 145 = .ok (.newarray .int, 2) := by decide +kernel
theorem d_MacroExpandModel_init_147 : decode b_MacroExpandModel_init 147 = .ok (.putfield 59, 3) := by decide +kernel
theorem d_MacroExpandModel_init_150 : decode b_MacroExpandModel_init 150 = .ok (.aload_n 0, 1) := by decide +kernel
theorem d_MacroExpandModel_init_151 : decode b_MacroExpandModel_init 151 = .ok (.bipush 51, 2) := by decide +kernel
theorem d_MacroExpandModel_init_153 : decode b_MacroExpandModel_init 153 = .ok (.newarray .int, 2) := by decide +kernel
theorem d_MacroExpandModel_init_155 : decode b_MacroExpandModel_init 155 = .ok (.putfield 62, 3) := by decide +kernel
theorem d_MacroExpandModel_init_158 : decode b_MacroExpandModel_init 158 = .ok (.aload_n 0, 1) := by decide +kernel
theorem d_MacroExpandModel_init_159 : decode b_MacroExpandModel_init 159 = .ok (.bipush 51, 2) := by decide +kernel
theorem d_MacroExpandModel_init_161 : decode b_MacroExpandModel_init 161 = .ok (.newarray .int, 2) := by decide +kernel
theorem d_MacroExpandModel_init_163 : decode b_MacroExpandModel_init 163 = .ok (.putfield 65, 3) := by decide +kernel
theorem d_MacroExpandModel_init_166 : decode b_MacroExpandModel_init 166 = .ok (.aload_n 0, 1) := by decide +kernel
theorem d_MacroExpandModel_init_167 : decode b_MacroExpandModel_init 167 = .ok (.sipush 2000, 3) := by decide +kernel
theorem d_MacroExpandModel_init_170 : decode b_MacroExpandModel_init 170 = .ok (.newarray .int, 2) := by decide +kernel
theorem d_MacroExpandModel_init_172 : decode b_MacroExpandModel_init 172 = .ok (.putfield 68, 3) := by decide +kernel
theorem d_MacroExpandModel_init_175 : decode b_MacroExpandModel_init 175 = .ok (.aload_n 0, 1) := by decide +kernel
theorem d_MacroExpandModel_init_176 : decode b_MacroExpandModel_init 176 = .ok (.bipush 10, 2) := by decide +kernel
theorem d_MacroExpandModel_init_178 : decode b_MacroExpandModel_init 178 = .ok (.newarray .int, 2) := by decide +kernel
theorem d_MacroExpandModel_init_180 : decode b_MacroExpandModel_init 180 = .ok (.putfield 71, 3) := by decide +kernel
theorem d_MacroExpandModel_init_183 : decode b_MacroExpandModel_init 183 = .ok (.aload_n 0, 1) := by decide +kernel
theorem d_MacroExpandModel_init_184 : decode b_MacroExpandModel_init 184 = .ok (.sipush 200, 3) := by decide +kernel
theorem d_MacroExpandModel_init_187 : decode b_MacroExpandModel_init 187 = .ok (.newarray .int, 2) := by decide +kernel
theorem d_MacroExpandModel_init_189 : decode b_MacroExpandModel_init 189 = .ok (.putfield 74, 3) := by decide +kernel
theorem d_MacroExpandModel_init_192 : decode b_MacroExpandModel_init 192 = .ok (.aload_n 0, 1) := by decide +kernel
theorem d_MacroExpandModel_init_193 : decode b_MacroExpandModel_init 193 = .ok (.lload_n 1, 1) := by decide +kernel
theorem d_MacroExpandModel_init_194 : decode b_MacroExpandModel_init 194 = .ok (.lconst 1, 1) := by decide +kernel
theorem d_MacroExpandModel_init_195 : decode b_MacroExpandModel_init 195 = .ok (.lcmp, 1) := by decide +kernel
theorem d_MacroExpandModel_init_196 : decode b_MacroExpandModel_init 196 = .ok (.ifCond .ge 7, 3) := by decide +kernel
theorem d_MacroExpandModel_init_199 : decode b_MacroExpandModel_init 199 = .ok (.iconst 1, 1) := by decide +kernel
theorem d_MacroExpandModel_init_200 : decode b_MacroExpandModel_init 200 = .ok (.goto 19, 3) := by decide +kernel
theorem d_MacroExpandModel_init_203 : decode b_MacroExpandModel_init 203 = .ok (.lload_n 1, 1) := by decide +kernel
theorem d_MacroExpandModel_init_204 : decode b_MacroExpandModel_init 204 = .ok (.ldc2_w 77, 3) := by decide +kernel
theorem d_MacroExpandModel_init_207 : decode b_MacroExpandModel_init 207 = .ok (.lcmp, 1) := by decide +kernel
theorem d_MacroExpandModel_init_208 : decode b_MacroExpandModel_init 208 = .ok (.ifCond .le 9, 3) := by decide +kernel
theorem d_MacroExpandModel_init_211 : decode b_MacroExpandModel_init 211 = .ok (.sipush 20000, 3) := by decide +kernel
theorem d_MacroExpandModel_init_214 : decode b_MacroExpandModel_init 214 = .ok (.goto 5, 3) := by decide +kernel
theorem d_MacroExpandModel_init_217 : decode b_MacroExpandModel_init 217 = .ok (.lload_n 1, 1) := by decide +kernel
theorem d_MacroExpandModel_init_218 : decode b_MacroExpandModel_init 218 = .ok (.l2i, 1) := by decide +kernel
theorem d_MacroExpandModel_init_219 : decode b_MacroExpandModel_init 219 = .ok (.putfield 79, 3) := by decide +kernel
theorem d_MacroExpandModel_init_222 : decode b_MacroExpandModel_init 222 = .ok (.iconst 0, 1) := by decide +kernel
theorem d_MacroExpandModel_init_223 : decode b_MacroExpandModel_init 223 = .ok (.istore_n 3, 1) := by decide +kernel
theorem d_MacroExpandModel_init_224 : decode b_MacroExpandModel_init 224 = .ok (.iload_n 3, 1) := by decide +kernel
theorem d_MacroExpandModel_init_225 : decode b_MacroExpandModel_init 225 = .ok (.sipush 200, 3) := by decide +kernel
theorem d_MacroExpandModel_init_228 : decode b_MacroExpandModel_init 228 = .ok (.if_icmp .ge 16, 3) := by decide +kernel
theorem d_MacroExpandModel_init_231 : decode b_MacroExpandModel_init 231 = .ok (.aload_n 0, 1) := by decide +kernel
theorem d_MacroExpandModel_init_232 : decode b_MacroExpandModel_init 232 = .ok (.getfield 35, 3) := by decide +kernel
theorem d_MacroExpandModel_init_235 : decode b_MacroExpandModel_init 235 = .ok (.iload_n 3, 1) := by decide +kernel
theorem d_MacroExpandModel_init_236 : decode b_MacroExpandModel_init 236 = .ok (.iconst (-1), 1) := by decide +kernel
theorem d_MacroExpandModel_init_237 : decode b_MacroExpandModel_init 237 = .ok (.iastore, 1) := by decide +kernel
theorem d_MacroExpandModel_init_238 : decode b_MacroExpandModel_init 238 = .ok (.iinc 3 1, 3) := by decide +kernel
theorem d_MacroExpandModel_init_241 : decode b_MacroExpandModel_init 241 = .ok (.goto (-17), 3) := by decide +kernel
theorem d_MacroExpandModel_init_244 : decode b_MacroExpandModel_init 244 = .ok (.return_, 1) := by decide +kernel
theorem d_MacroExpandModel_in_0 : decode b_MacroExpandModel_in 0 = .ok (.iload_n 0, 1) := by decide +kernel
theorem d_MacroExpandModel_in_1 : decode b_MacroExpandModel_in 1 = .ok (.iload_n 1, 1) := by decide +kernel
theorem d_MacroExpandModel_in_2 : decode b_MacroExpandModel_in 2 = .ok (.if_icmp .lt 12, 3) := by decide +kernel
theorem d_MacroExpandModel_in_5 : decode b_MacroExpandModel_in 5 = .ok (.iload_n 0, 1) := by decide +kernel
theorem d_MacroExpandModel_in_6 : decode b_MacroExpandModel_in 6 = .ok (.iload_n 2, 1) := by decide +kernel
theorem d_MacroExpandModel_in_7 : decode b_MacroExpandModel_in 7 = .ok (.if_icmp .gt 7, 3) := by decide +kernel
theorem d_MacroExpandModel_in_10 : decode b_MacroExpandModel_in 10 = .ok (.iconst 1, 1) := by decide +kernel
theorem d_MacroExpandModel_in_11 : decode b_MacroExpandModel_in 11 = .ok (.goto 4, 3) := by decide +kernel
theorem d_MacroExpandModel_in_14 : decode b_MacroExpandModel_in 14 = .ok (.iconst 0, 1) := by decide +kernel
theorem d_MacroExpandModel_in_15 : decode b_MacroExpandModel_in 15 = .ok (.ireturn, 1) := by decide +kernel
theorem d_MacroExpandModel_isName_0 : decode b_MacroExpandModel_isName 0 = .ok (.iload_n 0, 1) := by decide +kernel
theorem d_MacroExpandModel_isName_1 : decode b_MacroExpandModel_isName 1 = .ok (.sipush 1000, 3) := by decide +kernel
theorem d_MacroExpandModel_isName_4 : decode b_MacroExpandModel_isName 4 = .ok (.sipush 1199, 3) := by decide +kernel
theorem d_MacroExpandModel_isName_7 : decode b_MacroExpandModel_isName 7 = .ok (.invokestatic 83, 3) := by decide +kernel
theorem d_MacroExpandModel_isName_10 : decode b_MacroExpandModel_isName 10 = .ok (.ireturn, 1) := by decide +kernel
theorem d_MacroExpandModel_isParameter_0 : decode b_MacroExpandModel_isParameter 0 = .ok (.iload_n 0, 1) := by decide +kernel
theorem d_MacroExpandModel_isParameter_1 : decode b_MacroExpandModel_isParameter 1 = .ok (.sipush 311, 3) := by decide +kernel
theorem d_MacroExpandModel_isParameter_4 : decode b_MacroExpandModel_isParameter 4 = .ok (.sipush 399, 3) := by decide +kernel
theorem d_MacroExpandModel_isParameter_7 : decode b_MacroExpandModel_isParameter 7 = .ok (.invokestatic 83, 3) := by decide +kernel
theorem d_MacroExpandModel_isParameter_10 : decode b_MacroExpandModel_isParameter 10 = .ok (.ifCond .eq 14, 3) := by decide +kernel
theorem d_MacroExpandModel_isParameter_13 : decode b_MacroExpandModel_isParameter 13 = .ok (.iload_n 0, 1) := by decide +kernel
theorem d_MacroExpandModel_isParameter_14 : decode b_MacroExpandModel_isParameter 14 = .ok (.bipush 10, 2) := by decide +kernel
theorem d_MacroExpandModel_isParameter_16 : decode b_MacroExpandModel_isParameter 16 = .ok (.irem, 1) := by decide +kernel
theorem d_MacroExpandModel_isParameter_17 : decode b_MacroExpandModel_isParameter 17 = .ok (.ifCond .eq 7, 3) := by decide +kernel
theorem d_MacroExpandModel_isParameter_20 : decode b_MacroExpandModel_isParameter 20 = .ok (.iconst 1, 1) := by decide +kernel
theorem d_MacroExpandModel_isParameter_21 : decode b_MacroExpandModel_isParameter 21 = .ok (.goto 4, 3) := by decide +kernel
theorem d_MacroExpandModel_isParameter_24 : decode b_MacroExpandModel_isParameter 24 = .ok (.iconst 0, 1) := by decide +kernel
theorem d_MacroExpandModel_isParameter_25 : decode b_MacroExpandModel_isParameter 25 = .ok (.ireturn, 1) := by decide +kernel
theorem d_MacroExpandModel_isToken_0 : decode b_MacroExpandModel_isToken 0 = .ok (.iload_n 0, 1) := by decide +kernel
theorem d_MacroExpandModel_isToken_1 : decode b_MacroExpandModel_isToken 1 = .ok (.iconst 0, 1) := by decide +kernel
theorem d_MacroExpandModel_isToken_2 : decode b_MacroExpandModel_isToken 2 = .ok (.sipush 258, 3) := by decide +kernel
theorem d_MacroExpandModel_isToken_5 : decode b_MacroExpandModel_isToken 5 = .ok (.invokestatic 83, 3) := by decide +kernel
theorem d_MacroExpandModel_isToken_8 : decode b_MacroExpandModel_isToken 8 = .ok (.ifCond .ne 30, 3) := by decide +kernel
theorem d_MacroExpandModel_isToken_11 : decode b_MacroExpandModel_isToken 11 = .ok (.iload_n 0, 1) := by decide +kernel
theorem d_MacroExpandModel_isToken_12 : decode b_MacroExpandModel_isToken 12 = .ok (.sipush 260, 3) := by decide +kernel
theorem d_MacroExpandModel_isToken_15 : decode b_MacroExpandModel_isToken 15 = .ok (.sipush 269, 3) := by decide +kernel
theorem d_MacroExpandModel_isToken_18 : decode b_MacroExpandModel_isToken 18 = .ok (.invokestatic 83, 3) := by decide +kernel
theorem d_MacroExpandModel_isToken_21 : decode b_MacroExpandModel_isToken 21 = .ok (.ifCond .ne 17, 3) := by decide +kernel
theorem d_MacroExpandModel_isToken_24 : decode b_MacroExpandModel_isToken 24 = .ok (.iload_n 0, 1) := by decide +kernel
theorem d_MacroExpandModel_isToken_25 : decode b_MacroExpandModel_isToken 25 = .ok (.invokestatic 87, 3) := by decide +kernel
theorem d_MacroExpandModel_isToken_28 : decode b_MacroExpandModel_isToken 28 = .ok (.ifCond .ne 10, 3) := by decide +kernel
theorem d_MacroExpandModel_isToken_31 : decode b_MacroExpandModel_isToken 31 = .ok (.iload_n 0, 1) := by decide +kernel
theorem d_MacroExpandModel_isToken_32 : decode b_MacroExpandModel_isToken 32 = .ok (.invokestatic 91, 3) := by decide +kernel
theorem d_MacroExpandModel_isToken_35 : decode b_MacroExpandModel_isToken 35 = .ok (.ifCond .eq 7, 3) := by decide +kernel
theorem d_MacroExpandModel_isToken_38 : decode b_MacroExpandModel_isToken 38 = .ok (.iconst 1, 1) := by decide +kernel
theorem d_MacroExpandModel_isToken_39 : decode b_MacroExpandModel_isToken 39 = .ok (.goto 4, 3) := by decide +kernel
theorem d_MacroExpandModel_isToken_42 : decode b_MacroExpandModel_isToken 42 = .ok (.iconst 0, 1) := by decide +kernel
theorem d_MacroExpandModel_isToken_43 : decode b_MacroExpandModel_isToken 43 = .ok (.ireturn, 1) := by decide +kernel
theorem d_MacroExpandModel_newMacro_0 : decode b_MacroExpandModel_newMacro 0 = .ok (.aload_n 0, 1) := by decide +kernel
theorem d_MacroExpandModel_newMacro_1 : decode b_MacroExpandModel_newMacro 1 = .ok (.getfield 94, 3) := by decide +kernel
theorem d_MacroExpandModel_newMacro_4 : decode b_MacroExpandModel_newMacro 4 = .ok (.istore 4, 2) := by decide +kernel
theorem d_MacroExpandModel_newMacro_6 : decode b_MacroExpandModel_newMacro 6 = .ok (.aload_n 0, 1) := by decide +kernel
theorem d_MacroExpandModel_newMacro_7 : decode b_MacroExpandModel_newMacro 7 = .ok (.getfield 16, 3) := by decide +kernel
theorem d_MacroExpandModel_newMacro_10 : decode b_MacroExpandModel_newMacro 10 = .ok (.iload 4, 2) := by decide +kernel
theorem d_MacroExpandModel_newMacro_12 : decode b_MacroExpandModel_newMacro 12 = .ok (.iload_n 2, 1) := by decide +kernel
theorem d_MacroExpandModel_newMacro_13 : decode b_MacroExpandModel_newMacro 13 = .ok (.iastore, 1) := by decide +kernel
theorem d_MacroExpandModel_newMacro_14 : decode b_MacroExpandModel_newMacro 14 = .ok (.aload_n 0, 1) := by decide +kernel
theorem d_MacroExpandModel_newMacro_15 : decode b_MacroExpandModel_newMacro 15 = .ok (.getfield 19, 3) := by decide +kernel
theorem d_MacroExpandModel_newMacro_18 : decode b_MacroExpandModel_newMacro 18 = .ok (.iload 4, 2) := by decide +kernel
theorem d_MacroExpandModel_newMacro_20 : decode b_MacroExpandModel_newMacro 20 = .ok (.iload_n 3, 1) := by decide +kernel
theorem d_MacroExpandModel_newMacro_21 : decode b_MacroExpandModel_newMacro 21 = .ok (.iastore, 1) := by decide +kernel
theorem d_MacroExpandModel_newMacro_22 : decode b_MacroExpandModel_newMacro 22 = .ok (.aload_n 0, 1) := by decide +kernel
theorem d_MacroExpandModel_newMacro_23 : decode b_MacroExpandModel_newMacro 23 = .ok (.getfield 22, 3) := by decide +kernel
theorem d_MacroExpandModel_newMacro_26 : decode b_MacroExpandModel_newMacro 26 = .ok (.iload 4, 2) := by decide +kernel
theorem d_MacroExpandModel_newMacro_28 : decode b_MacroExpandModel_newMacro 28 = .ok (.iconst 0, 1) := by decide +kernel
theorem d_MacroExpandModel_newMacro_29 : decode b_MacroExpandModel_newMacro 29 = .ok (.iastore, 1) := by decide +kernel
theorem d_MacroExpandModel_newMacro_30 : decode b_MacroExpandModel_newMacro 30 = .ok (.iconst 0, 1) := by decide +kernel
theorem d_MacroExpandModel_newMacro_31 : decode b_MacroExpandModel_newMacro 31 = .ok (.istore 5, 2) := by decide +kernel
theorem d_MacroExpandModel_newMacro_33 : decode b_MacroExpandModel_newMacro 33 = .ok (.iload 5, 2) := by decide +kernel
theorem d_MacroExpandModel_newMacro_35 : decode b_MacroExpandModel_newMacro 35 = .ok (.bipush 10, 2) := by decide +kernel
theorem d_MacroExpandModel_newMacro_37 : decode b_MacroExpandModel_newMacro 37 = .ok (.if_icmp .ge 23, 3) := by decide +kernel
theorem d_MacroExpandModel_newMacro_40 : decode b_MacroExpandModel_newMacro 40 = .ok (.aload_n 0, 1) := by decide +kernel
theorem d_MacroExpandModel_newMacro_41 : decode b_MacroExpandModel_newMacro 41 = .ok (.getfield 28, 3) := by decide +kernel
theorem d_MacroExpandModel_newMacro_44 : decode b_MacroExpandModel_newMacro 44 = .ok (.bipush 10, 2) := by decide +kernel
theorem d_MacroExpandModel_newMacro_46 : decode b_MacroExpandModel_newMacro 46 = .ok (.iload 4, 2) := by decide +kernel
theorem d_MacroExpandModel_newMacro_48 : decode b_MacroExpandModel_newMacro 48 = .ok (.imul, 1) := by decide +kernel
theorem d_MacroExpandModel_newMacro_49 : decode b_MacroExpandModel_newMacro 49 = .ok (.iload 5, 2) := by decide +kernel
theorem d_MacroExpandModel_newMacro_51 : decode b_MacroExpandModel_newMacro 51 = .ok (.iadd, 1) := by decide +kernel
theorem d_MacroExpandModel_newMacro_52 : decode b_MacroExpandModel_newMacro 52 = .ok (.iconst 0, 1) := by decide +kernel
theorem d_MacroExpandModel_newMacro_53 : decode b_MacroExpandModel_newMacro 53 = .ok (.iastore, 1) := by decide +kernel
theorem d_MacroExpandModel_newMacro_54 : decode b_MacroExpandModel_newMacro 54 = .ok (.iinc 5 1, 3) := by decide +kernel
theorem d_MacroExpandModel_newMacro_57 : decode b_MacroExpandModel_newMacro 57 = .ok (.goto (-24), 3) := by decide +kernel
theorem d_MacroExpandModel_newMacro_60 : decode b_MacroExpandModel_newMacro 60 = .ok (.aload_n 0, 1) := by decide +kernel
theorem d_MacroExpandModel_newMacro_61 : decode b_MacroExpandModel_newMacro 61 = .ok (.dup, 1) := by decide +kernel
theorem d_MacroExpandModel_newMacro_62 : decode b_MacroExpandModel_newMacro 62 = .ok (.getfield 94, 3) := by decide +kernel
theorem d_MacroExpandModel_newMacro_65 : decode b_MacroExpandModel_newMacro 65 = .ok (.iconst 1, 1) := by decide +kernel
theorem d_MacroExpandModel_newMacro_66 : decode b_MacroExpandModel_newMacro 66 = .ok (.iadd, 1) := by decide +kernel
theorem d_MacroExpandModel_newMacro_67 : decode b_MacroExpandModel_newMacro 67 = .ok (.putfield 94, 3) := by decide +kernel
theorem d_MacroExpandModel_newMacro_70 : decode b_MacroExpandModel_newMacro 70 = .ok (.aload_n 0, 1) := by decide +kernel
theorem d_MacroExpandModel_newMacro_71 : decode b_MacroExpandModel_newMacro 71 = .ok (.getfield 35, 3) := by decide +kernel
theorem d_MacroExpandModel_newMacro_74 : decode b_MacroExpandModel_newMacro 74 = .ok (.iload_n 1, 1) := by decide +kernel
theorem d_MacroExpandModel_newMacro_75 : decode b_MacroExpandModel_newMacro 75 = .ok (.iload 4, 2) := by decide +kernel
theorem d_MacroExpandModel_newMacro_77 : decode b_MacroExpandModel_newMacro 77 = .ok (.iastore, 1) := by decide +kernel
theorem d_MacroExpandModel_newMacro_78 : decode b_MacroExpandModel_newMacro 78 = .ok (.iconst 0, 1) := by decide +kernel
theorem d_MacroExpandModel_newMacro_79 : decode b_MacroExpandModel_newMacro 79 = .ok (.istore 5, 2) := by decide +kernel
theorem d_MacroExpandModel_newMacro_81 : decode b_MacroExpandModel_newMacro 81 = .ok (.iload 5, 2) := by decide +kernel
theorem d_MacroExpandModel_newMacro_83 : decode b_MacroExpandModel_newMacro 83 = .ok (.aload_n 0, 1) := by decide +kernel
theorem d_MacroExpandModel_newMacro_84 : decode b_MacroExpandModel_newMacro 84 = .ok (.getfield 97, 3) := by decide +kernel
theorem d_MacroExpandModel_newMacro_87 : decode b_MacroExpandModel_newMacro 87 = .ok (.if_icmp .ge 30, 3) := by decide +kernel
theorem d_MacroExpandModel_newMacro_90 : decode b_MacroExpandModel_newMacro 90 = .ok (.iload_n 3, 1) := by decide +kernel
theorem d_MacroExpandModel_newMacro_91 : decode b_MacroExpandModel_newMacro 91 = .ok (.iconst 4, 1) := by decide +kernel
theorem d_MacroExpandModel_newMacro_92 : decode b_MacroExpandModel_newMacro 92 = .ok (.iand, 1) := by decide +kernel
theorem d_MacroExpandModel_newMacro_93 : decode b_MacroExpandModel_newMacro 93 = .ok (.ifCond .eq 24, 3) := by decide +kernel
theorem d_MacroExpandModel_newMacro_96 : decode b_MacroExpandModel_newMacro 96 = .ok (.aload_n 0, 1) := by decide +kernel
theorem d_MacroExpandModel_newMacro_97 : decode b_MacroExpandModel_newMacro 97 = .ok (.getfield 38, 3) := by decide +kernel
theorem d_MacroExpandModel_newMacro_100 : decode b_MacroExpandModel_newMacro 100 = .ok (.sipush 200, 3) := by decide +kernel
theorem d_MacroExpandModel_newMacro_103 : decode b_MacroExpandModel_newMacro 103 = .ok (.iload 5, 2) := by decide +kernel
theorem d_MacroExpandModel_newMacro_105 : decode b_MacroExpandModel_newMacro 105 = .ok (.imul, 1) := by decide +kernel
theorem d_MacroExpandModel_newMacro_106 : decode b_MacroExpandModel_newMacro 106 = .ok (.iload_n 1, 1) := by decide +kernel
theorem d_MacroExpandModel_newMacro_107 : decode b_MacroExpandModel_newMacro 107 = .ok (.iadd, 1) := by decide +kernel
theorem d_MacroExpandModel_newMacro_108 : decode b_MacroExpandModel_newMacro 108 = .ok (.iload 4, 2) := by decide +kernel
theorem d_MacroExpandModel_newMacro_110 : decode b_MacroExpandModel_newMacro 110 = .ok (.iastore, 1) := by decide +kernel
theorem d_MacroExpandModel_newMacro_111 : decode b_MacroExpandModel_newMacro 111 = .ok (.iinc 5 1, 3) := by decide +kernel
theorem d_MacroExpandModel_newMacro_114 : decode b_MacroExpandModel_newMacro 114 = .ok (.goto (-33), 3) := by decide +kernel
theorem d_MacroExpandModel_newMacro_117 : decode b_MacroExpandModel_newMacro 117 = .ok (.iload 4, 2) := by decide +kernel
theorem d_MacroExpandModel_newMacro_119 : decode b_MacroExpandModel_newMacro 119 = .ok (.ireturn, 1) := by decide +kernel
theorem d_MacroExpandModel_define_0 : decode b_MacroExpandModel_define 0 = .ok (.iload_n 1, 1) := by decide +kernel
theorem d_MacroExpandModel_define_1 : decode b_MacroExpandModel_define 1 = .ok (.iconst 0, 1) := by decide +kernel
theorem d_MacroExpandModel_define_2 : decode b_MacroExpandModel_define 2 = .ok (.sipush 199, 3) := by decide +kernel
theorem d_MacroExpandModel_define_5 : decode b_MacroExpandModel_define 5 = .ok (.invokestatic 83, 3) := by decide +kernel
theorem d_MacroExpandModel_define_8 : decode b_MacroExpandModel_define 8 = .ok (.ifCond .eq 23, 3) := by decide +kernel
theorem d_MacroExpandModel_define_11 : decode b_MacroExpandModel_define 11 = .ok (.iload_n 2, 1) := by decide +kernel
theorem d_MacroExpandModel_define_12 : decode b_MacroExpandModel_define 12 = .ok (.iconst 0, 1) := by decide +kernel
theorem d_MacroExpandModel_define_13 : decode b_MacroExpandModel_define 13 = .ok (.bipush 9, 2) := by decide +kernel
theorem d_MacroExpandModel_define_15 : decode b_MacroExpandModel_define 15 = .ok (.invokestatic 83, 3) := by decide +kernel
theorem d_MacroExpandModel_define_18 : decode b_MacroExpandModel_define 18 = .ok (.ifCond .eq 13, 3) := by decide +kernel
theorem d_MacroExpandModel_define_21 : decode b_MacroExpandModel_define 21 = .ok (.iload_n 3, 1) := by decide +kernel
theorem d_MacroExpandModel_define_22 : decode b_MacroExpandModel_define 22 = .ok (.iconst 0, 1) := by decide +kernel
theorem d_MacroExpandModel_define_23 : decode b_MacroExpandModel_define 23 = .ok (.bipush 7, 2) := by decide +kernel
theorem d_MacroExpandModel_define_25 : decode b_MacroExpandModel_define 25 = .ok (.invokestatic 83, 3) := by decide +kernel
theorem d_MacroExpandModel_define_28 : decode b_MacroExpandModel_define 28 = .ok (.ifCond .ne 6, 3) := by decide +kernel
theorem d_MacroExpandModel_define_31 : decode b_MacroExpandModel_define 31 = .ok (.bipush (-2), 2) := by decide +kernel
theorem d_MacroExpandModel_define_33 : decode b_MacroExpandModel_define 33 = .ok (.ireturn, 1) := by decide +kernel
theorem d_MacroExpandModel_define_34 : decode b_MacroExpandModel_define 34 = .ok (.aload_n 0, 1) := by decide +kernel
theorem d_MacroExpandModel_define_35 : decode b_MacroExpandModel_define 35 = .ok (.getfield 94, 3) := by decide +kernel
theorem d_MacroExpandModel_define_38 : decode b_MacroExpandModel_define 38 = .ok (.bipush 100, 2) := by decide +kernel
theorem d_MacroExpandModel_define_40 : decode b_MacroExpandModel_define 40 = .ok (.if_icmp .ne 8, 3) := by decide +kernel
theorem d_MacroExpandModel_define_43 : decode b_MacroExpandModel_define 43 = .ok (.bipush (-4), 2) := by decide +kernel
theorem d_MacroExpandModel_define_45 : decode b_MacroExpandModel_define 45 = .ok (.goto 10, 3) := by decide +kernel
theorem d_MacroExpandModel_define_48 : decode b_MacroExpandModel_define 48 = .ok (.aload_n 0, 1) := by decide +kernel
theorem d_MacroExpandModel_define_49 : decode b_MacroExpandModel_define 49 = .ok (.iload_n 1, 1) := by decide +kernel
theorem d_MacroExpandModel_define_50 : decode b_MacroExpandModel_define 50 = .ok (.iload_n 2, 1) := by decide +kernel
theorem d_MacroExpandModel_define_51 : decode b_MacroExpandModel_define 51 = .ok (.iload_n 3, 1) := by decide +kernel
theorem d_MacroExpandModel_define_52 : decode b_MacroExpandModel_define 52 = .ok (.invokevirtual 100, 3) := by decide +kernel
theorem d_MacroExpandModel_define_55 : decode b_MacroExpandModel_define 55 = .ok (.ireturn, 1) := by decide +kernel
theorem d_MacroExpandModel_body_0 : decode b_MacroExpandModel_body 0 = .ok (.iload_n 1, 1) := by decide +kernel
theorem d_MacroExpandModel_body_1 : decode b_MacroExpandModel_body 1 = .ok (.iconst 0, 1) := by decide +kernel
theorem d_MacroExpandModel_body_2 : decode b_MacroExpandModel_body 2 = .ok (.aload_n 0, 1) := by decide +kernel
theorem d_MacroExpandModel_body_3 : decode b_MacroExpandModel_body 3 = .ok (.getfield 94, 3) := by decide +kernel
theorem d_MacroExpandModel_body_6 : decode b_MacroExpandModel_body 6 = .ok (.iconst 1, 1) := by decide +kernel
theorem d_MacroExpandModel_body_7 : decode b_MacroExpandModel_body 7 = .ok (.isub, 1) := by decide +kernel
theorem d_MacroExpandModel_body_8 : decode b_MacroExpandModel_body 8 = .ok (.invokestatic 83, 3) := by decide +kernel
theorem d_MacroExpandModel_body_11 : decode b_MacroExpandModel_body 11 = .ok (.ifCond .ne 5, 3) := by decide +kernel
theorem d_MacroExpandModel_body_14 : decode b_MacroExpandModel_body 14 = .ok (.iconst (-1), 1) := by decide +kernel
theorem d_MacroExpandModel_body_15 : decode b_MacroExpandModel_body 15 = .ok (.ireturn, 1) := by decide +kernel
theorem d_MacroExpandModel_body_16 : decode b_MacroExpandModel_body 16 = .ok (.iload_n 2, 1) := by decide +kernel
theorem d_MacroExpandModel_body_17 : decode b_MacroExpandModel_body 17 = .ok (.invokestatic 104, 3) := by decide +kernel
theorem d_MacroExpandModel_body_20 : decode b_MacroExpandModel_body 20 = .ok (.ifCond .ne 6, 3) := by decide +kernel
theorem d_MacroExpandModel_body_23 : decode b_MacroExpandModel_body 23 = .ok (.bipush (-2), 2) := by decide +kernel
theorem d_MacroExpandModel_body_25 : decode b_MacroExpandModel_body 25 = .ok (.ireturn, 1) := by decide +kernel
theorem d_MacroExpandModel_body_26 : decode b_MacroExpandModel_body 26 = .ok (.aload_n 0, 1) := by decide +kernel
theorem d_MacroExpandModel_body_27 : decode b_MacroExpandModel_body 27 = .ok (.getfield 22, 3) := by decide +kernel
theorem d_MacroExpandModel_body_30 : decode b_MacroExpandModel_body 30 = .ok (.iload_n 1, 1) := by decide +kernel
theorem d_MacroExpandModel_body_31 : decode b_MacroExpandModel_body 31 = .ok (.iaload, 1) := by decide +kernel
theorem d_MacroExpandModel_body_32 : decode b_MacroExpandModel_body 32 = .ok (.sipush 200, 3) := by decide +kernel
theorem d_MacroExpandModel_body_35 : decode b_MacroExpandModel_body 35 = .ok (.if_icmp .ne 6, 3) := by decide +kernel
theorem d_MacroExpandModel_body_38 : decode b_MacroExpandModel_body 38 = .ok (.bipush (-4), 2) := by decide +kernel
theorem d_MacroExpandModel_body_40 : decode b_MacroExpandModel_body 40 = .ok (.ireturn, 1) := by decide +kernel
theorem d_MacroExpandModel_body_41 : decode b_MacroExpandModel_body 41 = .ok (.aload_n 0, 1) := by decide +kernel
theorem d_MacroExpandModel_body_42 : decode b_MacroExpandModel_body 42 = .ok (.getfield 25, 3) := by decide +kernel
theorem d_MacroExpandModel_body_45 : decode b_MacroExpandModel_body 45 = .ok (.sipush 200, 3) := by decide +kernel
theorem d_MacroExpandModel_body_48 : decode b_MacroExpandModel_body 48 = .ok (.iload_n 1, 1) := by decide +kernel
theorem d_MacroExpandModel_body_49 : decode b_MacroExpandModel_body 49 = .ok (.imul, 1) := by decide +kernel
theorem d_MacroExpandModel_body_50 : decode b_MacroExpandModel_body 50 = .ok (.aload_n 0, 1) := by decide +kernel
theorem d_MacroExpandModel_body_51 : decode b_MacroExpandModel_body 51 = .ok (.getfield 22, 3) := by decide +kernel
theorem d_MacroExpandModel_body_54 : decode b_MacroExpandModel_body 54 = .ok (.iload_n 1, 1) := by decide +kernel
theorem d_MacroExpandModel_body_55 : decode b_MacroExpandModel_body 55 = .ok (.iaload, 1) := by decide +kernel
theorem d_MacroExpandModel_body_56 : decode b_MacroExpandModel_body 56 = .ok (.iadd, 1) := by decide +kernel
theorem d_MacroExpandModel_body_57 : decode b_MacroExpandModel_body 57 = .ok (.iload_n 2, 1) := by decide +kernel
theorem d_MacroExpandModel_body_58 : decode b_MacroExpandModel_body 58 = .ok (.iastore, 1) := by decide +kernel
theorem d_MacroExpandModel_body_59 : decode b_MacroExpandModel_body 59 = .ok (.aload_n 0, 1) := by decide +kernel
theorem d_MacroExpandModel_body_60 : decode b_MacroExpandModel_body 60 = .ok (.getfield 22, 3) := by decide +kernel
theorem d_MacroExpandModel_body_63 : decode b_MacroExpandModel_body 63 = .ok (.iload_n 1, 1) := by decide +kernel
theorem d_MacroExpandModel_body_64 : decode b_MacroExpandModel_body 64 = .ok (.dup2, 1) := by decide +kernel
theorem d_MacroExpandModel_body_65 : decode b_MacroExpandModel_body 65 = .ok (.iaload, 1) := by decide +kernel
theorem d_MacroExpandModel_body_66 : decode b_MacroExpandModel_body 66 = .ok (.iconst 1, 1) := by decide +kernel
theorem d_MacroExpandModel_body_67 : decode b_MacroExpandModel_body 67 = .ok (.iadd, 1) := by decide +kernel
theorem d_MacroExpandModel_body_68 : decode b_MacroExpandModel_body 68 = .ok (.iastore, 1) := by decide +kernel
theorem d_MacroExpandModel_body_69 : decode b_MacroExpandModel_body 69 = .ok (.aload_n 0, 1) := by decide +kernel
theorem d_MacroExpandModel_body_70 : decode b_MacroExpandModel_body 70 = .ok (.getfield 22, 3) := by decide +kernel
theorem d_MacroExpandModel_body_73 : decode b_MacroExpandModel_body 73 = .ok (.iload_n 1, 1) := by decide +kernel
theorem d_MacroExpandModel_body_74 : decode b_MacroExpandModel_body 74 = .ok (.iaload, 1) := by decide +kernel
theorem d_MacroExpandModel_body_75 : decode b_MacroExpandModel_body 75 = .ok (.ireturn, 1) := by decide +kernel
theorem d_MacroExpandModel_delimiter_0 : decode b_MacroExpandModel_delimiter 0 = .ok (.iload_n 1, 1) := by decide +kernel
theorem d_MacroExpandModel_delimiter_1 : decode b_MacroExpandModel_delimiter 1 = .ok (.iconst 0, 1) := by decide +kernel
theorem d_MacroExpandModel_delimiter_2 : decode b_MacroExpandModel_delimiter 2 = .ok (.aload_n 0, 1) := by decide +kernel
theorem d_MacroExpandModel_delimiter_3 : decode b_MacroExpandModel_delimiter 3 = .ok (.getfield 94, 3) := by decide +kernel
theorem d_MacroExpandModel_delimiter_6 : decode b_MacroExpandModel_delimiter 6 = .ok (.iconst 1, 1) := by decide +kernel
theorem d_MacroExpandModel_delimiter_7 : decode b_MacroExpandModel_delimiter 7 = .ok (.isub, 1) := by decide +kernel
theorem d_MacroExpandModel_delimiter_8 : decode b_MacroExpandModel_delimiter 8 = .ok (.invokestatic 83, 3) := by decide +kernel
theorem d_MacroExpandModel_delimiter_11 : decode b_MacroExpandModel_delimiter 11 = .ok (.ifCond .ne 5, 3) := by decide +kernel
theorem d_MacroExpandModel_delimiter_14 : decode b_MacroExpandModel_delimiter 14 = .ok (.iconst (-1), 1) := by decide +kernel
theorem d_MacroExpandModel_delimiter_15 : decode b_MacroExpandModel_delimiter 15 = .ok (.ireturn, 1) := by decide +kernel
theorem d_MacroExpandModel_delimiter_16 : decode b_MacroExpandModel_delimiter 16 = .ok (.iload_n 2, 1) := by decide +kernel
theorem d_MacroExpandModel_delimiter_17 : decode b_MacroExpandModel_delimiter 17 = .ok (.iconst 0, 1) := by decide +kernel
theorem d_MacroExpandModel_delimiter_18 : decode b_MacroExpandModel_delimiter 18 = .ok (.aload_n 0, 1) := by decide +kernel
theorem d_MacroExpandModel_delimiter_19 : decode b_MacroExpandModel_delimiter 19 = .ok (.getfield 16, 3) := by decide +kernel
theorem d_MacroExpandModel_delimiter_22 : decode b_MacroExpandModel_delimiter 22 = .ok (.iload_n 1, 1) := by decide +kernel
theorem d_MacroExpandModel_delimiter_23 : decode b_MacroExpandModel_delimiter 23 = .ok (.iaload, 1) := by decide +kernel
theorem d_MacroExpandModel_delimiter_24 : decode b_MacroExpandModel_delimiter 24 = .ok (.invokestatic 83, 3) := by decide +kernel
theorem d_MacroExpandModel_delimiter_27 : decode b_MacroExpandModel_delimiter 27 = .ok (.ifCond .eq 31, 3) := by decide +kernel
theorem d_MacroExpandModel_delimiter_30 : decode b_MacroExpandModel_delimiter 30 = .ok (.iload_n 3, 1) := by decide +kernel
theorem d_MacroExpandModel_delimiter_31 : decode b_MacroExpandModel_delimiter 31 = .ok (.invokestatic 104, 3) := by decide +kernel
theorem d_MacroExpandModel_delimiter_34 : decode b_MacroExpandModel_delimiter 34 = .ok (.ifCond .eq 24, 3) := by decide +kernel
theorem d_MacroExpandModel_delimiter_37 : decode b_MacroExpandModel_delimiter 37 = .ok (.iload_n 3, 1) := by decide +kernel
theorem d_MacroExpandModel_delimiter_38 : decode b_MacroExpandModel_delimiter 38 = .ok (.sipush 257, 3) := by decide +kernel
theorem d_MacroExpandModel_delimiter_41 : decode b_MacroExpandModel_delimiter 41 = .ok (.if_icmp .eq 17, 3) := by decide +kernel
theorem d_MacroExpandModel_delimiter_44 : decode b_MacroExpandModel_delimiter 44 = .ok (.iload_n 3, 1) := by decide +kernel
theorem d_MacroExpandModel_delimiter_45 : decode b_MacroExpandModel_delimiter 45 = .ok (.sipush 258, 3) := by decide +kernel
theorem d_MacroExpandModel_delimiter_48 : decode b_MacroExpandModel_delimiter 48 = .ok (.if_icmp .eq 10, 3) := by decide +kernel
theorem d_MacroExpandModel_delimiter_51 : decode b_MacroExpandModel_delimiter 51 = .ok (.iload_n 3, 1) := by decide +kernel
theorem d_MacroExpandModel_delimiter_52 : decode b_MacroExpandModel_delimiter 52 = .ok (.invokestatic 87, 3) := by decide +kernel
theorem d_MacroExpandModel_delimiter_55 : decode b_MacroExpandModel_delimiter 55 = .ok (.ifCond .eq 6, 3) := by decide +kernel
theorem d_MacroExpandModel_delimiter_58 : decode b_MacroExpandModel_delimiter 58 = .ok (.bipush (-2), 2) := by decide +kernel
theorem d_MacroExpandModel_delimiter_60 : decode b_MacroExpandModel_delimiter 60 = .ok (.ireturn, 1) := by decide +kernel
theorem d_MacroExpandModel_delimiter_61 : decode b_MacroExpandModel_delimiter 61 = .ok (.bipush 10, 2) := by decide +kernel
theorem d_MacroExpandModel_delimiter_63 : decode b_MacroExpandModel_delimiter 63 = .ok (.iload_n 1, 1) := by decide +kernel
theorem d_MacroExpandModel_delimiter_64 : decode b_MacroExpandModel_delimiter 64 = .ok (.imul, 1) := by decide +kernel
theorem d_MacroExpandModel_delimiter_65 : decode b_MacroExpandModel_delimiter 65 = .ok (.iload_n 2, 1) := by decide +kernel
theorem d_MacroExpandModel_delimiter_66 : decode b_MacroExpandModel_delimiter 66 = .ok (.iadd, 1) := by decide +kernel
theorem d_MacroExpandModel_delimiter_67 : decode b_MacroExpandModel_delimiter 67 = .ok (.istore 4, 2) := by decide +kernel
theorem d_MacroExpandModel_delimiter_69 : decode b_MacroExpandModel_delimiter 69 = .ok (.aload_n 0, 1) := by decide +kernel
theorem d_MacroExpandModel_delimiter_70 : decode b_MacroExpandModel_delimiter 70 = .ok (.getfield 28, 3) := by decide +kernel
theorem d_MacroExpandModel_delimiter_73 : decode b_MacroExpandModel_delimiter 73 = .ok (.iload 4, 2) := by decide +kernel
theorem d_MacroExpandModel_delimiter_75 : decode b_MacroExpandModel_delimiter 75 = .ok (.iaload, 1) := by decide +kernel
theorem d_MacroExpandModel_delimiter_76 : decode b_MacroExpandModel_delimiter 76 = .ok (.sipush 200, 3) := by decide +kernel
theorem d_MacroExpandModel_delimiter_79 : decode b_MacroExpandModel_delimiter 79 = .ok (.if_icmp .ne 6, 3) := by decide +kernel
theorem d_MacroExpandModel_delimiter_82 : decode b_MacroExpandModel_delimiter 82 = .ok (.bipush (-4), 2) := by decide +kernel
theorem d_MacroExpandModel_delimiter_84 : decode b_MacroExpandModel_delimiter 84 = .ok (.ireturn, 1) := by decide +kernel
theorem d_MacroExpandModel_delimiter_85 : decode b_MacroExpandModel_delimiter 85 = .ok (.aload_n 0, 1) := by decide +kernel
theorem d_MacroExpandModel_delimiter_86 : decode b_MacroExpandModel_delimiter 86 = .ok (.getfield 32, 3) := by decide +kernel
theorem d_MacroExpandModel_delimiter_89 : decode b_MacroExpandModel_delimiter 89 = .ok (.sipush 200, 3) := by decide +kernel
theorem d_MacroExpandModel_delimiter_92 : decode b_MacroExpandModel_delimiter 92 = .ok (.iload 4, 2) := by decide +kernel
theorem d_MacroExpandModel_delimiter_94 : decode b_MacroExpandModel_delimiter 94 = .ok (.imul, 1) := by decide +kernel
theorem d_MacroExpandModel_delimiter_95 : decode b_MacroExpandModel_delimiter 95 = .ok (.aload_n 0, 1) := by decide +kernel
theorem d_MacroExpandModel_delimiter_96 : decode b_MacroExpandModel_delimiter 96 = .ok (.getfield 28, 3) := by decide +kernel
theorem d_MacroExpandModel_delimiter_99 : decode b_MacroExpandModel_delimiter 99 = .ok (.iload 4, 2) := by decide +kernel
theorem d_MacroExpandModel_delimiter_101 : decode b_MacroExpandModel_delimiter 101 = .ok (.iaload, 1) := by decide +kernel
theorem d_MacroExpandModel_delimiter_102 : decode b_MacroExpandModel_delimiter 102 = .ok (.iadd, 1) := by decide +kernel
theorem d_MacroExpandModel_delimiter_103 : decode b_MacroExpandModel_delimiter 103 = .ok (.iload_n 3, 1) := by decide +kernel
theorem d_MacroExpandModel_delimiter_104 : decode b_MacroExpandModel_delimiter 104 = .ok (.iastore, 1) := by decide +kernel
theorem d_MacroExpandModel_delimiter_105 : decode b_MacroExpandModel_delimiter 105 = .ok (.aload_n 0, 1) := by decide +kernel
theorem d_MacroExpandModel_delimiter_106 : decode b_MacroExpandModel_delimiter 106 = .ok (.getfield 28, 3) := by decide +kernel
theorem d_MacroExpandModel_delimiter_109 : decode b_MacroExpandModel_delimiter 109 = .ok (.iload 4, 2) := by decide +kernel
theorem d_MacroExpandModel_delimiter_111 : decode b_MacroExpandModel_delimiter 111 = .ok (.dup2, 1) := by decide +kernel
theorem d_MacroExpandModel_delimiter_112 : decode b_MacroExpandModel_delimiter 112 = .ok (.iaload, 1) := by decide +kernel
theorem d_MacroExpandModel_delimiter_113 : decode b_MacroExpandModel_delimiter 113 = .ok (.iconst 1, 1) := by decide +kernel
theorem d_MacroExpandModel_delimiter_114 : decode b_MacroExpandModel_delimiter 114 = .ok (.iadd, 1) := by decide +kernel
theorem d_MacroExpandModel_delimiter_115 : decode b_MacroExpandModel_delimiter 115 = .ok (.iastore, 1) := by decide +kernel
theorem d_MacroExpandModel_delimiter_116 : decode b_MacroExpandModel_delimiter 116 = .ok (.aload_n 0, 1) := by decide +kernel
theorem d_MacroExpandModel_delimiter_117 : decode b_MacroExpandModel_delimiter 117 = .ok (.getfield 28, 3) := by decide +kernel
theorem d_MacroExpandModel_delimiter_120 : decode b_MacroExpandModel_delimiter 120 = .ok (.iload 4, 2) := by decide +kernel
theorem d_MacroExpandModel_delimiter_122 : decode b_MacroExpandModel_delimiter 122 = .ok (.iaload, 1) := by decide +kernel
theorem d_MacroExpandModel_delimiter_123 : decode b_MacroExpandModel_delimiter 123 = .ok (.ireturn, 1) := by decide +kernel
