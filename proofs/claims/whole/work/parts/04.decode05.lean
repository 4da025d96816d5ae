theorem d_MacroExpandModel_expandAt_0 : decode b_MacroExpandModel_expandAt 0 = .ok (.aload_n 0, 1) := by decide +kernel
theorem d_MacroExpandModel_expandAt_1 : decode b_MacroExpandModel_expandAt 1 = .ok (.iconst 0, 1) := by decide +kernel
theorem d_MacroExpandModel_expandAt_2 : decode b_MacroExpandModel_expandAt 2 = .ok (.putfield 139, 3) := by decide +kernel
theorem d_MacroExpandModel_expandAt_5 : decode b_MacroExpandModel_expandAt 5 = .ok (.aload_n 0, 1) := by decide +kernel
theorem d_MacroExpandModel_expandAt_6 : decode b_MacroExpandModel_expandAt 6 = .ok (.iload_n 1, 1) := by decide +kernel
theorem d_MacroExpandModel_expandAt_7 : decode b_MacroExpandModel_expandAt 7 = .ok (.invokevirtual 191, 3) := by decide +kernel
theorem d_MacroExpandModel_expandAt_10 : decode b_MacroExpandModel_expandAt 10 = .ok (.aload_n 0, 1) := by decide +kernel
theorem d_MacroExpandModel_expandAt_11 : decode b_MacroExpandModel_expandAt 11 = .ok (.getfield 139, 3) := by decide +kernel
theorem d_MacroExpandModel_expandAt_14 : decode b_MacroExpandModel_expandAt 14 = .ok (.ifCond .le 17, 3) := by decide +kernel
theorem d_MacroExpandModel_expandAt_17 : decode b_MacroExpandModel_expandAt 17 = .ok (.aload_n 0, 1) := by decide +kernel
theorem d_MacroExpandModel_expandAt_18 : decode b_MacroExpandModel_expandAt 18 = .ok (.getfield 113, 3) := by decide +kernel
theorem d_MacroExpandModel_expandAt_21 : decode b_MacroExpandModel_expandAt 21 = .ok (.ifCond .ne 10, 3) := by decide +kernel
theorem d_MacroExpandModel_expandAt_24 : decode b_MacroExpandModel_expandAt 24 = .ok (.aload_n 0, 1) := by decide +kernel
theorem d_MacroExpandModel_expandAt_25 : decode b_MacroExpandModel_expandAt 25 = .ok (.invokevirtual 198, 3) := by decide +kernel
theorem d_MacroExpandModel_expandAt_28 : decode b_MacroExpandModel_expandAt 28 = .ok (.goto (-18), 3) := by decide +kernel
theorem d_MacroExpandModel_expandAt_31 : decode b_MacroExpandModel_expandAt 31 = .ok (.return_, 1) := by decide +kernel
theorem d_MacroExpandModel_begin_0 : decode b_MacroExpandModel_begin 0 = .ok (.aload_n 0, 1) := by decide +kernel
theorem d_MacroExpandModel_begin_1 : decode b_MacroExpandModel_begin 1 = .ok (.iconst 0, 1) := by decide +kernel
theorem d_MacroExpandModel_begin_2 : decode b_MacroExpandModel_begin 2 = .ok (.putfield 113, 3) := by decide +kernel
theorem d_MacroExpandModel_begin_5 : decode b_MacroExpandModel_begin 5 = .ok (.aload_n 0, 1) := by decide +kernel
theorem d_MacroExpandModel_begin_6 : decode b_MacroExpandModel_begin 6 = .ok (.iconst 0, 1) := by decide +kernel
theorem d_MacroExpandModel_begin_7 : decode b_MacroExpandModel_begin 7 = .ok (.putfield 142, 3) := by decide +kernel
theorem d_MacroExpandModel_begin_10 : decode b_MacroExpandModel_begin 10 = .ok (.aload_n 0, 1) := by decide +kernel
theorem d_MacroExpandModel_begin_11 : decode b_MacroExpandModel_begin 11 = .ok (.iconst 0, 1) := by decide +kernel
theorem d_MacroExpandModel_begin_12 : decode b_MacroExpandModel_begin 12 = .ok (.putfield 175, 3) := by decide +kernel
theorem d_MacroExpandModel_begin_15 : decode b_MacroExpandModel_begin 15 = .ok (.aload_n 0, 1) := by decide +kernel
theorem d_MacroExpandModel_begin_16 : decode b_MacroExpandModel_begin 16 = .ok (.iconst 0, 1) := by decide +kernel
theorem d_MacroExpandModel_begin_17 : decode b_MacroExpandModel_begin 17 = .ok (.putfield 178, 3) := by decide +kernel
theorem d_MacroExpandModel_begin_20 : decode b_MacroExpandModel_begin 20 = .ok (.aload_n 0, 1) := by decide +kernel
theorem d_MacroExpandModel_begin_21 : decode b_MacroExpandModel_begin 21 = .ok (.iconst 0, 1) := by decide +kernel
theorem d_MacroExpandModel_begin_22 : decode b_MacroExpandModel_begin 22 = .ok (.putfield 169, 3) := by decide +kernel
theorem d_MacroExpandModel_begin_25 : decode b_MacroExpandModel_begin 25 = .ok (.aload_n 0, 1) := by decide +kernel
theorem d_MacroExpandModel_begin_26 : decode b_MacroExpandModel_begin 26 = .ok (.iconst 0, 1) := by decide +kernel
theorem d_MacroExpandModel_begin_27 : decode b_MacroExpandModel_begin 27 = .ok (.putfield 201, 3) := by decide +kernel
theorem d_MacroExpandModel_begin_30 : decode b_MacroExpandModel_begin 30 = .ok (.aload_n 0, 1) := by decide +kernel
theorem d_MacroExpandModel_begin_31 : decode b_MacroExpandModel_begin 31 = .ok (.iconst (-1), 1) := by decide +kernel
theorem d_MacroExpandModel_begin_32 : decode b_MacroExpandModel_begin 32 = .ok (.putfield 204, 3) := by decide +kernel
theorem d_MacroExpandModel_begin_35 : decode b_MacroExpandModel_begin 35 = .ok (.return_, 1) := by decide +kernel
theorem d_MacroExpandModel_defines_0 : decode b_MacroExpandModel_defines 0 = .ok (.aload_n 0, 1) := by decide +kernel
theorem d_MacroExpandModel_defines_1 : decode b_MacroExpandModel_defines 1 = .ok (.iconst 0, 1) := by decide +kernel
theorem d_MacroExpandModel_defines_2 : decode b_MacroExpandModel_defines 2 = .ok (.iconst 1, 1) := by decide +kernel
theorem d_MacroExpandModel_defines_3 : decode b_MacroExpandModel_defines 3 = .ok (.invokevirtual 160, 3) := by decide +kernel
theorem d_MacroExpandModel_defines_6 : decode b_MacroExpandModel_defines 6 = .ok (.aload_n 0, 1) := by decide +kernel
theorem d_MacroExpandModel_defines_7 : decode b_MacroExpandModel_defines 7 = .ok (.getfield 107, 3) := by decide +kernel
theorem d_MacroExpandModel_defines_10 : decode b_MacroExpandModel_defines 10 = .ok (.ifCond .ne 9, 3) := by decide +kernel
theorem d_MacroExpandModel_defines_13 : decode b_MacroExpandModel_defines 13 = .ok (.aload_n 0, 1) := by decide +kernel
theorem d_MacroExpandModel_defines_14 : decode b_MacroExpandModel_defines 14 = .ok (.iconst 1, 1) := by decide +kernel
theorem d_MacroExpandModel_defines_15 : decode b_MacroExpandModel_defines 15 = .ok (.invokevirtual 123, 3) := by decide +kernel
theorem d_MacroExpandModel_defines_18 : decode b_MacroExpandModel_defines 18 = .ok (.return_, 1) := by decide +kernel
theorem d_MacroExpandModel_defines_19 : decode b_MacroExpandModel_defines 19 = .ok (.aload_n 0, 1) := by decide +kernel
theorem d_MacroExpandModel_defines_20 : decode b_MacroExpandModel_defines 20 = .ok (.iconst 0, 1) := by decide +kernel
theorem d_MacroExpandModel_defines_21 : decode b_MacroExpandModel_defines 21 = .ok (.invokevirtual 116, 3) := by decide +kernel
theorem d_MacroExpandModel_defines_24 : decode b_MacroExpandModel_defines 24 = .ok (.invokestatic 91, 3) := by decide +kernel
theorem d_MacroExpandModel_defines_27 : decode b_MacroExpandModel_defines 27 = .ok (.ifCond .ne 10, 3) := by decide +kernel
theorem d_MacroExpandModel_defines_30 : decode b_MacroExpandModel_defines 30 = .ok (.aload_n 0, 1) := by decide +kernel
theorem d_MacroExpandModel_defines_31 : decode b_MacroExpandModel_defines 31 = .ok (.bipush 6, 2) := by decide +kernel
theorem d_MacroExpandModel_defines_33 : decode b_MacroExpandModel_defines 33 = .ok (.invokevirtual 123, 3) := by decide +kernel
theorem d_MacroExpandModel_defines_36 : decode b_MacroExpandModel_defines 36 = .ok (.return_, 1) := by decide +kernel
theorem d_MacroExpandModel_defines_37 : decode b_MacroExpandModel_defines 37 = .ok (.aload_n 0, 1) := by decide +kernel
theorem d_MacroExpandModel_defines_38 : decode b_MacroExpandModel_defines 38 = .ok (.aload_n 0, 1) := by decide +kernel
theorem d_MacroExpandModel_defines_39 : decode b_MacroExpandModel_defines 39 = .ok (.iconst 0, 1) := by decide +kernel
theorem d_MacroExpandModel_defines_40 : decode b_MacroExpandModel_defines 40 = .ok (.invokevirtual 116, 3) := by decide +kernel
theorem d_MacroExpandModel_defines_43 : decode b_MacroExpandModel_defines 43 = .ok (.putfield 142, 3) := by decide +kernel
theorem d_MacroExpandModel_defines_46 : decode b_MacroExpandModel_defines 46 = .ok (.aload_n 0, 1) := by decide +kernel
theorem d_MacroExpandModel_defines_47 : decode b_MacroExpandModel_defines 47 = .ok (.getfield 142, 3) := by decide +kernel
theorem d_MacroExpandModel_defines_50 : decode b_MacroExpandModel_defines 50 = .ok (.sipush 1000, 3) := by decide +kernel
theorem d_MacroExpandModel_defines_53 : decode b_MacroExpandModel_defines 53 = .ok (.isub, 1) := by decide +kernel
theorem d_MacroExpandModel_defines_54 : decode b_MacroExpandModel_defines 54 = .ok (.istore_n 2, 1) := by decide +kernel
theorem d_MacroExpandModel_defines_55 : decode b_MacroExpandModel_defines 55 = .ok (.aload_n 0, 1) := by decide +kernel
theorem d_MacroExpandModel_defines_56 : decode b_MacroExpandModel_defines 56 = .ok (.iconst 0, 1) := by decide +kernel
theorem d_MacroExpandModel_defines_57 : decode b_MacroExpandModel_defines 57 = .ok (.iconst 1, 1) := by decide +kernel
theorem d_MacroExpandModel_defines_58 : decode b_MacroExpandModel_defines 58 = .ok (.invokevirtual 160, 3) := by decide +kernel
theorem d_MacroExpandModel_defines_61 : decode b_MacroExpandModel_defines 61 = .ok (.iconst 0, 1) := by decide +kernel
theorem d_MacroExpandModel_defines_62 : decode b_MacroExpandModel_defines 62 = .ok (.istore_n 3, 1) := by decide +kernel
theorem d_MacroExpandModel_defines_63 : decode b_MacroExpandModel_defines 63 = .ok (.iload_n 3, 1) := by decide +kernel
theorem d_MacroExpandModel_defines_64 : decode b_MacroExpandModel_defines 64 = .ok (.bipush 10, 2) := by decide +kernel
theorem d_MacroExpandModel_defines_66 : decode b_MacroExpandModel_defines 66 = .ok (.if_icmp .ge 16, 3) := by decide +kernel
theorem d_MacroExpandModel_defines_69 : decode b_MacroExpandModel_defines 69 = .ok (.aload_n 0, 1) := by decide +kernel
theorem d_MacroExpandModel_defines_70 : decode b_MacroExpandModel_defines 70 = .ok (.getfield 71, 3) := by decide +kernel
theorem d_MacroExpandModel_defines_73 : decode b_MacroExpandModel_defines 73 = .ok (.iload_n 3, 1) := by decide +kernel
theorem d_MacroExpandModel_defines_74 : decode b_MacroExpandModel_defines 74 = .ok (.iconst 0, 1) := by decide +kernel
theorem d_MacroExpandModel_defines_75 : decode b_MacroExpandModel_defines 75 = .ok (.iastore, 1) := by decide +kernel
theorem d_MacroExpandModel_defines_76 : decode b_MacroExpandModel_defines 76 = .ok (.iinc 3 1, 3) := by decide +kernel
theorem d_MacroExpandModel_defines_79 : decode b_MacroExpandModel_defines 79 = .ok (.goto (-16), 3) := by decide +kernel
theorem d_MacroExpandModel_defines_82 : decode b_MacroExpandModel_defines 82 = .ok (.iconst 0, 1) := by decide +kernel
theorem d_MacroExpandModel_defines_83 : decode b_MacroExpandModel_defines 83 = .ok (.istore_n 3, 1) := by decide +kernel
theorem d_MacroExpandModel_defines_84 : decode b_MacroExpandModel_defines 84 = .ok (.iconst 0, 1) := by decide +kernel
theorem d_MacroExpandModel_defines_85 : decode b_MacroExpandModel_defines 85 = .ok (.istore 4, 2) := by decide +kernel
theorem d_MacroExpandModel_defines_87 : decode b_MacroExpandModel_defines 87 = .ok (.iconst 1, 1) := by decide +kernel
theorem d_MacroExpandModel_defines_88 : decode b_MacroExpandModel_defines 88 = .ok (.istore 5, 2) := by decide +kernel
theorem d_MacroExpandModel_defines_90 : decode b_MacroExpandModel_defines 90 = .ok (.iload 5, 2) := by decide +kernel
theorem d_MacroExpandModel_defines_92 : decode b_MacroExpandModel_defines 92 = .ok (.ifCond .eq 178, 3) := by decide +kernel
theorem d_MacroExpandModel_defines_95 : decode b_MacroExpandModel_defines 95 = .ok (.aload_n 0, 1) := by decide +kernel
theorem d_MacroExpandModel_defines_96 : decode b_MacroExpandModel_defines 96 = .ok (.getfield 113, 3) := by decide +kernel
theorem d_MacroExpandModel_defines_99 : decode b_MacroExpandModel_defines 99 = .ok (.ifCond .ne 171, 3) := by decide +kernel
theorem d_MacroExpandModel_defines_102 : decode b_MacroExpandModel_defines 102 = .ok (.aload_n 0, 1) := by decide +kernel
theorem d_MacroExpandModel_defines_103 : decode b_MacroExpandModel_defines 103 = .ok (.getfield 107, 3) := by decide +kernel
theorem d_MacroExpandModel_defines_106 : decode b_MacroExpandModel_defines 106 = .ok (.ifCond .le 11, 3) := by decide +kernel
theorem d_MacroExpandModel_defines_109 : decode b_MacroExpandModel_defines 109 = .ok (.aload_n 0, 1) := by decide +kernel
theorem d_MacroExpandModel_defines_110 : decode b_MacroExpandModel_defines 110 = .ok (.iconst 0, 1) := by decide +kernel
theorem d_MacroExpandModel_defines_111 : decode b_MacroExpandModel_defines 111 = .ok (.invokevirtual 116, 3) := by decide +kernel
theorem d_MacroExpandModel_defines_114 : decode b_MacroExpandModel_defines 114 = .ok (.goto 4, 3) := by decide +kernel
theorem d_MacroExpandModel_defines_117 : decode b_MacroExpandModel_defines 117 = .ok (.iconst (-1), 1) := by decide +kernel
theorem d_MacroExpandModel_defines_118 : decode b_MacroExpandModel_defines 118 = .ok (.istore 6, 2) := by decide +kernel
theorem d_MacroExpandModel_defines_120 : decode b_MacroExpandModel_defines 120 = .ok (.aload_n 0, 1) := by decide +kernel
theorem d_MacroExpandModel_defines_121 : decode b_MacroExpandModel_defines 121 = .ok (.getfield 107, 3) := by decide +kernel
theorem d_MacroExpandModel_defines_124 : decode b_MacroExpandModel_defines 124 = .ok (.ifCond .ne 11, 3) := by decide +kernel
theorem d_MacroExpandModel_defines_127 : decode b_MacroExpandModel_defines 127 = .ok (.aload_n 0, 1) := by decide +kernel
theorem d_MacroExpandModel_defines_128 : decode b_MacroExpandModel_defines 128 = .ok (.iconst 1, 1) := by decide +kernel
theorem d_MacroExpandModel_defines_129 : decode b_MacroExpandModel_defines 129 = .ok (.invokevirtual 123, 3) := by decide +kernel
theorem d_MacroExpandModel_defines_132 : decode b_MacroExpandModel_defines 132 = .ok (.goto 122, 3) := by decide +kernel
theorem d_MacroExpandModel_defines_135 : decode b_MacroExpandModel_defines 135 = .ok (.iload 6, 2) := by decide +kernel
theorem d_MacroExpandModel_defines_137 : decode b_MacroExpandModel_defines 137 = .ok (.sipush 258, 3) := by decide +kernel
theorem d_MacroExpandModel_defines_140 : decode b_MacroExpandModel_defines 140 = .ok (.if_icmp .eq 27, 3) := by decide +kernel
theorem d_MacroExpandModel_defines_143 : decode b_MacroExpandModel_defines 143 = .ok (.iload 6, 2) := by decide +kernel
theorem d_MacroExpandModel_defines_145 : decode b_MacroExpandModel_defines 145 = .ok (.invokestatic 87, 3) := by decide +kernel
theorem d_MacroExpandModel_defines_148 : decode b_MacroExpandModel_defines 148 = .ok (.ifCond .eq 28, 3) := by decide +kernel
theorem d_MacroExpandModel_defines_151 : decode b_MacroExpandModel_defines 151 = .ok (.iload 6, 2) := by decide +kernel
theorem d_MacroExpandModel_defines_153 : decode b_MacroExpandModel_defines 153 = .ok (.sipush 311, 3) := by decide +kernel
theorem d_MacroExpandModel_defines_156 : decode b_MacroExpandModel_defines 156 = .ok (.iload_n 3, 1) := by decide +kernel
theorem d_MacroExpandModel_defines_157 : decode b_MacroExpandModel_defines 157 = .ok (.iadd, 1) := by decide +kernel
theorem d_MacroExpandModel_defines_158 : decode b_MacroExpandModel_defines 158 = .ok (.if_icmp .ne 9, 3) := by decide +kernel
theorem d_MacroExpandModel_defines_161 : decode b_MacroExpandModel_defines 161 = .ok (.iload_n 3, 1) := by decide +kernel
theorem d_MacroExpandModel_defines_162 : decode b_MacroExpandModel_defines 162 = .ok (.bipush 9, 2) := by decide +kernel
theorem d_MacroExpandModel_defines_164 : decode b_MacroExpandModel_defines 164 = .ok (.if_icmp .ne 12, 3) := by decide +kernel
theorem d_MacroExpandModel_defines_167 : decode b_MacroExpandModel_defines 167 = .ok (.aload_n 0, 1) := by decide +kernel
theorem d_MacroExpandModel_defines_168 : decode b_MacroExpandModel_defines 168 = .ok (.bipush 6, 2) := by decide +kernel
theorem d_MacroExpandModel_defines_170 : decode b_MacroExpandModel_defines 170 = .ok (.invokevirtual 123, 3) := by decide +kernel
theorem d_MacroExpandModel_defines_173 : decode b_MacroExpandModel_defines 173 = .ok (.goto 81, 3) := by decide +kernel
theorem d_MacroExpandModel_defines_176 : decode b_MacroExpandModel_defines 176 = .ok (.iload 6, 2) := by decide +kernel
theorem d_MacroExpandModel_defines_178 : decode b_MacroExpandModel_defines 178 = .ok (.sipush 257, 3) := by decide +kernel
theorem d_MacroExpandModel_defines_181 : decode b_MacroExpandModel_defines 181 = .ok (.if_icmp .ne 9, 3) := by decide +kernel
theorem d_MacroExpandModel_defines_184 : decode b_MacroExpandModel_defines 184 = .ok (.iconst 0, 1) := by decide +kernel
theorem d_MacroExpandModel_defines_185 : decode b_MacroExpandModel_defines 185 = .ok (.istore 5, 2) := by decide +kernel
theorem d_MacroExpandModel_defines_187 : decode b_MacroExpandModel_defines 187 = .ok (.goto 67, 3) := by decide +kernel
theorem d_MacroExpandModel_defines_190 : decode b_MacroExpandModel_defines 190 = .ok (.iload 6, 2) := by decide +kernel
theorem d_MacroExpandModel_defines_192 : decode b_MacroExpandModel_defines 192 = .ok (.invokestatic 87, 3) := by decide +kernel
theorem d_MacroExpandModel_defines_195 : decode b_MacroExpandModel_defines 195 = .ok (.ifCond .eq 9, 3) := by decide +kernel
theorem d_MacroExpandModel_defines_198 : decode b_MacroExpandModel_defines 198 = .ok (.iinc 3 1, 3) := by decide +kernel
theorem d_MacroExpandModel_defines_201 : decode b_MacroExpandModel_defines 201 = .ok (.goto 53, 3) := by decide +kernel
theorem d_MacroExpandModel_defines_204 : decode b_MacroExpandModel_defines 204 = .ok (.aload_n 0, 1) := by decide +kernel
theorem d_MacroExpandModel_defines_205 : decode b_MacroExpandModel_defines 205 = .ok (.getfield 71, 3) := by decide +kernel
theorem d_MacroExpandModel_defines_208 : decode b_MacroExpandModel_defines 208 = .ok (.iload_n 3, 1) := by decide +kernel
theorem d_MacroExpandModel_defines_209 : decode b_MacroExpandModel_defines 209 = .ok (.iaload, 1) := by decide +kernel
theorem d_MacroExpandModel_defines_210 : decode b_MacroExpandModel_defines 210 = .ok (.sipush 200, 3) := by decide +kernel
theorem d_MacroExpandModel_defines_213 : decode b_MacroExpandModel_defines 213 = .ok (.if_icmp .ne 12, 3) := by decide +kernel
theorem d_MacroExpandModel_defines_216 : decode b_MacroExpandModel_defines 216 = .ok (.aload_n 0, 1) := by decide +kernel
theorem d_MacroExpandModel_defines_217 : decode b_MacroExpandModel_defines 217 = .ok (.bipush 8, 2) := by decide +kernel
theorem d_MacroExpandModel_defines_219 : decode b_MacroExpandModel_defines 219 = .ok (.invokevirtual 123, 3) := by decide +kernel
theorem d_MacroExpandModel_defines_222 : decode b_MacroExpandModel_defines 222 = .ok (.goto 32, 3) := by decide +kernel
theorem d_MacroExpandModel_defines_225 : decode b_MacroExpandModel_defines 225 = .ok (.aload_n 0, 1) := by decide +kernel
theorem d_MacroExpandModel_defines_226 : decode b_MacroExpandModel_defines 226 = .ok (.getfield 68, 3) := by decide +kernel
theorem d_MacroExpandModel_defines_229 : decode b_MacroExpandModel_defines 229 = .ok (.sipush 200, 3) := by decide +kernel
theorem d_MacroExpandModel_defines_232 : decode b_MacroExpandModel_defines 232 = .ok (.iload_n 3, 1) := by decide +kernel
theorem d_MacroExpandModel_defines_233 : decode b_MacroExpandModel_defines 233 = .ok (.imul, 1) := by decide +kernel
theorem d_MacroExpandModel_defines_234 : decode b_MacroExpandModel_defines 234 = .ok (.aload_n 0, 1) := by decide +kernel
theorem d_MacroExpandModel_defines_235 : decode b_MacroExpandModel_defines 235 = .ok (.getfield 71, 3) := by decide +kernel
theorem d_MacroExpandModel_defines_238 : decode b_MacroExpandModel_defines 238 = .ok (.iload_n 3, 1) := by decide +kernel
theorem d_MacroExpandModel_defines_239 : decode b_MacroExpandModel_defines 239 = .ok (.iaload, 1) := by decide +kernel
theorem d_MacroExpandModel_defines_240 : decode b_MacroExpandModel_defines 240 = .ok (.iadd, 1) := by decide +kernel
theorem d_MacroExpandModel_defines_241 : decode b_MacroExpandModel_defines 241 = .ok (.iload 6, 2) := by decide +kernel
theorem d_MacroExpandModel_defines_243 : decode b_MacroExpandModel_defines 243 = .ok (.iastore, 1) := by decide +kernel
theorem d_MacroExpandModel_defines_244 : decode b_MacroExpandModel_defines 244 = .ok (.aload_n 0, 1) := by decide +kernel
theorem d_MacroExpandModel_defines_245 : decode b_MacroExpandModel_defines 245 = .ok (.getfield 71, 3) := by decide +kernel
theorem d_MacroExpandModel_defines_248 : decode b_MacroExpandModel_defines 248 = .ok (.iload_n 3, 1) := by decide +kernel
theorem d_MacroExpandModel_defines_249 : decode b_MacroExpandModel_defines 249 = .ok (.dup2, 1) := by decide +kernel
theorem d_MacroExpandModel_defines_250 : decode b_MacroExpandModel_defines 250 = .ok (.iaload, 1) := by decide +kernel
theorem d_MacroExpandModel_defines_251 : decode b_MacroExpandModel_defines 251 = .ok (.iconst 1, 1) := by decide +kernel
theorem d_MacroExpandModel_defines_252 : decode b_MacroExpandModel_defines 252 = .ok (.iadd, 1) := by decide +kernel
theorem d_MacroExpandModel_defines_253 : decode b_MacroExpandModel_defines 253 = .ok (.iastore, 1) := by decide +kernel
theorem d_MacroExpandModel_defines_254 : decode b_MacroExpandModel_defines 254 = .ok (.aload_n 0, 1) := by decide +kernel
theorem d_MacroExpandModel_defines_255 : decode b_MacroExpandModel_defines 255 = .ok (.getfield 113, 3) := by decide +kernel
theorem d_MacroExpandModel_defines_258 : decode b_MacroExpandModel_defines 258 = .ok (.ifCond .ne 9, 3) := by decide +kernel
theorem d_MacroExpandModel_defines_261 : decode b_MacroExpandModel_defines 261 = .ok (.aload_n 0, 1) := by decide +kernel
theorem d_MacroExpandModel_defines_262 : decode b_MacroExpandModel_defines 262 = .ok (.iconst 0, 1) := by decide +kernel
theorem d_MacroExpandModel_defines_263 : decode b_MacroExpandModel_defines 263 = .ok (.iconst 1, 1) := by decide +kernel
theorem d_MacroExpandModel_defines_264 : decode b_MacroExpandModel_defines 264 = .ok (.invokevirtual 160, 3) := by decide +kernel
theorem d_MacroExpandModel_defines_267 : decode b_MacroExpandModel_defines 267 = .ok (.goto (-177), 3) := by decide +kernel
theorem d_MacroExpandModel_defines_270 : decode b_MacroExpandModel_defines 270 = .ok (.iconst 1, 1) := by decide +kernel
theorem d_MacroExpandModel_defines_271 : decode b_MacroExpandModel_defines 271 = .ok (.istore 6, 2) := by decide +kernel
theorem d_MacroExpandModel_defines_273 : decode b_MacroExpandModel_defines 273 = .ok (.aload_n 0, 1) := by decide +kernel
theorem d_MacroExpandModel_defines_274 : decode b_MacroExpandModel_defines 274 = .ok (.iconst 0, 1) := by decide +kernel
theorem d_MacroExpandModel_defines_275 : decode b_MacroExpandModel_defines 275 = .ok (.putfield 178, 3) := by decide +kernel
theorem d_MacroExpandModel_defines_278 : decode b_MacroExpandModel_defines 278 = .ok (.iload 6, 2) := by decide +kernel
theorem d_MacroExpandModel_defines_280 : decode b_MacroExpandModel_defines 280 = .ok (.ifCond .le 186, 3) := by decide +kernel
theorem d_MacroExpandModel_defines_283 : decode b_MacroExpandModel_defines 283 = .ok (.aload_n 0, 1) := by decide +kernel
theorem d_MacroExpandModel_defines_284 : decode b_MacroExpandModel_defines 284 = .ok (.getfield 113, 3) := by decide +kernel
theorem d_MacroExpandModel_defines_287 : decode b_MacroExpandModel_defines 287 = .ok (.ifCond .ne 179, 3) := by decide +kernel
theorem d_MacroExpandModel_defines_290 : decode b_MacroExpandModel_defines 290 = .ok (.aload_n 0, 1) := by decide +kernel
theorem d_MacroExpandModel_defines_291 : decode b_MacroExpandModel_defines 291 = .ok (.getfield 178, 3) := by decide +kernel
theorem d_MacroExpandModel_defines_294 : decode b_MacroExpandModel_defines 294 = .ok (.istore 7, 2) := by decide +kernel
theorem d_MacroExpandModel_defines_296 : decode b_MacroExpandModel_defines 296 = .ok (.aload_n 0, 1) := by decide +kernel
theorem d_MacroExpandModel_defines_297 : decode b_MacroExpandModel_defines 297 = .ok (.iconst 0, 1) := by decide +kernel
theorem d_MacroExpandModel_defines_298 : decode b_MacroExpandModel_defines 298 = .ok (.putfield 178, 3) := by decide +kernel
theorem d_MacroExpandModel_defines_301 : decode b_MacroExpandModel_defines 301 = .ok (.aload_n 0, 1) := by decide +kernel
theorem d_MacroExpandModel_defines_302 : decode b_MacroExpandModel_defines 302 = .ok (.getfield 107, 3) := by decide +kernel
theorem d_MacroExpandModel_defines_305 : decode b_MacroExpandModel_defines 305 = .ok (.ifCond .ne 11, 3) := by decide +kernel
theorem d_MacroExpandModel_defines_308 : decode b_MacroExpandModel_defines 308 = .ok (.aload_n 0, 1) := by decide +kernel
theorem d_MacroExpandModel_defines_309 : decode b_MacroExpandModel_defines 309 = .ok (.iconst 1, 1) := by decide +kernel
theorem d_MacroExpandModel_defines_310 : decode b_MacroExpandModel_defines 310 = .ok (.invokevirtual 123, 3) := by decide +kernel
theorem d_MacroExpandModel_defines_313 : decode b_MacroExpandModel_defines 313 = .ok (.goto 150, 3) := by decide +kernel
theorem d_MacroExpandModel_defines_316 : decode b_MacroExpandModel_defines 316 = .ok (.iload_n 1, 1) := by decide +kernel
theorem d_MacroExpandModel_defines_317 : decode b_MacroExpandModel_defines 317 = .ok (.ifCond .eq 24, 3) := by decide +kernel
theorem d_MacroExpandModel_defines_320 : decode b_MacroExpandModel_defines 320 = .ok (.iload 7, 2) := by decide +kernel
theorem d_MacroExpandModel_defines_322 : decode b_MacroExpandModel_defines 322 = .ok (.ifCond .ne 19, 3) := by decide +kernel
theorem d_MacroExpandModel_defines_325 : decode b_MacroExpandModel_defines 325 = .ok (.aload_n 0, 1) := by decide +kernel
theorem d_MacroExpandModel_defines_326 : decode b_MacroExpandModel_defines 326 = .ok (.iconst 0, 1) := by decide +kernel
theorem d_MacroExpandModel_defines_327 : decode b_MacroExpandModel_defines 327 = .ok (.invokevirtual 182, 3) := by decide +kernel
theorem d_MacroExpandModel_defines_330 : decode b_MacroExpandModel_defines 330 = .ok (.ifCond .eq 11, 3) := by decide +kernel
theorem d_MacroExpandModel_defines_333 : decode b_MacroExpandModel_defines 333 = .ok (.aload_n 0, 1) := by decide +kernel
theorem d_MacroExpandModel_defines_334 : decode b_MacroExpandModel_defines 334 = .ok (.iconst 0, 1) := by decide +kernel
theorem d_MacroExpandModel_defines_335 : decode b_MacroExpandModel_defines 335 = .ok (.invokevirtual 207, 3) := by decide +kernel
theorem d_MacroExpandModel_defines_338 : decode b_MacroExpandModel_defines 338 = .ok (.goto 125, 3) := by decide +kernel
theorem d_MacroExpandModel_defines_341 : decode b_MacroExpandModel_defines 341 = .ok (.aload_n 0, 1) := by decide +kernel
theorem d_MacroExpandModel_defines_342 : decode b_MacroExpandModel_defines 342 = .ok (.iconst 0, 1) := by decide +kernel
theorem d_MacroExpandModel_defines_343 : decode b_MacroExpandModel_defines 343 = .ok (.invokevirtual 116, 3) := by decide +kernel
theorem d_MacroExpandModel_defines_346 : decode b_MacroExpandModel_defines 346 = .ok (.istore 8, 2) := by decide +kernel
theorem d_MacroExpandModel_defines_348 : decode b_MacroExpandModel_defines 348 = .ok (.iload 6, 2) := by decide +kernel
theorem d_MacroExpandModel_defines_350 : decode b_MacroExpandModel_defines 350 = .ok (.iload 8, 2) := by decide +kernel
theorem d_MacroExpandModel_defines_352 : decode b_MacroExpandModel_defines 352 = .ok (.sipush 257, 3) := by decide +kernel
theorem d_MacroExpandModel_defines_355 : decode b_MacroExpandModel_defines 355 = .ok (.if_icmp .ne 7, 3) := by decide +kernel
theorem d_MacroExpandModel_defines_358 : decode b_MacroExpandModel_defines 358 = .ok (.iconst 1, 1) := by decide +kernel
theorem d_MacroExpandModel_defines_359 : decode b_MacroExpandModel_defines 359 = .ok (.goto 16, 3) := by decide +kernel
theorem d_MacroExpandModel_defines_362 : decode b_MacroExpandModel_defines 362 = .ok (.iload 8, 2) := by decide +kernel
theorem d_MacroExpandModel_defines_364 : decode b_MacroExpandModel_defines 364 = .ok (.sipush 258, 3) := by decide +kernel
theorem d_MacroExpandModel_defines_367 : decode b_MacroExpandModel_defines 367 = .ok (.if_icmp .ne 7, 3) := by decide +kernel
theorem d_MacroExpandModel_defines_370 : decode b_MacroExpandModel_defines 370 = .ok (.iconst (-1), 1) := by decide +kernel
theorem d_MacroExpandModel_defines_371 : decode b_MacroExpandModel_defines 371 = .ok (.goto 4, 3) := by decide +kernel
theorem d_MacroExpandModel_defines_374 : decode b_MacroExpandModel_defines 374 = .ok (.iconst 0, 1) := by decide +kernel
theorem d_MacroExpandModel_defines_375 : decode b_MacroExpandModel_defines 375 = .ok (.iadd, 1) := by decide +kernel
theorem d_MacroExpandModel_defines_376 : decode b_MacroExpandModel_defines 376 = .ok (.istore 6, 2) := by decide +kernel
theorem d_MacroExpandModel_defines_378 : decode b_MacroExpandModel_defines 378 = .ok (.iload 8, 2) := by decide +kernel
theorem d_MacroExpandModel_defines_380 : decode b_MacroExpandModel_defines 380 = .ok (.sipush 311, 3) := by decide +kernel
theorem d_MacroExpandModel_defines_383 : decode b_MacroExpandModel_defines 383 = .ok (.sipush 319, 3) := by decide +kernel
theorem d_MacroExpandModel_defines_386 : decode b_MacroExpandModel_defines 386 = .ok (.invokestatic 83, 3) := by decide +kernel
theorem d_MacroExpandModel_defines_389 : decode b_MacroExpandModel_defines 389 = .ok (.ifCond .eq 22, 3) := by decide +kernel
theorem d_MacroExpandModel_defines_392 : decode b_MacroExpandModel_defines 392 = .ok (.iload 8, 2) := by decide +kernel
theorem d_MacroExpandModel_defines_394 : decode b_MacroExpandModel_defines 394 = .ok (.sipush 310, 3) := by decide +kernel
theorem d_MacroExpandModel_defines_397 : decode b_MacroExpandModel_defines 397 = .ok (.isub, 1) := by decide +kernel
theorem d_MacroExpandModel_defines_398 : decode b_MacroExpandModel_defines 398 = .ok (.iload_n 3, 1) := by decide +kernel
theorem d_MacroExpandModel_defines_399 : decode b_MacroExpandModel_defines 399 = .ok (.if_icmp .le 12, 3) := by decide +kernel
theorem d_MacroExpandModel_defines_402 : decode b_MacroExpandModel_defines 402 = .ok (.aload_n 0, 1) := by decide +kernel
theorem d_MacroExpandModel_defines_403 : decode b_MacroExpandModel_defines 403 = .ok (.bipush 6, 2) := by decide +kernel
theorem d_MacroExpandModel_defines_405 : decode b_MacroExpandModel_defines 405 = .ok (.invokevirtual 123, 3) := by decide +kernel
theorem d_MacroExpandModel_defines_408 : decode b_MacroExpandModel_defines 408 = .ok (.goto 42, 3) := by decide +kernel
theorem d_MacroExpandModel_defines_411 : decode b_MacroExpandModel_defines 411 = .ok (.iload 6, 2) := by decide +kernel
theorem d_MacroExpandModel_defines_413 : decode b_MacroExpandModel_defines 413 = .ok (.ifCond .le 20, 3) := by decide +kernel
theorem d_MacroExpandModel_defines_416 : decode b_MacroExpandModel_defines 416 = .ok (.iload 4, 2) := by decide +kernel
theorem d_MacroExpandModel_defines_418 : decode b_MacroExpandModel_defines 418 = .ok (.sipush 200, 3) := by decide +kernel
theorem d_MacroExpandModel_defines_421 : decode b_MacroExpandModel_defines 421 = .ok (.if_icmp .ne 12, 3) := by decide +kernel
theorem d_MacroExpandModel_defines_424 : decode b_MacroExpandModel_defines 424 = .ok (.aload_n 0, 1) := by decide +kernel
theorem d_MacroExpandModel_defines_425 : decode b_MacroExpandModel_defines 425 = .ok (.bipush 8, 2) := by decide +kernel
theorem d_MacroExpandModel_defines_427 : decode b_MacroExpandModel_defines 427 = .ok (.invokevirtual 123, 3) := by decide +kernel
theorem d_MacroExpandModel_defines_430 : decode b_MacroExpandModel_defines 430 = .ok (.goto 20, 3) := by decide +kernel
theorem d_MacroExpandModel_defines_433 : decode b_MacroExpandModel_defines 433 = .ok (.iload 6, 2) := by decide +kernel
theorem d_MacroExpandModel_defines_435 : decode b_MacroExpandModel_defines 435 = .ok (.ifCond .le 15, 3) := by decide +kernel
theorem d_MacroExpandModel_defines_438 : decode b_MacroExpandModel_defines 438 = .ok (.aload_n 0, 1) := by decide +kernel
theorem d_MacroExpandModel_defines_439 : decode b_MacroExpandModel_defines 439 = .ok (.getfield 74, 3) := by decide +kernel
theorem d_MacroExpandModel_defines_442 : decode b_MacroExpandModel_defines 442 = .ok (.iload 4, 2) := by decide +kernel
theorem d_MacroExpandModel_defines_444 : decode b_MacroExpandModel_defines 444 = .ok (.iload 8, 2) := by decide +kernel
theorem d_MacroExpandModel_defines_446 : decode b_MacroExpandModel_defines 446 = .ok (.iastore, 1) := by decide +kernel
theorem d_MacroExpandModel_defines_447 : decode b_MacroExpandModel_defines 447 = .ok (.iinc 4 1, 3) := by decide +kernel
theorem d_MacroExpandModel_defines_450 : decode b_MacroExpandModel_defines 450 = .ok (.aload_n 0, 1) := by decide +kernel
theorem d_MacroExpandModel_defines_451 : decode b_MacroExpandModel_defines 451 = .ok (.getfield 113, 3) := by decide +kernel
theorem d_MacroExpandModel_defines_454 : decode b_MacroExpandModel_defines 454 = .ok (.ifCond .ne 9, 3) := by decide +kernel
theorem d_MacroExpandModel_defines_457 : decode b_MacroExpandModel_defines 457 = .ok (.aload_n 0, 1) := by decide +kernel
theorem d_MacroExpandModel_defines_458 : decode b_MacroExpandModel_defines 458 = .ok (.iconst 0, 1) := by decide +kernel
theorem d_MacroExpandModel_defines_459 : decode b_MacroExpandModel_defines 459 = .ok (.iconst 1, 1) := by decide +kernel
theorem d_MacroExpandModel_defines_460 : decode b_MacroExpandModel_defines 460 = .ok (.invokevirtual 160, 3) := by decide +kernel
theorem d_MacroExpandModel_defines_463 : decode b_MacroExpandModel_defines 463 = .ok (.goto (-185), 3) := by decide +kernel
theorem d_MacroExpandModel_defines_466 : decode b_MacroExpandModel_defines 466 = .ok (.aload_n 0, 1) := by decide +kernel
theorem d_MacroExpandModel_defines_467 : decode b_MacroExpandModel_defines 467 = .ok (.getfield 113, 3) := by decide +kernel
theorem d_MacroExpandModel_defines_470 : decode b_MacroExpandModel_defines 470 = .ok (.ifCond .ne 18, 3) := by decide +kernel
theorem d_MacroExpandModel_defines_473 : decode b_MacroExpandModel_defines 473 = .ok (.aload_n 0, 1) := by decide +kernel
theorem d_MacroExpandModel_defines_474 : decode b_MacroExpandModel_defines 474 = .ok (.getfield 94, 3) := by decide +kernel
theorem d_MacroExpandModel_defines_477 : decode b_MacroExpandModel_defines 477 = .ok (.bipush 100, 2) := by decide +kernel
theorem d_MacroExpandModel_defines_479 : decode b_MacroExpandModel_defines 479 = .ok (.if_icmp .ne 9, 3) := by decide +kernel
theorem d_MacroExpandModel_defines_482 : decode b_MacroExpandModel_defines 482 = .ok (.aload_n 0, 1) := by decide +kernel
theorem d_MacroExpandModel_defines_483 : decode b_MacroExpandModel_defines 483 = .ok (.bipush 8, 2) := by decide +kernel
theorem d_MacroExpandModel_defines_485 : decode b_MacroExpandModel_defines 485 = .ok (.invokevirtual 123, 3) := by decide +kernel
theorem d_MacroExpandModel_defines_488 : decode b_MacroExpandModel_defines 488 = .ok (.aload_n 0, 1) := by decide +kernel
theorem d_MacroExpandModel_defines_489 : decode b_MacroExpandModel_defines 489 = .ok (.getfield 113, 3) := by decide +kernel
theorem d_MacroExpandModel_defines_492 : decode b_MacroExpandModel_defines 492 = .ok (.ifCond .eq 4, 3) := by decide +kernel
theorem d_MacroExpandModel_defines_495 : decode b_MacroExpandModel_defines 495 = .ok (.return_, 1) := by decide +kernel
theorem d_MacroExpandModel_defines_496 : decode b_MacroExpandModel_defines 496 = .ok (.aload_n 0, 1) := by decide +kernel
theorem d_MacroExpandModel_defines_497 : decode b_MacroExpandModel_defines 497 = .ok (.iload_n 2, 1) := by decide +kernel
theorem d_MacroExpandModel_defines_498 : decode b_MacroExpandModel_defines 498 = .ok (.iload_n 3, 1) := by decide +kernel
theorem d_MacroExpandModel_defines_499 : decode b_MacroExpandModel_defines 499 = .ok (.aload_n 0, 1) := by decide +kernel
theorem d_MacroExpandModel_defines_500 : decode b_MacroExpandModel_defines 500 = .ok (.getfield 201, 3) := by decide +kernel
theorem d_MacroExpandModel_defines_503 : decode b_MacroExpandModel_defines 503 = .ok (.invokevirtual 100, 3) := by decide +kernel
theorem d_MacroExpandModel_defines_506 : decode b_MacroExpandModel_defines 506 = .ok (.istore 7, 2) := by decide +kernel
theorem d_MacroExpandModel_defines_508 : decode b_MacroExpandModel_defines 508 = .ok (.aload_n 0, 1) := by decide +kernel
theorem d_MacroExpandModel_defines_509 : decode b_MacroExpandModel_defines 509 = .ok (.getfield 22, 3) := by decide +kernel
theorem d_MacroExpandModel_defines_512 : decode b_MacroExpandModel_defines 512 = .ok (.iload 7, 2) := by decide +kernel
theorem d_MacroExpandModel_defines_514 : decode b_MacroExpandModel_defines 514 = .ok (.iload 4, 2) := by decide +kernel
theorem d_MacroExpandModel_defines_516 : decode b_MacroExpandModel_defines 516 = .ok (.iastore, 1) := by decide +kernel
theorem d_MacroExpandModel_defines_517 : decode b_MacroExpandModel_defines 517 = .ok (.iconst 0, 1) := by decide +kernel
theorem d_MacroExpandModel_defines_518 : decode b_MacroExpandModel_defines 518 = .ok (.istore 8, 2) := by decide +kernel
theorem d_MacroExpandModel_defines_520 : decode b_MacroExpandModel_defines 520 = .ok (.iload 8, 2) := by decide +kernel
theorem d_MacroExpandModel_defines_522 : decode b_MacroExpandModel_defines 522 = .ok (.iload 4, 2) := by decide +kernel
theorem d_MacroExpandModel_defines_524 : decode b_MacroExpandModel_defines 524 = .ok (.if_icmp .ge 30, 3) := by decide +kernel
theorem d_MacroExpandModel_defines_527 : decode b_MacroExpandModel_defines 527 = .ok (.aload_n 0, 1) := by decide +kernel
theorem d_MacroExpandModel_defines_528 : decode b_MacroExpandModel_defines 528 = .ok (.getfield 25, 3) := by decide +kernel
theorem d_MacroExpandModel_defines_531 : decode b_MacroExpandModel_defines 531 = .ok (.sipush 200, 3) := by decide +kernel
theorem d_MacroExpandModel_defines_534 : decode b_MacroExpandModel_defines 534 = .ok (.iload 7, 2) := by decide +kernel
theorem d_MacroExpandModel_defines_536 : decode b_MacroExpandModel_defines 536 = .ok (.imul, 1) := by decide +kernel
theorem d_MacroExpandModel_defines_537 : decode b_MacroExpandModel_defines 537 = .ok (.iload 8, 2) := by decide +kernel
theorem d_MacroExpandModel_defines_539 : decode b_MacroExpandModel_defines 539 = .ok (.iadd, 1) := by decide +kernel
theorem d_MacroExpandModel_defines_540 : decode b_MacroExpandModel_defines 540 = .ok (.aload_n 0, 1) := by decide +kernel
theorem d_MacroExpandModel_defines_541 : decode b_MacroExpandModel_defines 541 = .ok (.getfield 74, 3) := by decide +kernel
theorem d_MacroExpandModel_defines_544 : decode b_MacroExpandModel_defines 544 = .ok (.iload 8, 2) := by decide +kernel
theorem d_MacroExpandModel_defines_546 : decode b_MacroExpandModel_defines 546 = .ok (.iaload, 1) := by decide +kernel
theorem d_MacroExpandModel_defines_547 : decode b_MacroExpandModel_defines 547 = .ok (.iastore, 1) := by decide +kernel
theorem d_MacroExpandModel_defines_548 : decode b_MacroExpandModel_defines 548 = .ok (.iinc 8 1, 3) := by decide +kernel
theorem d_MacroExpandModel_defines_551 : decode b_MacroExpandModel_defines 551 = .ok (.goto (-31), 3) := by decide +kernel
theorem d_MacroExpandModel_defines_554 : decode b_MacroExpandModel_defines 554 = .ok (.iconst 0, 1) := by decide +kernel
theorem d_MacroExpandModel_defines_555 : decode b_MacroExpandModel_defines 555 = .ok (.istore 8, 2) := by decide +kernel
theorem d_MacroExpandModel_defines_557 : decode b_MacroExpandModel_defines 557 = .ok (.iload 8, 2) := by decide +kernel
theorem d_MacroExpandModel_defines_559 : decode b_MacroExpandModel_defines 559 = .ok (.iload_n 3, 1) := by decide +kernel
theorem d_MacroExpandModel_defines_560 : decode b_MacroExpandModel_defines 560 = .ok (.if_icmp .gt 84, 3) := by decide +kernel
theorem d_MacroExpandModel_defines_563 : decode b_MacroExpandModel_defines 563 = .ok (.aload_n 0, 1) := by decide +kernel
theorem d_MacroExpandModel_defines_564 : decode b_MacroExpandModel_defines 564 = .ok (.getfield 28, 3) := by decide +kernel
theorem d_MacroExpandModel_defines_567 : decode b_MacroExpandModel_defines 567 = .ok (.bipush 10, 2) := by decide +kernel
theorem d_MacroExpandModel_defines_569 : decode b_MacroExpandModel_defines 569 = .ok (.iload 7, 2) := by decide +kernel
theorem d_MacroExpandModel_defines_571 : decode b_MacroExpandModel_defines 571 = .ok (.imul, 1) := by decide +kernel
theorem d_MacroExpandModel_defines_572 : decode b_MacroExpandModel_defines 572 = .ok (.iload 8, 2) := by decide +kernel
theorem d_MacroExpandModel_defines_574 : decode b_MacroExpandModel_defines 574 = .ok (.iadd, 1) := by decide +kernel
theorem d_MacroExpandModel_defines_575 : decode b_MacroExpandModel_defines 575 = .ok (.aload_n 0, 1) := by decide +kernel
theorem d_MacroExpandModel_defines_576 : decode b_MacroExpandModel_defines 576 = .ok (.getfield 71, 3) := by decide +kernel
theorem d_MacroExpandModel_defines_579 : decode b_MacroExpandModel_defines 579 = .ok (.iload 8, 2) := by decide +kernel
theorem d_MacroExpandModel_defines_581 : decode b_MacroExpandModel_defines 581 = .ok (.iaload, 1) := by decide +kernel
theorem d_MacroExpandModel_defines_582 : decode b_MacroExpandModel_defines 582 = .ok (.iastore, 1) := by decide +kernel
theorem d_MacroExpandModel_defines_583 : decode b_MacroExpandModel_defines 583 = .ok (.iconst 0, 1) := by decide +kernel
theorem d_MacroExpandModel_defines_584 : decode b_MacroExpandModel_defines 584 = .ok (.istore 9, 2) := by decide +kernel
theorem d_MacroExpandModel_defines_586 : decode b_MacroExpandModel_defines 586 = .ok (.iload 9, 2) := by decide +kernel
theorem d_MacroExpandModel_defines_588 : decode b_MacroExpandModel_defines 588 = .ok (.aload_n 0, 1) := by decide +kernel
theorem d_MacroExpandModel_defines_589 : decode b_MacroExpandModel_defines 589 = .ok (.getfield 71, 3) := by decide +kernel
theorem d_MacroExpandModel_defines_592 : decode b_MacroExpandModel_defines 592 = .ok (.iload 8, 2) := by decide +kernel
theorem d_MacroExpandModel_defines_594 : decode b_MacroExpandModel_defines 594 = .ok (.iaload, 1) := by decide +kernel
theorem d_MacroExpandModel_defines_595 : decode b_MacroExpandModel_defines 595 = .ok (.if_icmp .ge 43, 3) := by decide +kernel
theorem d_MacroExpandModel_defines_598 : decode b_MacroExpandModel_defines 598 = .ok (.aload_n 0, 1) := by decide +kernel
theorem d_MacroExpandModel_defines_599 : decode b_MacroExpandModel_defines 599 = .ok (.getfield 32, 3) := by decide +kernel
theorem d_MacroExpandModel_defines_602 : decode b_MacroExpandModel_defines 602 = .ok (.sipush 200, 3) := by decide +kernel
theorem d_MacroExpandModel_defines_605 : decode b_MacroExpandModel_defines 605 = .ok (.bipush 10, 2) := by decide +kernel
theorem d_MacroExpandModel_defines_607 : decode b_MacroExpandModel_defines 607 = .ok (.iload 7, 2) := by decide +kernel
theorem d_MacroExpandModel_defines_609 : decode b_MacroExpandModel_defines 609 = .ok (.imul, 1) := by decide +kernel
theorem d_MacroExpandModel_defines_610 : decode b_MacroExpandModel_defines 610 = .ok (.iload 8, 2) := by decide +kernel
theorem d_MacroExpandModel_defines_612 : decode b_MacroExpandModel_defines 612 = .ok (.iadd, 1) := by decide +kernel
theorem d_MacroExpandModel_defines_613 : decode b_MacroExpandModel_defines 613 = .ok (.imul, 1) := by decide +kernel
theorem d_MacroExpandModel_defines_614 : decode b_MacroExpandModel_defines 614 = .ok (.iload 9, 2) := by decide +kernel
theorem d_MacroExpandModel_defines_616 : decode b_MacroExpandModel_defines 616 = .ok (.iadd, 1) := by decide +kernel
theorem d_MacroExpandModel_defines_617 : decode b_MacroExpandModel_defines 617 = .ok (.aload_n 0, 1) := by decide +kernel
theorem d_MacroExpandModel_defines_618 : decode b_MacroExpandModel_defines 618 = .ok (.getfield 68, 3) := by decide +kernel
theorem d_MacroExpandModel_defines_621 : decode b_MacroExpandModel_defines 621 = .ok (.sipush 200, 3) := by decide +kernel
theorem d_MacroExpandModel_defines_624 : decode b_MacroExpandModel_defines 624 = .ok (.iload 8, 2) := by decide +kernel
theorem d_MacroExpandModel_defines_626 : decode b_MacroExpandModel_defines 626 = .ok (.imul, 1) := by decide +kernel
theorem d_MacroExpandModel_defines_627 : decode b_MacroExpandModel_defines 627 = .ok (.iload 9, 2) := by decide +kernel
theorem d_MacroExpandModel_defines_629 : decode b_MacroExpandModel_defines 629 = .ok (.iadd, 1) := by decide +kernel
theorem d_MacroExpandModel_defines_630 : decode b_MacroExpandModel_defines 630 = .ok (.iaload, 1) := by decide +kernel
theorem d_MacroExpandModel_defines_631 : decode b_MacroExpandModel_defines 631 = .ok (.iastore, 1) := by decide +kernel
theorem d_MacroExpandModel_defines_632 : decode b_MacroExpandModel_defines 632 = .ok (.iinc 9 1, 3) := by decide +kernel
theorem d_MacroExpandModel_defines_635 : decode b_MacroExpandModel_defines 635 = .ok (.goto (-49), 3) := by decide +kernel
theorem d_MacroExpandModel_defines_638 : decode b_MacroExpandModel_defines 638 = .ok (.iinc 8 1, 3) := by decide +kernel
theorem d_MacroExpandModel_defines_641 : decode b_MacroExpandModel_defines 641 = .ok (.goto (-84), 3) := by decide +kernel
theorem d_MacroExpandModel_defines_644 : decode b_MacroExpandModel_defines 644 = .ok (.aload_n 0, 1) := by decide +kernel
theorem d_MacroExpandModel_defines_645 : decode b_MacroExpandModel_defines 645 = .ok (.iconst 0, 1) := by decide +kernel
theorem d_MacroExpandModel_defines_646 : decode b_MacroExpandModel_defines 646 = .ok (.putfield 142, 3) := by decide +kernel
theorem d_MacroExpandModel_defines_649 : decode b_MacroExpandModel_defines 649 = .ok (.aload_n 0, 1) := by decide +kernel
theorem d_MacroExpandModel_defines_650 : decode b_MacroExpandModel_defines 650 = .ok (.iconst 0, 1) := by decide +kernel
theorem d_MacroExpandModel_defines_651 : decode b_MacroExpandModel_defines 651 = .ok (.putfield 201, 3) := by decide +kernel
theorem d_MacroExpandModel_defines_654 : decode b_MacroExpandModel_defines 654 = .ok (.aload_n 0, 1) := by decide +kernel
theorem d_MacroExpandModel_defines_655 : decode b_MacroExpandModel_defines 655 = .ok (.getfield 204, 3) := by decide +kernel
theorem d_MacroExpandModel_defines_658 : decode b_MacroExpandModel_defines 658 = .ok (.ifCond .lt 40, 3) := by decide +kernel
theorem d_MacroExpandModel_defines_661 : decode b_MacroExpandModel_defines 661 = .ok (.aload_n 0, 1) := by decide +kernel
theorem d_MacroExpandModel_defines_662 : decode b_MacroExpandModel_defines 662 = .ok (.getfield 107, 3) := by decide +kernel
theorem d_MacroExpandModel_defines_665 : decode b_MacroExpandModel_defines 665 = .ok (.sipush 3000, 3) := by decide +kernel
theorem d_MacroExpandModel_defines_668 : decode b_MacroExpandModel_defines 668 = .ok (.if_icmp .ne 10, 3) := by decide +kernel
theorem d_MacroExpandModel_defines_671 : decode b_MacroExpandModel_defines 671 = .ok (.aload_n 0, 1) := by decide +kernel
theorem d_MacroExpandModel_defines_672 : decode b_MacroExpandModel_defines 672 = .ok (.bipush 8, 2) := by decide +kernel
theorem d_MacroExpandModel_defines_674 : decode b_MacroExpandModel_defines 674 = .ok (.invokevirtual 123, 3) := by decide +kernel
theorem d_MacroExpandModel_defines_677 : decode b_MacroExpandModel_defines 677 = .ok (.return_, 1) := by decide +kernel
theorem d_MacroExpandModel_defines_678 : decode b_MacroExpandModel_defines 678 = .ok (.aload_n 0, 1) := by decide +kernel
theorem d_MacroExpandModel_defines_679 : decode b_MacroExpandModel_defines 679 = .ok (.iconst 0, 1) := by decide +kernel
theorem d_MacroExpandModel_defines_680 : decode b_MacroExpandModel_defines 680 = .ok (.iconst 1, 1) := by decide +kernel
theorem d_MacroExpandModel_defines_681 : decode b_MacroExpandModel_defines 681 = .ok (.invokevirtual 163, 3) := by decide +kernel
theorem d_MacroExpandModel_defines_684 : decode b_MacroExpandModel_defines 684 = .ok (.aload_n 0, 1) := by decide +kernel
theorem d_MacroExpandModel_defines_685 : decode b_MacroExpandModel_defines 685 = .ok (.iconst 0, 1) := by decide +kernel
theorem d_MacroExpandModel_defines_686 : decode b_MacroExpandModel_defines 686 = .ok (.aload_n 0, 1) := by decide +kernel
theorem d_MacroExpandModel_defines_687 : decode b_MacroExpandModel_defines 687 = .ok (.getfield 204, 3) := by decide +kernel
theorem d_MacroExpandModel_defines_690 : decode b_MacroExpandModel_defines 690 = .ok (.invokevirtual 166, 3) := by decide +kernel
theorem d_MacroExpandModel_defines_693 : decode b_MacroExpandModel_defines 693 = .ok (.aload_n 0, 1) := by decide +kernel
theorem d_MacroExpandModel_defines_694 : decode b_MacroExpandModel_defines 694 = .ok (.iconst (-1), 1) := by decide +kernel
theorem d_MacroExpandModel_defines_695 : decode b_MacroExpandModel_defines 695 = .ok (.putfield 204, 3) := by decide +kernel
theorem d_MacroExpandModel_defines_698 : decode b_MacroExpandModel_defines 698 = .ok (.return_, 1) := by decide +kernel
