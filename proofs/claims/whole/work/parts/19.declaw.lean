theorem d_MacroExpandLaw_cell_0 : decode b_MacroExpandLaw_cell 0 = .ok (.iload_n 1, 1) := by decide +kernel
theorem d_MacroExpandLaw_cell_1 : decode b_MacroExpandLaw_cell 1 = .ok (.aload_n 0, 1) := by decide +kernel
theorem d_MacroExpandLaw_cell_2 : decode b_MacroExpandLaw_cell 2 = .ok (.arraylength, 1) := by decide +kernel
theorem d_MacroExpandLaw_cell_3 : decode b_MacroExpandLaw_cell 3 = .ok (.if_icmp .ge 9, 3) := by decide +kernel
theorem d_MacroExpandLaw_cell_6 : decode b_MacroExpandLaw_cell 6 = .ok (.aload_n 0, 1) := by decide +kernel
theorem d_MacroExpandLaw_cell_7 : decode b_MacroExpandLaw_cell 7 = .ok (.iload_n 1, 1) := by decide +kernel
theorem d_MacroExpandLaw_cell_8 : decode b_MacroExpandLaw_cell 8 = .ok (.iaload, 1) := by decide +kernel
theorem d_MacroExpandLaw_cell_9 : decode b_MacroExpandLaw_cell 9 = .ok (.goto 4, 3) := by decide +kernel
theorem d_MacroExpandLaw_cell_12 : decode b_MacroExpandLaw_cell 12 = .ok (.iconst 0, 1) := by decide +kernel
theorem d_MacroExpandLaw_cell_13 : decode b_MacroExpandLaw_cell 13 = .ok (.ireturn, 1) := by decide +kernel
theorem d_MacroExpandLaw_law_0 : decode code 0 = .ok (.new 7, 3) := by decide +kernel
theorem d_MacroExpandLaw_law_3 : decode code 3 = .ok (.dup, 1) := by decide +kernel
theorem d_MacroExpandLaw_law_4 : decode code 4 = .ok (.aload_n 0, 1) := by decide +kernel
theorem d_MacroExpandLaw_law_5 : decode code 5 = .ok (.iconst 0, 1) := by decide +kernel
theorem d_MacroExpandLaw_law_6 : decode code 6 = .ok (.invokestatic 9, 3) := by decide +kernel
theorem d_MacroExpandLaw_law_9 : decode code 9 = .ok (.i2l, 1) := by decide +kernel
theorem d_MacroExpandLaw_law_10 : decode code 10 = .ok (.invokespecial 15, 3) := by decide +kernel
theorem d_MacroExpandLaw_law_13 : decode code 13 = .ok (.astore_n 1, 1) := by decide +kernel
theorem d_MacroExpandLaw_law_14 : decode code 14 = .ok (.new 18, 3) := by decide +kernel
theorem d_MacroExpandLaw_law_17 : decode code 17 = .ok (.dup, 1) := by decide +kernel
theorem d_MacroExpandLaw_law_18 : decode code 18 = .ok (.aload_n 0, 1) := by decide +kernel
theorem d_MacroExpandLaw_law_19 : decode code 19 = .ok (.iconst 0, 1) := by decide +kernel
theorem d_MacroExpandLaw_law_20 : decode code 20 = .ok (.invokestatic 9, 3) := by decide +kernel
theorem d_MacroExpandLaw_law_23 : decode code 23 = .ok (.i2l, 1) := by decide +kernel
theorem d_MacroExpandLaw_law_24 : decode code 24 = .ok (.invokespecial 20, 3) := by decide +kernel
theorem d_MacroExpandLaw_law_27 : decode code 27 = .ok (.astore_n 2, 1) := by decide +kernel
theorem d_MacroExpandLaw_law_28 : decode code 28 = .ok (.iconst 1, 1) := by decide +kernel
theorem d_MacroExpandLaw_law_29 : decode code 29 = .ok (.istore_n 3, 1) := by decide +kernel
theorem d_MacroExpandLaw_law_30 : decode code 30 = .ok (.iload_n 3, 1) := by decide +kernel
theorem d_MacroExpandLaw_law_31 : decode code 31 = .ok (.aload_n 0, 1) := by decide +kernel
theorem d_MacroExpandLaw_law_32 : decode code 32 = .ok (.arraylength, 1) := by decide +kernel
theorem d_MacroExpandLaw_law_33 : decode code 33 = .ok (.iconst 4, 1) := by decide +kernel
theorem d_MacroExpandLaw_law_34 : decode code 34 = .ok (.isub, 1) := by decide +kernel
theorem d_MacroExpandLaw_law_35 : decode code 35 = .ok (.if_icmp .gt 447, 3) := by decide +kernel
theorem d_MacroExpandLaw_law_38 : decode code 38 = .ok (.aload_n 0, 1) := by decide +kernel
theorem d_MacroExpandLaw_law_39 : decode code 39 = .ok (.iload_n 3, 1) := by decide +kernel
theorem d_MacroExpandLaw_law_40 : decode code 40 = .ok (.iaload, 1) := by decide +kernel
theorem d_MacroExpandLaw_law_41 : decode code 41 = .ok (.bipush 15, 2) := by decide +kernel
theorem d_MacroExpandLaw_law_43 : decode code 43 = .ok (.iand, 1) := by decide +kernel
theorem d_MacroExpandLaw_law_44 : decode code 44 = .ok (.tableswitch 432 0 11 #[64, 107, 140, 183, 206, 245, 268, 291, 330, 353, 386, 409], 64) := by decide +kernel
theorem d_MacroExpandLaw_law_108 : decode code 108 = .ok (.aload_n 1, 1) := by decide +kernel
theorem d_MacroExpandLaw_law_109 : decode code 109 = .ok (.aload_n 0, 1) := by decide +kernel
theorem d_MacroExpandLaw_law_110 : decode code 110 = .ok (.iload_n 3, 1) := by decide +kernel
theorem d_MacroExpandLaw_law_111 : decode code 111 = .ok (.iconst 1, 1) := by decide +kernel
theorem d_MacroExpandLaw_law_112 : decode code 112 = .ok (.iadd, 1) := by decide +kernel
theorem d_MacroExpandLaw_law_113 : decode code 113 = .ok (.iaload, 1) := by decide +kernel
theorem d_MacroExpandLaw_law_114 : decode code 114 = .ok (.aload_n 0, 1) := by decide +kernel
theorem d_MacroExpandLaw_law_115 : decode code 115 = .ok (.iload_n 3, 1) := by decide +kernel
theorem d_MacroExpandLaw_law_116 : decode code 116 = .ok (.iconst 2, 1) := by decide +kernel
theorem d_MacroExpandLaw_law_117 : decode code 117 = .ok (.iadd, 1) := by decide +kernel
theorem d_MacroExpandLaw_law_118 : decode code 118 = .ok (.iaload, 1) := by decide +kernel
theorem d_MacroExpandLaw_law_119 : decode code 119 = .ok (.aload_n 0, 1) := by decide +kernel
theorem d_MacroExpandLaw_law_120 : decode code 120 = .ok (.iload_n 3, 1) := by decide +kernel
theorem d_MacroExpandLaw_law_121 : decode code 121 = .ok (.iconst 3, 1) := by decide +kernel
theorem d_MacroExpandLaw_law_122 : decode code 122 = .ok (.iadd, 1) := by decide +kernel
theorem d_MacroExpandLaw_law_123 : decode code 123 = .ok (.iaload, 1) := by decide +kernel
theorem d_MacroExpandLaw_law_124 : decode code 124 = .ok (.invokevirtual 21, 3) := by decide +kernel
theorem d_MacroExpandLaw_law_127 : decode code 127 = .ok (.aload_n 2, 1) := by decide +kernel
theorem d_MacroExpandLaw_law_128 : decode code 128 = .ok (.aload_n 0, 1) := by decide +kernel
theorem d_MacroExpandLaw_law_129 : decode code 129 = .ok (.iload_n 3, 1) := by decide +kernel
theorem d_MacroExpandLaw_law_130 : decode code 130 = .ok (.iconst 1, 1) := by decide +kernel
theorem d_MacroExpandLaw_law_131 : decode code 131 = .ok (.iadd, 1) := by decide +kernel
theorem d_MacroExpandLaw_law_132 : decode code 132 = .ok (.iaload, 1) := by decide +kernel
theorem d_MacroExpandLaw_law_133 : decode code 133 = .ok (.aload_n 0, 1) := by decide +kernel
theorem d_MacroExpandLaw_law_134 : decode code 134 = .ok (.iload_n 3, 1) := by decide +kernel
theorem d_MacroExpandLaw_law_135 : decode code 135 = .ok (.iconst 2, 1) := by decide +kernel
theorem d_MacroExpandLaw_law_136 : decode code 136 = .ok (.iadd, 1) := by decide +kernel
theorem d_MacroExpandLaw_law_137 : decode code 137 = .ok (.iaload, 1) := by decide +kernel
theorem d_MacroExpandLaw_law_138 : decode code 138 = .ok (.aload_n 0, 1) := by decide +kernel
theorem d_MacroExpandLaw_law_139 : decode code 139 = .ok (.iload_n 3, 1) := by decide +kernel
theorem d_MacroExpandLaw_law_140 : decode code 140 = .ok (.iconst 3, 1) := by decide +kernel
theorem d_MacroExpandLaw_law_141 : decode code 141 = .ok (.iadd, 1) := by decide +kernel
theorem d_MacroExpandLaw_law_142 : decode code 142 = .ok (.iaload, 1) := by decide +kernel
theorem d_MacroExpandLaw_law_143 : decode code 143 = .ok (.invokevirtual 25, 3) := by decide +kernel
theorem d_MacroExpandLaw_law_146 : decode code 146 = .ok (.if_icmp .eq 330, 3) := by decide +kernel
theorem d_MacroExpandLaw_law_149 : decode code 149 = .ok (.iconst 0, 1) := by decide +kernel
theorem d_MacroExpandLaw_law_150 : decode code 150 = .ok (.ireturn, 1) := by decide +kernel
theorem d_MacroExpandLaw_law_151 : decode code 151 = .ok (.aload_n 1, 1) := by decide +kernel
theorem d_MacroExpandLaw_law_152 : decode code 152 = .ok (.aload_n 0, 1) := by decide +kernel
theorem d_MacroExpandLaw_law_153 : decode code 153 = .ok (.iload_n 3, 1) := by decide +kernel
theorem d_MacroExpandLaw_law_154 : decode code 154 = .ok (.iconst 1, 1) := by decide +kernel
theorem d_MacroExpandLaw_law_155 : decode code 155 = .ok (.iadd, 1) := by decide +kernel
theorem d_MacroExpandLaw_law_156 : decode code 156 = .ok (.iaload, 1) := by decide +kernel
theorem d_MacroExpandLaw_law_157 : decode code 157 = .ok (.aload_n 0, 1) := by decide +kernel
theorem d_MacroExpandLaw_law_158 : decode code 158 = .ok (.iload_n 3, 1) := by decide +kernel
theorem d_MacroExpandLaw_law_159 : decode code 159 = .ok (.iconst 2, 1) := by decide +kernel
theorem d_MacroExpandLaw_law_160 : decode code 160 = .ok (.iadd, 1) := by decide +kernel
theorem d_MacroExpandLaw_law_161 : decode code 161 = .ok (.iaload, 1) := by decide +kernel
theorem d_MacroExpandLaw_law_162 : decode code 162 = .ok (.invokevirtual 26, 3) := by decide +kernel
theorem d_MacroExpandLaw_law_165 : decode code 165 = .ok (.aload_n 2, 1) := by decide +kernel
theorem d_MacroExpandLaw_law_166 : decode code 166 = .ok (.aload_n 0, 1) := by decide +kernel
theorem d_MacroExpandLaw_law_167 : decode code 167 = .ok (.iload_n 3, 1) := by decide +kernel
theorem d_MacroExpandLaw_law_168 : decode code 168 = .ok (.iconst 1, 1) := by decide +kernel
theorem d_MacroExpandLaw_law_169 : decode code 169 = .ok (.iadd, 1) := by decide +kernel
theorem d_MacroExpandLaw_law_170 : decode code 170 = .ok (.iaload, 1) := by decide +kernel
theorem d_MacroExpandLaw_law_171 : decode code 171 = .ok (.aload_n 0, 1) := by decide +kernel
theorem d_MacroExpandLaw_law_172 : decode code 172 = .ok (.iload_n 3, 1) := by decide +kernel
theorem d_MacroExpandLaw_law_173 : decode code 173 = .ok (.iconst 2, 1) := by decide +kernel
theorem d_MacroExpandLaw_law_174 : decode code 174 = .ok (.iadd, 1) := by decide +kernel
theorem d_MacroExpandLaw_law_175 : decode code 175 = .ok (.iaload, 1) := by decide +kernel
theorem d_MacroExpandLaw_law_176 : decode code 176 = .ok (.invokevirtual 30, 3) := by decide +kernel
theorem d_MacroExpandLaw_law_179 : decode code 179 = .ok (.if_icmp .eq 297, 3) := by decide +kernel
theorem d_MacroExpandLaw_law_182 : decode code 182 = .ok (.iconst 0, 1) := by decide +kernel
theorem d_MacroExpandLaw_law_183 : decode code 183 = .ok (.ireturn, 1) := by decide +kernel
theorem d_MacroExpandLaw_law_184 : decode code 184 = .ok (.aload_n 1, 1) := by decide +kernel
theorem d_MacroExpandLaw_law_185 : decode code 185 = .ok (.aload_n 0, 1) := by decide +kernel
theorem d_MacroExpandLaw_law_186 : decode code 186 = .ok (.iload_n 3, 1) := by decide +kernel
theorem d_MacroExpandLaw_law_187 : decode code 187 = .ok (.iconst 1, 1) := by decide +kernel
theorem d_MacroExpandLaw_law_188 : decode code 188 = .ok (.iadd, 1) := by decide +kernel
theorem d_MacroExpandLaw_law_189 : decode code 189 = .ok (.iaload, 1) := by decide +kernel
theorem d_MacroExpandLaw_law_190 : decode code 190 = .ok (.aload_n 0, 1) := by decide +kernel
theorem d_MacroExpandLaw_law_191 : decode code 191 = .ok (.iload_n 3, 1) := by decide +kernel
theorem d_MacroExpandLaw_law_192 : decode code 192 = .ok (.iconst 2, 1) := by decide +kernel
theorem d_MacroExpandLaw_law_193 : decode code 193 = .ok (.iadd, 1) := by decide +kernel
theorem d_MacroExpandLaw_law_194 : decode code 194 = .ok (.iaload, 1) := by decide +kernel
theorem d_MacroExpandLaw_law_195 : decode code 195 = .ok (.aload_n 0, 1) := by decide +kernel
theorem d_MacroExpandLaw_law_196 : decode code 196 = .ok (.iload_n 3, 1) := by decide +kernel
theorem d_MacroExpandLaw_law_197 : decode code 197 = .ok (.iconst 3, 1) := by decide +kernel
theorem d_MacroExpandLaw_law_198 : decode code 198 = .ok (.iadd, 1) := by decide +kernel
theorem d_MacroExpandLaw_law_199 : decode code 199 = .ok (.iaload, 1) := by decide +kernel
theorem d_MacroExpandLaw_law_200 : decode code 200 = .ok (.invokevirtual 31, 3) := by decide +kernel
theorem d_MacroExpandLaw_law_203 : decode code 203 = .ok (.aload_n 2, 1) := by decide +kernel
theorem d_MacroExpandLaw_law_204 : decode code 204 = .ok (.aload_n 0, 1) := by decide +kernel
theorem d_MacroExpandLaw_law_205 : decode code 205 = .ok (.iload_n 3, 1) := by decide +kernel
theorem d_MacroExpandLaw_law_206 : decode code 206 = .ok (.iconst 1, 1) := by decide +kernel
theorem d_MacroExpandLaw_law_207 : decode code 207 = .ok (.iadd, 1) := by decide +kernel
theorem d_MacroExpandLaw_law_208 : decode code 208 = .ok (.iaload, 1) := by decide +kernel
theorem d_MacroExpandLaw_law_209 : decode code 209 = .ok (.aload_n 0, 1) := by decide +kernel
theorem d_MacroExpandLaw_law_210 : decode code 210 = .ok (.iload_n 3, 1) := by decide +kernel
theorem d_MacroExpandLaw_law_211 : decode code 211 = .ok (.iconst 2, 1) := by decide +kernel
theorem d_MacroExpandLaw_law_212 : decode code 212 = .ok (.iadd, 1) := by decide +kernel
theorem d_MacroExpandLaw_law_213 : decode code 213 = .ok (.iaload, 1) := by decide +kernel
theorem d_MacroExpandLaw_law_214 : decode code 214 = .ok (.aload_n 0, 1) := by decide +kernel
theorem d_MacroExpandLaw_law_215 : decode code 215 = .ok (.iload_n 3, 1) := by decide +kernel
theorem d_MacroExpandLaw_law_216 : decode code 216 = .ok (.iconst 3, 1) := by decide +kernel
theorem d_MacroExpandLaw_law_217 : decode code 217 = .ok (.iadd, 1) := by decide +kernel
theorem d_MacroExpandLaw_law_218 : decode code 218 = .ok (.iaload, 1) := by decide +kernel
theorem d_MacroExpandLaw_law_219 : decode code 219 = .ok (.invokevirtual 34, 3) := by decide +kernel
theorem d_MacroExpandLaw_law_222 : decode code 222 = .ok (.if_icmp .eq 254, 3) := by decide +kernel
theorem d_MacroExpandLaw_law_225 : decode code 225 = .ok (.iconst 0, 1) := by decide +kernel
theorem d_MacroExpandLaw_law_226 : decode code 226 = .ok (.ireturn, 1) := by decide +kernel
theorem d_MacroExpandLaw_law_227 : decode code 227 = .ok (.aload_n 1, 1) := by decide +kernel
theorem d_MacroExpandLaw_law_228 : decode code 228 = .ok (.aload_n 0, 1) := by decide +kernel
theorem d_MacroExpandLaw_law_229 : decode code 229 = .ok (.iload_n 3, 1) := by decide +kernel
theorem d_MacroExpandLaw_law_230 : decode code 230 = .ok (.iconst 1, 1) := by decide +kernel
theorem d_MacroExpandLaw_law_231 : decode code 231 = .ok (.iadd, 1) := by decide +kernel
theorem d_MacroExpandLaw_law_232 : decode code 232 = .ok (.iaload, 1) := by decide +kernel
theorem d_MacroExpandLaw_law_233 : decode code 233 = .ok (.invokevirtual 35, 3) := by decide +kernel
theorem d_MacroExpandLaw_law_236 : decode code 236 = .ok (.aload_n 2, 1) := by decide +kernel
theorem d_MacroExpandLaw_law_237 : decode code 237 = .ok (.aload_n 0, 1) := by decide +kernel
theorem d_MacroExpandLaw_law_238 : decode code 238 = .ok (.iload_n 3, 1) := by decide +kernel
theorem d_MacroExpandLaw_law_239 : decode code 239 = .ok (.iconst 1, 1) := by decide +kernel
theorem d_MacroExpandLaw_law_240 : decode code 240 = .ok (.iadd, 1) := by decide +kernel
theorem d_MacroExpandLaw_law_241 : decode code 241 = .ok (.iaload, 1) := by decide +kernel
theorem d_MacroExpandLaw_law_242 : decode code 242 = .ok (.invokevirtual 39, 3) := by decide +kernel
theorem d_MacroExpandLaw_law_245 : decode code 245 = .ok (.if_icmp .eq 231, 3) := by decide +kernel
theorem d_MacroExpandLaw_law_248 : decode code 248 = .ok (.iconst 0, 1) := by decide +kernel
theorem d_MacroExpandLaw_law_249 : decode code 249 = .ok (.ireturn, 1) := by decide +kernel
theorem d_MacroExpandLaw_law_250 : decode code 250 = .ok (.aload_n 1, 1) := by decide +kernel
theorem d_MacroExpandLaw_law_251 : decode code 251 = .ok (.aload_n 0, 1) := by decide +kernel
theorem d_MacroExpandLaw_law_252 : decode code 252 = .ok (.iload_n 3, 1) := by decide +kernel
theorem d_MacroExpandLaw_law_253 : decode code 253 = .ok (.iconst 1, 1) := by decide +kernel
theorem d_MacroExpandLaw_law_254 : decode code 254 = .ok (.iadd, 1) := by decide +kernel
theorem d_MacroExpandLaw_law_255 : decode code 255 = .ok (.iaload, 1) := by decide +kernel
theorem d_MacroExpandLaw_law_256 : decode code 256 = .ok (.ifCond .eq 7, 3) := by decide +kernel
theorem d_MacroExpandLaw_law_259 : decode code 259 = .ok (.iconst 1, 1) := by decide +kernel
theorem d_MacroExpandLaw_law_260 : decode code 260 = .ok (.goto 4, 3) := by decide +kernel
theorem d_MacroExpandLaw_law_263 : decode code 263 = .ok (.iconst 0, 1) := by decide +kernel
theorem d_MacroExpandLaw_law_264 : decode code 264 = .ok (.invokevirtual 40, 3) := by decide +kernel
theorem d_MacroExpandLaw_law_267 : decode code 267 = .ok (.aload_n 2, 1) := by decide +kernel
theorem d_MacroExpandLaw_law_268 : decode code 268 = .ok (.aload_n 0, 1) := by decide +kernel
theorem d_MacroExpandLaw_law_269 : decode code 269 = .ok (.iload_n 3, 1) := by decide +kernel
theorem d_MacroExpandLaw_law_270 : decode code 270 = .ok (.iconst 1, 1) := by decide +kernel
theorem d_MacroExpandLaw_law_271 : decode code 271 = .ok (.iadd, 1) := by decide +kernel
theorem d_MacroExpandLaw_law_272 : decode code 272 = .ok (.iaload, 1) := by decide +kernel
theorem d_MacroExpandLaw_law_273 : decode code 273 = .ok (.ifCond .eq 7, 3) := by decide +kernel
theorem d_MacroExpandLaw_law_276 : decode code 276 = .ok (.iconst 1, 1) := by decide +kernel
theorem d_MacroExpandLaw_law_277 : decode code 277 = .ok (.goto 4, 3) := by decide +kernel
theorem d_MacroExpandLaw_law_280 : decode code 280 = .ok (.iconst 0, 1) := by decide +kernel
theorem d_MacroExpandLaw_law_281 : decode code 281 = .ok (.invokevirtual 44, 3) := by decide +kernel
theorem d_MacroExpandLaw_law_284 : decode code 284 = .ok (.if_icmp .eq 192, 3) := by decide +kernel
theorem d_MacroExpandLaw_law_287 : decode code 287 = .ok (.iconst 0, 1) := by decide +kernel
theorem d_MacroExpandLaw_law_288 : decode code 288 = .ok (.ireturn, 1) := by decide +kernel
theorem d_MacroExpandLaw_law_289 : decode code 289 = .ok (.aload_n 1, 1) := by decide +kernel
theorem d_MacroExpandLaw_law_290 : decode code 290 = .ok (.aload_n 0, 1) := by decide +kernel
theorem d_MacroExpandLaw_law_291 : decode code 291 = .ok (.iload_n 3, 1) := by decide +kernel
theorem d_MacroExpandLaw_law_292 : decode code 292 = .ok (.iconst 1, 1) := by decide +kernel
theorem d_MacroExpandLaw_law_293 : decode code 293 = .ok (.iadd, 1) := by decide +kernel
theorem d_MacroExpandLaw_law_294 : decode code 294 = .ok (.iaload, 1) := by decide +kernel
theorem d_MacroExpandLaw_law_295 : decode code 295 = .ok (.invokevirtual 45, 3) := by decide +kernel
theorem d_MacroExpandLaw_law_298 : decode code 298 = .ok (.aload_n 2, 1) := by decide +kernel
theorem d_MacroExpandLaw_law_299 : decode code 299 = .ok (.aload_n 0, 1) := by decide +kernel
theorem d_MacroExpandLaw_law_300 : decode code 300 = .ok (.iload_n 3, 1) := by decide +kernel
theorem d_MacroExpandLaw_law_301 : decode code 301 = .ok (.iconst 1, 1) := by decide +kernel
theorem d_MacroExpandLaw_law_302 : decode code 302 = .ok (.iadd, 1) := by decide +kernel
theorem d_MacroExpandLaw_law_303 : decode code 303 = .ok (.iaload, 1) := by decide +kernel
theorem d_MacroExpandLaw_law_304 : decode code 304 = .ok (.invokevirtual 48, 3) := by decide +kernel
theorem d_MacroExpandLaw_law_307 : decode code 307 = .ok (.if_icmp .eq 169, 3) := by decide +kernel
theorem d_MacroExpandLaw_law_310 : decode code 310 = .ok (.iconst 0, 1) := by decide +kernel
theorem d_MacroExpandLaw_law_311 : decode code 311 = .ok (.ireturn, 1) := by decide +kernel
theorem d_MacroExpandLaw_law_312 : decode code 312 = .ok (.aload_n 1, 1) := by decide +kernel
theorem d_MacroExpandLaw_law_313 : decode code 313 = .ok (.aload_n 0, 1) := by decide +kernel
theorem d_MacroExpandLaw_law_314 : decode code 314 = .ok (.iload_n 3, 1) := by decide +kernel
theorem d_MacroExpandLaw_law_315 : decode code 315 = .ok (.iconst 1, 1) := by decide +kernel
theorem d_MacroExpandLaw_law_316 : decode code 316 = .ok (.iadd, 1) := by decide +kernel
theorem d_MacroExpandLaw_law_317 : decode code 317 = .ok (.iaload, 1) := by decide +kernel
theorem d_MacroExpandLaw_law_318 : decode code 318 = .ok (.invokevirtual 49, 3) := by decide +kernel
theorem d_MacroExpandLaw_law_321 : decode code 321 = .ok (.aload_n 2, 1) := by decide +kernel
theorem d_MacroExpandLaw_law_322 : decode code 322 = .ok (.aload_n 0, 1) := by decide +kernel
theorem d_MacroExpandLaw_law_323 : decode code 323 = .ok (.iload_n 3, 1) := by decide +kernel
theorem d_MacroExpandLaw_law_324 : decode code 324 = .ok (.iconst 1, 1) := by decide +kernel
theorem d_MacroExpandLaw_law_325 : decode code 325 = .ok (.iadd, 1) := by decide +kernel
theorem d_MacroExpandLaw_law_326 : decode code 326 = .ok (.iaload, 1) := by decide +kernel
theorem d_MacroExpandLaw_law_327 : decode code 327 = .ok (.invokevirtual 52, 3) := by decide +kernel
theorem d_MacroExpandLaw_law_330 : decode code 330 = .ok (.if_icmp .eq 146, 3) := by decide +kernel
theorem d_MacroExpandLaw_law_333 : decode code 333 = .ok (.iconst 0, 1) := by decide +kernel
theorem d_MacroExpandLaw_law_334 : decode code 334 = .ok (.ireturn, 1) := by decide +kernel
theorem d_MacroExpandLaw_law_335 : decode code 335 = .ok (.aload_n 1, 1) := by decide +kernel
theorem d_MacroExpandLaw_law_336 : decode code 336 = .ok (.aload_n 0, 1) := by decide +kernel
theorem d_MacroExpandLaw_law_337 : decode code 337 = .ok (.iload_n 3, 1) := by decide +kernel
theorem d_MacroExpandLaw_law_338 : decode code 338 = .ok (.iconst 1, 1) := by decide +kernel
theorem d_MacroExpandLaw_law_339 : decode code 339 = .ok (.iadd, 1) := by decide +kernel
theorem d_MacroExpandLaw_law_340 : decode code 340 = .ok (.iaload, 1) := by decide +kernel
theorem d_MacroExpandLaw_law_341 : decode code 341 = .ok (.ifCond .eq 7, 3) := by decide +kernel
theorem d_MacroExpandLaw_law_344 : decode code 344 = .ok (.iconst 1, 1) := by decide +kernel
theorem d_MacroExpandLaw_law_345 : decode code 345 = .ok (.goto 4, 3) := by decide +kernel
theorem d_MacroExpandLaw_law_348 : decode code 348 = .ok (.iconst 0, 1) := by decide +kernel
theorem d_MacroExpandLaw_law_349 : decode code 349 = .ok (.invokevirtual 53, 3) := by decide +kernel
theorem d_MacroExpandLaw_law_352 : decode code 352 = .ok (.aload_n 2, 1) := by decide +kernel
theorem d_MacroExpandLaw_law_353 : decode code 353 = .ok (.aload_n 0, 1) := by decide +kernel
theorem d_MacroExpandLaw_law_354 : decode code 354 = .ok (.iload_n 3, 1) := by decide +kernel
theorem d_MacroExpandLaw_law_355 : decode code 355 = .ok (.iconst 1, 1) := by decide +kernel
theorem d_MacroExpandLaw_law_356 : decode code 356 = .ok (.iadd, 1) := by decide +kernel
theorem d_MacroExpandLaw_law_357 : decode code 357 = .ok (.iaload, 1) := by decide +kernel
theorem d_MacroExpandLaw_law_358 : decode code 358 = .ok (.ifCond .eq 7, 3) := by decide +kernel
theorem d_MacroExpandLaw_law_361 : decode code 361 = .ok (.iconst 1, 1) := by decide +kernel
theorem d_MacroExpandLaw_law_362 : decode code 362 = .ok (.goto 4, 3) := by decide +kernel
theorem d_MacroExpandLaw_law_365 : decode code 365 = .ok (.iconst 0, 1) := by decide +kernel
theorem d_MacroExpandLaw_law_366 : decode code 366 = .ok (.invokevirtual 56, 3) := by decide +kernel
theorem d_MacroExpandLaw_law_369 : decode code 369 = .ok (.if_icmp .eq 107, 3) := by decide +kernel
theorem d_MacroExpandLaw_law_372 : decode code 372 = .ok (.iconst 0, 1) := by decide +kernel
theorem d_MacroExpandLaw_law_373 : decode code 373 = .ok (.ireturn, 1) := by decide +kernel
theorem d_MacroExpandLaw_law_374 : decode code 374 = .ok (.aload_n 1, 1) := by decide +kernel
theorem d_MacroExpandLaw_law_375 : decode code 375 = .ok (.aload_n 0, 1) := by decide +kernel
theorem d_MacroExpandLaw_law_376 : decode code 376 = .ok (.iload_n 3, 1) := by decide +kernel
theorem d_MacroExpandLaw_law_377 : decode code 377 = .ok (.iconst 1, 1) := by decide +kernel
theorem d_MacroExpandLaw_law_378 : decode code 378 = .ok (.iadd, 1) := by decide +kernel
theorem d_MacroExpandLaw_law_379 : decode code 379 = .ok (.iaload, 1) := by decide +kernel
theorem d_MacroExpandLaw_law_380 : decode code 380 = .ok (.invokevirtual 57, 3) := by decide +kernel
theorem d_MacroExpandLaw_law_383 : decode code 383 = .ok (.aload_n 2, 1) := by decide +kernel
theorem d_MacroExpandLaw_law_384 : decode code 384 = .ok (.aload_n 0, 1) := by decide +kernel
theorem d_MacroExpandLaw_law_385 : decode code 385 = .ok (.iload_n 3, 1) := by decide +kernel
theorem d_MacroExpandLaw_law_386 : decode code 386 = .ok (.iconst 1, 1) := by decide +kernel
theorem d_MacroExpandLaw_law_387 : decode code 387 = .ok (.iadd, 1) := by decide +kernel
theorem d_MacroExpandLaw_law_388 : decode code 388 = .ok (.iaload, 1) := by decide +kernel
theorem d_MacroExpandLaw_law_389 : decode code 389 = .ok (.invokevirtual 60, 3) := by decide +kernel
theorem d_MacroExpandLaw_law_392 : decode code 392 = .ok (.if_icmp .eq 84, 3) := by decide +kernel
theorem d_MacroExpandLaw_law_395 : decode code 395 = .ok (.iconst 0, 1) := by decide +kernel
theorem d_MacroExpandLaw_law_396 : decode code 396 = .ok (.ireturn, 1) := by decide +kernel
theorem d_MacroExpandLaw_law_397 : decode code 397 = .ok (.aload_n 1, 1) := by decide +kernel
theorem d_MacroExpandLaw_law_398 : decode code 398 = .ok (.aload_n 0, 1) := by decide +kernel
theorem d_MacroExpandLaw_law_399 : decode code 399 = .ok (.iload_n 3, 1) := by decide +kernel
theorem d_MacroExpandLaw_law_400 : decode code 400 = .ok (.iconst 1, 1) := by decide +kernel
theorem d_MacroExpandLaw_law_401 : decode code 401 = .ok (.iadd, 1) := by decide +kernel
theorem d_MacroExpandLaw_law_402 : decode code 402 = .ok (.iaload, 1) := by decide +kernel
theorem d_MacroExpandLaw_law_403 : decode code 403 = .ok (.aload_n 0, 1) := by decide +kernel
theorem d_MacroExpandLaw_law_404 : decode code 404 = .ok (.iload_n 3, 1) := by decide +kernel
theorem d_MacroExpandLaw_law_405 : decode code 405 = .ok (.iconst 2, 1) := by decide +kernel
theorem d_MacroExpandLaw_law_406 : decode code 406 = .ok (.iadd, 1) := by decide +kernel
theorem d_MacroExpandLaw_law_407 : decode code 407 = .ok (.iaload, 1) := by decide +kernel
theorem d_MacroExpandLaw_law_408 : decode code 408 = .ok (.invokevirtual 61, 3) := by decide +kernel
theorem d_MacroExpandLaw_law_411 : decode code 411 = .ok (.aload_n 2, 1) := by decide +kernel
theorem d_MacroExpandLaw_law_412 : decode code 412 = .ok (.aload_n 0, 1) := by decide +kernel
theorem d_MacroExpandLaw_law_413 : decode code 413 = .ok (.iload_n 3, 1) := by decide +kernel
theorem d_MacroExpandLaw_law_414 : decode code 414 = .ok (.iconst 1, 1) := by decide +kernel
theorem d_MacroExpandLaw_law_415 : decode code 415 = .ok (.iadd, 1) := by decide +kernel
theorem d_MacroExpandLaw_law_416 : decode code 416 = .ok (.iaload, 1) := by decide +kernel
theorem d_MacroExpandLaw_law_417 : decode code 417 = .ok (.aload_n 0, 1) := by decide +kernel
theorem d_MacroExpandLaw_law_418 : decode code 418 = .ok (.iload_n 3, 1) := by decide +kernel
theorem d_MacroExpandLaw_law_419 : decode code 419 = .ok (.iconst 2, 1) := by decide +kernel
theorem d_MacroExpandLaw_law_420 : decode code 420 = .ok (.iadd, 1) := by decide +kernel
theorem d_MacroExpandLaw_law_421 : decode code 421 = .ok (.iaload, 1) := by decide +kernel
theorem d_MacroExpandLaw_law_422 : decode code 422 = .ok (.invokevirtual 64, 3) := by decide +kernel
theorem d_MacroExpandLaw_law_425 : decode code 425 = .ok (.if_icmp .eq 51, 3) := by decide +kernel
theorem d_MacroExpandLaw_law_428 : decode code 428 = .ok (.iconst 0, 1) := by decide +kernel
theorem d_MacroExpandLaw_law_429 : decode code 429 = .ok (.ireturn, 1) := by decide +kernel
theorem d_MacroExpandLaw_law_430 : decode code 430 = .ok (.aload_n 1, 1) := by decide +kernel
theorem d_MacroExpandLaw_law_431 : decode code 431 = .ok (.aload_n 0, 1) := by decide +kernel
theorem d_MacroExpandLaw_law_432 : decode code 432 = .ok (.iload_n 3, 1) := by decide +kernel
theorem d_MacroExpandLaw_law_433 : decode code 433 = .ok (.iconst 1, 1) := by decide +kernel
theorem d_MacroExpandLaw_law_434 : decode code 434 = .ok (.iadd, 1) := by decide +kernel
theorem d_MacroExpandLaw_law_435 : decode code 435 = .ok (.iaload, 1) := by decide +kernel
theorem d_MacroExpandLaw_law_436 : decode code 436 = .ok (.invokevirtual 65, 3) := by decide +kernel
theorem d_MacroExpandLaw_law_439 : decode code 439 = .ok (.aload_n 2, 1) := by decide +kernel
theorem d_MacroExpandLaw_law_440 : decode code 440 = .ok (.aload_n 0, 1) := by decide +kernel
theorem d_MacroExpandLaw_law_441 : decode code 441 = .ok (.iload_n 3, 1) := by decide +kernel
theorem d_MacroExpandLaw_law_442 : decode code 442 = .ok (.iconst 1, 1) := by decide +kernel
theorem d_MacroExpandLaw_law_443 : decode code 443 = .ok (.iadd, 1) := by decide +kernel
theorem d_MacroExpandLaw_law_444 : decode code 444 = .ok (.iaload, 1) := by decide +kernel
theorem d_MacroExpandLaw_law_445 : decode code 445 = .ok (.invokevirtual 68, 3) := by decide +kernel
theorem d_MacroExpandLaw_law_448 : decode code 448 = .ok (.if_icmp .eq 28, 3) := by decide +kernel
theorem d_MacroExpandLaw_law_451 : decode code 451 = .ok (.iconst 0, 1) := by decide +kernel
theorem d_MacroExpandLaw_law_452 : decode code 452 = .ok (.ireturn, 1) := by decide +kernel
theorem d_MacroExpandLaw_law_453 : decode code 453 = .ok (.aload_n 1, 1) := by decide +kernel
theorem d_MacroExpandLaw_law_454 : decode code 454 = .ok (.aload_n 0, 1) := by decide +kernel
theorem d_MacroExpandLaw_law_455 : decode code 455 = .ok (.iload_n 3, 1) := by decide +kernel
theorem d_MacroExpandLaw_law_456 : decode code 456 = .ok (.iconst 1, 1) := by decide +kernel
theorem d_MacroExpandLaw_law_457 : decode code 457 = .ok (.iadd, 1) := by decide +kernel
theorem d_MacroExpandLaw_law_458 : decode code 458 = .ok (.iaload, 1) := by decide +kernel
theorem d_MacroExpandLaw_law_459 : decode code 459 = .ok (.invokevirtual 69, 3) := by decide +kernel
theorem d_MacroExpandLaw_law_462 : decode code 462 = .ok (.aload_n 2, 1) := by decide +kernel
theorem d_MacroExpandLaw_law_463 : decode code 463 = .ok (.aload_n 0, 1) := by decide +kernel
theorem d_MacroExpandLaw_law_464 : decode code 464 = .ok (.iload_n 3, 1) := by decide +kernel
theorem d_MacroExpandLaw_law_465 : decode code 465 = .ok (.iconst 1, 1) := by decide +kernel
theorem d_MacroExpandLaw_law_466 : decode code 466 = .ok (.iadd, 1) := by decide +kernel
theorem d_MacroExpandLaw_law_467 : decode code 467 = .ok (.iaload, 1) := by decide +kernel
theorem d_MacroExpandLaw_law_468 : decode code 468 = .ok (.invokevirtual 72, 3) := by decide +kernel
theorem d_MacroExpandLaw_law_471 : decode code 471 = .ok (.if_icmp .eq 5, 3) := by decide +kernel
theorem d_MacroExpandLaw_law_474 : decode code 474 = .ok (.iconst 0, 1) := by decide +kernel
theorem d_MacroExpandLaw_law_475 : decode code 475 = .ok (.ireturn, 1) := by decide +kernel
theorem d_MacroExpandLaw_law_476 : decode code 476 = .ok (.iinc 3 4, 3) := by decide +kernel
theorem d_MacroExpandLaw_law_479 : decode code 479 = .ok (.goto (-449), 3) := by decide +kernel
theorem d_MacroExpandLaw_law_482 : decode code 482 = .ok (.iconst 1, 1) := by decide +kernel
theorem d_MacroExpandLaw_law_483 : decode code 483 = .ok (.ireturn, 1) := by decide +kernel
