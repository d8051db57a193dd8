theorem nd_L_cell_0 : decode method_2_code 0 = .ok (.iload_n 1, 1) := by decide +kernel
theorem nd_L_cell_1 : decode method_2_code 1 = .ok (.aload_n 0, 1) := by decide +kernel
theorem nd_L_cell_2 : decode method_2_code 2 = .ok (.arraylength, 1) := by decide +kernel
theorem nd_L_cell_3 : decode method_2_code 3 = .ok (.if_icmp .ge 9, 3) := by decide +kernel
theorem nd_L_cell_6 : decode method_2_code 6 = .ok (.aload_n 0, 1) := by decide +kernel
theorem nd_L_cell_7 : decode method_2_code 7 = .ok (.iload_n 1, 1) := by decide +kernel
theorem nd_L_cell_8 : decode method_2_code 8 = .ok (.iaload, 1) := by decide +kernel
theorem nd_L_cell_9 : decode method_2_code 9 = .ok (.goto 4, 3) := by decide +kernel
theorem nd_L_cell_12 : decode method_2_code 12 = .ok (.iconst 0, 1) := by decide +kernel
theorem nd_L_cell_13 : decode method_2_code 13 = .ok (.ireturn, 1) := by decide +kernel
theorem nd_L_law_0 : decode code 0 = .ok (.new 7, 3) := by decide +kernel
theorem nd_L_law_3 : decode code 3 = .ok (.dup, 1) := by decide +kernel
theorem nd_L_law_4 : decode code 4 = .ok (.aload_n 0, 1) := by decide +kernel
theorem nd_L_law_5 : decode code 5 = .ok (.iconst 0, 1) := by decide +kernel
theorem nd_L_law_6 : decode code 6 = .ok (.invokestatic 9, 3) := by decide +kernel
theorem nd_L_law_9 : decode code 9 = .ok (.invokespecial 15, 3) := by decide +kernel
theorem nd_L_law_12 : decode code 12 = .ok (.astore_n 1, 1) := by decide +kernel
theorem nd_L_law_13 : decode code 13 = .ok (.new 18, 3) := by decide +kernel
theorem nd_L_law_16 : decode code 16 = .ok (.dup, 1) := by decide +kernel
theorem nd_L_law_17 : decode code 17 = .ok (.aload_n 0, 1) := by decide +kernel
theorem nd_L_law_18 : decode code 18 = .ok (.iconst 0, 1) := by decide +kernel
theorem nd_L_law_19 : decode code 19 = .ok (.invokestatic 9, 3) := by decide +kernel
theorem nd_L_law_22 : decode code 22 = .ok (.invokespecial 20, 3) := by decide +kernel
theorem nd_L_law_25 : decode code 25 = .ok (.astore_n 2, 1) := by decide +kernel
theorem nd_L_law_26 : decode code 26 = .ok (.iconst 1, 1) := by decide +kernel
theorem nd_L_law_27 : decode code 27 = .ok (.istore_n 3, 1) := by decide +kernel
theorem nd_L_law_28 : decode code 28 = .ok (.iload_n 3, 1) := by decide +kernel
theorem nd_L_law_29 : decode code 29 = .ok (.aload_n 0, 1) := by decide +kernel
theorem nd_L_law_30 : decode code 30 = .ok (.arraylength, 1) := by decide +kernel
theorem nd_L_law_31 : decode code 31 = .ok (.iconst 4, 1) := by decide +kernel
theorem nd_L_law_32 : decode code 32 = .ok (.isub, 1) := by decide +kernel
theorem nd_L_law_33 : decode code 33 = .ok (.if_icmp .gt 305, 3) := by decide +kernel
theorem nd_L_law_36 : decode code 36 = .ok (.aload_n 0, 1) := by decide +kernel
theorem nd_L_law_37 : decode code 37 = .ok (.iload_n 3, 1) := by decide +kernel
theorem nd_L_law_38 : decode code 38 = .ok (.iaload, 1) := by decide +kernel
theorem nd_L_law_39 : decode code 39 = .ok (.bipush 15, 2) := by decide +kernel
theorem nd_L_law_41 : decode code 41 = .ok (.iand, 1) := by decide +kernel
theorem nd_L_law_42 : decode code 42 = .ok (.tableswitch 290 0 8 #[50, 75, 98, 141, 165, 178, 201, 234, 267], 50) := by decide +kernel
theorem nd_L_law_92 : decode code 92 = .ok (.aload_n 1, 1) := by decide +kernel
theorem nd_L_law_93 : decode code 93 = .ok (.aload_n 0, 1) := by decide +kernel
theorem nd_L_law_94 : decode code 94 = .ok (.iload_n 3, 1) := by decide +kernel
theorem nd_L_law_95 : decode code 95 = .ok (.iconst 1, 1) := by decide +kernel
theorem nd_L_law_96 : decode code 96 = .ok (.iadd, 1) := by decide +kernel
theorem nd_L_law_97 : decode code 97 = .ok (.iaload, 1) := by decide +kernel
theorem nd_L_law_98 : decode code 98 = .ok (.i2c, 1) := by decide +kernel
theorem nd_L_law_99 : decode code 99 = .ok (.invokevirtual 21, 3) := by decide +kernel
theorem nd_L_law_102 : decode code 102 = .ok (.aload_n 2, 1) := by decide +kernel
theorem nd_L_law_103 : decode code 103 = .ok (.aload_n 0, 1) := by decide +kernel
theorem nd_L_law_104 : decode code 104 = .ok (.iload_n 3, 1) := by decide +kernel
theorem nd_L_law_105 : decode code 105 = .ok (.iconst 1, 1) := by decide +kernel
theorem nd_L_law_106 : decode code 106 = .ok (.iadd, 1) := by decide +kernel
theorem nd_L_law_107 : decode code 107 = .ok (.iaload, 1) := by decide +kernel
theorem nd_L_law_108 : decode code 108 = .ok (.i2c, 1) := by decide +kernel
theorem nd_L_law_109 : decode code 109 = .ok (.invokevirtual 25, 3) := by decide +kernel
theorem nd_L_law_112 : decode code 112 = .ok (.if_icmp .eq 220, 3) := by decide +kernel
theorem nd_L_law_115 : decode code 115 = .ok (.iconst 0, 1) := by decide +kernel
theorem nd_L_law_116 : decode code 116 = .ok (.ireturn, 1) := by decide +kernel
theorem nd_L_law_117 : decode code 117 = .ok (.aload_n 1, 1) := by decide +kernel
theorem nd_L_law_118 : decode code 118 = .ok (.aload_n 0, 1) := by decide +kernel
theorem nd_L_law_119 : decode code 119 = .ok (.iload_n 3, 1) := by decide +kernel
theorem nd_L_law_120 : decode code 120 = .ok (.iconst 1, 1) := by decide +kernel
theorem nd_L_law_121 : decode code 121 = .ok (.iadd, 1) := by decide +kernel
theorem nd_L_law_122 : decode code 122 = .ok (.iaload, 1) := by decide +kernel
theorem nd_L_law_123 : decode code 123 = .ok (.invokevirtual 26, 3) := by decide +kernel
theorem nd_L_law_126 : decode code 126 = .ok (.aload_n 2, 1) := by decide +kernel
theorem nd_L_law_127 : decode code 127 = .ok (.aload_n 0, 1) := by decide +kernel
theorem nd_L_law_128 : decode code 128 = .ok (.iload_n 3, 1) := by decide +kernel
theorem nd_L_law_129 : decode code 129 = .ok (.iconst 1, 1) := by decide +kernel
theorem nd_L_law_130 : decode code 130 = .ok (.iadd, 1) := by decide +kernel
theorem nd_L_law_131 : decode code 131 = .ok (.iaload, 1) := by decide +kernel
theorem nd_L_law_132 : decode code 132 = .ok (.invokevirtual 30, 3) := by decide +kernel
theorem nd_L_law_135 : decode code 135 = .ok (.if_icmp .eq 197, 3) := by decide +kernel
theorem nd_L_law_138 : decode code 138 = .ok (.iconst 0, 1) := by decide +kernel
theorem nd_L_law_139 : decode code 139 = .ok (.ireturn, 1) := by decide +kernel
theorem nd_L_law_140 : decode code 140 = .ok (.aload_n 1, 1) := by decide +kernel
theorem nd_L_law_141 : decode code 141 = .ok (.aload_n 0, 1) := by decide +kernel
theorem nd_L_law_142 : decode code 142 = .ok (.iload_n 3, 1) := by decide +kernel
theorem nd_L_law_143 : decode code 143 = .ok (.iconst 1, 1) := by decide +kernel
theorem nd_L_law_144 : decode code 144 = .ok (.iadd, 1) := by decide +kernel
theorem nd_L_law_145 : decode code 145 = .ok (.iaload, 1) := by decide +kernel
theorem nd_L_law_146 : decode code 146 = .ok (.aload_n 0, 1) := by decide +kernel
theorem nd_L_law_147 : decode code 147 = .ok (.iload_n 3, 1) := by decide +kernel
theorem nd_L_law_148 : decode code 148 = .ok (.iconst 2, 1) := by decide +kernel
theorem nd_L_law_149 : decode code 149 = .ok (.iadd, 1) := by decide +kernel
theorem nd_L_law_150 : decode code 150 = .ok (.iaload, 1) := by decide +kernel
theorem nd_L_law_151 : decode code 151 = .ok (.aload_n 0, 1) := by decide +kernel
theorem nd_L_law_152 : decode code 152 = .ok (.iload_n 3, 1) := by decide +kernel
theorem nd_L_law_153 : decode code 153 = .ok (.iconst 3, 1) := by decide +kernel
theorem nd_L_law_154 : decode code 154 = .ok (.iadd, 1) := by decide +kernel
theorem nd_L_law_155 : decode code 155 = .ok (.iaload, 1) := by decide +kernel
theorem nd_L_law_156 : decode code 156 = .ok (.invokevirtual 31, 3) := by decide +kernel
theorem nd_L_law_159 : decode code 159 = .ok (.aload_n 2, 1) := by decide +kernel
theorem nd_L_law_160 : decode code 160 = .ok (.aload_n 0, 1) := by decide +kernel
theorem nd_L_law_161 : decode code 161 = .ok (.iload_n 3, 1) := by decide +kernel
theorem nd_L_law_162 : decode code 162 = .ok (.iconst 1, 1) := by decide +kernel
theorem nd_L_law_163 : decode code 163 = .ok (.iadd, 1) := by decide +kernel
theorem nd_L_law_164 : decode code 164 = .ok (.iaload, 1) := by decide +kernel
theorem nd_L_law_165 : decode code 165 = .ok (.aload_n 0, 1) := by decide +kernel
theorem nd_L_law_166 : decode code 166 = .ok (.iload_n 3, 1) := by decide +kernel
theorem nd_L_law_167 : decode code 167 = .ok (.iconst 2, 1) := by decide +kernel
theorem nd_L_law_168 : decode code 168 = .ok (.iadd, 1) := by decide +kernel
theorem nd_L_law_169 : decode code 169 = .ok (.iaload, 1) := by decide +kernel
theorem nd_L_law_170 : decode code 170 = .ok (.aload_n 0, 1) := by decide +kernel
theorem nd_L_law_171 : decode code 171 = .ok (.iload_n 3, 1) := by decide +kernel
theorem nd_L_law_172 : decode code 172 = .ok (.iconst 3, 1) := by decide +kernel
theorem nd_L_law_173 : decode code 173 = .ok (.iadd, 1) := by decide +kernel
theorem nd_L_law_174 : decode code 174 = .ok (.iaload, 1) := by decide +kernel
theorem nd_L_law_175 : decode code 175 = .ok (.invokevirtual 35, 3) := by decide +kernel
theorem nd_L_law_178 : decode code 178 = .ok (.if_icmp .eq 154, 3) := by decide +kernel
theorem nd_L_law_181 : decode code 181 = .ok (.iconst 0, 1) := by decide +kernel
theorem nd_L_law_182 : decode code 182 = .ok (.ireturn, 1) := by decide +kernel
theorem nd_L_law_183 : decode code 183 = .ok (.aload_n 1, 1) := by decide +kernel
theorem nd_L_law_184 : decode code 184 = .ok (.aload_n 0, 1) := by decide +kernel
theorem nd_L_law_185 : decode code 185 = .ok (.iload_n 3, 1) := by decide +kernel
theorem nd_L_law_186 : decode code 186 = .ok (.iconst 1, 1) := by decide +kernel
theorem nd_L_law_187 : decode code 187 = .ok (.iadd, 1) := by decide +kernel
theorem nd_L_law_188 : decode code 188 = .ok (.iaload, 1) := by decide +kernel
theorem nd_L_law_189 : decode code 189 = .ok (.invokevirtual 36, 3) := by decide +kernel
theorem nd_L_law_192 : decode code 192 = .ok (.aload_n 2, 1) := by decide +kernel
theorem nd_L_law_193 : decode code 193 = .ok (.aload_n 0, 1) := by decide +kernel
theorem nd_L_law_194 : decode code 194 = .ok (.iload_n 3, 1) := by decide +kernel
theorem nd_L_law_195 : decode code 195 = .ok (.iconst 1, 1) := by decide +kernel
theorem nd_L_law_196 : decode code 196 = .ok (.iadd, 1) := by decide +kernel
theorem nd_L_law_197 : decode code 197 = .ok (.iaload, 1) := by decide +kernel
theorem nd_L_law_198 : decode code 198 = .ok (.invokevirtual 40, 3) := by decide +kernel
theorem nd_L_law_201 : decode code 201 = .ok (.lcmp, 1) := by decide +kernel
theorem nd_L_law_202 : decode code 202 = .ok (.ifCond .eq 130, 3) := by decide +kernel
theorem nd_L_law_205 : decode code 205 = .ok (.iconst 0, 1) := by decide +kernel
theorem nd_L_law_206 : decode code 206 = .ok (.ireturn, 1) := by decide +kernel
theorem nd_L_law_207 : decode code 207 = .ok (.aload_n 1, 1) := by decide +kernel
theorem nd_L_law_208 : decode code 208 = .ok (.invokevirtual 41, 3) := by decide +kernel
theorem nd_L_law_211 : decode code 211 = .ok (.aload_n 2, 1) := by decide +kernel
theorem nd_L_law_212 : decode code 212 = .ok (.invokevirtual 45, 3) := by decide +kernel
theorem nd_L_law_215 : decode code 215 = .ok (.if_icmp .eq 117, 3) := by decide +kernel
theorem nd_L_law_218 : decode code 218 = .ok (.iconst 0, 1) := by decide +kernel
theorem nd_L_law_219 : decode code 219 = .ok (.ireturn, 1) := by decide +kernel
theorem nd_L_law_220 : decode code 220 = .ok (.aload_n 1, 1) := by decide +kernel
theorem nd_L_law_221 : decode code 221 = .ok (.aload_n 0, 1) := by decide +kernel
theorem nd_L_law_222 : decode code 222 = .ok (.iload_n 3, 1) := by decide +kernel
theorem nd_L_law_223 : decode code 223 = .ok (.iconst 1, 1) := by decide +kernel
theorem nd_L_law_224 : decode code 224 = .ok (.iadd, 1) := by decide +kernel
theorem nd_L_law_225 : decode code 225 = .ok (.iaload, 1) := by decide +kernel
theorem nd_L_law_226 : decode code 226 = .ok (.invokevirtual 46, 3) := by decide +kernel
theorem nd_L_law_229 : decode code 229 = .ok (.aload_n 2, 1) := by decide +kernel
theorem nd_L_law_230 : decode code 230 = .ok (.aload_n 0, 1) := by decide +kernel
theorem nd_L_law_231 : decode code 231 = .ok (.iload_n 3, 1) := by decide +kernel
theorem nd_L_law_232 : decode code 232 = .ok (.iconst 1, 1) := by decide +kernel
theorem nd_L_law_233 : decode code 233 = .ok (.iadd, 1) := by decide +kernel
theorem nd_L_law_234 : decode code 234 = .ok (.iaload, 1) := by decide +kernel
theorem nd_L_law_235 : decode code 235 = .ok (.invokevirtual 49, 3) := by decide +kernel
theorem nd_L_law_238 : decode code 238 = .ok (.if_icmp .eq 94, 3) := by decide +kernel
theorem nd_L_law_241 : decode code 241 = .ok (.iconst 0, 1) := by decide +kernel
theorem nd_L_law_242 : decode code 242 = .ok (.ireturn, 1) := by decide +kernel
theorem nd_L_law_243 : decode code 243 = .ok (.aload_n 1, 1) := by decide +kernel
theorem nd_L_law_244 : decode code 244 = .ok (.aload_n 0, 1) := by decide +kernel
theorem nd_L_law_245 : decode code 245 = .ok (.iload_n 3, 1) := by decide +kernel
theorem nd_L_law_246 : decode code 246 = .ok (.iconst 1, 1) := by decide +kernel
theorem nd_L_law_247 : decode code 247 = .ok (.iadd, 1) := by decide +kernel
theorem nd_L_law_248 : decode code 248 = .ok (.iaload, 1) := by decide +kernel
theorem nd_L_law_249 : decode code 249 = .ok (.aload_n 0, 1) := by decide +kernel
theorem nd_L_law_250 : decode code 250 = .ok (.iload_n 3, 1) := by decide +kernel
theorem nd_L_law_251 : decode code 251 = .ok (.iconst 2, 1) := by decide +kernel
theorem nd_L_law_252 : decode code 252 = .ok (.iadd, 1) := by decide +kernel
theorem nd_L_law_253 : decode code 253 = .ok (.iaload, 1) := by decide +kernel
theorem nd_L_law_254 : decode code 254 = .ok (.invokevirtual 50, 3) := by decide +kernel
theorem nd_L_law_257 : decode code 257 = .ok (.aload_n 2, 1) := by decide +kernel
theorem nd_L_law_258 : decode code 258 = .ok (.aload_n 0, 1) := by decide +kernel
theorem nd_L_law_259 : decode code 259 = .ok (.iload_n 3, 1) := by decide +kernel
theorem nd_L_law_260 : decode code 260 = .ok (.iconst 1, 1) := by decide +kernel
theorem nd_L_law_261 : decode code 261 = .ok (.iadd, 1) := by decide +kernel
theorem nd_L_law_262 : decode code 262 = .ok (.iaload, 1) := by decide +kernel
theorem nd_L_law_263 : decode code 263 = .ok (.aload_n 0, 1) := by decide +kernel
theorem nd_L_law_264 : decode code 264 = .ok (.iload_n 3, 1) := by decide +kernel
theorem nd_L_law_265 : decode code 265 = .ok (.iconst 2, 1) := by decide +kernel
theorem nd_L_law_266 : decode code 266 = .ok (.iadd, 1) := by decide +kernel
theorem nd_L_law_267 : decode code 267 = .ok (.iaload, 1) := by decide +kernel
theorem nd_L_law_268 : decode code 268 = .ok (.invokevirtual 54, 3) := by decide +kernel
theorem nd_L_law_271 : decode code 271 = .ok (.if_icmp .eq 61, 3) := by decide +kernel
theorem nd_L_law_274 : decode code 274 = .ok (.iconst 0, 1) := by decide +kernel
theorem nd_L_law_275 : decode code 275 = .ok (.ireturn, 1) := by decide +kernel
theorem nd_L_law_276 : decode code 276 = .ok (.aload_n 1, 1) := by decide +kernel
theorem nd_L_law_277 : decode code 277 = .ok (.aload_n 0, 1) := by decide +kernel
theorem nd_L_law_278 : decode code 278 = .ok (.iload_n 3, 1) := by decide +kernel
theorem nd_L_law_279 : decode code 279 = .ok (.iconst 1, 1) := by decide +kernel
theorem nd_L_law_280 : decode code 280 = .ok (.iadd, 1) := by decide +kernel
theorem nd_L_law_281 : decode code 281 = .ok (.iaload, 1) := by decide +kernel
theorem nd_L_law_282 : decode code 282 = .ok (.aload_n 0, 1) := by decide +kernel
theorem nd_L_law_283 : decode code 283 = .ok (.iload_n 3, 1) := by decide +kernel
theorem nd_L_law_284 : decode code 284 = .ok (.iconst 2, 1) := by decide +kernel
theorem nd_L_law_285 : decode code 285 = .ok (.iadd, 1) := by decide +kernel
theorem nd_L_law_286 : decode code 286 = .ok (.iaload, 1) := by decide +kernel
theorem nd_L_law_287 : decode code 287 = .ok (.invokevirtual 55, 3) := by decide +kernel
theorem nd_L_law_290 : decode code 290 = .ok (.aload_n 2, 1) := by decide +kernel
theorem nd_L_law_291 : decode code 291 = .ok (.aload_n 0, 1) := by decide +kernel
theorem nd_L_law_292 : decode code 292 = .ok (.iload_n 3, 1) := by decide +kernel
theorem nd_L_law_293 : decode code 293 = .ok (.iconst 1, 1) := by decide +kernel
theorem nd_L_law_294 : decode code 294 = .ok (.iadd, 1) := by decide +kernel
theorem nd_L_law_295 : decode code 295 = .ok (.iaload, 1) := by decide +kernel
theorem nd_L_law_296 : decode code 296 = .ok (.aload_n 0, 1) := by decide +kernel
theorem nd_L_law_297 : decode code 297 = .ok (.iload_n 3, 1) := by decide +kernel
theorem nd_L_law_298 : decode code 298 = .ok (.iconst 2, 1) := by decide +kernel
theorem nd_L_law_299 : decode code 299 = .ok (.iadd, 1) := by decide +kernel
theorem nd_L_law_300 : decode code 300 = .ok (.iaload, 1) := by decide +kernel
theorem nd_L_law_301 : decode code 301 = .ok (.invokevirtual 58, 3) := by decide +kernel
theorem nd_L_law_304 : decode code 304 = .ok (.if_icmp .eq 28, 3) := by decide +kernel
theorem nd_L_law_307 : decode code 307 = .ok (.iconst 0, 1) := by decide +kernel
theorem nd_L_law_308 : decode code 308 = .ok (.ireturn, 1) := by decide +kernel
theorem nd_L_law_309 : decode code 309 = .ok (.aload_n 1, 1) := by decide +kernel
theorem nd_L_law_310 : decode code 310 = .ok (.aload_n 0, 1) := by decide +kernel
theorem nd_L_law_311 : decode code 311 = .ok (.iload_n 3, 1) := by decide +kernel
theorem nd_L_law_312 : decode code 312 = .ok (.iconst 1, 1) := by decide +kernel
theorem nd_L_law_313 : decode code 313 = .ok (.iadd, 1) := by decide +kernel
theorem nd_L_law_314 : decode code 314 = .ok (.iaload, 1) := by decide +kernel
theorem nd_L_law_315 : decode code 315 = .ok (.invokevirtual 59, 3) := by decide +kernel
theorem nd_L_law_318 : decode code 318 = .ok (.aload_n 2, 1) := by decide +kernel
theorem nd_L_law_319 : decode code 319 = .ok (.aload_n 0, 1) := by decide +kernel
theorem nd_L_law_320 : decode code 320 = .ok (.iload_n 3, 1) := by decide +kernel
theorem nd_L_law_321 : decode code 321 = .ok (.iconst 1, 1) := by decide +kernel
theorem nd_L_law_322 : decode code 322 = .ok (.iadd, 1) := by decide +kernel
theorem nd_L_law_323 : decode code 323 = .ok (.iaload, 1) := by decide +kernel
theorem nd_L_law_324 : decode code 324 = .ok (.invokevirtual 62, 3) := by decide +kernel
theorem nd_L_law_327 : decode code 327 = .ok (.if_icmp .eq 5, 3) := by decide +kernel
theorem nd_L_law_330 : decode code 330 = .ok (.iconst 0, 1) := by decide +kernel
theorem nd_L_law_331 : decode code 331 = .ok (.ireturn, 1) := by decide +kernel
theorem nd_L_law_332 : decode code 332 = .ok (.iinc 3 4, 3) := by decide +kernel
theorem nd_L_law_335 : decode code 335 = .ok (.goto (-307), 3) := by decide +kernel
theorem nd_L_law_338 : decode code 338 = .ok (.iconst 1, 1) := by decide +kernel
theorem nd_L_law_339 : decode code 339 = .ok (.ireturn, 1) := by decide +kernel
