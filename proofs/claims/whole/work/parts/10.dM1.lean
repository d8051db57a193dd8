theorem nd_M_init_0 : decode prog_7_method_1_code 0 = .ok (.aload_n 0, 1) := by decide +kernel
theorem nd_M_init_1 : decode prog_7_method_1_code 1 = .ok (.invokespecial 1, 3) := by decide +kernel
theorem nd_M_init_4 : decode prog_7_method_1_code 4 = .ok (.aload_n 0, 1) := by decide +kernel
theorem nd_M_init_5 : decode prog_7_method_1_code 5 = .ok (.bipush 30, 2) := by decide +kernel
theorem nd_M_init_7 : decode prog_7_method_1_code 7 = .ok (.newarray .int, 2) := by decide +kernel
theorem nd_M_init_9 : decode prog_7_method_1_code 9 = .ok (.putfield 7, 3) := by decide +kernel
theorem nd_M_init_12 : decode prog_7_method_1_code 12 = .ok (.aload_n 0, 1) := by decide +kernel
theorem nd_M_init_13 : decode prog_7_method_1_code 13 = .ok (.iconst 1, 1) := by decide +kernel
theorem nd_M_init_14 : decode prog_7_method_1_code 14 = .ok (.putfield 13, 3) := by decide +kernel
theorem nd_M_init_17 : decode prog_7_method_1_code 17 = .ok (.aload_n 0, 1) := by decide +kernel
theorem nd_M_init_18 : decode prog_7_method_1_code 18 = .ok (.iconst 3, 1) := by decide +kernel
theorem nd_M_init_19 : decode prog_7_method_1_code 19 = .ok (.newarray .int, 2) := by decide +kernel
theorem nd_M_init_21 : decode prog_7_method_1_code 21 = .ok (.putfield 17, 3) := by decide +kernel
theorem nd_M_init_24 : decode prog_7_method_1_code 24 = .ok (.aload_n 0, 1) := by decide +kernel
theorem nd_M_init_25 : decode prog_7_method_1_code 25 = .ok (.bipush 12, 2) := by decide +kernel
theorem nd_M_init_27 : decode prog_7_method_1_code 27 = .ok (.newarray .boolean, 2) := by decide +kernel
theorem nd_M_init_29 : decode prog_7_method_1_code 29 = .ok (.putfield 20, 3) := by decide +kernel
theorem nd_M_init_32 : decode prog_7_method_1_code 32 = .ok (.aload_n 0, 1) := by decide +kernel
theorem nd_M_init_33 : decode prog_7_method_1_code 33 = .ok (.sipush 360, 3) := by decide +kernel
theorem nd_M_init_36 : decode prog_7_method_1_code 36 = .ok (.newarray .int, 2) := by decide +kernel
theorem nd_M_init_38 : decode prog_7_method_1_code 38 = .ok (.putfield 24, 3) := by decide +kernel
theorem nd_M_init_41 : decode prog_7_method_1_code 41 = .ok (.aload_n 0, 1) := by decide +kernel
theorem nd_M_init_42 : decode prog_7_method_1_code 42 = .ok (.bipush 12, 2) := by decide +kernel
theorem nd_M_init_44 : decode prog_7_method_1_code 44 = .ok (.newarray .int, 2) := by decide +kernel
theorem nd_M_init_46 : decode prog_7_method_1_code 46 = .ok (.putfield 27, 3) := by decide +kernel
theorem nd_M_init_49 : decode prog_7_method_1_code 49 = .ok (.aload_n 0, 1) := by decide +kernel
theorem nd_M_init_50 : decode prog_7_method_1_code 50 = .ok (.bipush 12, 2) := by decide +kernel
theorem nd_M_init_52 : decode prog_7_method_1_code 52 = .ok (.newarray .int, 2) := by decide +kernel
theorem nd_M_init_54 : decode prog_7_method_1_code 54 = .ok (.putfield 30, 3) := by decide +kernel
theorem nd_M_init_57 : decode prog_7_method_1_code 57 = .ok (.aload_n 0, 1) := by decide +kernel
theorem nd_M_init_58 : decode prog_7_method_1_code 58 = .ok (.sipush 480, 3) := by decide +kernel
theorem nd_M_init_61 : decode prog_7_method_1_code 61 = .ok (.newarray .int, 2) := by decide +kernel
theorem nd_M_init_63 : decode prog_7_method_1_code 63 = .ok (.putfield 33, 3) := by decide +kernel
theorem nd_M_init_66 : decode prog_7_method_1_code 66 = .ok (.aload_n 0, 1) := by decide +kernel
theorem nd_M_init_67 : decode prog_7_method_1_code 67 = .ok (.sipush 480, 3) := by decide +kernel
theorem nd_M_init_70 : decode prog_7_method_1_code 70 = .ok (.newarray .int, 2) := by decide +kernel
theorem nd_M_init_72 : decode prog_7_method_1_code 72 = .ok (.putfield 36, 3) := by decide +kernel
theorem nd_M_init_75 : decode prog_7_method_1_code 75 = .ok (.aload_n 0, 1) := by decide +kernel
theorem nd_M_init_76 : decode prog_7_method_1_code 76 = .ok (.bipush 12, 2) := by decide +kernel
theorem nd_M_init_78 : decode prog_7_method_1_code 78 = .ok (.newarray .int, 2) := by decide +kernel
theorem nd_M_init_80 : decode prog_7_method_1_code 80 = .ok (.putfield 39, 3) := by decide +kernel
theorem nd_M_init_83 : decode prog_7_method_1_code 83 = .ok (.aload_n 0, 1) := by decide +kernel
theorem nd_M_init_84 : decode prog_7_method_1_code 84 = .ok (.bipush 12, 2) := by decide +kernel
theorem nd_M_init_86 : decode prog_7_method_1_code 86 = .ok (.newarray .int, 2) := by decide +kernel
theorem nd_M_init_88 : decode prog_7_method_1_code 88 = .ok (.putfield 42, 3) := by decide +kernel
theorem nd_M_init_91 : decode prog_7_method_1_code 91 = .ok (.aload_n 0, 1) := by decide +kernel
theorem nd_M_init_92 : decode prog_7_method_1_code 92 = .ok (.bipush 12, 2) := by decide +kernel
theorem nd_M_init_94 : decode prog_7_method_1_code 94 = .ok (.newarray .int, 2) := by decide +kernel
theorem nd_M_init_96 : decode prog_7_method_1_code 96 = .ok (.putfield 45, 3) := by decide +kernel
theorem nd_M_init_99 : decode prog_7_method_1_code 99 = .ok (.aload_n 0, 1) := by decide +kernel
theorem nd_M_init_100 : decode prog_7_method_1_code 100 = .ok (.bipush 12, 2) := by decide +kernel
theorem nd_M_init_102 : decode prog_7_method_1_code 102 = .ok (.newarray .int, 2) := by decide +kernel
theorem nd_M_init_104 : decode prog_7_method_1_code 104 = .ok (.putfield 48, 3) := by decide +kernel
theorem nd_M_init_107 : decode prog_7_method_1_code 107 = .ok (.aload_n 0, 1) := by decide +kernel
theorem nd_M_init_108 : decode prog_7_method_1_code 108 = .ok (.bipush 12, 2) := by decide +kernel
theorem nd_M_init_110 : decode prog_7_method_1_code 110 = .ok (.newarray .boolean, 2) := by decide +kernel
theorem nd_M_init_112 : decode prog_7_method_1_code 112 = .ok (.putfield 51, 3) := by decide +kernel
theorem nd_M_init_115 : decode prog_7_method_1_code 115 = .ok (.aload_n 0, 1) := by decide +kernel
theorem nd_M_init_116 : decode prog_7_method_1_code 116 = .ok (.bipush 12, 2) := by decide +kernel
theorem nd_M_init_118 : decode prog_7_method_1_code 118 = .ok (.newarray .boolean, 2) := by decide +kernel
theorem nd_M_init_120 : decode prog_7_method_1_code 120 = .ok (.putfield 54, 3) := by decide +kernel
theorem nd_M_init_123 : decode prog_7_method_1_code 123 = .ok (.aload_n 0, 1) := by decide +kernel
theorem nd_M_init_124 : decode prog_7_method_1_code 124 = .ok (.bipush 12, 2) := by decide +kernel
theorem nd_M_init_126 : decode prog_7_method_1_code 126 = .ok (.newarray .long, 2) := by decide +kernel
theorem nd_M_init_128 : decode prog_7_method_1_code 128 = .ok (.putfield 57, 3) := by decide +kernel
theorem nd_M_init_131 : decode prog_7_method_1_code 131 = .ok (.aload_n 0, 1) := by decide +kernel
theorem nd_M_init_132 : decode prog_7_method_1_code 132 = .ok (.bipush 12, 2) := by decide +kernel
theorem nd_M_init_134 : decode prog_7_method_1_code 134 = .ok (.newarray .int, 2) := by decide +kernel
theorem nd_M_init_136 : decode prog_7_method_1_code 136 = .ok (.putfield 61, 3) := by decide +kernel
theorem nd_M_init_139 : decode prog_7_method_1_code 139 = .ok (.aload_n 0, 1) := by decide +kernel
theorem nd_M_init_140 : decode prog_7_method_1_code 140 = .ok (.bipush 12, 2) := by decide +kernel
theorem nd_M_init_142 : decode prog_7_method_1_code 142 = .ok (.newarray .int, 2) := by decide +kernel
theorem nd_M_init_144 : decode prog_7_method_1_code 144 = .ok (.putfield 64, 3) := by decide +kernel
theorem nd_M_init_147 : decode prog_7_method_1_code 147 = .ok (.aload_n 0, 1) := by decide +kernel
theorem nd_M_init_148 : decode prog_7_method_1_code 148 = .ok (.bipush 12, 2) := by decide +kernel
theorem nd_M_init_150 : decode prog_7_method_1_code 150 = .ok (.newarray .int, 2) := by decide +kernel
theorem nd_M_init_152 : decode prog_7_method_1_code 152 = .ok (.putfield 67, 3) := by decide +kernel
theorem nd_M_init_155 : decode prog_7_method_1_code 155 = .ok (.aload_n 0, 1) := by decide +kernel
theorem nd_M_init_156 : decode prog_7_method_1_code 156 = .ok (.bipush 12, 2) := by decide +kernel
theorem nd_M_init_158 : decode prog_7_method_1_code 158 = .ok (.newarray .int, 2) := by decide +kernel
theorem nd_M_init_160 : decode prog_7_method_1_code 160 = .ok (.putfield 70, 3) := by decide +kernel
theorem nd_M_init_163 : decode prog_7_method_1_code 163 = .ok (.aload_n 0, 1) := by decide +kernel
theorem nd_M_init_164 : decode prog_7_method_1_code 164 = .ok (.sipush 144, 3) := by decide +kernel
theorem nd_M_init_167 : decode prog_7_method_1_code 167 = .ok (.newarray .int, 2) := by decide +kernel
theorem nd_M_init_169 : decode prog_7_method_1_code 169 = .ok (.putfield 73, 3) := by decide +kernel
theorem nd_M_init_172 : decode prog_7_method_1_code 172 = .ok (.aload_n 0, 1) := by decide +kernel
theorem nd_M_init_173 : decode prog_7_method_1_code 173 = .ok (.bipush 12, 2) := by decide +kernel
theorem nd_M_init_175 : decode prog_7_method_1_code 175 = .ok (.newarray .int, 2) := by decide +kernel
theorem nd_M_init_177 : decode prog_7_method_1_code 177 = .ok (.putfield 76, 3) := by decide +kernel
theorem nd_M_init_180 : decode prog_7_method_1_code 180 = .ok (.aload_n 0, 1) := by decide +kernel
theorem nd_M_init_181 : decode prog_7_method_1_code 181 = .ok (.bipush 36, 2) := by decide +kernel
theorem nd_M_init_183 : decode prog_7_method_1_code 183 = .ok (.newarray .int, 2) := by decide +kernel
theorem nd_M_init_185 : decode prog_7_method_1_code 185 = .ok (.putfield 79, 3) := by decide +kernel
theorem nd_M_init_188 : decode prog_7_method_1_code 188 = .ok (.aload_n 0, 1) := by decide +kernel
theorem nd_M_init_189 : decode prog_7_method_1_code 189 = .ok (.iconst 3, 1) := by decide +kernel
theorem nd_M_init_190 : decode prog_7_method_1_code 190 = .ok (.newarray .int, 2) := by decide +kernel
theorem nd_M_init_192 : decode prog_7_method_1_code 192 = .ok (.putfield 82, 3) := by decide +kernel
theorem nd_M_init_195 : decode prog_7_method_1_code 195 = .ok (.aload_n 0, 1) := by decide +kernel
theorem nd_M_init_196 : decode prog_7_method_1_code 196 = .ok (.bipush 12, 2) := by decide +kernel
theorem nd_M_init_198 : decode prog_7_method_1_code 198 = .ok (.newarray .int, 2) := by decide +kernel
theorem nd_M_init_200 : decode prog_7_method_1_code 200 = .ok (.putfield 85, 3) := by decide +kernel
theorem nd_M_init_203 : decode prog_7_method_1_code 203 = .ok (.aload_n 0, 1) := by decide +kernel
theorem nd_M_init_204 : decode prog_7_method_1_code 204 = .ok (.bipush 12, 2) := by decide +kernel
theorem nd_M_init_206 : decode prog_7_method_1_code 206 = .ok (.newarray .int, 2) := by decide +kernel
theorem nd_M_init_208 : decode prog_7_method_1_code 208 = .ok (.putfield 88, 3) := by decide +kernel
theorem nd_M_init_211 : decode prog_7_method_1_code 211 = .ok (.aload_n 0, 1) := by decide +kernel
theorem nd_M_init_212 : decode prog_7_method_1_code 212 = .ok (.bipush 12, 2) := by decide +kernel
theorem nd_M_init_214 : decode prog_7_method_1_code 214 = .ok (.newarray .int, 2) := by decide +kernel
theorem nd_M_init_216 : decode prog_7_method_1_code 216 = .ok (.putfield 91, 3) := by decide +kernel
theorem nd_M_init_219 : decode prog_7_method_1_code 219 = .ok (.aload_n 0, 1) := by decide +kernel
theorem nd_M_init_220 : decode prog_7_method_1_code 220 = .ok (.bipush 12, 2) := by decide +kernel
theorem nd_M_init_222 : decode prog_7_method_1_code 222 = .ok (.newarray .int, 2) := by decide +kernel
theorem nd_M_init_224 : decode prog_7_method_1_code 224 = .ok (.putfield 94, 3) := by decide +kernel
theorem nd_M_init_227 : decode prog_7_method_1_code 227 = .ok (.aload_n 0, 1) := by decide +kernel
theorem nd_M_init_228 : decode prog_7_method_1_code 228 = .ok (.sipush 192, 3) := by decide +kernel
theorem nd_M_init_231 : decode prog_7_method_1_code 231 = .ok (.newarray .long, 2) := by decide +kernel
theorem nd_M_init_233 : decode prog_7_method_1_code 233 = .ok (.putfield 97, 3) := by decide +kernel
theorem nd_M_init_236 : decode prog_7_method_1_code 236 = .ok (.aload_n 0, 1) := by decide +kernel
theorem nd_M_init_237 : decode prog_7_method_1_code 237 = .ok (.bipush 12, 2) := by decide +kernel
theorem nd_M_init_239 : decode prog_7_method_1_code 239 = .ok (.newarray .int, 2) := by decide +kernel
theorem nd_M_init_241 : decode prog_7_method_1_code 241 = .ok (.putfield 100, 3) := by decide +kernel
theorem nd_M_init_244 : decode prog_7_method_1_code 244 = .ok (.aload_n 0, 1) := by decide +kernel
theorem nd_M_init_245 : decode prog_7_method_1_code 245 = .ok (.sipush 144, 3) := by decide +kernel
theorem nd_M_init_248 : decode prog_7_method_1_code 248 = .ok (.newarray .int, 2) := by decide +kernel
theorem nd_M_init_250 : decode prog_7_method_1_code 250 = .ok (.putfield 103, 3) := by decide +kernel
theorem nd_M_init_253 : decode prog_7_method_1_code 253 = .ok (.aload_n 0, 1) := by decide +kernel
theorem nd_M_init_254 : decode prog_7_method_1_code 254 = .ok (.bipush 12, 2) := by decide +kernel
theorem nd_M_init_256 : decode prog_7_method_1_code 256 = .ok (.newarray .boolean, 2) := by decide +kernel
theorem nd_M_init_258 : decode prog_7_method_1_code 258 = .ok (.putfield 106, 3) := by decide +kernel
theorem nd_M_init_261 : decode prog_7_method_1_code 261 = .ok (.aload_n 0, 1) := by decide +kernel
theorem nd_M_init_262 : decode prog_7_method_1_code 262 = .ok (.bipush 12, 2) := by decide +kernel
theorem nd_M_init_264 : decode prog_7_method_1_code 264 = .ok (.newarray .boolean, 2) := by decide +kernel
theorem nd_M_init_266 : decode prog_7_method_1_code 266 = .ok (.putfield 109, 3) := by decide +kernel
theorem nd_M_init_269 : decode prog_7_method_1_code 269 = .ok (.aload_n 0, 1) := by decide +kernel
theorem nd_M_init_270 : decode prog_7_method_1_code 270 = .ok (.bipush 64, 2) := by decide +kernel
theorem nd_M_init_272 : decode prog_7_method_1_code 272 = .ok (.newarray .int, 2) := by decide +kernel
theorem nd_M_init_274 : decode prog_7_method_1_code 274 = .ok (.putfield 112, 3) := by decide +kernel
theorem nd_M_init_277 : decode prog_7_method_1_code 277 = .ok (.aload_n 0, 1) := by decide +kernel
theorem nd_M_init_278 : decode prog_7_method_1_code 278 = .ok (.bipush 64, 2) := by decide +kernel
theorem nd_M_init_280 : decode prog_7_method_1_code 280 = .ok (.newarray .int, 2) := by decide +kernel
theorem nd_M_init_282 : decode prog_7_method_1_code 282 = .ok (.putfield 115, 3) := by decide +kernel
theorem nd_M_init_285 : decode prog_7_method_1_code 285 = .ok (.aload_n 0, 1) := by decide +kernel
theorem nd_M_init_286 : decode prog_7_method_1_code 286 = .ok (.bipush 40, 2) := by decide +kernel
theorem nd_M_init_288 : decode prog_7_method_1_code 288 = .ok (.newarray .int, 2) := by decide +kernel
theorem nd_M_init_290 : decode prog_7_method_1_code 290 = .ok (.putfield 118, 3) := by decide +kernel
theorem nd_M_init_293 : decode prog_7_method_1_code 293 = .ok (.aload_n 0, 1) := by decide +kernel
theorem nd_M_init_294 : decode prog_7_method_1_code 294 = .ok (.bipush 40, 2) := by decide +kernel
theorem nd_M_init_296 : decode prog_7_method_1_code 296 = .ok (.newarray .int, 2) := by decide +kernel
theorem nd_M_init_298 : decode prog_7_method_1_code 298 = .ok (.putfield 121, 3) := by decide +kernel
theorem nd_M_init_301 : decode prog_7_method_1_code 301 = .ok (.aload_n 0, 1) := by decide +kernel
theorem nd_M_init_302 : decode prog_7_method_1_code 302 = .ok (.iload_n 1, 1) := by decide +kernel
theorem nd_M_init_303 : decode prog_7_method_1_code 303 = .ok (.iconst 1, 1) := by decide +kernel
theorem nd_M_init_304 : decode prog_7_method_1_code 304 = .ok (.if_icmp .ge 7, 3) := by decide +kernel
theorem nd_M_init_307 : decode prog_7_method_1_code 307 = .ok (.iconst 1, 1) := by decide +kernel
theorem nd_M_init_308 : decode prog_7_method_1_code 308 = .ok (.goto 15, 3) := by decide +kernel
theorem nd_M_init_311 : decode prog_7_method_1_code 311 = .ok (.iload_n 1, 1) := by decide +kernel
theorem nd_M_init_312 : decode prog_7_method_1_code 312 = .ok (.bipush 12, 2) := by decide +kernel
theorem nd_M_init_314 : decode prog_7_method_1_code 314 = .ok (.if_icmp .le 8, 3) := by decide +kernel
theorem nd_M_init_317 : decode prog_7_method_1_code 317 = .ok (.bipush 12, 2) := by decide +kernel
theorem nd_M_init_319 : decode prog_7_method_1_code 319 = .ok (.goto 4, 3) := by decide +kernel
theorem nd_M_init_322 : decode prog_7_method_1_code 322 = .ok (.iload_n 1, 1) := by decide +kernel
theorem nd_M_init_323 : decode prog_7_method_1_code 323 = .ok (.putfield 124, 3) := by decide +kernel
theorem nd_M_init_326 : decode prog_7_method_1_code 326 = .ok (.return_, 1) := by decide +kernel
theorem nd_M_isCell_0 : decode prog_7_method_2_code 0 = .ok (.iload_n 0, 1) := by decide +kernel
theorem nd_M_isCell_1 : decode prog_7_method_2_code 1 = .ok (.ifCond .lt 13, 3) := by decide +kernel
theorem nd_M_isCell_4 : decode prog_7_method_2_code 4 = .ok (.iload_n 0, 1) := by decide +kernel
theorem nd_M_isCell_5 : decode prog_7_method_2_code 5 = .ok (.bipush 12, 2) := by decide +kernel
theorem nd_M_isCell_7 : decode prog_7_method_2_code 7 = .ok (.if_icmp .ge 7, 3) := by decide +kernel
theorem nd_M_isCell_10 : decode prog_7_method_2_code 10 = .ok (.iconst 1, 1) := by decide +kernel
theorem nd_M_isCell_11 : decode prog_7_method_2_code 11 = .ok (.goto 4, 3) := by decide +kernel
theorem nd_M_isCell_14 : decode prog_7_method_2_code 14 = .ok (.iconst 0, 1) := by decide +kernel
theorem nd_M_isCell_15 : decode prog_7_method_2_code 15 = .ok (.ireturn, 1) := by decide +kernel
theorem nd_M_isLetter_0 : decode prog_7_method_3_code 0 = .ok (.iload_n 0, 1) := by decide +kernel
theorem nd_M_isLetter_1 : decode prog_7_method_3_code 1 = .ok (.bipush 65, 2) := by decide +kernel
theorem nd_M_isLetter_3 : decode prog_7_method_3_code 3 = .ok (.if_icmp .lt 13, 3) := by decide +kernel
theorem nd_M_isLetter_6 : decode prog_7_method_3_code 6 = .ok (.iload_n 0, 1) := by decide +kernel
theorem nd_M_isLetter_7 : decode prog_7_method_3_code 7 = .ok (.bipush 76, 2) := by decide +kernel
theorem nd_M_isLetter_9 : decode prog_7_method_3_code 9 = .ok (.if_icmp .gt 7, 3) := by decide +kernel
theorem nd_M_isLetter_12 : decode prog_7_method_3_code 12 = .ok (.iconst 1, 1) := by decide +kernel
theorem nd_M_isLetter_13 : decode prog_7_method_3_code 13 = .ok (.goto 4, 3) := by decide +kernel
theorem nd_M_isLetter_16 : decode prog_7_method_3_code 16 = .ok (.iconst 0, 1) := by decide +kernel
theorem nd_M_isLetter_17 : decode prog_7_method_3_code 17 = .ok (.ireturn, 1) := by decide +kernel
theorem nd_M_isDigit_0 : decode prog_7_method_4_code 0 = .ok (.iload_n 0, 1) := by decide +kernel
theorem nd_M_isDigit_1 : decode prog_7_method_4_code 1 = .ok (.bipush 48, 2) := by decide +kernel
theorem nd_M_isDigit_3 : decode prog_7_method_4_code 3 = .ok (.if_icmp .lt 13, 3) := by decide +kernel
theorem nd_M_isDigit_6 : decode prog_7_method_4_code 6 = .ok (.iload_n 0, 1) := by decide +kernel
theorem nd_M_isDigit_7 : decode prog_7_method_4_code 7 = .ok (.bipush 57, 2) := by decide +kernel
theorem nd_M_isDigit_9 : decode prog_7_method_4_code 9 = .ok (.if_icmp .gt 7, 3) := by decide +kernel
theorem nd_M_isDigit_12 : decode prog_7_method_4_code 12 = .ok (.iconst 1, 1) := by decide +kernel
theorem nd_M_isDigit_13 : decode prog_7_method_4_code 13 = .ok (.goto 4, 3) := by decide +kernel
theorem nd_M_isDigit_16 : decode prog_7_method_4_code 16 = .ok (.iconst 0, 1) := by decide +kernel
theorem nd_M_isDigit_17 : decode prog_7_method_4_code 17 = .ok (.ireturn, 1) := by decide +kernel
theorem nd_M_type_0 : decode prog_7_method_5_code 0 = .ok (.iload_n 1, 1) := by decide +kernel
theorem nd_M_type_1 : decode prog_7_method_5_code 1 = .ok (.bipush 40, 2) := by decide +kernel
theorem nd_M_type_3 : decode prog_7_method_5_code 3 = .ok (.if_icmp .eq 57, 3) := by decide +kernel
theorem nd_M_type_6 : decode prog_7_method_5_code 6 = .ok (.iload_n 1, 1) := by decide +kernel
theorem nd_M_type_7 : decode prog_7_method_5_code 7 = .ok (.bipush 41, 2) := by decide +kernel
theorem nd_M_type_9 : decode prog_7_method_5_code 9 = .ok (.if_icmp .eq 51, 3) := by decide +kernel
theorem nd_M_type_12 : decode prog_7_method_5_code 12 = .ok (.iload_n 1, 1) := by decide +kernel
theorem nd_M_type_13 : decode prog_7_method_5_code 13 = .ok (.bipush 42, 2) := by decide +kernel
theorem nd_M_type_15 : decode prog_7_method_5_code 15 = .ok (.if_icmp .eq 45, 3) := by decide +kernel
theorem nd_M_type_18 : decode prog_7_method_5_code 18 = .ok (.iload_n 1, 1) := by decide +kernel
theorem nd_M_type_19 : decode prog_7_method_5_code 19 = .ok (.bipush 43, 2) := by decide +kernel
theorem nd_M_type_21 : decode prog_7_method_5_code 21 = .ok (.if_icmp .eq 39, 3) := by decide +kernel
theorem nd_M_type_24 : decode prog_7_method_5_code 24 = .ok (.iload_n 1, 1) := by decide +kernel
theorem nd_M_type_25 : decode prog_7_method_5_code 25 = .ok (.bipush 45, 2) := by decide +kernel
theorem nd_M_type_27 : decode prog_7_method_5_code 27 = .ok (.if_icmp .eq 33, 3) := by decide +kernel
theorem nd_M_type_30 : decode prog_7_method_5_code 30 = .ok (.iload_n 1, 1) := by decide +kernel
theorem nd_M_type_31 : decode prog_7_method_5_code 31 = .ok (.bipush 58, 2) := by decide +kernel
theorem nd_M_type_33 : decode prog_7_method_5_code 33 = .ok (.if_icmp .eq 27, 3) := by decide +kernel
theorem nd_M_type_36 : decode prog_7_method_5_code 36 = .ok (.iload_n 1, 1) := by decide +kernel
theorem nd_M_type_37 : decode prog_7_method_5_code 37 = .ok (.bipush 60, 2) := by decide +kernel
theorem nd_M_type_39 : decode prog_7_method_5_code 39 = .ok (.if_icmp .eq 21, 3) := by decide +kernel
theorem nd_M_type_42 : decode prog_7_method_5_code 42 = .ok (.iload_n 1, 1) := by decide +kernel
theorem nd_M_type_43 : decode prog_7_method_5_code 43 = .ok (.bipush 61, 2) := by decide +kernel
theorem nd_M_type_45 : decode prog_7_method_5_code 45 = .ok (.if_icmp .eq 15, 3) := by decide +kernel
theorem nd_M_type_48 : decode prog_7_method_5_code 48 = .ok (.iload_n 1, 1) := by decide +kernel
theorem nd_M_type_49 : decode prog_7_method_5_code 49 = .ok (.bipush 63, 2) := by decide +kernel
theorem nd_M_type_51 : decode prog_7_method_5_code 51 = .ok (.if_icmp .eq 9, 3) := by decide +kernel
theorem nd_M_type_54 : decode prog_7_method_5_code 54 = .ok (.iload_n 1, 1) := by decide +kernel
theorem nd_M_type_55 : decode prog_7_method_5_code 55 = .ok (.bipush 64, 2) := by decide +kernel
theorem nd_M_type_57 : decode prog_7_method_5_code 57 = .ok (.if_icmp .ne 7, 3) := by decide +kernel
theorem nd_M_type_60 : decode prog_7_method_5_code 60 = .ok (.iconst 1, 1) := by decide +kernel
theorem nd_M_type_61 : decode prog_7_method_5_code 61 = .ok (.goto 4, 3) := by decide +kernel
theorem nd_M_type_64 : decode prog_7_method_5_code 64 = .ok (.iconst 0, 1) := by decide +kernel
theorem nd_M_type_65 : decode prog_7_method_5_code 65 = .ok (.istore_n 2, 1) := by decide +kernel
theorem nd_M_type_66 : decode prog_7_method_5_code 66 = .ok (.iload_n 2, 1) := by decide +kernel
theorem nd_M_type_67 : decode prog_7_method_5_code 67 = .ok (.ifCond .ne 17, 3) := by decide +kernel
theorem nd_M_type_70 : decode prog_7_method_5_code 70 = .ok (.iload_n 1, 1) := by decide +kernel
theorem nd_M_type_71 : decode prog_7_method_5_code 71 = .ok (.invokestatic 127, 3) := by decide +kernel
theorem nd_M_type_74 : decode prog_7_method_5_code 74 = .ok (.ifCond .ne 10, 3) := by decide +kernel
theorem nd_M_type_77 : decode prog_7_method_5_code 77 = .ok (.iload_n 1, 1) := by decide +kernel
theorem nd_M_type_78 : decode prog_7_method_5_code 78 = .ok (.invokestatic 131, 3) := by decide +kernel
theorem nd_M_type_81 : decode prog_7_method_5_code 81 = .ok (.ifCond .eq 12, 3) := by decide +kernel
theorem nd_M_type_84 : decode prog_7_method_5_code 84 = .ok (.aload_n 0, 1) := by decide +kernel
theorem nd_M_type_85 : decode prog_7_method_5_code 85 = .ok (.getfield 134, 3) := by decide +kernel
theorem nd_M_type_88 : decode prog_7_method_5_code 88 = .ok (.bipush 30, 2) := by decide +kernel
theorem nd_M_type_90 : decode prog_7_method_5_code 90 = .ok (.if_icmp .ne 5, 3) := by decide +kernel
theorem nd_M_type_93 : decode prog_7_method_5_code 93 = .ok (.iconst 0, 1) := by decide +kernel
theorem nd_M_type_94 : decode prog_7_method_5_code 94 = .ok (.ireturn, 1) := by decide +kernel
theorem nd_M_type_95 : decode prog_7_method_5_code 95 = .ok (.aload_n 0, 1) := by decide +kernel
theorem nd_M_type_96 : decode prog_7_method_5_code 96 = .ok (.getfield 7, 3) := by decide +kernel
theorem nd_M_type_99 : decode prog_7_method_5_code 99 = .ok (.aload_n 0, 1) := by decide +kernel
theorem nd_M_type_100 : decode prog_7_method_5_code 100 = .ok (.getfield 134, 3) := by decide +kernel
theorem nd_M_type_103 : decode prog_7_method_5_code 103 = .ok (.iload_n 1, 1) := by decide +kernel
theorem nd_M_type_104 : decode prog_7_method_5_code 104 = .ok (.iastore, 1) := by decide +kernel
theorem nd_M_type_105 : decode prog_7_method_5_code 105 = .ok (.aload_n 0, 1) := by decide +kernel
theorem nd_M_type_106 : decode prog_7_method_5_code 106 = .ok (.dup, 1) := by decide +kernel
theorem nd_M_type_107 : decode prog_7_method_5_code 107 = .ok (.getfield 134, 3) := by decide +kernel
theorem nd_M_type_110 : decode prog_7_method_5_code 110 = .ok (.iconst 1, 1) := by decide +kernel
theorem nd_M_type_111 : decode prog_7_method_5_code 111 = .ok (.iadd, 1) := by decide +kernel
theorem nd_M_type_112 : decode prog_7_method_5_code 112 = .ok (.putfield 134, 3) := by decide +kernel
theorem nd_M_type_115 : decode prog_7_method_5_code 115 = .ok (.iconst 1, 1) := by decide +kernel
theorem nd_M_type_116 : decode prog_7_method_5_code 116 = .ok (.ireturn, 1) := by decide +kernel
theorem nd_M_make_0 : decode prog_7_method_6_code 0 = .ok (.aload_n 0, 1) := by decide +kernel
theorem nd_M_make_1 : decode prog_7_method_6_code 1 = .ok (.getfield 118, 3) := by decide +kernel
theorem nd_M_make_4 : decode prog_7_method_6_code 4 = .ok (.aload_n 0, 1) := by decide +kernel
theorem nd_M_make_5 : decode prog_7_method_6_code 5 = .ok (.getfield 137, 3) := by decide +kernel
theorem nd_M_make_8 : decode prog_7_method_6_code 8 = .ok (.iload_n 1, 1) := by decide +kernel
theorem nd_M_make_9 : decode prog_7_method_6_code 9 = .ok (.iastore, 1) := by decide +kernel
theorem nd_M_make_10 : decode prog_7_method_6_code 10 = .ok (.aload_n 0, 1) := by decide +kernel
theorem nd_M_make_11 : decode prog_7_method_6_code 11 = .ok (.getfield 121, 3) := by decide +kernel
theorem nd_M_make_14 : decode prog_7_method_6_code 14 = .ok (.aload_n 0, 1) := by decide +kernel
theorem nd_M_make_15 : decode prog_7_method_6_code 15 = .ok (.getfield 137, 3) := by decide +kernel
theorem nd_M_make_18 : decode prog_7_method_6_code 18 = .ok (.iload_n 2, 1) := by decide +kernel
theorem nd_M_make_19 : decode prog_7_method_6_code 19 = .ok (.iastore, 1) := by decide +kernel
theorem nd_M_make_20 : decode prog_7_method_6_code 20 = .ok (.aload_n 0, 1) := by decide +kernel
theorem nd_M_make_21 : decode prog_7_method_6_code 21 = .ok (.dup, 1) := by decide +kernel
theorem nd_M_make_22 : decode prog_7_method_6_code 22 = .ok (.getfield 137, 3) := by decide +kernel
theorem nd_M_make_25 : decode prog_7_method_6_code 25 = .ok (.iconst 1, 1) := by decide +kernel
theorem nd_M_make_26 : decode prog_7_method_6_code 26 = .ok (.iadd, 1) := by decide +kernel
theorem nd_M_make_27 : decode prog_7_method_6_code 27 = .ok (.putfield 137, 3) := by decide +kernel
theorem nd_M_make_30 : decode prog_7_method_6_code 30 = .ok (.return_, 1) := by decide +kernel
theorem nd_M_put_0 : decode prog_7_method_7_code 0 = .ok (.aload_n 0, 1) := by decide +kernel
theorem nd_M_put_1 : decode prog_7_method_7_code 1 = .ok (.getfield 112, 3) := by decide +kernel
theorem nd_M_put_4 : decode prog_7_method_7_code 4 = .ok (.aload_n 0, 1) := by decide +kernel
theorem nd_M_put_5 : decode prog_7_method_7_code 5 = .ok (.getfield 140, 3) := by decide +kernel
theorem nd_M_put_8 : decode prog_7_method_7_code 8 = .ok (.iload_n 1, 1) := by decide +kernel
theorem nd_M_put_9 : decode prog_7_method_7_code 9 = .ok (.iastore, 1) := by decide +kernel
theorem nd_M_put_10 : decode prog_7_method_7_code 10 = .ok (.aload_n 0, 1) := by decide +kernel
theorem nd_M_put_11 : decode prog_7_method_7_code 11 = .ok (.getfield 115, 3) := by decide +kernel
theorem nd_M_put_14 : decode prog_7_method_7_code 14 = .ok (.aload_n 0, 1) := by decide +kernel
theorem nd_M_put_15 : decode prog_7_method_7_code 15 = .ok (.getfield 140, 3) := by decide +kernel
theorem nd_M_put_18 : decode prog_7_method_7_code 18 = .ok (.iload_n 2, 1) := by decide +kernel
theorem nd_M_put_19 : decode prog_7_method_7_code 19 = .ok (.iastore, 1) := by decide +kernel
theorem nd_M_put_20 : decode prog_7_method_7_code 20 = .ok (.aload_n 0, 1) := by decide +kernel
theorem nd_M_put_21 : decode prog_7_method_7_code 21 = .ok (.dup, 1) := by decide +kernel
theorem nd_M_put_22 : decode prog_7_method_7_code 22 = .ok (.getfield 140, 3) := by decide +kernel
theorem nd_M_put_25 : decode prog_7_method_7_code 25 = .ok (.iconst 1, 1) := by decide +kernel
theorem nd_M_put_26 : decode prog_7_method_7_code 26 = .ok (.iadd, 1) := by decide +kernel
theorem nd_M_put_27 : decode prog_7_method_7_code 27 = .ok (.putfield 140, 3) := by decide +kernel
theorem nd_M_put_30 : decode prog_7_method_7_code 30 = .ok (.return_, 1) := by decide +kernel
theorem nd_M_rank_0 : decode prog_7_method_8_code 0 = .ok (.iload_n 0, 1) := by decide +kernel
theorem nd_M_rank_1 : decode prog_7_method_8_code 1 = .ok (.sipush 200, 3) := by decide +kernel
theorem nd_M_rank_4 : decode prog_7_method_8_code 4 = .ok (.if_icmp .eq 9, 3) := by decide +kernel
theorem nd_M_rank_7 : decode prog_7_method_8_code 7 = .ok (.iload_n 0, 1) := by decide +kernel
theorem nd_M_rank_8 : decode prog_7_method_8_code 8 = .ok (.bipush 64, 2) := by decide +kernel
theorem nd_M_rank_10 : decode prog_7_method_8_code 10 = .ok (.if_icmp .ne 7, 3) := by decide +kernel
theorem nd_M_rank_13 : decode prog_7_method_8_code 13 = .ok (.iconst 3, 1) := by decide +kernel
theorem nd_M_rank_14 : decode prog_7_method_8_code 14 = .ok (.goto 46, 3) := by decide +kernel
theorem nd_M_rank_17 : decode prog_7_method_8_code 17 = .ok (.iload_n 0, 1) := by decide +kernel
theorem nd_M_rank_18 : decode prog_7_method_8_code 18 = .ok (.bipush 42, 2) := by decide +kernel
theorem nd_M_rank_20 : decode prog_7_method_8_code 20 = .ok (.if_icmp .ne 7, 3) := by decide +kernel
theorem nd_M_rank_23 : decode prog_7_method_8_code 23 = .ok (.iconst 2, 1) := by decide +kernel
theorem nd_M_rank_24 : decode prog_7_method_8_code 24 = .ok (.goto 36, 3) := by decide +kernel
theorem nd_M_rank_27 : decode prog_7_method_8_code 27 = .ok (.iload_n 0, 1) := by decide +kernel
theorem nd_M_rank_28 : decode prog_7_method_8_code 28 = .ok (.bipush 43, 2) := by decide +kernel
theorem nd_M_rank_30 : decode prog_7_method_8_code 30 = .ok (.if_icmp .eq 9, 3) := by decide +kernel
theorem nd_M_rank_33 : decode prog_7_method_8_code 33 = .ok (.iload_n 0, 1) := by decide +kernel
theorem nd_M_rank_34 : decode prog_7_method_8_code 34 = .ok (.bipush 45, 2) := by decide +kernel
theorem nd_M_rank_36 : decode prog_7_method_8_code 36 = .ok (.if_icmp .ne 7, 3) := by decide +kernel
theorem nd_M_rank_39 : decode prog_7_method_8_code 39 = .ok (.iconst 1, 1) := by decide +kernel
theorem nd_M_rank_40 : decode prog_7_method_8_code 40 = .ok (.goto 20, 3) := by decide +kernel
theorem nd_M_rank_43 : decode prog_7_method_8_code 43 = .ok (.iload_n 0, 1) := by decide +kernel
theorem nd_M_rank_44 : decode prog_7_method_8_code 44 = .ok (.bipush 60, 2) := by decide +kernel
theorem nd_M_rank_46 : decode prog_7_method_8_code 46 = .ok (.if_icmp .eq 9, 3) := by decide +kernel
theorem nd_M_rank_49 : decode prog_7_method_8_code 49 = .ok (.iload_n 0, 1) := by decide +kernel
theorem nd_M_rank_50 : decode prog_7_method_8_code 50 = .ok (.bipush 61, 2) := by decide +kernel
theorem nd_M_rank_52 : decode prog_7_method_8_code 52 = .ok (.if_icmp .ne 7, 3) := by decide +kernel
theorem nd_M_rank_55 : decode prog_7_method_8_code 55 = .ok (.iconst 0, 1) := by decide +kernel
theorem nd_M_rank_56 : decode prog_7_method_8_code 56 = .ok (.goto 4, 3) := by decide +kernel
theorem nd_M_rank_59 : decode prog_7_method_8_code 59 = .ok (.iconst (-1), 1) := by decide +kernel
theorem nd_M_rank_60 : decode prog_7_method_8_code 60 = .ok (.ireturn, 1) := by decide +kernel
theorem nd_M_settle_0 : decode prog_7_method_9_code 0 = .ok (.aload_n 0, 1) := by decide +kernel
theorem nd_M_settle_1 : decode prog_7_method_9_code 1 = .ok (.getfield 140, 3) := by decide +kernel
theorem nd_M_settle_4 : decode prog_7_method_9_code 4 = .ok (.ifCond .le 114, 3) := by decide +kernel
theorem nd_M_settle_7 : decode prog_7_method_9_code 7 = .ok (.aload_n 0, 1) := by decide +kernel
theorem nd_M_settle_8 : decode prog_7_method_9_code 8 = .ok (.getfield 112, 3) := by decide +kernel
theorem nd_M_settle_11 : decode prog_7_method_9_code 11 = .ok (.aload_n 0, 1) := by decide +kernel
theorem nd_M_settle_12 : decode prog_7_method_9_code 12 = .ok (.getfield 140, 3) := by decide +kernel
theorem nd_M_settle_15 : decode prog_7_method_9_code 15 = .ok (.iconst 1, 1) := by decide +kernel
theorem nd_M_settle_16 : decode prog_7_method_9_code 16 = .ok (.isub, 1) := by decide +kernel
theorem nd_M_settle_17 : decode prog_7_method_9_code 17 = .ok (.iaload, 1) := by decide +kernel
theorem nd_M_settle_18 : decode prog_7_method_9_code 18 = .ok (.invokestatic 143, 3) := by decide +kernel
theorem nd_M_settle_21 : decode prog_7_method_9_code 21 = .ok (.iload_n 1, 1) := by decide +kernel
theorem nd_M_settle_22 : decode prog_7_method_9_code 22 = .ok (.if_icmp .lt 96, 3) := by decide +kernel
theorem nd_M_settle_25 : decode prog_7_method_9_code 25 = .ok (.aload_n 0, 1) := by decide +kernel
theorem nd_M_settle_26 : decode prog_7_method_9_code 26 = .ok (.dup, 1) := by decide +kernel
theorem nd_M_settle_27 : decode prog_7_method_9_code 27 = .ok (.getfield 140, 3) := by decide +kernel
theorem nd_M_settle_30 : decode prog_7_method_9_code 30 = .ok (.iconst 1, 1) := by decide +kernel
theorem nd_M_settle_31 : decode prog_7_method_9_code 31 = .ok (.isub, 1) := by decide +kernel
theorem nd_M_settle_32 : decode prog_7_method_9_code 32 = .ok (.putfield 140, 3) := by decide +kernel
theorem nd_M_settle_35 : decode prog_7_method_9_code 35 = .ok (.aload_n 0, 1) := by decide +kernel
theorem nd_M_settle_36 : decode prog_7_method_9_code 36 = .ok (.getfield 112, 3) := by decide +kernel
theorem nd_M_settle_39 : decode prog_7_method_9_code 39 = .ok (.aload_n 0, 1) := by decide +kernel
theorem nd_M_settle_40 : decode prog_7_method_9_code 40 = .ok (.getfield 140, 3) := by decide +kernel
theorem nd_M_settle_43 : decode prog_7_method_9_code 43 = .ok (.iaload, 1) := by decide +kernel
theorem nd_M_settle_44 : decode prog_7_method_9_code 44 = .ok (.istore_n 2, 1) := by decide +kernel
theorem nd_M_settle_45 : decode prog_7_method_9_code 45 = .ok (.aload_n 0, 1) := by decide +kernel
theorem nd_M_settle_46 : decode prog_7_method_9_code 46 = .ok (.iload_n 2, 1) := by decide +kernel
theorem nd_M_settle_47 : decode prog_7_method_9_code 47 = .ok (.sipush 200, 3) := by decide +kernel
theorem nd_M_settle_50 : decode prog_7_method_9_code 50 = .ok (.if_icmp .ne 7, 3) := by decide +kernel
theorem nd_M_settle_53 : decode prog_7_method_9_code 53 = .ok (.iconst 3, 1) := by decide +kernel
theorem nd_M_settle_54 : decode prog_7_method_9_code 54 = .ok (.goto 57, 3) := by decide +kernel
theorem nd_M_settle_57 : decode prog_7_method_9_code 57 = .ok (.iload_n 2, 1) := by decide +kernel
theorem nd_M_settle_58 : decode prog_7_method_9_code 58 = .ok (.bipush 64, 2) := by decide +kernel
theorem nd_M_settle_60 : decode prog_7_method_9_code 60 = .ok (.if_icmp .ne 7, 3) := by decide +kernel
theorem nd_M_settle_63 : decode prog_7_method_9_code 63 = .ok (.iconst 2, 1) := by decide +kernel
theorem nd_M_settle_64 : decode prog_7_method_9_code 64 = .ok (.goto 47, 3) := by decide +kernel
theorem nd_M_settle_67 : decode prog_7_method_9_code 67 = .ok (.iload_n 2, 1) := by decide +kernel
theorem nd_M_settle_68 : decode prog_7_method_9_code 68 = .ok (.bipush 42, 2) := by decide +kernel
theorem nd_M_settle_70 : decode prog_7_method_9_code 70 = .ok (.if_icmp .ne 7, 3) := by decide +kernel
theorem nd_M_settle_73 : decode prog_7_method_9_code 73 = .ok (.iconst 4, 1) := by decide +kernel
theorem nd_M_settle_74 : decode prog_7_method_9_code 74 = .ok (.goto 37, 3) := by decide +kernel
theorem nd_M_settle_77 : decode prog_7_method_9_code 77 = .ok (.iload_n 2, 1) := by decide +kernel
theorem nd_M_settle_78 : decode prog_7_method_9_code 78 = .ok (.bipush 43, 2) := by decide +kernel
theorem nd_M_settle_80 : decode prog_7_method_9_code 80 = .ok (.if_icmp .ne 7, 3) := by decide +kernel
theorem nd_M_settle_83 : decode prog_7_method_9_code 83 = .ok (.iconst 5, 1) := by decide +kernel
theorem nd_M_settle_84 : decode prog_7_method_9_code 84 = .ok (.goto 27, 3) := by decide +kernel
theorem nd_M_settle_87 : decode prog_7_method_9_code 87 = .ok (.iload_n 2, 1) := by decide +kernel
theorem nd_M_settle_88 : decode prog_7_method_9_code 88 = .ok (.bipush 45, 2) := by decide +kernel
theorem nd_M_settle_90 : decode prog_7_method_9_code 90 = .ok (.if_icmp .ne 8, 3) := by decide +kernel
theorem nd_M_settle_93 : decode prog_7_method_9_code 93 = .ok (.bipush 6, 2) := by decide +kernel
theorem nd_M_settle_95 : decode prog_7_method_9_code 95 = .ok (.goto 16, 3) := by decide +kernel
theorem nd_M_settle_98 : decode prog_7_method_9_code 98 = .ok (.iload_n 2, 1) := by decide +kernel
theorem nd_M_settle_99 : decode prog_7_method_9_code 99 = .ok (.bipush 60, 2) := by decide +kernel
theorem nd_M_settle_101 : decode prog_7_method_9_code 101 = .ok (.if_icmp .ne 8, 3) := by decide +kernel
theorem nd_M_settle_104 : decode prog_7_method_9_code 104 = .ok (.bipush 7, 2) := by decide +kernel
theorem nd_M_settle_106 : decode prog_7_method_9_code 106 = .ok (.goto 5, 3) := by decide +kernel
theorem nd_M_settle_109 : decode prog_7_method_9_code 109 = .ok (.bipush 8, 2) := by decide +kernel
theorem nd_M_settle_111 : decode prog_7_method_9_code 111 = .ok (.iconst 0, 1) := by decide +kernel
theorem nd_M_settle_112 : decode prog_7_method_9_code 112 = .ok (.invokevirtual 147, 3) := by decide +kernel
theorem nd_M_settle_115 : decode prog_7_method_9_code 115 = .ok (.goto (-115), 3) := by decide +kernel
theorem nd_M_settle_118 : decode prog_7_method_9_code 118 = .ok (.return_, 1) := by decide +kernel
theorem nd_M_deepness_0 : decode prog_7_method_10_code 0 = .ok (.iconst 0, 1) := by decide +kernel
theorem nd_M_deepness_1 : decode prog_7_method_10_code 1 = .ok (.istore_n 1, 1) := by decide +kernel
theorem nd_M_deepness_2 : decode prog_7_method_10_code 2 = .ok (.iconst 0, 1) := by decide +kernel
theorem nd_M_deepness_3 : decode prog_7_method_10_code 3 = .ok (.istore_n 2, 1) := by decide +kernel
theorem nd_M_deepness_4 : decode prog_7_method_10_code 4 = .ok (.iload_n 2, 1) := by decide +kernel
theorem nd_M_deepness_5 : decode prog_7_method_10_code 5 = .ok (.aload_n 0, 1) := by decide +kernel
theorem nd_M_deepness_6 : decode prog_7_method_10_code 6 = .ok (.getfield 140, 3) := by decide +kernel
theorem nd_M_deepness_9 : decode prog_7_method_10_code 9 = .ok (.if_icmp .ge 41, 3) := by decide +kernel
theorem nd_M_deepness_12 : decode prog_7_method_10_code 12 = .ok (.aload_n 0, 1) := by decide +kernel
theorem nd_M_deepness_13 : decode prog_7_method_10_code 13 = .ok (.getfield 112, 3) := by decide +kernel
theorem nd_M_deepness_16 : decode prog_7_method_10_code 16 = .ok (.iload_n 2, 1) := by decide +kernel
theorem nd_M_deepness_17 : decode prog_7_method_10_code 17 = .ok (.iaload, 1) := by decide +kernel
theorem nd_M_deepness_18 : decode prog_7_method_10_code 18 = .ok (.bipush 40, 2) := by decide +kernel
theorem nd_M_deepness_20 : decode prog_7_method_10_code 20 = .ok (.if_icmp .eq 16, 3) := by decide +kernel
theorem nd_M_deepness_23 : decode prog_7_method_10_code 23 = .ok (.aload_n 0, 1) := by decide +kernel
theorem nd_M_deepness_24 : decode prog_7_method_10_code 24 = .ok (.getfield 112, 3) := by decide +kernel
theorem nd_M_deepness_27 : decode prog_7_method_10_code 27 = .ok (.iload_n 2, 1) := by decide +kernel
theorem nd_M_deepness_28 : decode prog_7_method_10_code 28 = .ok (.iaload, 1) := by decide +kernel
theorem nd_M_deepness_29 : decode prog_7_method_10_code 29 = .ok (.invokestatic 143, 3) := by decide +kernel
theorem nd_M_deepness_32 : decode prog_7_method_10_code 32 = .ok (.iconst 3, 1) := by decide +kernel
theorem nd_M_deepness_33 : decode prog_7_method_10_code 33 = .ok (.if_icmp .ne 9, 3) := by decide +kernel
theorem nd_M_deepness_36 : decode prog_7_method_10_code 36 = .ok (.iload_n 1, 1) := by decide +kernel
theorem nd_M_deepness_37 : decode prog_7_method_10_code 37 = .ok (.iconst 1, 1) := by decide +kernel
theorem nd_M_deepness_38 : decode prog_7_method_10_code 38 = .ok (.iadd, 1) := by decide +kernel
theorem nd_M_deepness_39 : decode prog_7_method_10_code 39 = .ok (.goto 4, 3) := by decide +kernel
theorem nd_M_deepness_42 : decode prog_7_method_10_code 42 = .ok (.iload_n 1, 1) := by decide +kernel
theorem nd_M_deepness_43 : decode prog_7_method_10_code 43 = .ok (.istore_n 1, 1) := by decide +kernel
theorem nd_M_deepness_44 : decode prog_7_method_10_code 44 = .ok (.iinc 2 1, 3) := by decide +kernel
theorem nd_M_deepness_47 : decode prog_7_method_10_code 47 = .ok (.goto (-43), 3) := by decide +kernel
theorem nd_M_deepness_50 : decode prog_7_method_10_code 50 = .ok (.iload_n 1, 1) := by decide +kernel
theorem nd_M_deepness_51 : decode prog_7_method_10_code 51 = .ok (.ireturn, 1) := by decide +kernel
theorem nd_M_begin_0 : decode prog_7_method_11_code 0 = .ok (.iload_n 1, 1) := by decide +kernel
theorem nd_M_begin_1 : decode prog_7_method_11_code 1 = .ok (.invokestatic 127, 3) := by decide +kernel
theorem nd_M_begin_4 : decode prog_7_method_11_code 4 = .ok (.ifCond .eq 19, 3) := by decide +kernel
theorem nd_M_begin_7 : decode prog_7_method_11_code 7 = .ok (.aload_n 0, 1) := by decide +kernel
theorem nd_M_begin_8 : decode prog_7_method_11_code 8 = .ok (.iconst 1, 1) := by decide +kernel
theorem nd_M_begin_9 : decode prog_7_method_11_code 9 = .ok (.iload_n 1, 1) := by decide +kernel
theorem nd_M_begin_10 : decode prog_7_method_11_code 10 = .ok (.bipush 65, 2) := by decide +kernel
theorem nd_M_begin_12 : decode prog_7_method_11_code 12 = .ok (.isub, 1) := by decide +kernel
theorem nd_M_begin_13 : decode prog_7_method_11_code 13 = .ok (.invokevirtual 147, 3) := by decide +kernel
theorem nd_M_begin_16 : decode prog_7_method_11_code 16 = .ok (.aload_n 0, 1) := by decide +kernel
theorem nd_M_begin_17 : decode prog_7_method_11_code 17 = .ok (.iconst 3, 1) := by decide +kernel
theorem nd_M_begin_18 : decode prog_7_method_11_code 18 = .ok (.invokevirtual 151, 3) := by decide +kernel
theorem nd_M_begin_21 : decode prog_7_method_11_code 21 = .ok (.iconst 1, 1) := by decide +kernel
theorem nd_M_begin_22 : decode prog_7_method_11_code 22 = .ok (.ireturn, 1) := by decide +kernel
theorem nd_M_begin_23 : decode prog_7_method_11_code 23 = .ok (.iload_n 1, 1) := by decide +kernel
theorem nd_M_begin_24 : decode prog_7_method_11_code 24 = .ok (.invokestatic 131, 3) := by decide +kernel
theorem nd_M_begin_27 : decode prog_7_method_11_code 27 = .ok (.ifCond .eq 73, 3) := by decide +kernel
theorem nd_M_begin_30 : decode prog_7_method_11_code 30 = .ok (.iconst 0, 1) := by decide +kernel
theorem nd_M_begin_31 : decode prog_7_method_11_code 31 = .ok (.istore_n 3, 1) := by decide +kernel
theorem nd_M_begin_32 : decode prog_7_method_11_code 32 = .ok (.iload_n 2, 1) := by decide +kernel
theorem nd_M_begin_33 : decode prog_7_method_11_code 33 = .ok (.istore 4, 2) := by decide +kernel
theorem nd_M_begin_35 : decode prog_7_method_11_code 35 = .ok (.iload 4, 2) := by decide +kernel
theorem nd_M_begin_37 : decode prog_7_method_11_code 37 = .ok (.aload_n 0, 1) := by decide +kernel
theorem nd_M_begin_38 : decode prog_7_method_11_code 38 = .ok (.getfield 134, 3) := by decide +kernel
theorem nd_M_begin_41 : decode prog_7_method_11_code 41 = .ok (.if_icmp .ge 46, 3) := by decide +kernel
theorem nd_M_begin_44 : decode prog_7_method_11_code 44 = .ok (.iload 4, 2) := by decide +kernel
theorem nd_M_begin_46 : decode prog_7_method_11_code 46 = .ok (.iload_n 2, 1) := by decide +kernel
theorem nd_M_begin_47 : decode prog_7_method_11_code 47 = .ok (.iconst 4, 1) := by decide +kernel
theorem nd_M_begin_48 : decode prog_7_method_11_code 48 = .ok (.iadd, 1) := by decide +kernel
theorem nd_M_begin_49 : decode prog_7_method_11_code 49 = .ok (.if_icmp .ge 38, 3) := by decide +kernel
theorem nd_M_begin_52 : decode prog_7_method_11_code 52 = .ok (.aload_n 0, 1) := by decide +kernel
theorem nd_M_begin_53 : decode prog_7_method_11_code 53 = .ok (.getfield 7, 3) := by decide +kernel
theorem nd_M_begin_56 : decode prog_7_method_11_code 56 = .ok (.iload 4, 2) := by decide +kernel
theorem nd_M_begin_58 : decode prog_7_method_11_code 58 = .ok (.iaload, 1) := by decide +kernel
theorem nd_M_begin_59 : decode prog_7_method_11_code 59 = .ok (.invokestatic 131, 3) := by decide +kernel
theorem nd_M_begin_62 : decode prog_7_method_11_code 62 = .ok (.ifCond .eq 25, 3) := by decide +kernel
theorem nd_M_begin_65 : decode prog_7_method_11_code 65 = .ok (.bipush 10, 2) := by decide +kernel
theorem nd_M_begin_67 : decode prog_7_method_11_code 67 = .ok (.iload_n 3, 1) := by decide +kernel
theorem nd_M_begin_68 : decode prog_7_method_11_code 68 = .ok (.imul, 1) := by decide +kernel
theorem nd_M_begin_69 : decode prog_7_method_11_code 69 = .ok (.aload_n 0, 1) := by decide +kernel
theorem nd_M_begin_70 : decode prog_7_method_11_code 70 = .ok (.getfield 7, 3) := by decide +kernel
theorem nd_M_begin_73 : decode prog_7_method_11_code 73 = .ok (.iload 4, 2) := by decide +kernel
theorem nd_M_begin_75 : decode prog_7_method_11_code 75 = .ok (.iaload, 1) := by decide +kernel
theorem nd_M_begin_76 : decode prog_7_method_11_code 76 = .ok (.iadd, 1) := by decide +kernel
theorem nd_M_begin_77 : decode prog_7_method_11_code 77 = .ok (.bipush 48, 2) := by decide +kernel
theorem nd_M_begin_79 : decode prog_7_method_11_code 79 = .ok (.isub, 1) := by decide +kernel
theorem nd_M_begin_80 : decode prog_7_method_11_code 80 = .ok (.istore_n 3, 1) := by decide +kernel
theorem nd_M_begin_81 : decode prog_7_method_11_code 81 = .ok (.iinc 4 1, 3) := by decide +kernel
theorem nd_M_begin_84 : decode prog_7_method_11_code 84 = .ok (.goto (-49), 3) := by decide +kernel
theorem nd_M_begin_87 : decode prog_7_method_11_code 87 = .ok (.aload_n 0, 1) := by decide +kernel
theorem nd_M_begin_88 : decode prog_7_method_11_code 88 = .ok (.iconst 0, 1) := by decide +kernel
theorem nd_M_begin_89 : decode prog_7_method_11_code 89 = .ok (.iload_n 3, 1) := by decide +kernel
theorem nd_M_begin_90 : decode prog_7_method_11_code 90 = .ok (.invokevirtual 147, 3) := by decide +kernel
theorem nd_M_begin_93 : decode prog_7_method_11_code 93 = .ok (.aload_n 0, 1) := by decide +kernel
theorem nd_M_begin_94 : decode prog_7_method_11_code 94 = .ok (.iconst 3, 1) := by decide +kernel
theorem nd_M_begin_95 : decode prog_7_method_11_code 95 = .ok (.invokevirtual 151, 3) := by decide +kernel
theorem nd_M_begin_98 : decode prog_7_method_11_code 98 = .ok (.iconst 1, 1) := by decide +kernel
theorem nd_M_begin_99 : decode prog_7_method_11_code 99 = .ok (.ireturn, 1) := by decide +kernel
theorem nd_M_begin_100 : decode prog_7_method_11_code 100 = .ok (.iload_n 1, 1) := by decide +kernel
theorem nd_M_begin_101 : decode prog_7_method_11_code 101 = .ok (.bipush 40, 2) := by decide +kernel
theorem nd_M_begin_103 : decode prog_7_method_11_code 103 = .ok (.if_icmp .eq 15, 3) := by decide +kernel
theorem nd_M_begin_106 : decode prog_7_method_11_code 106 = .ok (.iload_n 1, 1) := by decide +kernel
theorem nd_M_begin_107 : decode prog_7_method_11_code 107 = .ok (.bipush 45, 2) := by decide +kernel
theorem nd_M_begin_109 : decode prog_7_method_11_code 109 = .ok (.if_icmp .eq 9, 3) := by decide +kernel
theorem nd_M_begin_112 : decode prog_7_method_11_code 112 = .ok (.iload_n 1, 1) := by decide +kernel
theorem nd_M_begin_113 : decode prog_7_method_11_code 113 = .ok (.bipush 64, 2) := by decide +kernel
theorem nd_M_begin_115 : decode prog_7_method_11_code 115 = .ok (.if_icmp .ne 11, 3) := by decide +kernel
theorem nd_M_begin_118 : decode prog_7_method_11_code 118 = .ok (.aload_n 0, 1) := by decide +kernel
theorem nd_M_begin_119 : decode prog_7_method_11_code 119 = .ok (.invokevirtual 155, 3) := by decide +kernel
theorem nd_M_begin_122 : decode prog_7_method_11_code 122 = .ok (.iconst 5, 1) := by decide +kernel
theorem nd_M_begin_123 : decode prog_7_method_11_code 123 = .ok (.if_icmp .ne 5, 3) := by decide +kernel
theorem nd_M_begin_126 : decode prog_7_method_11_code 126 = .ok (.iconst 0, 1) := by decide +kernel
theorem nd_M_begin_127 : decode prog_7_method_11_code 127 = .ok (.ireturn, 1) := by decide +kernel
theorem nd_M_begin_128 : decode prog_7_method_11_code 128 = .ok (.aload_n 0, 1) := by decide +kernel
theorem nd_M_begin_129 : decode prog_7_method_11_code 129 = .ok (.iload_n 1, 1) := by decide +kernel
theorem nd_M_begin_130 : decode prog_7_method_11_code 130 = .ok (.bipush 45, 2) := by decide +kernel
theorem nd_M_begin_132 : decode prog_7_method_11_code 132 = .ok (.if_icmp .ne 9, 3) := by decide +kernel
theorem nd_M_begin_135 : decode prog_7_method_11_code 135 = .ok (.sipush 200, 3) := by decide +kernel
theorem nd_M_begin_138 : decode prog_7_method_11_code 138 = .ok (.goto 4, 3) := by decide +kernel
theorem nd_M_begin_141 : decode prog_7_method_11_code 141 = .ok (.iload_n 1, 1) := by decide +kernel
theorem nd_M_begin_142 : decode prog_7_method_11_code 142 = .ok (.iconst 0, 1) := by decide +kernel
theorem nd_M_begin_143 : decode prog_7_method_11_code 143 = .ok (.invokevirtual 159, 3) := by decide +kernel
theorem nd_M_begin_146 : decode prog_7_method_11_code 146 = .ok (.iconst 1, 1) := by decide +kernel
theorem nd_M_begin_147 : decode prog_7_method_11_code 147 = .ok (.ireturn, 1) := by decide +kernel
theorem nd_M_compared_0 : decode prog_7_method_12_code 0 = .ok (.iconst 0, 1) := by decide +kernel
theorem nd_M_compared_1 : decode prog_7_method_12_code 1 = .ok (.istore_n 1, 1) := by decide +kernel
theorem nd_M_compared_2 : decode prog_7_method_12_code 2 = .ok (.aload_n 0, 1) := by decide +kernel
theorem nd_M_compared_3 : decode prog_7_method_12_code 3 = .ok (.getfield 140, 3) := by decide +kernel
theorem nd_M_compared_6 : decode prog_7_method_12_code 6 = .ok (.iconst 1, 1) := by decide +kernel
theorem nd_M_compared_7 : decode prog_7_method_12_code 7 = .ok (.isub, 1) := by decide +kernel
theorem nd_M_compared_8 : decode prog_7_method_12_code 8 = .ok (.istore_n 2, 1) := by decide +kernel
theorem nd_M_compared_9 : decode prog_7_method_12_code 9 = .ok (.iload_n 2, 1) := by decide +kernel
theorem nd_M_compared_10 : decode prog_7_method_12_code 10 = .ok (.ifCond .lt 43, 3) := by decide +kernel
theorem nd_M_compared_13 : decode prog_7_method_12_code 13 = .ok (.aload_n 0, 1) := by decide +kernel
theorem nd_M_compared_14 : decode prog_7_method_12_code 14 = .ok (.getfield 112, 3) := by decide +kernel
theorem nd_M_compared_17 : decode prog_7_method_12_code 17 = .ok (.iload_n 2, 1) := by decide +kernel
theorem nd_M_compared_18 : decode prog_7_method_12_code 18 = .ok (.iaload, 1) := by decide +kernel
theorem nd_M_compared_19 : decode prog_7_method_12_code 19 = .ok (.invokestatic 143, 3) := by decide +kernel
theorem nd_M_compared_22 : decode prog_7_method_12_code 22 = .ok (.ifCond .lt 31, 3) := by decide +kernel
theorem nd_M_compared_25 : decode prog_7_method_12_code 25 = .ok (.iload_n 1, 1) := by decide +kernel
theorem nd_M_compared_26 : decode prog_7_method_12_code 26 = .ok (.ifCond .ne 15, 3) := by decide +kernel
theorem nd_M_compared_29 : decode prog_7_method_12_code 29 = .ok (.aload_n 0, 1) := by decide +kernel
theorem nd_M_compared_30 : decode prog_7_method_12_code 30 = .ok (.getfield 112, 3) := by decide +kernel
theorem nd_M_compared_33 : decode prog_7_method_12_code 33 = .ok (.iload_n 2, 1) := by decide +kernel
theorem nd_M_compared_34 : decode prog_7_method_12_code 34 = .ok (.iaload, 1) := by decide +kernel
theorem nd_M_compared_35 : decode prog_7_method_12_code 35 = .ok (.invokestatic 143, 3) := by decide +kernel
theorem nd_M_compared_38 : decode prog_7_method_12_code 38 = .ok (.ifCond .ne 7, 3) := by decide +kernel
theorem nd_M_compared_41 : decode prog_7_method_12_code 41 = .ok (.iconst 1, 1) := by decide +kernel
theorem nd_M_compared_42 : decode prog_7_method_12_code 42 = .ok (.goto 4, 3) := by decide +kernel
theorem nd_M_compared_45 : decode prog_7_method_12_code 45 = .ok (.iconst 0, 1) := by decide +kernel
theorem nd_M_compared_46 : decode prog_7_method_12_code 46 = .ok (.istore_n 1, 1) := by decide +kernel
theorem nd_M_compared_47 : decode prog_7_method_12_code 47 = .ok (.iinc 2 (-1), 3) := by decide +kernel
theorem nd_M_compared_50 : decode prog_7_method_12_code 50 = .ok (.goto (-41), 3) := by decide +kernel
theorem nd_M_compared_53 : decode prog_7_method_12_code 53 = .ok (.iload_n 1, 1) := by decide +kernel
theorem nd_M_compared_54 : decode prog_7_method_12_code 54 = .ok (.ireturn, 1) := by decide +kernel
theorem nd_M_inner_0 : decode prog_7_method_13_code 0 = .ok (.aload_n 0, 1) := by decide +kernel
theorem nd_M_inner_1 : decode prog_7_method_13_code 1 = .ok (.getfield 140, 3) := by decide +kernel
theorem nd_M_inner_4 : decode prog_7_method_13_code 4 = .ok (.iconst 1, 1) := by decide +kernel
theorem nd_M_inner_5 : decode prog_7_method_13_code 5 = .ok (.isub, 1) := by decide +kernel
theorem nd_M_inner_6 : decode prog_7_method_13_code 6 = .ok (.istore_n 1, 1) := by decide +kernel
theorem nd_M_inner_7 : decode prog_7_method_13_code 7 = .ok (.iload_n 1, 1) := by decide +kernel
theorem nd_M_inner_8 : decode prog_7_method_13_code 8 = .ok (.ifCond .lt 21, 3) := by decide +kernel
theorem nd_M_inner_11 : decode prog_7_method_13_code 11 = .ok (.aload_n 0, 1) := by decide +kernel
theorem nd_M_inner_12 : decode prog_7_method_13_code 12 = .ok (.getfield 112, 3) := by decide +kernel
theorem nd_M_inner_15 : decode prog_7_method_13_code 15 = .ok (.iload_n 1, 1) := by decide +kernel
theorem nd_M_inner_16 : decode prog_7_method_13_code 16 = .ok (.iaload, 1) := by decide +kernel
theorem nd_M_inner_17 : decode prog_7_method_13_code 17 = .ok (.invokestatic 143, 3) := by decide +kernel
theorem nd_M_inner_20 : decode prog_7_method_13_code 20 = .ok (.ifCond .lt 9, 3) := by decide +kernel
theorem nd_M_inner_23 : decode prog_7_method_13_code 23 = .ok (.iinc 1 (-1), 3) := by decide +kernel
theorem nd_M_inner_26 : decode prog_7_method_13_code 26 = .ok (.goto (-19), 3) := by decide +kernel
theorem nd_M_inner_29 : decode prog_7_method_13_code 29 = .ok (.iload_n 1, 1) := by decide +kernel
theorem nd_M_inner_30 : decode prog_7_method_13_code 30 = .ok (.ireturn, 1) := by decide +kernel
theorem nd_M_close_0 : decode prog_7_method_14_code 0 = .ok (.aload_n 0, 1) := by decide +kernel
theorem nd_M_close_1 : decode prog_7_method_14_code 1 = .ok (.iconst 0, 1) := by decide +kernel
theorem nd_M_close_2 : decode prog_7_method_14_code 2 = .ok (.invokevirtual 151, 3) := by decide +kernel
theorem nd_M_close_5 : decode prog_7_method_14_code 5 = .ok (.aload_n 0, 1) := by decide +kernel
theorem nd_M_close_6 : decode prog_7_method_14_code 6 = .ok (.getfield 140, 3) := by decide +kernel
theorem nd_M_close_9 : decode prog_7_method_14_code 9 = .ok (.ifCond .le 55, 3) := by decide +kernel
theorem nd_M_close_12 : decode prog_7_method_14_code 12 = .ok (.aload_n 0, 1) := by decide +kernel
theorem nd_M_close_13 : decode prog_7_method_14_code 13 = .ok (.getfield 112, 3) := by decide +kernel
theorem nd_M_close_16 : decode prog_7_method_14_code 16 = .ok (.aload_n 0, 1) := by decide +kernel
theorem nd_M_close_17 : decode prog_7_method_14_code 17 = .ok (.getfield 140, 3) := by decide +kernel
theorem nd_M_close_20 : decode prog_7_method_14_code 20 = .ok (.iconst 1, 1) := by decide +kernel
theorem nd_M_close_21 : decode prog_7_method_14_code 21 = .ok (.isub, 1) := by decide +kernel
theorem nd_M_close_22 : decode prog_7_method_14_code 22 = .ok (.iaload, 1) := by decide +kernel
theorem nd_M_close_23 : decode prog_7_method_14_code 23 = .ok (.bipush 58, 2) := by decide +kernel
theorem nd_M_close_25 : decode prog_7_method_14_code 25 = .ok (.if_icmp .ne 39, 3) := by decide +kernel
theorem nd_M_close_28 : decode prog_7_method_14_code 28 = .ok (.aload_n 0, 1) := by decide +kernel
theorem nd_M_close_29 : decode prog_7_method_14_code 29 = .ok (.dup, 1) := by decide +kernel
theorem nd_M_close_30 : decode prog_7_method_14_code 30 = .ok (.getfield 140, 3) := by decide +kernel
theorem nd_M_close_33 : decode prog_7_method_14_code 33 = .ok (.iconst 1, 1) := by decide +kernel
theorem nd_M_close_34 : decode prog_7_method_14_code 34 = .ok (.isub, 1) := by decide +kernel
theorem nd_M_close_35 : decode prog_7_method_14_code 35 = .ok (.putfield 140, 3) := by decide +kernel
theorem nd_M_close_38 : decode prog_7_method_14_code 38 = .ok (.aload_n 0, 1) := by decide +kernel
theorem nd_M_close_39 : decode prog_7_method_14_code 39 = .ok (.getfield 121, 3) := by decide +kernel
theorem nd_M_close_42 : decode prog_7_method_14_code 42 = .ok (.aload_n 0, 1) := by decide +kernel
theorem nd_M_close_43 : decode prog_7_method_14_code 43 = .ok (.getfield 115, 3) := by decide +kernel
theorem nd_M_close_46 : decode prog_7_method_14_code 46 = .ok (.aload_n 0, 1) := by decide +kernel
theorem nd_M_close_47 : decode prog_7_method_14_code 47 = .ok (.getfield 140, 3) := by decide +kernel
theorem nd_M_close_50 : decode prog_7_method_14_code 50 = .ok (.iaload, 1) := by decide +kernel
theorem nd_M_close_51 : decode prog_7_method_14_code 51 = .ok (.aload_n 0, 1) := by decide +kernel
theorem nd_M_close_52 : decode prog_7_method_14_code 52 = .ok (.getfield 137, 3) := by decide +kernel
theorem nd_M_close_55 : decode prog_7_method_14_code 55 = .ok (.iastore, 1) := by decide +kernel
theorem nd_M_close_56 : decode prog_7_method_14_code 56 = .ok (.aload_n 0, 1) := by decide +kernel
theorem nd_M_close_57 : decode prog_7_method_14_code 57 = .ok (.iconst 0, 1) := by decide +kernel
theorem nd_M_close_58 : decode prog_7_method_14_code 58 = .ok (.invokevirtual 151, 3) := by decide +kernel
theorem nd_M_close_61 : decode prog_7_method_14_code 61 = .ok (.goto (-56), 3) := by decide +kernel
theorem nd_M_close_64 : decode prog_7_method_14_code 64 = .ok (.return_, 1) := by decide +kernel
theorem nd_M_awaits_0 : decode prog_7_method_15_code 0 = .ok (.aload_n 0, 1) := by decide +kernel
theorem nd_M_awaits_1 : decode prog_7_method_15_code 1 = .ok (.invokevirtual 162, 3) := by decide +kernel
theorem nd_M_awaits_4 : decode prog_7_method_15_code 4 = .ok (.istore_n 1, 1) := by decide +kernel
theorem nd_M_awaits_5 : decode prog_7_method_15_code 5 = .ok (.iload_n 1, 1) := by decide +kernel
theorem nd_M_awaits_6 : decode prog_7_method_15_code 6 = .ok (.ifCond .lt 32, 3) := by decide +kernel
theorem nd_M_awaits_9 : decode prog_7_method_15_code 9 = .ok (.aload_n 0, 1) := by decide +kernel
theorem nd_M_awaits_10 : decode prog_7_method_15_code 10 = .ok (.getfield 112, 3) := by decide +kernel
theorem nd_M_awaits_13 : decode prog_7_method_15_code 13 = .ok (.iload_n 1, 1) := by decide +kernel
theorem nd_M_awaits_14 : decode prog_7_method_15_code 14 = .ok (.iaload, 1) := by decide +kernel
theorem nd_M_awaits_15 : decode prog_7_method_15_code 15 = .ok (.bipush 58, 2) := by decide +kernel
theorem nd_M_awaits_17 : decode prog_7_method_15_code 17 = .ok (.if_icmp .eq 15, 3) := by decide +kernel
theorem nd_M_awaits_20 : decode prog_7_method_15_code 20 = .ok (.aload_n 0, 1) := by decide +kernel
theorem nd_M_awaits_21 : decode prog_7_method_15_code 21 = .ok (.getfield 112, 3) := by decide +kernel
theorem nd_M_awaits_24 : decode prog_7_method_15_code 24 = .ok (.iload_n 1, 1) := by decide +kernel
theorem nd_M_awaits_25 : decode prog_7_method_15_code 25 = .ok (.iaload, 1) := by decide +kernel
theorem nd_M_awaits_26 : decode prog_7_method_15_code 26 = .ok (.invokestatic 143, 3) := by decide +kernel
theorem nd_M_awaits_29 : decode prog_7_method_15_code 29 = .ok (.ifCond .lt 9, 3) := by decide +kernel
theorem nd_M_awaits_32 : decode prog_7_method_15_code 32 = .ok (.iinc 1 (-1), 3) := by decide +kernel
theorem nd_M_awaits_35 : decode prog_7_method_15_code 35 = .ok (.goto (-30), 3) := by decide +kernel
theorem nd_M_awaits_38 : decode prog_7_method_15_code 38 = .ok (.iload_n 1, 1) := by decide +kernel
theorem nd_M_awaits_39 : decode prog_7_method_15_code 39 = .ok (.ifCond .ge 7, 3) := by decide +kernel
theorem nd_M_awaits_42 : decode prog_7_method_15_code 42 = .ok (.iconst 0, 1) := by decide +kernel
theorem nd_M_awaits_43 : decode prog_7_method_15_code 43 = .ok (.goto 9, 3) := by decide +kernel
theorem nd_M_awaits_46 : decode prog_7_method_15_code 46 = .ok (.aload_n 0, 1) := by decide +kernel
theorem nd_M_awaits_47 : decode prog_7_method_15_code 47 = .ok (.getfield 112, 3) := by decide +kernel
theorem nd_M_awaits_50 : decode prog_7_method_15_code 50 = .ok (.iload_n 1, 1) := by decide +kernel
theorem nd_M_awaits_51 : decode prog_7_method_15_code 51 = .ok (.iaload, 1) := by decide +kernel
theorem nd_M_awaits_52 : decode prog_7_method_15_code 52 = .ok (.ireturn, 1) := by decide +kernel
theorem nd_M_goesOn_0 : decode prog_7_method_16_code 0 = .ok (.iload_n 1, 1) := by decide +kernel
theorem nd_M_goesOn_1 : decode prog_7_method_16_code 1 = .ok (.invokestatic 143, 3) := by decide +kernel
theorem nd_M_goesOn_4 : decode prog_7_method_16_code 4 = .ok (.ifCond .ne 10, 3) := by decide +kernel
theorem nd_M_goesOn_7 : decode prog_7_method_16_code 7 = .ok (.aload_n 0, 1) := by decide +kernel
theorem nd_M_goesOn_8 : decode prog_7_method_16_code 8 = .ok (.invokevirtual 165, 3) := by decide +kernel
theorem nd_M_goesOn_11 : decode prog_7_method_16_code 11 = .ok (.ifCond .ne 31, 3) := by decide +kernel
theorem nd_M_goesOn_14 : decode prog_7_method_16_code 14 = .ok (.iload_n 1, 1) := by decide +kernel
theorem nd_M_goesOn_15 : decode prog_7_method_16_code 15 = .ok (.invokestatic 143, 3) := by decide +kernel
theorem nd_M_goesOn_18 : decode prog_7_method_16_code 18 = .ok (.iconst 3, 1) := by decide +kernel
theorem nd_M_goesOn_19 : decode prog_7_method_16_code 19 = .ok (.if_icmp .eq 23, 3) := by decide +kernel
theorem nd_M_goesOn_22 : decode prog_7_method_16_code 22 = .ok (.iload_n 1, 1) := by decide +kernel
theorem nd_M_goesOn_23 : decode prog_7_method_16_code 23 = .ok (.bipush 40, 2) := by decide +kernel
theorem nd_M_goesOn_25 : decode prog_7_method_16_code 25 = .ok (.if_icmp .eq 17, 3) := by decide +kernel
theorem nd_M_goesOn_28 : decode prog_7_method_16_code 28 = .ok (.iload_n 1, 1) := by decide +kernel
theorem nd_M_goesOn_29 : decode prog_7_method_16_code 29 = .ok (.invokestatic 127, 3) := by decide +kernel
theorem nd_M_goesOn_32 : decode prog_7_method_16_code 32 = .ok (.ifCond .ne 10, 3) := by decide +kernel
theorem nd_M_goesOn_35 : decode prog_7_method_16_code 35 = .ok (.iload_n 1, 1) := by decide +kernel
theorem nd_M_goesOn_36 : decode prog_7_method_16_code 36 = .ok (.invokestatic 131, 3) := by decide +kernel
theorem nd_M_goesOn_39 : decode prog_7_method_16_code 39 = .ok (.ifCond .eq 5, 3) := by decide +kernel
theorem nd_M_goesOn_42 : decode prog_7_method_16_code 42 = .ok (.iconst 0, 1) := by decide +kernel
theorem nd_M_goesOn_43 : decode prog_7_method_16_code 43 = .ok (.ireturn, 1) := by decide +kernel
theorem nd_M_goesOn_44 : decode prog_7_method_16_code 44 = .ok (.iload_n 1, 1) := by decide +kernel
theorem nd_M_goesOn_45 : decode prog_7_method_16_code 45 = .ok (.invokestatic 143, 3) := by decide +kernel
theorem nd_M_goesOn_48 : decode prog_7_method_16_code 48 = .ok (.ifCond .lt 30, 3) := by decide +kernel
theorem nd_M_goesOn_51 : decode prog_7_method_16_code 51 = .ok (.aload_n 0, 1) := by decide +kernel
theorem nd_M_goesOn_52 : decode prog_7_method_16_code 52 = .ok (.iload_n 1, 1) := by decide +kernel
theorem nd_M_goesOn_53 : decode prog_7_method_16_code 53 = .ok (.invokestatic 143, 3) := by decide +kernel
theorem nd_M_goesOn_56 : decode prog_7_method_16_code 56 = .ok (.ifCond .ne 7, 3) := by decide +kernel
theorem nd_M_goesOn_59 : decode prog_7_method_16_code 59 = .ok (.iconst 1, 1) := by decide +kernel
theorem nd_M_goesOn_60 : decode prog_7_method_16_code 60 = .ok (.goto 7, 3) := by decide +kernel
theorem nd_M_goesOn_63 : decode prog_7_method_16_code 63 = .ok (.iload_n 1, 1) := by decide +kernel
theorem nd_M_goesOn_64 : decode prog_7_method_16_code 64 = .ok (.invokestatic 143, 3) := by decide +kernel
theorem nd_M_goesOn_67 : decode prog_7_method_16_code 67 = .ok (.invokevirtual 151, 3) := by decide +kernel
theorem nd_M_goesOn_70 : decode prog_7_method_16_code 70 = .ok (.aload_n 0, 1) := by decide +kernel
theorem nd_M_goesOn_71 : decode prog_7_method_16_code 71 = .ok (.iload_n 1, 1) := by decide +kernel
theorem nd_M_goesOn_72 : decode prog_7_method_16_code 72 = .ok (.iconst 0, 1) := by decide +kernel
theorem nd_M_goesOn_73 : decode prog_7_method_16_code 73 = .ok (.invokevirtual 159, 3) := by decide +kernel
theorem nd_M_goesOn_76 : decode prog_7_method_16_code 76 = .ok (.iconst 1, 1) := by decide +kernel
theorem nd_M_goesOn_77 : decode prog_7_method_16_code 77 = .ok (.ireturn, 1) := by decide +kernel
theorem nd_M_goesOn_78 : decode prog_7_method_16_code 78 = .ok (.iload_n 1, 1) := by decide +kernel
theorem nd_M_goesOn_79 : decode prog_7_method_16_code 79 = .ok (.bipush 63, 2) := by decide +kernel
theorem nd_M_goesOn_81 : decode prog_7_method_16_code 81 = .ok (.if_icmp .ne 29, 3) := by decide +kernel
theorem nd_M_goesOn_84 : decode prog_7_method_16_code 84 = .ok (.aload_n 0, 1) := by decide +kernel
theorem nd_M_goesOn_85 : decode prog_7_method_16_code 85 = .ok (.iconst 0, 1) := by decide +kernel
theorem nd_M_goesOn_86 : decode prog_7_method_16_code 86 = .ok (.invokevirtual 151, 3) := by decide +kernel
theorem nd_M_goesOn_89 : decode prog_7_method_16_code 89 = .ok (.aload_n 0, 1) := by decide +kernel
theorem nd_M_goesOn_90 : decode prog_7_method_16_code 90 = .ok (.bipush 10, 2) := by decide +kernel
theorem nd_M_goesOn_92 : decode prog_7_method_16_code 92 = .ok (.iconst 0, 1) := by decide +kernel
theorem nd_M_goesOn_93 : decode prog_7_method_16_code 93 = .ok (.invokevirtual 147, 3) := by decide +kernel
theorem nd_M_goesOn_96 : decode prog_7_method_16_code 96 = .ok (.aload_n 0, 1) := by decide +kernel
theorem nd_M_goesOn_97 : decode prog_7_method_16_code 97 = .ok (.bipush 63, 2) := by decide +kernel
theorem nd_M_goesOn_99 : decode prog_7_method_16_code 99 = .ok (.aload_n 0, 1) := by decide +kernel
theorem nd_M_goesOn_100 : decode prog_7_method_16_code 100 = .ok (.getfield 137, 3) := by decide +kernel
theorem nd_M_goesOn_103 : decode prog_7_method_16_code 103 = .ok (.iconst 1, 1) := by decide +kernel
theorem nd_M_goesOn_104 : decode prog_7_method_16_code 104 = .ok (.isub, 1) := by decide +kernel
theorem nd_M_goesOn_105 : decode prog_7_method_16_code 105 = .ok (.invokevirtual 159, 3) := by decide +kernel
theorem nd_M_goesOn_108 : decode prog_7_method_16_code 108 = .ok (.iconst 1, 1) := by decide +kernel
theorem nd_M_goesOn_109 : decode prog_7_method_16_code 109 = .ok (.ireturn, 1) := by decide +kernel
theorem nd_M_goesOn_110 : decode prog_7_method_16_code 110 = .ok (.aload_n 0, 1) := by decide +kernel
theorem nd_M_goesOn_111 : decode prog_7_method_16_code 111 = .ok (.invokevirtual 169, 3) := by decide +kernel
theorem nd_M_goesOn_114 : decode prog_7_method_16_code 114 = .ok (.iload_n 1, 1) := by decide +kernel
theorem nd_M_goesOn_115 : decode prog_7_method_16_code 115 = .ok (.bipush 58, 2) := by decide +kernel
theorem nd_M_goesOn_117 : decode prog_7_method_16_code 117 = .ok (.if_icmp .ne 8, 3) := by decide +kernel
theorem nd_M_goesOn_120 : decode prog_7_method_16_code 120 = .ok (.bipush 63, 2) := by decide +kernel
theorem nd_M_goesOn_122 : decode prog_7_method_16_code 122 = .ok (.goto 5, 3) := by decide +kernel
theorem nd_M_goesOn_125 : decode prog_7_method_16_code 125 = .ok (.bipush 40, 2) := by decide +kernel
theorem nd_M_goesOn_127 : decode prog_7_method_16_code 127 = .ok (.if_icmp .eq 5, 3) := by decide +kernel
theorem nd_M_goesOn_130 : decode prog_7_method_16_code 130 = .ok (.iconst 0, 1) := by decide +kernel
theorem nd_M_goesOn_131 : decode prog_7_method_16_code 131 = .ok (.ireturn, 1) := by decide +kernel
theorem nd_M_goesOn_132 : decode prog_7_method_16_code 132 = .ok (.aload_n 0, 1) := by decide +kernel
theorem nd_M_goesOn_133 : decode prog_7_method_16_code 133 = .ok (.invokevirtual 172, 3) := by decide +kernel
theorem nd_M_goesOn_136 : decode prog_7_method_16_code 136 = .ok (.aload_n 0, 1) := by decide +kernel
theorem nd_M_goesOn_137 : decode prog_7_method_16_code 137 = .ok (.dup, 1) := by decide +kernel
theorem nd_M_goesOn_138 : decode prog_7_method_16_code 138 = .ok (.getfield 140, 3) := by decide +kernel
theorem nd_M_goesOn_141 : decode prog_7_method_16_code 141 = .ok (.iconst 1, 1) := by decide +kernel
theorem nd_M_goesOn_142 : decode prog_7_method_16_code 142 = .ok (.isub, 1) := by decide +kernel
theorem nd_M_goesOn_143 : decode prog_7_method_16_code 143 = .ok (.putfield 140, 3) := by decide +kernel
theorem nd_M_goesOn_146 : decode prog_7_method_16_code 146 = .ok (.iload_n 1, 1) := by decide +kernel
theorem nd_M_goesOn_147 : decode prog_7_method_16_code 147 = .ok (.bipush 58, 2) := by decide +kernel
theorem nd_M_goesOn_149 : decode prog_7_method_16_code 149 = .ok (.if_icmp .ne 43, 3) := by decide +kernel
theorem nd_M_goesOn_152 : decode prog_7_method_16_code 152 = .ok (.aload_n 0, 1) := by decide +kernel
theorem nd_M_goesOn_153 : decode prog_7_method_16_code 153 = .ok (.bipush 9, 2) := by decide +kernel
theorem nd_M_goesOn_155 : decode prog_7_method_16_code 155 = .ok (.iconst 0, 1) := by decide +kernel
theorem nd_M_goesOn_156 : decode prog_7_method_16_code 156 = .ok (.invokevirtual 147, 3) := by decide +kernel
theorem nd_M_goesOn_159 : decode prog_7_method_16_code 159 = .ok (.aload_n 0, 1) := by decide +kernel
theorem nd_M_goesOn_160 : decode prog_7_method_16_code 160 = .ok (.getfield 121, 3) := by decide +kernel
theorem nd_M_goesOn_163 : decode prog_7_method_16_code 163 = .ok (.aload_n 0, 1) := by decide +kernel
theorem nd_M_goesOn_164 : decode prog_7_method_16_code 164 = .ok (.getfield 115, 3) := by decide +kernel
theorem nd_M_goesOn_167 : decode prog_7_method_16_code 167 = .ok (.aload_n 0, 1) := by decide +kernel
theorem nd_M_goesOn_168 : decode prog_7_method_16_code 168 = .ok (.getfield 140, 3) := by decide +kernel
theorem nd_M_goesOn_171 : decode prog_7_method_16_code 171 = .ok (.iaload, 1) := by decide +kernel
theorem nd_M_goesOn_172 : decode prog_7_method_16_code 172 = .ok (.aload_n 0, 1) := by decide +kernel
theorem nd_M_goesOn_173 : decode prog_7_method_16_code 173 = .ok (.getfield 137, 3) := by decide +kernel
theorem nd_M_goesOn_176 : decode prog_7_method_16_code 176 = .ok (.iastore, 1) := by decide +kernel
theorem nd_M_goesOn_177 : decode prog_7_method_16_code 177 = .ok (.aload_n 0, 1) := by decide +kernel
theorem nd_M_goesOn_178 : decode prog_7_method_16_code 178 = .ok (.bipush 58, 2) := by decide +kernel
theorem nd_M_goesOn_180 : decode prog_7_method_16_code 180 = .ok (.aload_n 0, 1) := by decide +kernel
theorem nd_M_goesOn_181 : decode prog_7_method_16_code 181 = .ok (.getfield 137, 3) := by decide +kernel
theorem nd_M_goesOn_184 : decode prog_7_method_16_code 184 = .ok (.iconst 1, 1) := by decide +kernel
theorem nd_M_goesOn_185 : decode prog_7_method_16_code 185 = .ok (.isub, 1) := by decide +kernel
theorem nd_M_goesOn_186 : decode prog_7_method_16_code 186 = .ok (.invokevirtual 159, 3) := by decide +kernel
theorem nd_M_goesOn_189 : decode prog_7_method_16_code 189 = .ok (.goto 8, 3) := by decide +kernel
theorem nd_M_goesOn_192 : decode prog_7_method_16_code 192 = .ok (.aload_n 0, 1) := by decide +kernel
theorem nd_M_goesOn_193 : decode prog_7_method_16_code 193 = .ok (.iconst 3, 1) := by decide +kernel
theorem nd_M_goesOn_194 : decode prog_7_method_16_code 194 = .ok (.invokevirtual 151, 3) := by decide +kernel
theorem nd_M_goesOn_197 : decode prog_7_method_16_code 197 = .ok (.iconst 1, 1) := by decide +kernel
theorem nd_M_goesOn_198 : decode prog_7_method_16_code 198 = .ok (.ireturn, 1) := by decide +kernel
theorem nd_M_fault_0 : decode prog_7_method_17_code 0 = .ok (.aload_n 0, 1) := by decide +kernel
theorem nd_M_fault_1 : decode prog_7_method_17_code 1 = .ok (.iconst 0, 1) := by decide +kernel
theorem nd_M_fault_2 : decode prog_7_method_17_code 2 = .ok (.putfield 140, 3) := by decide +kernel
theorem nd_M_fault_5 : decode prog_7_method_17_code 5 = .ok (.aload_n 0, 1) := by decide +kernel
theorem nd_M_fault_6 : decode prog_7_method_17_code 6 = .ok (.iconst 0, 1) := by decide +kernel
theorem nd_M_fault_7 : decode prog_7_method_17_code 7 = .ok (.putfield 137, 3) := by decide +kernel
theorem nd_M_fault_10 : decode prog_7_method_17_code 10 = .ok (.iconst 1, 1) := by decide +kernel
theorem nd_M_fault_11 : decode prog_7_method_17_code 11 = .ok (.istore_n 1, 1) := by decide +kernel
theorem nd_M_fault_12 : decode prog_7_method_17_code 12 = .ok (.iconst 0, 1) := by decide +kernel
theorem nd_M_fault_13 : decode prog_7_method_17_code 13 = .ok (.istore_n 2, 1) := by decide +kernel
theorem nd_M_fault_14 : decode prog_7_method_17_code 14 = .ok (.iload_n 2, 1) := by decide +kernel
theorem nd_M_fault_15 : decode prog_7_method_17_code 15 = .ok (.aload_n 0, 1) := by decide +kernel
theorem nd_M_fault_16 : decode prog_7_method_17_code 16 = .ok (.getfield 134, 3) := by decide +kernel
theorem nd_M_fault_19 : decode prog_7_method_17_code 19 = .ok (.if_icmp .ge 141, 3) := by decide +kernel
theorem nd_M_fault_22 : decode prog_7_method_17_code 22 = .ok (.aload_n 0, 1) := by decide +kernel
theorem nd_M_fault_23 : decode prog_7_method_17_code 23 = .ok (.getfield 7, 3) := by decide +kernel
theorem nd_M_fault_26 : decode prog_7_method_17_code 26 = .ok (.iload_n 2, 1) := by decide +kernel
theorem nd_M_fault_27 : decode prog_7_method_17_code 27 = .ok (.iaload, 1) := by decide +kernel
theorem nd_M_fault_28 : decode prog_7_method_17_code 28 = .ok (.istore_n 3, 1) := by decide +kernel
theorem nd_M_fault_29 : decode prog_7_method_17_code 29 = .ok (.iload_n 1, 1) := by decide +kernel
theorem nd_M_fault_30 : decode prog_7_method_17_code 30 = .ok (.ifCond .eq 25, 3) := by decide +kernel
theorem nd_M_fault_33 : decode prog_7_method_17_code 33 = .ok (.iload_n 3, 1) := by decide +kernel
theorem nd_M_fault_34 : decode prog_7_method_17_code 34 = .ok (.bipush 40, 2) := by decide +kernel
theorem nd_M_fault_36 : decode prog_7_method_17_code 36 = .ok (.if_icmp .eq 15, 3) := by decide +kernel
theorem nd_M_fault_39 : decode prog_7_method_17_code 39 = .ok (.iload_n 3, 1) := by decide +kernel
theorem nd_M_fault_40 : decode prog_7_method_17_code 40 = .ok (.bipush 45, 2) := by decide +kernel
theorem nd_M_fault_42 : decode prog_7_method_17_code 42 = .ok (.if_icmp .eq 9, 3) := by decide +kernel
theorem nd_M_fault_45 : decode prog_7_method_17_code 45 = .ok (.iload_n 3, 1) := by decide +kernel
theorem nd_M_fault_46 : decode prog_7_method_17_code 46 = .ok (.bipush 64, 2) := by decide +kernel
theorem nd_M_fault_48 : decode prog_7_method_17_code 48 = .ok (.if_icmp .ne 7, 3) := by decide +kernel
theorem nd_M_fault_51 : decode prog_7_method_17_code 51 = .ok (.iconst 1, 1) := by decide +kernel
theorem nd_M_fault_52 : decode prog_7_method_17_code 52 = .ok (.goto 4, 3) := by decide +kernel
theorem nd_M_fault_55 : decode prog_7_method_17_code 55 = .ok (.iconst 0, 1) := by decide +kernel
theorem nd_M_fault_56 : decode prog_7_method_17_code 56 = .ok (.istore 4, 2) := by decide +kernel
theorem nd_M_fault_58 : decode prog_7_method_17_code 58 = .ok (.iload_n 1, 1) := by decide +kernel
theorem nd_M_fault_59 : decode prog_7_method_17_code 59 = .ok (.ifCond .eq 15, 3) := by decide +kernel
theorem nd_M_fault_62 : decode prog_7_method_17_code 62 = .ok (.aload_n 0, 1) := by decide +kernel
theorem nd_M_fault_63 : decode prog_7_method_17_code 63 = .ok (.iload_n 3, 1) := by decide +kernel
theorem nd_M_fault_64 : decode prog_7_method_17_code 64 = .ok (.iload_n 2, 1) := by decide +kernel
theorem nd_M_fault_65 : decode prog_7_method_17_code 65 = .ok (.invokevirtual 175, 3) := by decide +kernel
theorem nd_M_fault_68 : decode prog_7_method_17_code 68 = .ok (.ifCond .ne 16, 3) := by decide +kernel
theorem nd_M_fault_71 : decode prog_7_method_17_code 71 = .ok (.goto 11, 3) := by decide +kernel
theorem nd_M_fault_74 : decode prog_7_method_17_code 74 = .ok (.aload_n 0, 1) := by decide +kernel
theorem nd_M_fault_75 : decode prog_7_method_17_code 75 = .ok (.iload_n 3, 1) := by decide +kernel
theorem nd_M_fault_76 : decode prog_7_method_17_code 76 = .ok (.invokevirtual 179, 3) := by decide +kernel
theorem nd_M_fault_79 : decode prog_7_method_17_code 79 = .ok (.ifCond .ne 5, 3) := by decide +kernel
theorem nd_M_fault_82 : decode prog_7_method_17_code 82 = .ok (.iload_n 2, 1) := by decide +kernel
theorem nd_M_fault_83 : decode prog_7_method_17_code 83 = .ok (.ireturn, 1) := by decide +kernel
theorem nd_M_fault_84 : decode prog_7_method_17_code 84 = .ok (.iinc 2 1, 3) := by decide +kernel
theorem nd_M_fault_87 : decode prog_7_method_17_code 87 = .ok (.iconst 1, 1) := by decide +kernel
theorem nd_M_fault_88 : decode prog_7_method_17_code 88 = .ok (.istore 5, 2) := by decide +kernel
theorem nd_M_fault_90 : decode prog_7_method_17_code 90 = .ok (.iload_n 1, 1) := by decide +kernel
theorem nd_M_fault_91 : decode prog_7_method_17_code 91 = .ok (.ifCond .eq 45, 3) := by decide +kernel
theorem nd_M_fault_94 : decode prog_7_method_17_code 94 = .ok (.iload_n 3, 1) := by decide +kernel
theorem nd_M_fault_95 : decode prog_7_method_17_code 95 = .ok (.invokestatic 131, 3) := by decide +kernel
theorem nd_M_fault_98 : decode prog_7_method_17_code 98 = .ok (.ifCond .eq 38, 3) := by decide +kernel
theorem nd_M_fault_101 : decode prog_7_method_17_code 101 = .ok (.iload_n 2, 1) := by decide +kernel
theorem nd_M_fault_102 : decode prog_7_method_17_code 102 = .ok (.aload_n 0, 1) := by decide +kernel
theorem nd_M_fault_103 : decode prog_7_method_17_code 103 = .ok (.getfield 134, 3) := by decide +kernel
theorem nd_M_fault_106 : decode prog_7_method_17_code 106 = .ok (.if_icmp .ge 30, 3) := by decide +kernel
theorem nd_M_fault_109 : decode prog_7_method_17_code 109 = .ok (.aload_n 0, 1) := by decide +kernel
theorem nd_M_fault_110 : decode prog_7_method_17_code 110 = .ok (.getfield 7, 3) := by decide +kernel
theorem nd_M_fault_113 : decode prog_7_method_17_code 113 = .ok (.iload_n 2, 1) := by decide +kernel
theorem nd_M_fault_114 : decode prog_7_method_17_code 114 = .ok (.iaload, 1) := by decide +kernel
theorem nd_M_fault_115 : decode prog_7_method_17_code 115 = .ok (.invokestatic 131, 3) := by decide +kernel
theorem nd_M_fault_118 : decode prog_7_method_17_code 118 = .ok (.ifCond .eq 18, 3) := by decide +kernel
theorem nd_M_fault_121 : decode prog_7_method_17_code 121 = .ok (.iload 5, 2) := by decide +kernel
theorem nd_M_fault_123 : decode prog_7_method_17_code 123 = .ok (.iconst 4, 1) := by decide +kernel
theorem nd_M_fault_124 : decode prog_7_method_17_code 124 = .ok (.if_icmp .ge 12, 3) := by decide +kernel
theorem nd_M_fault_127 : decode prog_7_method_17_code 127 = .ok (.iinc 2 1, 3) := by decide +kernel
theorem nd_M_fault_130 : decode prog_7_method_17_code 130 = .ok (.iinc 5 1, 3) := by decide +kernel
theorem nd_M_fault_133 : decode prog_7_method_17_code 133 = .ok (.goto (-43), 3) := by decide +kernel
theorem nd_M_fault_136 : decode prog_7_method_17_code 136 = .ok (.iload_n 1, 1) := by decide +kernel
theorem nd_M_fault_137 : decode prog_7_method_17_code 137 = .ok (.ifCond .eq 8, 3) := by decide +kernel
theorem nd_M_fault_140 : decode prog_7_method_17_code 140 = .ok (.iload 4, 2) := by decide +kernel
theorem nd_M_fault_142 : decode prog_7_method_17_code 142 = .ok (.goto 14, 3) := by decide +kernel
theorem nd_M_fault_145 : decode prog_7_method_17_code 145 = .ok (.iload_n 3, 1) := by decide +kernel
theorem nd_M_fault_146 : decode prog_7_method_17_code 146 = .ok (.bipush 41, 2) := by decide +kernel
theorem nd_M_fault_148 : decode prog_7_method_17_code 148 = .ok (.if_icmp .eq 7, 3) := by decide +kernel
theorem nd_M_fault_151 : decode prog_7_method_17_code 151 = .ok (.iconst 1, 1) := by decide +kernel
theorem nd_M_fault_152 : decode prog_7_method_17_code 152 = .ok (.goto 4, 3) := by decide +kernel
theorem nd_M_fault_155 : decode prog_7_method_17_code 155 = .ok (.iconst 0, 1) := by decide +kernel
theorem nd_M_fault_156 : decode prog_7_method_17_code 156 = .ok (.istore_n 1, 1) := by decide +kernel
theorem nd_M_fault_157 : decode prog_7_method_17_code 157 = .ok (.goto (-143), 3) := by decide +kernel
theorem nd_M_fault_160 : decode prog_7_method_17_code 160 = .ok (.iload_n 1, 1) := by decide +kernel
theorem nd_M_fault_161 : decode prog_7_method_17_code 161 = .ok (.ifCond .ne 10, 3) := by decide +kernel
theorem nd_M_fault_164 : decode prog_7_method_17_code 164 = .ok (.aload_n 0, 1) := by decide +kernel
theorem nd_M_fault_165 : decode prog_7_method_17_code 165 = .ok (.invokevirtual 169, 3) := by decide +kernel
theorem nd_M_fault_168 : decode prog_7_method_17_code 168 = .ok (.ifCond .eq 8, 3) := by decide +kernel
theorem nd_M_fault_171 : decode prog_7_method_17_code 171 = .ok (.aload_n 0, 1) := by decide +kernel
theorem nd_M_fault_172 : decode prog_7_method_17_code 172 = .ok (.getfield 134, 3) := by decide +kernel
theorem nd_M_fault_175 : decode prog_7_method_17_code 175 = .ok (.ireturn, 1) := by decide +kernel
theorem nd_M_fault_176 : decode prog_7_method_17_code 176 = .ok (.aload_n 0, 1) := by decide +kernel
theorem nd_M_fault_177 : decode prog_7_method_17_code 177 = .ok (.invokevirtual 172, 3) := by decide +kernel
theorem nd_M_fault_180 : decode prog_7_method_17_code 180 = .ok (.iconst (-1), 1) := by decide +kernel
theorem nd_M_fault_181 : decode prog_7_method_17_code 181 = .ok (.ireturn, 1) := by decide +kernel
