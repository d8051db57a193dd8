theorem nd_M_define_0 : decode prog_7_method_18_code 0 = .ok (.aload_n 0, 1) := by decide +kernel
theorem nd_M_define_1 : decode prog_7_method_18_code 1 = .ok (.invokevirtual 182, 3) := by decide +kernel
theorem nd_M_define_4 : decode prog_7_method_18_code 4 = .ok (.istore_n 2, 1) := by decide +kernel
theorem nd_M_define_5 : decode prog_7_method_18_code 5 = .ok (.aload_n 0, 1) := by decide +kernel
theorem nd_M_define_6 : decode prog_7_method_18_code 6 = .ok (.getfield 134, 3) := by decide +kernel
theorem nd_M_define_9 : decode prog_7_method_18_code 9 = .ok (.istore_n 3, 1) := by decide +kernel
theorem nd_M_define_10 : decode prog_7_method_18_code 10 = .ok (.aload_n 0, 1) := by decide +kernel
theorem nd_M_define_11 : decode prog_7_method_18_code 11 = .ok (.iconst 0, 1) := by decide +kernel
theorem nd_M_define_12 : decode prog_7_method_18_code 12 = .ok (.putfield 134, 3) := by decide +kernel
theorem nd_M_define_15 : decode prog_7_method_18_code 15 = .ok (.iload_n 1, 1) := by decide +kernel
theorem nd_M_define_16 : decode prog_7_method_18_code 16 = .ok (.invokestatic 185, 3) := by decide +kernel
theorem nd_M_define_19 : decode prog_7_method_18_code 19 = .ok (.ifCond .ne 5, 3) := by decide +kernel
theorem nd_M_define_22 : decode prog_7_method_18_code 22 = .ok (.iconst (-1), 1) := by decide +kernel
theorem nd_M_define_23 : decode prog_7_method_18_code 23 = .ok (.ireturn, 1) := by decide +kernel
theorem nd_M_define_24 : decode prog_7_method_18_code 24 = .ok (.iload_n 2, 1) := by decide +kernel
theorem nd_M_define_25 : decode prog_7_method_18_code 25 = .ok (.ifCond .lt 7, 3) := by decide +kernel
theorem nd_M_define_28 : decode prog_7_method_18_code 28 = .ok (.iconst 1, 1) := by decide +kernel
theorem nd_M_define_29 : decode prog_7_method_18_code 29 = .ok (.iload_n 2, 1) := by decide +kernel
theorem nd_M_define_30 : decode prog_7_method_18_code 30 = .ok (.iadd, 1) := by decide +kernel
theorem nd_M_define_31 : decode prog_7_method_18_code 31 = .ok (.ireturn, 1) := by decide +kernel
theorem nd_M_define_32 : decode prog_7_method_18_code 32 = .ok (.aload_n 0, 1) := by decide +kernel
theorem nd_M_define_33 : decode prog_7_method_18_code 33 = .ok (.getfield 20, 3) := by decide +kernel
theorem nd_M_define_36 : decode prog_7_method_18_code 36 = .ok (.iload_n 1, 1) := by decide +kernel
theorem nd_M_define_37 : decode prog_7_method_18_code 37 = .ok (.baload, 1) := by decide +kernel
theorem nd_M_define_38 : decode prog_7_method_18_code 38 = .ok (.ifCond .eq 17, 3) := by decide +kernel
theorem nd_M_define_41 : decode prog_7_method_18_code 41 = .ok (.aload_n 0, 1) := by decide +kernel
theorem nd_M_define_42 : decode prog_7_method_18_code 42 = .ok (.getfield 27, 3) := by decide +kernel
theorem nd_M_define_45 : decode prog_7_method_18_code 45 = .ok (.iload_n 1, 1) := by decide +kernel
theorem nd_M_define_46 : decode prog_7_method_18_code 46 = .ok (.iaload, 1) := by decide +kernel
theorem nd_M_define_47 : decode prog_7_method_18_code 47 = .ok (.iload_n 3, 1) := by decide +kernel
theorem nd_M_define_48 : decode prog_7_method_18_code 48 = .ok (.if_icmp .ne 7, 3) := by decide +kernel
theorem nd_M_define_51 : decode prog_7_method_18_code 51 = .ok (.iconst 1, 1) := by decide +kernel
theorem nd_M_define_52 : decode prog_7_method_18_code 52 = .ok (.goto 4, 3) := by decide +kernel
theorem nd_M_define_55 : decode prog_7_method_18_code 55 = .ok (.iconst 0, 1) := by decide +kernel
theorem nd_M_define_56 : decode prog_7_method_18_code 56 = .ok (.istore 4, 2) := by decide +kernel
theorem nd_M_define_58 : decode prog_7_method_18_code 58 = .ok (.iconst 0, 1) := by decide +kernel
theorem nd_M_define_59 : decode prog_7_method_18_code 59 = .ok (.istore 5, 2) := by decide +kernel
theorem nd_M_define_61 : decode prog_7_method_18_code 61 = .ok (.iload 5, 2) := by decide +kernel
theorem nd_M_define_63 : decode prog_7_method_18_code 63 = .ok (.iload_n 3, 1) := by decide +kernel
theorem nd_M_define_64 : decode prog_7_method_18_code 64 = .ok (.if_icmp .ge 43, 3) := by decide +kernel
theorem nd_M_define_67 : decode prog_7_method_18_code 67 = .ok (.iload 4, 2) := by decide +kernel
theorem nd_M_define_69 : decode prog_7_method_18_code 69 = .ok (.ifCond .eq 29, 3) := by decide +kernel
theorem nd_M_define_72 : decode prog_7_method_18_code 72 = .ok (.aload_n 0, 1) := by decide +kernel
theorem nd_M_define_73 : decode prog_7_method_18_code 73 = .ok (.getfield 24, 3) := by decide +kernel
theorem nd_M_define_76 : decode prog_7_method_18_code 76 = .ok (.bipush 30, 2) := by decide +kernel
theorem nd_M_define_78 : decode prog_7_method_18_code 78 = .ok (.iload_n 1, 1) := by decide +kernel
theorem nd_M_define_79 : decode prog_7_method_18_code 79 = .ok (.imul, 1) := by decide +kernel
theorem nd_M_define_80 : decode prog_7_method_18_code 80 = .ok (.iload 5, 2) := by decide +kernel
theorem nd_M_define_82 : decode prog_7_method_18_code 82 = .ok (.iadd, 1) := by decide +kernel
theorem nd_M_define_83 : decode prog_7_method_18_code 83 = .ok (.iaload, 1) := by decide +kernel
theorem nd_M_define_84 : decode prog_7_method_18_code 84 = .ok (.aload_n 0, 1) := by decide +kernel
theorem nd_M_define_85 : decode prog_7_method_18_code 85 = .ok (.getfield 7, 3) := by decide +kernel
theorem nd_M_define_88 : decode prog_7_method_18_code 88 = .ok (.iload 5, 2) := by decide +kernel
theorem nd_M_define_90 : decode prog_7_method_18_code 90 = .ok (.iaload, 1) := by decide +kernel
theorem nd_M_define_91 : decode prog_7_method_18_code 91 = .ok (.if_icmp .ne 7, 3) := by decide +kernel
theorem nd_M_define_94 : decode prog_7_method_18_code 94 = .ok (.iconst 1, 1) := by decide +kernel
theorem nd_M_define_95 : decode prog_7_method_18_code 95 = .ok (.goto 4, 3) := by decide +kernel
theorem nd_M_define_98 : decode prog_7_method_18_code 98 = .ok (.iconst 0, 1) := by decide +kernel
theorem nd_M_define_99 : decode prog_7_method_18_code 99 = .ok (.istore 4, 2) := by decide +kernel
theorem nd_M_define_101 : decode prog_7_method_18_code 101 = .ok (.iinc 5 1, 3) := by decide +kernel
theorem nd_M_define_104 : decode prog_7_method_18_code 104 = .ok (.goto (-43), 3) := by decide +kernel
theorem nd_M_define_107 : decode prog_7_method_18_code 107 = .ok (.iload 4, 2) := by decide +kernel
theorem nd_M_define_109 : decode prog_7_method_18_code 109 = .ok (.ifCond .eq 5, 3) := by decide +kernel
theorem nd_M_define_112 : decode prog_7_method_18_code 112 = .ok (.iconst 0, 1) := by decide +kernel
theorem nd_M_define_113 : decode prog_7_method_18_code 113 = .ok (.ireturn, 1) := by decide +kernel
theorem nd_M_define_114 : decode prog_7_method_18_code 114 = .ok (.aload_n 0, 1) := by decide +kernel
theorem nd_M_define_115 : decode prog_7_method_18_code 115 = .ok (.aload_n 0, 1) := by decide +kernel
theorem nd_M_define_116 : decode prog_7_method_18_code 116 = .ok (.getfield 20, 3) := by decide +kernel
theorem nd_M_define_119 : decode prog_7_method_18_code 119 = .ok (.iload_n 1, 1) := by decide +kernel
theorem nd_M_define_120 : decode prog_7_method_18_code 120 = .ok (.baload, 1) := by decide +kernel
theorem nd_M_define_121 : decode prog_7_method_18_code 121 = .ok (.ifCond .eq 7, 3) := by decide +kernel
theorem nd_M_define_124 : decode prog_7_method_18_code 124 = .ok (.iconst 2, 1) := by decide +kernel
theorem nd_M_define_125 : decode prog_7_method_18_code 125 = .ok (.goto 9, 3) := by decide +kernel
theorem nd_M_define_128 : decode prog_7_method_18_code 128 = .ok (.aload_n 0, 1) := by decide +kernel
theorem nd_M_define_129 : decode prog_7_method_18_code 129 = .ok (.getfield 45, 3) := by decide +kernel
theorem nd_M_define_132 : decode prog_7_method_18_code 132 = .ok (.iload_n 1, 1) := by decide +kernel
theorem nd_M_define_133 : decode prog_7_method_18_code 133 = .ok (.iaload, 1) := by decide +kernel
theorem nd_M_define_134 : decode prog_7_method_18_code 134 = .ok (.invokevirtual 188, 3) := by decide +kernel
theorem nd_M_define_137 : decode prog_7_method_18_code 137 = .ok (.aload_n 0, 1) := by decide +kernel
theorem nd_M_define_138 : decode prog_7_method_18_code 138 = .ok (.getfield 51, 3) := by decide +kernel
theorem nd_M_define_141 : decode prog_7_method_18_code 141 = .ok (.iload_n 1, 1) := by decide +kernel
theorem nd_M_define_142 : decode prog_7_method_18_code 142 = .ok (.aload_n 0, 1) := by decide +kernel
theorem nd_M_define_143 : decode prog_7_method_18_code 143 = .ok (.getfield 51, 3) := by decide +kernel
theorem nd_M_define_146 : decode prog_7_method_18_code 146 = .ok (.iload_n 1, 1) := by decide +kernel
theorem nd_M_define_147 : decode prog_7_method_18_code 147 = .ok (.baload, 1) := by decide +kernel
theorem nd_M_define_148 : decode prog_7_method_18_code 148 = .ok (.ifCond .eq 16, 3) := by decide +kernel
theorem nd_M_define_151 : decode prog_7_method_18_code 151 = .ok (.aload_n 0, 1) := by decide +kernel
theorem nd_M_define_152 : decode prog_7_method_18_code 152 = .ok (.getfield 20, 3) := by decide +kernel
theorem nd_M_define_155 : decode prog_7_method_18_code 155 = .ok (.iload_n 1, 1) := by decide +kernel
theorem nd_M_define_156 : decode prog_7_method_18_code 156 = .ok (.baload, 1) := by decide +kernel
theorem nd_M_define_157 : decode prog_7_method_18_code 157 = .ok (.ifCond .eq 7, 3) := by decide +kernel
theorem nd_M_define_160 : decode prog_7_method_18_code 160 = .ok (.iconst 1, 1) := by decide +kernel
theorem nd_M_define_161 : decode prog_7_method_18_code 161 = .ok (.goto 4, 3) := by decide +kernel
theorem nd_M_define_164 : decode prog_7_method_18_code 164 = .ok (.iconst 0, 1) := by decide +kernel
theorem nd_M_define_165 : decode prog_7_method_18_code 165 = .ok (.bastore, 1) := by decide +kernel
theorem nd_M_define_166 : decode prog_7_method_18_code 166 = .ok (.aload_n 0, 1) := by decide +kernel
theorem nd_M_define_167 : decode prog_7_method_18_code 167 = .ok (.getfield 54, 3) := by decide +kernel
theorem nd_M_define_170 : decode prog_7_method_18_code 170 = .ok (.iload_n 1, 1) := by decide +kernel
theorem nd_M_define_171 : decode prog_7_method_18_code 171 = .ok (.aload_n 0, 1) := by decide +kernel
theorem nd_M_define_172 : decode prog_7_method_18_code 172 = .ok (.getfield 54, 3) := by decide +kernel
theorem nd_M_define_175 : decode prog_7_method_18_code 175 = .ok (.iload_n 1, 1) := by decide +kernel
theorem nd_M_define_176 : decode prog_7_method_18_code 176 = .ok (.baload, 1) := by decide +kernel
theorem nd_M_define_177 : decode prog_7_method_18_code 177 = .ok (.ifCond .eq 16, 3) := by decide +kernel
theorem nd_M_define_180 : decode prog_7_method_18_code 180 = .ok (.aload_n 0, 1) := by decide +kernel
theorem nd_M_define_181 : decode prog_7_method_18_code 181 = .ok (.getfield 20, 3) := by decide +kernel
theorem nd_M_define_184 : decode prog_7_method_18_code 184 = .ok (.iload_n 1, 1) := by decide +kernel
theorem nd_M_define_185 : decode prog_7_method_18_code 185 = .ok (.baload, 1) := by decide +kernel
theorem nd_M_define_186 : decode prog_7_method_18_code 186 = .ok (.ifCond .eq 7, 3) := by decide +kernel
theorem nd_M_define_189 : decode prog_7_method_18_code 189 = .ok (.iconst 1, 1) := by decide +kernel
theorem nd_M_define_190 : decode prog_7_method_18_code 190 = .ok (.goto 4, 3) := by decide +kernel
theorem nd_M_define_193 : decode prog_7_method_18_code 193 = .ok (.iconst 0, 1) := by decide +kernel
theorem nd_M_define_194 : decode prog_7_method_18_code 194 = .ok (.bastore, 1) := by decide +kernel
theorem nd_M_define_195 : decode prog_7_method_18_code 195 = .ok (.aload_n 0, 1) := by decide +kernel
theorem nd_M_define_196 : decode prog_7_method_18_code 196 = .ok (.getfield 20, 3) := by decide +kernel
theorem nd_M_define_199 : decode prog_7_method_18_code 199 = .ok (.iload_n 1, 1) := by decide +kernel
theorem nd_M_define_200 : decode prog_7_method_18_code 200 = .ok (.iconst 1, 1) := by decide +kernel
theorem nd_M_define_201 : decode prog_7_method_18_code 201 = .ok (.bastore, 1) := by decide +kernel
theorem nd_M_define_202 : decode prog_7_method_18_code 202 = .ok (.aload_n 0, 1) := by decide +kernel
theorem nd_M_define_203 : decode prog_7_method_18_code 203 = .ok (.getfield 27, 3) := by decide +kernel
theorem nd_M_define_206 : decode prog_7_method_18_code 206 = .ok (.iload_n 1, 1) := by decide +kernel
theorem nd_M_define_207 : decode prog_7_method_18_code 207 = .ok (.iload_n 3, 1) := by decide +kernel
theorem nd_M_define_208 : decode prog_7_method_18_code 208 = .ok (.iastore, 1) := by decide +kernel
theorem nd_M_define_209 : decode prog_7_method_18_code 209 = .ok (.aload_n 0, 1) := by decide +kernel
theorem nd_M_define_210 : decode prog_7_method_18_code 210 = .ok (.getfield 30, 3) := by decide +kernel
theorem nd_M_define_213 : decode prog_7_method_18_code 213 = .ok (.iload_n 1, 1) := by decide +kernel
theorem nd_M_define_214 : decode prog_7_method_18_code 214 = .ok (.aload_n 0, 1) := by decide +kernel
theorem nd_M_define_215 : decode prog_7_method_18_code 215 = .ok (.getfield 137, 3) := by decide +kernel
theorem nd_M_define_218 : decode prog_7_method_18_code 218 = .ok (.iastore, 1) := by decide +kernel
theorem nd_M_define_219 : decode prog_7_method_18_code 219 = .ok (.aload_n 0, 1) := by decide +kernel
theorem nd_M_define_220 : decode prog_7_method_18_code 220 = .ok (.getfield 39, 3) := by decide +kernel
theorem nd_M_define_223 : decode prog_7_method_18_code 223 = .ok (.iload_n 1, 1) := by decide +kernel
theorem nd_M_define_224 : decode prog_7_method_18_code 224 = .ok (.aload_n 0, 1) := by decide +kernel
theorem nd_M_define_225 : decode prog_7_method_18_code 225 = .ok (.getfield 13, 3) := by decide +kernel
theorem nd_M_define_228 : decode prog_7_method_18_code 228 = .ok (.iastore, 1) := by decide +kernel
theorem nd_M_define_229 : decode prog_7_method_18_code 229 = .ok (.iconst 0, 1) := by decide +kernel
theorem nd_M_define_230 : decode prog_7_method_18_code 230 = .ok (.istore 5, 2) := by decide +kernel
theorem nd_M_define_232 : decode prog_7_method_18_code 232 = .ok (.iload 5, 2) := by decide +kernel
theorem nd_M_define_234 : decode prog_7_method_18_code 234 = .ok (.iload_n 3, 1) := by decide +kernel
theorem nd_M_define_235 : decode prog_7_method_18_code 235 = .ok (.if_icmp .ge 28, 3) := by decide +kernel
theorem nd_M_define_238 : decode prog_7_method_18_code 238 = .ok (.aload_n 0, 1) := by decide +kernel
theorem nd_M_define_239 : decode prog_7_method_18_code 239 = .ok (.getfield 24, 3) := by decide +kernel
theorem nd_M_define_242 : decode prog_7_method_18_code 242 = .ok (.bipush 30, 2) := by decide +kernel
theorem nd_M_define_244 : decode prog_7_method_18_code 244 = .ok (.iload_n 1, 1) := by decide +kernel
theorem nd_M_define_245 : decode prog_7_method_18_code 245 = .ok (.imul, 1) := by decide +kernel
theorem nd_M_define_246 : decode prog_7_method_18_code 246 = .ok (.iload 5, 2) := by decide +kernel
theorem nd_M_define_248 : decode prog_7_method_18_code 248 = .ok (.iadd, 1) := by decide +kernel
theorem nd_M_define_249 : decode prog_7_method_18_code 249 = .ok (.aload_n 0, 1) := by decide +kernel
theorem nd_M_define_250 : decode prog_7_method_18_code 250 = .ok (.getfield 7, 3) := by decide +kernel
theorem nd_M_define_253 : decode prog_7_method_18_code 253 = .ok (.iload 5, 2) := by decide +kernel
theorem nd_M_define_255 : decode prog_7_method_18_code 255 = .ok (.iaload, 1) := by decide +kernel
theorem nd_M_define_256 : decode prog_7_method_18_code 256 = .ok (.iastore, 1) := by decide +kernel
theorem nd_M_define_257 : decode prog_7_method_18_code 257 = .ok (.iinc 5 1, 3) := by decide +kernel
theorem nd_M_define_260 : decode prog_7_method_18_code 260 = .ok (.goto (-28), 3) := by decide +kernel
theorem nd_M_define_263 : decode prog_7_method_18_code 263 = .ok (.iconst 0, 1) := by decide +kernel
theorem nd_M_define_264 : decode prog_7_method_18_code 264 = .ok (.istore 5, 2) := by decide +kernel
theorem nd_M_define_266 : decode prog_7_method_18_code 266 = .ok (.iload 5, 2) := by decide +kernel
theorem nd_M_define_268 : decode prog_7_method_18_code 268 = .ok (.aload_n 0, 1) := by decide +kernel
theorem nd_M_define_269 : decode prog_7_method_18_code 269 = .ok (.getfield 137, 3) := by decide +kernel
theorem nd_M_define_272 : decode prog_7_method_18_code 272 = .ok (.if_icmp .ge 47, 3) := by decide +kernel
theorem nd_M_define_275 : decode prog_7_method_18_code 275 = .ok (.aload_n 0, 1) := by decide +kernel
theorem nd_M_define_276 : decode prog_7_method_18_code 276 = .ok (.getfield 33, 3) := by decide +kernel
theorem nd_M_define_279 : decode prog_7_method_18_code 279 = .ok (.bipush 40, 2) := by decide +kernel
theorem nd_M_define_281 : decode prog_7_method_18_code 281 = .ok (.iload_n 1, 1) := by decide +kernel
theorem nd_M_define_282 : decode prog_7_method_18_code 282 = .ok (.imul, 1) := by decide +kernel
theorem nd_M_define_283 : decode prog_7_method_18_code 283 = .ok (.iload 5, 2) := by decide +kernel
theorem nd_M_define_285 : decode prog_7_method_18_code 285 = .ok (.iadd, 1) := by decide +kernel
theorem nd_M_define_286 : decode prog_7_method_18_code 286 = .ok (.aload_n 0, 1) := by decide +kernel
theorem nd_M_define_287 : decode prog_7_method_18_code 287 = .ok (.getfield 118, 3) := by decide +kernel
theorem nd_M_define_290 : decode prog_7_method_18_code 290 = .ok (.iload 5, 2) := by decide +kernel
theorem nd_M_define_292 : decode prog_7_method_18_code 292 = .ok (.iaload, 1) := by decide +kernel
theorem nd_M_define_293 : decode prog_7_method_18_code 293 = .ok (.iastore, 1) := by decide +kernel
theorem nd_M_define_294 : decode prog_7_method_18_code 294 = .ok (.aload_n 0, 1) := by decide +kernel
theorem nd_M_define_295 : decode prog_7_method_18_code 295 = .ok (.getfield 36, 3) := by decide +kernel
theorem nd_M_define_298 : decode prog_7_method_18_code 298 = .ok (.bipush 40, 2) := by decide +kernel
theorem nd_M_define_300 : decode prog_7_method_18_code 300 = .ok (.iload_n 1, 1) := by decide +kernel
theorem nd_M_define_301 : decode prog_7_method_18_code 301 = .ok (.imul, 1) := by decide +kernel
theorem nd_M_define_302 : decode prog_7_method_18_code 302 = .ok (.iload 5, 2) := by decide +kernel
theorem nd_M_define_304 : decode prog_7_method_18_code 304 = .ok (.iadd, 1) := by decide +kernel
theorem nd_M_define_305 : decode prog_7_method_18_code 305 = .ok (.aload_n 0, 1) := by decide +kernel
theorem nd_M_define_306 : decode prog_7_method_18_code 306 = .ok (.getfield 121, 3) := by decide +kernel
theorem nd_M_define_309 : decode prog_7_method_18_code 309 = .ok (.iload 5, 2) := by decide +kernel
theorem nd_M_define_311 : decode prog_7_method_18_code 311 = .ok (.iaload, 1) := by decide +kernel
theorem nd_M_define_312 : decode prog_7_method_18_code 312 = .ok (.iastore, 1) := by decide +kernel
theorem nd_M_define_313 : decode prog_7_method_18_code 313 = .ok (.iinc 5 1, 3) := by decide +kernel
theorem nd_M_define_316 : decode prog_7_method_18_code 316 = .ok (.goto (-50), 3) := by decide +kernel
theorem nd_M_define_319 : decode prog_7_method_18_code 319 = .ok (.iconst 0, 1) := by decide +kernel
theorem nd_M_define_320 : decode prog_7_method_18_code 320 = .ok (.ireturn, 1) := by decide +kernel
theorem nd_M_change_0 : decode prog_7_method_19_code 0 = .ok (.aload_n 0, 1) := by decide +kernel
theorem nd_M_change_1 : decode prog_7_method_19_code 1 = .ok (.dup, 1) := by decide +kernel
theorem nd_M_change_2 : decode prog_7_method_19_code 2 = .ok (.getfield 13, 3) := by decide +kernel
theorem nd_M_change_5 : decode prog_7_method_19_code 5 = .ok (.iconst 1, 1) := by decide +kernel
theorem nd_M_change_6 : decode prog_7_method_19_code 6 = .ok (.iadd, 1) := by decide +kernel
theorem nd_M_change_7 : decode prog_7_method_19_code 7 = .ok (.putfield 13, 3) := by decide +kernel
theorem nd_M_change_10 : decode prog_7_method_19_code 10 = .ok (.iconst 0, 1) := by decide +kernel
theorem nd_M_change_11 : decode prog_7_method_19_code 11 = .ok (.istore_n 2, 1) := by decide +kernel
theorem nd_M_change_12 : decode prog_7_method_19_code 12 = .ok (.iload_n 2, 1) := by decide +kernel
theorem nd_M_change_13 : decode prog_7_method_19_code 13 = .ok (.iload_n 1, 1) := by decide +kernel
theorem nd_M_change_14 : decode prog_7_method_19_code 14 = .ok (.if_icmp .gt 19, 3) := by decide +kernel
theorem nd_M_change_17 : decode prog_7_method_19_code 17 = .ok (.aload_n 0, 1) := by decide +kernel
theorem nd_M_change_18 : decode prog_7_method_19_code 18 = .ok (.getfield 17, 3) := by decide +kernel
theorem nd_M_change_21 : decode prog_7_method_19_code 21 = .ok (.iload_n 2, 1) := by decide +kernel
theorem nd_M_change_22 : decode prog_7_method_19_code 22 = .ok (.aload_n 0, 1) := by decide +kernel
theorem nd_M_change_23 : decode prog_7_method_19_code 23 = .ok (.getfield 13, 3) := by decide +kernel
theorem nd_M_change_26 : decode prog_7_method_19_code 26 = .ok (.iastore, 1) := by decide +kernel
theorem nd_M_change_27 : decode prog_7_method_19_code 27 = .ok (.iinc 2 1, 3) := by decide +kernel
theorem nd_M_change_30 : decode prog_7_method_19_code 30 = .ok (.goto (-18), 3) := by decide +kernel
theorem nd_M_change_33 : decode prog_7_method_19_code 33 = .ok (.return_, 1) := by decide +kernel
theorem nd_M_set_0 : decode prog_7_method_20_code 0 = .ok (.iload_n 1, 1) := by decide +kernel
theorem nd_M_set_1 : decode prog_7_method_20_code 1 = .ok (.invokestatic 185, 3) := by decide +kernel
theorem nd_M_set_4 : decode prog_7_method_20_code 4 = .ok (.ifCond .eq 12, 3) := by decide +kernel
theorem nd_M_set_7 : decode prog_7_method_20_code 7 = .ok (.iload_n 3, 1) := by decide +kernel
theorem nd_M_set_8 : decode prog_7_method_20_code 8 = .ok (.ifCond .lt 8, 3) := by decide +kernel
theorem nd_M_set_11 : decode prog_7_method_20_code 11 = .ok (.iload_n 3, 1) := by decide +kernel
theorem nd_M_set_12 : decode prog_7_method_20_code 12 = .ok (.iconst 2, 1) := by decide +kernel
theorem nd_M_set_13 : decode prog_7_method_20_code 13 = .ok (.if_icmp .le 5, 3) := by decide +kernel
theorem nd_M_set_16 : decode prog_7_method_20_code 16 = .ok (.iconst 0, 1) := by decide +kernel
theorem nd_M_set_17 : decode prog_7_method_20_code 17 = .ok (.ireturn, 1) := by decide +kernel
theorem nd_M_set_18 : decode prog_7_method_20_code 18 = .ok (.aload_n 0, 1) := by decide +kernel
theorem nd_M_set_19 : decode prog_7_method_20_code 19 = .ok (.getfield 20, 3) := by decide +kernel
theorem nd_M_set_22 : decode prog_7_method_20_code 22 = .ok (.iload_n 1, 1) := by decide +kernel
theorem nd_M_set_23 : decode prog_7_method_20_code 23 = .ok (.baload, 1) := by decide +kernel
theorem nd_M_set_24 : decode prog_7_method_20_code 24 = .ok (.istore 4, 2) := by decide +kernel
theorem nd_M_set_26 : decode prog_7_method_20_code 26 = .ok (.iload 4, 2) := by decide +kernel
theorem nd_M_set_28 : decode prog_7_method_20_code 28 = .ok (.ifCond .ne 25, 3) := by decide +kernel
theorem nd_M_set_31 : decode prog_7_method_20_code 31 = .ok (.aload_n 0, 1) := by decide +kernel
theorem nd_M_set_32 : decode prog_7_method_20_code 32 = .ok (.getfield 42, 3) := by decide +kernel
theorem nd_M_set_35 : decode prog_7_method_20_code 35 = .ok (.iload_n 1, 1) := by decide +kernel
theorem nd_M_set_36 : decode prog_7_method_20_code 36 = .ok (.iaload, 1) := by decide +kernel
theorem nd_M_set_37 : decode prog_7_method_20_code 37 = .ok (.iload_n 2, 1) := by decide +kernel
theorem nd_M_set_38 : decode prog_7_method_20_code 38 = .ok (.if_icmp .ne 15, 3) := by decide +kernel
theorem nd_M_set_41 : decode prog_7_method_20_code 41 = .ok (.aload_n 0, 1) := by decide +kernel
theorem nd_M_set_42 : decode prog_7_method_20_code 42 = .ok (.getfield 45, 3) := by decide +kernel
theorem nd_M_set_45 : decode prog_7_method_20_code 45 = .ok (.iload_n 1, 1) := by decide +kernel
theorem nd_M_set_46 : decode prog_7_method_20_code 46 = .ok (.iaload, 1) := by decide +kernel
theorem nd_M_set_47 : decode prog_7_method_20_code 47 = .ok (.iload_n 3, 1) := by decide +kernel
theorem nd_M_set_48 : decode prog_7_method_20_code 48 = .ok (.if_icmp .ne 5, 3) := by decide +kernel
theorem nd_M_set_51 : decode prog_7_method_20_code 51 = .ok (.iconst 1, 1) := by decide +kernel
theorem nd_M_set_52 : decode prog_7_method_20_code 52 = .ok (.ireturn, 1) := by decide +kernel
theorem nd_M_set_53 : decode prog_7_method_20_code 53 = .ok (.aload_n 0, 1) := by decide +kernel
theorem nd_M_set_54 : decode prog_7_method_20_code 54 = .ok (.iload 4, 2) := by decide +kernel
theorem nd_M_set_56 : decode prog_7_method_20_code 56 = .ok (.ifCond .eq 7, 3) := by decide +kernel
theorem nd_M_set_59 : decode prog_7_method_20_code 59 = .ok (.iconst 2, 1) := by decide +kernel
theorem nd_M_set_60 : decode prog_7_method_20_code 60 = .ok (.goto 9, 3) := by decide +kernel
theorem nd_M_set_63 : decode prog_7_method_20_code 63 = .ok (.aload_n 0, 1) := by decide +kernel
theorem nd_M_set_64 : decode prog_7_method_20_code 64 = .ok (.getfield 45, 3) := by decide +kernel
theorem nd_M_set_67 : decode prog_7_method_20_code 67 = .ok (.iload_n 1, 1) := by decide +kernel
theorem nd_M_set_68 : decode prog_7_method_20_code 68 = .ok (.iaload, 1) := by decide +kernel
theorem nd_M_set_69 : decode prog_7_method_20_code 69 = .ok (.invokevirtual 188, 3) := by decide +kernel
theorem nd_M_set_72 : decode prog_7_method_20_code 72 = .ok (.aload_n 0, 1) := by decide +kernel
theorem nd_M_set_73 : decode prog_7_method_20_code 73 = .ok (.getfield 48, 3) := by decide +kernel
theorem nd_M_set_76 : decode prog_7_method_20_code 76 = .ok (.iload_n 1, 1) := by decide +kernel
theorem nd_M_set_77 : decode prog_7_method_20_code 77 = .ok (.iload 4, 2) := by decide +kernel
theorem nd_M_set_79 : decode prog_7_method_20_code 79 = .ok (.ifCond .ne 13, 3) := by decide +kernel
theorem nd_M_set_82 : decode prog_7_method_20_code 82 = .ok (.aload_n 0, 1) := by decide +kernel
theorem nd_M_set_83 : decode prog_7_method_20_code 83 = .ok (.getfield 42, 3) := by decide +kernel
theorem nd_M_set_86 : decode prog_7_method_20_code 86 = .ok (.iload_n 1, 1) := by decide +kernel
theorem nd_M_set_87 : decode prog_7_method_20_code 87 = .ok (.iaload, 1) := by decide +kernel
theorem nd_M_set_88 : decode prog_7_method_20_code 88 = .ok (.iload_n 2, 1) := by decide +kernel
theorem nd_M_set_89 : decode prog_7_method_20_code 89 = .ok (.if_icmp .eq 10, 3) := by decide +kernel
theorem nd_M_set_92 : decode prog_7_method_20_code 92 = .ok (.aload_n 0, 1) := by decide +kernel
theorem nd_M_set_93 : decode prog_7_method_20_code 93 = .ok (.getfield 13, 3) := by decide +kernel
theorem nd_M_set_96 : decode prog_7_method_20_code 96 = .ok (.goto 9, 3) := by decide +kernel
theorem nd_M_set_99 : decode prog_7_method_20_code 99 = .ok (.aload_n 0, 1) := by decide +kernel
theorem nd_M_set_100 : decode prog_7_method_20_code 100 = .ok (.getfield 48, 3) := by decide +kernel
theorem nd_M_set_103 : decode prog_7_method_20_code 103 = .ok (.iload_n 1, 1) := by decide +kernel
theorem nd_M_set_104 : decode prog_7_method_20_code 104 = .ok (.iaload, 1) := by decide +kernel
theorem nd_M_set_105 : decode prog_7_method_20_code 105 = .ok (.iastore, 1) := by decide +kernel
theorem nd_M_set_106 : decode prog_7_method_20_code 106 = .ok (.aload_n 0, 1) := by decide +kernel
theorem nd_M_set_107 : decode prog_7_method_20_code 107 = .ok (.getfield 20, 3) := by decide +kernel
theorem nd_M_set_110 : decode prog_7_method_20_code 110 = .ok (.iload_n 1, 1) := by decide +kernel
theorem nd_M_set_111 : decode prog_7_method_20_code 111 = .ok (.iconst 0, 1) := by decide +kernel
theorem nd_M_set_112 : decode prog_7_method_20_code 112 = .ok (.bastore, 1) := by decide +kernel
theorem nd_M_set_113 : decode prog_7_method_20_code 113 = .ok (.aload_n 0, 1) := by decide +kernel
theorem nd_M_set_114 : decode prog_7_method_20_code 114 = .ok (.getfield 51, 3) := by decide +kernel
theorem nd_M_set_117 : decode prog_7_method_20_code 117 = .ok (.iload_n 1, 1) := by decide +kernel
theorem nd_M_set_118 : decode prog_7_method_20_code 118 = .ok (.iconst 0, 1) := by decide +kernel
theorem nd_M_set_119 : decode prog_7_method_20_code 119 = .ok (.bastore, 1) := by decide +kernel
theorem nd_M_set_120 : decode prog_7_method_20_code 120 = .ok (.aload_n 0, 1) := by decide +kernel
theorem nd_M_set_121 : decode prog_7_method_20_code 121 = .ok (.getfield 54, 3) := by decide +kernel
theorem nd_M_set_124 : decode prog_7_method_20_code 124 = .ok (.iload_n 1, 1) := by decide +kernel
theorem nd_M_set_125 : decode prog_7_method_20_code 125 = .ok (.iconst 0, 1) := by decide +kernel
theorem nd_M_set_126 : decode prog_7_method_20_code 126 = .ok (.bastore, 1) := by decide +kernel
theorem nd_M_set_127 : decode prog_7_method_20_code 127 = .ok (.aload_n 0, 1) := by decide +kernel
theorem nd_M_set_128 : decode prog_7_method_20_code 128 = .ok (.getfield 42, 3) := by decide +kernel
theorem nd_M_set_131 : decode prog_7_method_20_code 131 = .ok (.iload_n 1, 1) := by decide +kernel
theorem nd_M_set_132 : decode prog_7_method_20_code 132 = .ok (.iload_n 2, 1) := by decide +kernel
theorem nd_M_set_133 : decode prog_7_method_20_code 133 = .ok (.iastore, 1) := by decide +kernel
theorem nd_M_set_134 : decode prog_7_method_20_code 134 = .ok (.aload_n 0, 1) := by decide +kernel
theorem nd_M_set_135 : decode prog_7_method_20_code 135 = .ok (.getfield 45, 3) := by decide +kernel
theorem nd_M_set_138 : decode prog_7_method_20_code 138 = .ok (.iload_n 1, 1) := by decide +kernel
theorem nd_M_set_139 : decode prog_7_method_20_code 139 = .ok (.iload_n 3, 1) := by decide +kernel
theorem nd_M_set_140 : decode prog_7_method_20_code 140 = .ok (.iastore, 1) := by decide +kernel
theorem nd_M_set_141 : decode prog_7_method_20_code 141 = .ok (.iconst 1, 1) := by decide +kernel
theorem nd_M_set_142 : decode prog_7_method_20_code 142 = .ok (.ireturn, 1) := by decide +kernel
theorem nd_M_settled_0 : decode prog_7_method_21_code 0 = .ok (.aload_n 0, 1) := by decide +kernel
theorem nd_M_settled_1 : decode prog_7_method_21_code 1 = .ok (.getfield 20, 3) := by decide +kernel
theorem nd_M_settled_4 : decode prog_7_method_21_code 4 = .ok (.iload_n 1, 1) := by decide +kernel
theorem nd_M_settled_5 : decode prog_7_method_21_code 5 = .ok (.baload, 1) := by decide +kernel
theorem nd_M_settled_6 : decode prog_7_method_21_code 6 = .ok (.ifCond .eq 25, 3) := by decide +kernel
theorem nd_M_settled_9 : decode prog_7_method_21_code 9 = .ok (.aload_n 0, 1) := by decide +kernel
theorem nd_M_settled_10 : decode prog_7_method_21_code 10 = .ok (.getfield 51, 3) := by decide +kernel
theorem nd_M_settled_13 : decode prog_7_method_21_code 13 = .ok (.iload_n 1, 1) := by decide +kernel
theorem nd_M_settled_14 : decode prog_7_method_21_code 14 = .ok (.baload, 1) := by decide +kernel
theorem nd_M_settled_15 : decode prog_7_method_21_code 15 = .ok (.ifCond .eq 20, 3) := by decide +kernel
theorem nd_M_settled_18 : decode prog_7_method_21_code 18 = .ok (.aload_n 0, 1) := by decide +kernel
theorem nd_M_settled_19 : decode prog_7_method_21_code 19 = .ok (.getfield 61, 3) := by decide +kernel
theorem nd_M_settled_22 : decode prog_7_method_21_code 22 = .ok (.iload_n 1, 1) := by decide +kernel
theorem nd_M_settled_23 : decode prog_7_method_21_code 23 = .ok (.iaload, 1) := by decide +kernel
theorem nd_M_settled_24 : decode prog_7_method_21_code 24 = .ok (.aload_n 0, 1) := by decide +kernel
theorem nd_M_settled_25 : decode prog_7_method_21_code 25 = .ok (.getfield 13, 3) := by decide +kernel
theorem nd_M_settled_28 : decode prog_7_method_21_code 28 = .ok (.if_icmp .ne 7, 3) := by decide +kernel
theorem nd_M_settled_31 : decode prog_7_method_21_code 31 = .ok (.iconst 1, 1) := by decide +kernel
theorem nd_M_settled_32 : decode prog_7_method_21_code 32 = .ok (.goto 4, 3) := by decide +kernel
theorem nd_M_settled_35 : decode prog_7_method_21_code 35 = .ok (.iconst 0, 1) := by decide +kernel
theorem nd_M_settled_36 : decode prog_7_method_21_code 36 = .ok (.ireturn, 1) := by decide +kernel
theorem nd_M_durabilityOf_0 : decode prog_7_method_22_code 0 = .ok (.aload_n 0, 1) := by decide +kernel
theorem nd_M_durabilityOf_1 : decode prog_7_method_22_code 1 = .ok (.getfield 20, 3) := by decide +kernel
theorem nd_M_durabilityOf_4 : decode prog_7_method_22_code 4 = .ok (.iload_n 1, 1) := by decide +kernel
theorem nd_M_durabilityOf_5 : decode prog_7_method_22_code 5 = .ok (.baload, 1) := by decide +kernel
theorem nd_M_durabilityOf_6 : decode prog_7_method_22_code 6 = .ok (.ifCond .eq 12, 3) := by decide +kernel
theorem nd_M_durabilityOf_9 : decode prog_7_method_22_code 9 = .ok (.aload_n 0, 1) := by decide +kernel
theorem nd_M_durabilityOf_10 : decode prog_7_method_22_code 10 = .ok (.getfield 67, 3) := by decide +kernel
theorem nd_M_durabilityOf_13 : decode prog_7_method_22_code 13 = .ok (.iload_n 1, 1) := by decide +kernel
theorem nd_M_durabilityOf_14 : decode prog_7_method_22_code 14 = .ok (.iaload, 1) := by decide +kernel
theorem nd_M_durabilityOf_15 : decode prog_7_method_22_code 15 = .ok (.goto 9, 3) := by decide +kernel
theorem nd_M_durabilityOf_18 : decode prog_7_method_22_code 18 = .ok (.aload_n 0, 1) := by decide +kernel
theorem nd_M_durabilityOf_19 : decode prog_7_method_22_code 19 = .ok (.getfield 45, 3) := by decide +kernel
theorem nd_M_durabilityOf_22 : decode prog_7_method_22_code 22 = .ok (.iload_n 1, 1) := by decide +kernel
theorem nd_M_durabilityOf_23 : decode prog_7_method_22_code 23 = .ok (.iaload, 1) := by decide +kernel
theorem nd_M_durabilityOf_24 : decode prog_7_method_22_code 24 = .ok (.ireturn, 1) := by decide +kernel
theorem nd_M_sinceOf_0 : decode prog_7_method_23_code 0 = .ok (.aload_n 0, 1) := by decide +kernel
theorem nd_M_sinceOf_1 : decode prog_7_method_23_code 1 = .ok (.getfield 20, 3) := by decide +kernel
theorem nd_M_sinceOf_4 : decode prog_7_method_23_code 4 = .ok (.iload_n 1, 1) := by decide +kernel
theorem nd_M_sinceOf_5 : decode prog_7_method_23_code 5 = .ok (.baload, 1) := by decide +kernel
theorem nd_M_sinceOf_6 : decode prog_7_method_23_code 6 = .ok (.ifCond .eq 12, 3) := by decide +kernel
theorem nd_M_sinceOf_9 : decode prog_7_method_23_code 9 = .ok (.aload_n 0, 1) := by decide +kernel
theorem nd_M_sinceOf_10 : decode prog_7_method_23_code 10 = .ok (.getfield 64, 3) := by decide +kernel
theorem nd_M_sinceOf_13 : decode prog_7_method_23_code 13 = .ok (.iload_n 1, 1) := by decide +kernel
theorem nd_M_sinceOf_14 : decode prog_7_method_23_code 14 = .ok (.iaload, 1) := by decide +kernel
theorem nd_M_sinceOf_15 : decode prog_7_method_23_code 15 = .ok (.goto 9, 3) := by decide +kernel
theorem nd_M_sinceOf_18 : decode prog_7_method_23_code 18 = .ok (.aload_n 0, 1) := by decide +kernel
theorem nd_M_sinceOf_19 : decode prog_7_method_23_code 19 = .ok (.getfield 48, 3) := by decide +kernel
theorem nd_M_sinceOf_22 : decode prog_7_method_23_code 22 = .ok (.iload_n 1, 1) := by decide +kernel
theorem nd_M_sinceOf_23 : decode prog_7_method_23_code 23 = .ok (.iaload, 1) := by decide +kernel
theorem nd_M_sinceOf_24 : decode prog_7_method_23_code 24 = .ok (.ireturn, 1) := by decide +kernel
theorem nd_M_start_0 : decode prog_7_method_24_code 0 = .ok (.aload_n 0, 1) := by decide +kernel
theorem nd_M_start_1 : decode prog_7_method_24_code 1 = .ok (.getfield 85, 3) := by decide +kernel
theorem nd_M_start_4 : decode prog_7_method_24_code 4 = .ok (.aload_n 0, 1) := by decide +kernel
theorem nd_M_start_5 : decode prog_7_method_24_code 5 = .ok (.getfield 191, 3) := by decide +kernel
theorem nd_M_start_8 : decode prog_7_method_24_code 8 = .ok (.iload_n 1, 1) := by decide +kernel
theorem nd_M_start_9 : decode prog_7_method_24_code 9 = .ok (.iastore, 1) := by decide +kernel
theorem nd_M_start_10 : decode prog_7_method_24_code 10 = .ok (.aload_n 0, 1) := by decide +kernel
theorem nd_M_start_11 : decode prog_7_method_24_code 11 = .ok (.getfield 88, 3) := by decide +kernel
theorem nd_M_start_14 : decode prog_7_method_24_code 14 = .ok (.aload_n 0, 1) := by decide +kernel
theorem nd_M_start_15 : decode prog_7_method_24_code 15 = .ok (.getfield 191, 3) := by decide +kernel
theorem nd_M_start_18 : decode prog_7_method_24_code 18 = .ok (.iload_n 2, 1) := by decide +kernel
theorem nd_M_start_19 : decode prog_7_method_24_code 19 = .ok (.iastore, 1) := by decide +kernel
theorem nd_M_start_20 : decode prog_7_method_24_code 20 = .ok (.aload_n 0, 1) := by decide +kernel
theorem nd_M_start_21 : decode prog_7_method_24_code 21 = .ok (.getfield 106, 3) := by decide +kernel
theorem nd_M_start_24 : decode prog_7_method_24_code 24 = .ok (.iload_n 1, 1) := by decide +kernel
theorem nd_M_start_25 : decode prog_7_method_24_code 25 = .ok (.iconst 1, 1) := by decide +kernel
theorem nd_M_start_26 : decode prog_7_method_24_code 26 = .ok (.bastore, 1) := by decide +kernel
theorem nd_M_start_27 : decode prog_7_method_24_code 27 = .ok (.aload_n 0, 1) := by decide +kernel
theorem nd_M_start_28 : decode prog_7_method_24_code 28 = .ok (.dup, 1) := by decide +kernel
theorem nd_M_start_29 : decode prog_7_method_24_code 29 = .ok (.getfield 191, 3) := by decide +kernel
theorem nd_M_start_32 : decode prog_7_method_24_code 32 = .ok (.iconst 1, 1) := by decide +kernel
theorem nd_M_start_33 : decode prog_7_method_24_code 33 = .ok (.iadd, 1) := by decide +kernel
theorem nd_M_start_34 : decode prog_7_method_24_code 34 = .ok (.putfield 191, 3) := by decide +kernel
theorem nd_M_start_37 : decode prog_7_method_24_code 37 = .ok (.return_, 1) := by decide +kernel
theorem nd_M_counts_0 : decode prog_7_method_25_code 0 = .ok (.aload_n 0, 1) := by decide +kernel
theorem nd_M_counts_1 : decode prog_7_method_25_code 1 = .ok (.getfield 79, 3) := by decide +kernel
theorem nd_M_counts_4 : decode prog_7_method_25_code 4 = .ok (.iconst 3, 1) := by decide +kernel
theorem nd_M_counts_5 : decode prog_7_method_25_code 5 = .ok (.iload_n 1, 1) := by decide +kernel
theorem nd_M_counts_6 : decode prog_7_method_25_code 6 = .ok (.imul, 1) := by decide +kernel
theorem nd_M_counts_7 : decode prog_7_method_25_code 7 = .ok (.iload_n 2, 1) := by decide +kernel
theorem nd_M_counts_8 : decode prog_7_method_25_code 8 = .ok (.iadd, 1) := by decide +kernel
theorem nd_M_counts_9 : decode prog_7_method_25_code 9 = .ok (.dup2, 1) := by decide +kernel
theorem nd_M_counts_10 : decode prog_7_method_25_code 10 = .ok (.iaload, 1) := by decide +kernel
theorem nd_M_counts_11 : decode prog_7_method_25_code 11 = .ok (.iconst 1, 1) := by decide +kernel
theorem nd_M_counts_12 : decode prog_7_method_25_code 12 = .ok (.iadd, 1) := by decide +kernel
theorem nd_M_counts_13 : decode prog_7_method_25_code 13 = .ok (.iastore, 1) := by decide +kernel
theorem nd_M_counts_14 : decode prog_7_method_25_code 14 = .ok (.aload_n 0, 1) := by decide +kernel
theorem nd_M_counts_15 : decode prog_7_method_25_code 15 = .ok (.getfield 82, 3) := by decide +kernel
theorem nd_M_counts_18 : decode prog_7_method_25_code 18 = .ok (.iload_n 2, 1) := by decide +kernel
theorem nd_M_counts_19 : decode prog_7_method_25_code 19 = .ok (.dup2, 1) := by decide +kernel
theorem nd_M_counts_20 : decode prog_7_method_25_code 20 = .ok (.iaload, 1) := by decide +kernel
theorem nd_M_counts_21 : decode prog_7_method_25_code 21 = .ok (.iconst 1, 1) := by decide +kernel
theorem nd_M_counts_22 : decode prog_7_method_25_code 22 = .ok (.iadd, 1) := by decide +kernel
theorem nd_M_counts_23 : decode prog_7_method_25_code 23 = .ok (.iastore, 1) := by decide +kernel
theorem nd_M_counts_24 : decode prog_7_method_25_code 24 = .ok (.return_, 1) := by decide +kernel
theorem nd_M_finish_0 : decode prog_7_method_26_code 0 = .ok (.aload_n 0, 1) := by decide +kernel
theorem nd_M_finish_1 : decode prog_7_method_26_code 1 = .ok (.dup, 1) := by decide +kernel
theorem nd_M_finish_2 : decode prog_7_method_26_code 2 = .ok (.getfield 191, 3) := by decide +kernel
theorem nd_M_finish_5 : decode prog_7_method_26_code 5 = .ok (.iconst 1, 1) := by decide +kernel
theorem nd_M_finish_6 : decode prog_7_method_26_code 6 = .ok (.isub, 1) := by decide +kernel
theorem nd_M_finish_7 : decode prog_7_method_26_code 7 = .ok (.putfield 191, 3) := by decide +kernel
theorem nd_M_finish_10 : decode prog_7_method_26_code 10 = .ok (.aload_n 0, 1) := by decide +kernel
theorem nd_M_finish_11 : decode prog_7_method_26_code 11 = .ok (.getfield 106, 3) := by decide +kernel
theorem nd_M_finish_14 : decode prog_7_method_26_code 14 = .ok (.aload_n 0, 1) := by decide +kernel
theorem nd_M_finish_15 : decode prog_7_method_26_code 15 = .ok (.getfield 85, 3) := by decide +kernel
theorem nd_M_finish_18 : decode prog_7_method_26_code 18 = .ok (.aload_n 0, 1) := by decide +kernel
theorem nd_M_finish_19 : decode prog_7_method_26_code 19 = .ok (.getfield 191, 3) := by decide +kernel
theorem nd_M_finish_22 : decode prog_7_method_26_code 22 = .ok (.iaload, 1) := by decide +kernel
theorem nd_M_finish_23 : decode prog_7_method_26_code 23 = .ok (.iconst 0, 1) := by decide +kernel
theorem nd_M_finish_24 : decode prog_7_method_26_code 24 = .ok (.bastore, 1) := by decide +kernel
theorem nd_M_finish_25 : decode prog_7_method_26_code 25 = .ok (.return_, 1) := by decide +kernel
theorem nd_M_use_0 : decode prog_7_method_27_code 0 = .ok (.aload_n 0, 1) := by decide +kernel
theorem nd_M_use_1 : decode prog_7_method_27_code 1 = .ok (.dup, 1) := by decide +kernel
theorem nd_M_use_2 : decode prog_7_method_27_code 2 = .ok (.getfield 194, 3) := by decide +kernel
theorem nd_M_use_5 : decode prog_7_method_27_code 5 = .ok (.iconst 1, 1) := by decide +kernel
theorem nd_M_use_6 : decode prog_7_method_27_code 6 = .ok (.iadd, 1) := by decide +kernel
theorem nd_M_use_7 : decode prog_7_method_27_code 7 = .ok (.putfield 194, 3) := by decide +kernel
theorem nd_M_use_10 : decode prog_7_method_27_code 10 = .ok (.aload_n 0, 1) := by decide +kernel
theorem nd_M_use_11 : decode prog_7_method_27_code 11 = .ok (.getfield 76, 3) := by decide +kernel
theorem nd_M_use_14 : decode prog_7_method_27_code 14 = .ok (.iload_n 1, 1) := by decide +kernel
theorem nd_M_use_15 : decode prog_7_method_27_code 15 = .ok (.aload_n 0, 1) := by decide +kernel
theorem nd_M_use_16 : decode prog_7_method_27_code 16 = .ok (.getfield 194, 3) := by decide +kernel
theorem nd_M_use_19 : decode prog_7_method_27_code 19 = .ok (.iastore, 1) := by decide +kernel
theorem nd_M_use_20 : decode prog_7_method_27_code 20 = .ok (.return_, 1) := by decide +kernel
theorem nd_M_runAll_0 : decode prog_7_method_28_code 0 = .ok (.aload_n 0, 1) := by decide +kernel
theorem nd_M_runAll_1 : decode prog_7_method_28_code 1 = .ok (.getfield 191, 3) := by decide +kernel
theorem nd_M_runAll_4 : decode prog_7_method_28_code 4 = .ok (.ifCond .le 162, 3) := by decide +kernel
theorem nd_M_runAll_7 : decode prog_7_method_28_code 7 = .ok (.aload_n 0, 1) := by decide +kernel
theorem nd_M_runAll_8 : decode prog_7_method_28_code 8 = .ok (.getfield 191, 3) := by decide +kernel
theorem nd_M_runAll_11 : decode prog_7_method_28_code 11 = .ok (.iconst 1, 1) := by decide +kernel
theorem nd_M_runAll_12 : decode prog_7_method_28_code 12 = .ok (.isub, 1) := by decide +kernel
theorem nd_M_runAll_13 : decode prog_7_method_28_code 13 = .ok (.istore_n 1, 1) := by decide +kernel
theorem nd_M_runAll_14 : decode prog_7_method_28_code 14 = .ok (.aload_n 0, 1) := by decide +kernel
theorem nd_M_runAll_15 : decode prog_7_method_28_code 15 = .ok (.getfield 88, 3) := by decide +kernel
theorem nd_M_runAll_18 : decode prog_7_method_28_code 18 = .ok (.iload_n 1, 1) := by decide +kernel
theorem nd_M_runAll_19 : decode prog_7_method_28_code 19 = .ok (.iaload, 1) := by decide +kernel
theorem nd_M_runAll_20 : decode prog_7_method_28_code 20 = .ok (.ifCond .ne 17, 3) := by decide +kernel
theorem nd_M_runAll_23 : decode prog_7_method_28_code 23 = .ok (.aload_n 0, 1) := by decide +kernel
theorem nd_M_runAll_24 : decode prog_7_method_28_code 24 = .ok (.iload_n 1, 1) := by decide +kernel
theorem nd_M_runAll_25 : decode prog_7_method_28_code 25 = .ok (.aload_n 0, 1) := by decide +kernel
theorem nd_M_runAll_26 : decode prog_7_method_28_code 26 = .ok (.getfield 85, 3) := by decide +kernel
theorem nd_M_runAll_29 : decode prog_7_method_28_code 29 = .ok (.iload_n 1, 1) := by decide +kernel
theorem nd_M_runAll_30 : decode prog_7_method_28_code 30 = .ok (.iaload, 1) := by decide +kernel
theorem nd_M_runAll_31 : decode prog_7_method_28_code 31 = .ok (.invokevirtual 197, 3) := by decide +kernel
theorem nd_M_runAll_34 : decode prog_7_method_28_code 34 = .ok (.goto 129, 3) := by decide +kernel
theorem nd_M_runAll_37 : decode prog_7_method_28_code 37 = .ok (.aload_n 0, 1) := by decide +kernel
theorem nd_M_runAll_38 : decode prog_7_method_28_code 38 = .ok (.getfield 88, 3) := by decide +kernel
theorem nd_M_runAll_41 : decode prog_7_method_28_code 41 = .ok (.iload_n 1, 1) := by decide +kernel
theorem nd_M_runAll_42 : decode prog_7_method_28_code 42 = .ok (.iaload, 1) := by decide +kernel
theorem nd_M_runAll_43 : decode prog_7_method_28_code 43 = .ok (.iconst 1, 1) := by decide +kernel
theorem nd_M_runAll_44 : decode prog_7_method_28_code 44 = .ok (.if_icmp .ne 17, 3) := by decide +kernel
theorem nd_M_runAll_47 : decode prog_7_method_28_code 47 = .ok (.aload_n 0, 1) := by decide +kernel
theorem nd_M_runAll_48 : decode prog_7_method_28_code 48 = .ok (.iload_n 1, 1) := by decide +kernel
theorem nd_M_runAll_49 : decode prog_7_method_28_code 49 = .ok (.aload_n 0, 1) := by decide +kernel
theorem nd_M_runAll_50 : decode prog_7_method_28_code 50 = .ok (.getfield 85, 3) := by decide +kernel
theorem nd_M_runAll_53 : decode prog_7_method_28_code 53 = .ok (.iload_n 1, 1) := by decide +kernel
theorem nd_M_runAll_54 : decode prog_7_method_28_code 54 = .ok (.iaload, 1) := by decide +kernel
theorem nd_M_runAll_55 : decode prog_7_method_28_code 55 = .ok (.invokevirtual 200, 3) := by decide +kernel
theorem nd_M_runAll_58 : decode prog_7_method_28_code 58 = .ok (.goto 105, 3) := by decide +kernel
theorem nd_M_runAll_61 : decode prog_7_method_28_code 61 = .ok (.aload_n 0, 1) := by decide +kernel
theorem nd_M_runAll_62 : decode prog_7_method_28_code 62 = .ok (.getfield 88, 3) := by decide +kernel
theorem nd_M_runAll_65 : decode prog_7_method_28_code 65 = .ok (.iload_n 1, 1) := by decide +kernel
theorem nd_M_runAll_66 : decode prog_7_method_28_code 66 = .ok (.iaload, 1) := by decide +kernel
theorem nd_M_runAll_67 : decode prog_7_method_28_code 67 = .ok (.iconst 2, 1) := by decide +kernel
theorem nd_M_runAll_68 : decode prog_7_method_28_code 68 = .ok (.if_icmp .ne 41, 3) := by decide +kernel
theorem nd_M_runAll_71 : decode prog_7_method_28_code 71 = .ok (.aload_n 0, 1) := by decide +kernel
theorem nd_M_runAll_72 : decode prog_7_method_28_code 72 = .ok (.getfield 91, 3) := by decide +kernel
theorem nd_M_runAll_75 : decode prog_7_method_28_code 75 = .ok (.iload_n 1, 1) := by decide +kernel
theorem nd_M_runAll_76 : decode prog_7_method_28_code 76 = .ok (.iconst 0, 1) := by decide +kernel
theorem nd_M_runAll_77 : decode prog_7_method_28_code 77 = .ok (.iastore, 1) := by decide +kernel
theorem nd_M_runAll_78 : decode prog_7_method_28_code 78 = .ok (.aload_n 0, 1) := by decide +kernel
theorem nd_M_runAll_79 : decode prog_7_method_28_code 79 = .ok (.getfield 94, 3) := by decide +kernel
theorem nd_M_runAll_82 : decode prog_7_method_28_code 82 = .ok (.iload_n 1, 1) := by decide +kernel
theorem nd_M_runAll_83 : decode prog_7_method_28_code 83 = .ok (.iconst 0, 1) := by decide +kernel
theorem nd_M_runAll_84 : decode prog_7_method_28_code 84 = .ok (.iastore, 1) := by decide +kernel
theorem nd_M_runAll_85 : decode prog_7_method_28_code 85 = .ok (.aload_n 0, 1) := by decide +kernel
theorem nd_M_runAll_86 : decode prog_7_method_28_code 86 = .ok (.getfield 100, 3) := by decide +kernel
theorem nd_M_runAll_89 : decode prog_7_method_28_code 89 = .ok (.iload_n 1, 1) := by decide +kernel
theorem nd_M_runAll_90 : decode prog_7_method_28_code 90 = .ok (.iconst 0, 1) := by decide +kernel
theorem nd_M_runAll_91 : decode prog_7_method_28_code 91 = .ok (.iastore, 1) := by decide +kernel
theorem nd_M_runAll_92 : decode prog_7_method_28_code 92 = .ok (.aload_n 0, 1) := by decide +kernel
theorem nd_M_runAll_93 : decode prog_7_method_28_code 93 = .ok (.getfield 109, 3) := by decide +kernel
theorem nd_M_runAll_96 : decode prog_7_method_28_code 96 = .ok (.iload_n 1, 1) := by decide +kernel
theorem nd_M_runAll_97 : decode prog_7_method_28_code 97 = .ok (.iconst 0, 1) := by decide +kernel
theorem nd_M_runAll_98 : decode prog_7_method_28_code 98 = .ok (.bastore, 1) := by decide +kernel
theorem nd_M_runAll_99 : decode prog_7_method_28_code 99 = .ok (.aload_n 0, 1) := by decide +kernel
theorem nd_M_runAll_100 : decode prog_7_method_28_code 100 = .ok (.getfield 88, 3) := by decide +kernel
theorem nd_M_runAll_103 : decode prog_7_method_28_code 103 = .ok (.iload_n 1, 1) := by decide +kernel
theorem nd_M_runAll_104 : decode prog_7_method_28_code 104 = .ok (.iconst 3, 1) := by decide +kernel
theorem nd_M_runAll_105 : decode prog_7_method_28_code 105 = .ok (.iastore, 1) := by decide +kernel
theorem nd_M_runAll_106 : decode prog_7_method_28_code 106 = .ok (.goto 57, 3) := by decide +kernel
theorem nd_M_runAll_109 : decode prog_7_method_28_code 109 = .ok (.aload_n 0, 1) := by decide +kernel
theorem nd_M_runAll_110 : decode prog_7_method_28_code 110 = .ok (.getfield 91, 3) := by decide +kernel
theorem nd_M_runAll_113 : decode prog_7_method_28_code 113 = .ok (.iload_n 1, 1) := by decide +kernel
theorem nd_M_runAll_114 : decode prog_7_method_28_code 114 = .ok (.iaload, 1) := by decide +kernel
theorem nd_M_runAll_115 : decode prog_7_method_28_code 115 = .ok (.aload_n 0, 1) := by decide +kernel
theorem nd_M_runAll_116 : decode prog_7_method_28_code 116 = .ok (.getfield 30, 3) := by decide +kernel
theorem nd_M_runAll_119 : decode prog_7_method_28_code 119 = .ok (.aload_n 0, 1) := by decide +kernel
theorem nd_M_runAll_120 : decode prog_7_method_28_code 120 = .ok (.getfield 85, 3) := by decide +kernel
theorem nd_M_runAll_123 : decode prog_7_method_28_code 123 = .ok (.iload_n 1, 1) := by decide +kernel
theorem nd_M_runAll_124 : decode prog_7_method_28_code 124 = .ok (.iaload, 1) := by decide +kernel
theorem nd_M_runAll_125 : decode prog_7_method_28_code 125 = .ok (.iaload, 1) := by decide +kernel
theorem nd_M_runAll_126 : decode prog_7_method_28_code 126 = .ok (.if_icmp .ne 26, 3) := by decide +kernel
theorem nd_M_runAll_129 : decode prog_7_method_28_code 129 = .ok (.aload_n 0, 1) := by decide +kernel
theorem nd_M_runAll_130 : decode prog_7_method_28_code 130 = .ok (.iload_n 1, 1) := by decide +kernel
theorem nd_M_runAll_131 : decode prog_7_method_28_code 131 = .ok (.aload_n 0, 1) := by decide +kernel
theorem nd_M_runAll_132 : decode prog_7_method_28_code 132 = .ok (.getfield 85, 3) := by decide +kernel
theorem nd_M_runAll_135 : decode prog_7_method_28_code 135 = .ok (.iload_n 1, 1) := by decide +kernel
theorem nd_M_runAll_136 : decode prog_7_method_28_code 136 = .ok (.iaload, 1) := by decide +kernel
theorem nd_M_runAll_137 : decode prog_7_method_28_code 137 = .ok (.aload_n 0, 1) := by decide +kernel
theorem nd_M_runAll_138 : decode prog_7_method_28_code 138 = .ok (.getfield 97, 3) := by decide +kernel
theorem nd_M_runAll_141 : decode prog_7_method_28_code 141 = .ok (.bipush 16, 2) := by decide +kernel
theorem nd_M_runAll_143 : decode prog_7_method_28_code 143 = .ok (.iload_n 1, 1) := by decide +kernel
theorem nd_M_runAll_144 : decode prog_7_method_28_code 144 = .ok (.imul, 1) := by decide +kernel
theorem nd_M_runAll_145 : decode prog_7_method_28_code 145 = .ok (.laload, 1) := by decide +kernel
theorem nd_M_runAll_146 : decode prog_7_method_28_code 146 = .ok (.invokevirtual 203, 3) := by decide +kernel
theorem nd_M_runAll_149 : decode prog_7_method_28_code 149 = .ok (.goto 14, 3) := by decide +kernel
theorem nd_M_runAll_152 : decode prog_7_method_28_code 152 = .ok (.aload_n 0, 1) := by decide +kernel
theorem nd_M_runAll_153 : decode prog_7_method_28_code 153 = .ok (.iload_n 1, 1) := by decide +kernel
theorem nd_M_runAll_154 : decode prog_7_method_28_code 154 = .ok (.aload_n 0, 1) := by decide +kernel
theorem nd_M_runAll_155 : decode prog_7_method_28_code 155 = .ok (.getfield 85, 3) := by decide +kernel
theorem nd_M_runAll_158 : decode prog_7_method_28_code 158 = .ok (.iload_n 1, 1) := by decide +kernel
theorem nd_M_runAll_159 : decode prog_7_method_28_code 159 = .ok (.iaload, 1) := by decide +kernel
theorem nd_M_runAll_160 : decode prog_7_method_28_code 160 = .ok (.invokevirtual 207, 3) := by decide +kernel
theorem nd_M_runAll_163 : decode prog_7_method_28_code 163 = .ok (.goto (-163), 3) := by decide +kernel
theorem nd_M_runAll_166 : decode prog_7_method_28_code 166 = .ok (.return_, 1) := by decide +kernel
theorem nd_M_enter_0 : decode prog_7_method_29_code 0 = .ok (.aload_n 0, 1) := by decide +kernel
theorem nd_M_enter_1 : decode prog_7_method_29_code 1 = .ok (.getfield 51, 3) := by decide +kernel
theorem nd_M_enter_4 : decode prog_7_method_29_code 4 = .ok (.iload_n 2, 1) := by decide +kernel
theorem nd_M_enter_5 : decode prog_7_method_29_code 5 = .ok (.baload, 1) := by decide +kernel
theorem nd_M_enter_6 : decode prog_7_method_29_code 6 = .ok (.ifCond .eq 44, 3) := by decide +kernel
theorem nd_M_enter_9 : decode prog_7_method_29_code 9 = .ok (.aload_n 0, 1) := by decide +kernel
theorem nd_M_enter_10 : decode prog_7_method_29_code 10 = .ok (.getfield 17, 3) := by decide +kernel
theorem nd_M_enter_13 : decode prog_7_method_29_code 13 = .ok (.aload_n 0, 1) := by decide +kernel
theorem nd_M_enter_14 : decode prog_7_method_29_code 14 = .ok (.getfield 67, 3) := by decide +kernel
theorem nd_M_enter_17 : decode prog_7_method_29_code 17 = .ok (.iload_n 2, 1) := by decide +kernel
theorem nd_M_enter_18 : decode prog_7_method_29_code 18 = .ok (.iaload, 1) := by decide +kernel
theorem nd_M_enter_19 : decode prog_7_method_29_code 19 = .ok (.iaload, 1) := by decide +kernel
theorem nd_M_enter_20 : decode prog_7_method_29_code 20 = .ok (.aload_n 0, 1) := by decide +kernel
theorem nd_M_enter_21 : decode prog_7_method_29_code 21 = .ok (.getfield 61, 3) := by decide +kernel
theorem nd_M_enter_24 : decode prog_7_method_29_code 24 = .ok (.iload_n 2, 1) := by decide +kernel
theorem nd_M_enter_25 : decode prog_7_method_29_code 25 = .ok (.iaload, 1) := by decide +kernel
theorem nd_M_enter_26 : decode prog_7_method_29_code 26 = .ok (.if_icmp .gt 24, 3) := by decide +kernel
theorem nd_M_enter_29 : decode prog_7_method_29_code 29 = .ok (.aload_n 0, 1) := by decide +kernel
theorem nd_M_enter_30 : decode prog_7_method_29_code 30 = .ok (.iload_n 2, 1) := by decide +kernel
theorem nd_M_enter_31 : decode prog_7_method_29_code 31 = .ok (.iconst 2, 1) := by decide +kernel
theorem nd_M_enter_32 : decode prog_7_method_29_code 32 = .ok (.invokevirtual 210, 3) := by decide +kernel
theorem nd_M_enter_35 : decode prog_7_method_29_code 35 = .ok (.aload_n 0, 1) := by decide +kernel
theorem nd_M_enter_36 : decode prog_7_method_29_code 36 = .ok (.getfield 61, 3) := by decide +kernel
theorem nd_M_enter_39 : decode prog_7_method_29_code 39 = .ok (.iload_n 2, 1) := by decide +kernel
theorem nd_M_enter_40 : decode prog_7_method_29_code 40 = .ok (.aload_n 0, 1) := by decide +kernel
theorem nd_M_enter_41 : decode prog_7_method_29_code 41 = .ok (.getfield 13, 3) := by decide +kernel
theorem nd_M_enter_44 : decode prog_7_method_29_code 44 = .ok (.iastore, 1) := by decide +kernel
theorem nd_M_enter_45 : decode prog_7_method_29_code 45 = .ok (.aload_n 0, 1) := by decide +kernel
theorem nd_M_enter_46 : decode prog_7_method_29_code 46 = .ok (.invokevirtual 213, 3) := by decide +kernel
theorem nd_M_enter_49 : decode prog_7_method_29_code 49 = .ok (.return_, 1) := by decide +kernel
theorem nd_M_enter_50 : decode prog_7_method_29_code 50 = .ok (.aload_n 0, 1) := by decide +kernel
theorem nd_M_enter_51 : decode prog_7_method_29_code 51 = .ok (.getfield 91, 3) := by decide +kernel
theorem nd_M_enter_54 : decode prog_7_method_29_code 54 = .ok (.iload_n 1, 1) := by decide +kernel
theorem nd_M_enter_55 : decode prog_7_method_29_code 55 = .ok (.iconst 0, 1) := by decide +kernel
theorem nd_M_enter_56 : decode prog_7_method_29_code 56 = .ok (.iastore, 1) := by decide +kernel
theorem nd_M_enter_57 : decode prog_7_method_29_code 57 = .ok (.aload_n 0, 1) := by decide +kernel
theorem nd_M_enter_58 : decode prog_7_method_29_code 58 = .ok (.getfield 88, 3) := by decide +kernel
theorem nd_M_enter_61 : decode prog_7_method_29_code 61 = .ok (.iload_n 1, 1) := by decide +kernel
theorem nd_M_enter_62 : decode prog_7_method_29_code 62 = .ok (.aload_n 0, 1) := by decide +kernel
theorem nd_M_enter_63 : decode prog_7_method_29_code 63 = .ok (.getfield 51, 3) := by decide +kernel
theorem nd_M_enter_66 : decode prog_7_method_29_code 66 = .ok (.iload_n 2, 1) := by decide +kernel
theorem nd_M_enter_67 : decode prog_7_method_29_code 67 = .ok (.baload, 1) := by decide +kernel
theorem nd_M_enter_68 : decode prog_7_method_29_code 68 = .ok (.ifCond .eq 22, 3) := by decide +kernel
theorem nd_M_enter_71 : decode prog_7_method_29_code 71 = .ok (.aload_n 0, 1) := by decide +kernel
theorem nd_M_enter_72 : decode prog_7_method_29_code 72 = .ok (.getfield 39, 3) := by decide +kernel
theorem nd_M_enter_75 : decode prog_7_method_29_code 75 = .ok (.iload_n 2, 1) := by decide +kernel
theorem nd_M_enter_76 : decode prog_7_method_29_code 76 = .ok (.iaload, 1) := by decide +kernel
theorem nd_M_enter_77 : decode prog_7_method_29_code 77 = .ok (.aload_n 0, 1) := by decide +kernel
theorem nd_M_enter_78 : decode prog_7_method_29_code 78 = .ok (.getfield 61, 3) := by decide +kernel
theorem nd_M_enter_81 : decode prog_7_method_29_code 81 = .ok (.iload_n 2, 1) := by decide +kernel
theorem nd_M_enter_82 : decode prog_7_method_29_code 82 = .ok (.iaload, 1) := by decide +kernel
theorem nd_M_enter_83 : decode prog_7_method_29_code 83 = .ok (.if_icmp .gt 7, 3) := by decide +kernel
theorem nd_M_enter_86 : decode prog_7_method_29_code 86 = .ok (.iconst 1, 1) := by decide +kernel
theorem nd_M_enter_87 : decode prog_7_method_29_code 87 = .ok (.goto 4, 3) := by decide +kernel
theorem nd_M_enter_90 : decode prog_7_method_29_code 90 = .ok (.iconst 2, 1) := by decide +kernel
theorem nd_M_enter_91 : decode prog_7_method_29_code 91 = .ok (.iastore, 1) := by decide +kernel
theorem nd_M_enter_92 : decode prog_7_method_29_code 92 = .ok (.return_, 1) := by decide +kernel
theorem nd_M_lookThrough_0 : decode prog_7_method_30_code 0 = .ok (.aload_n 0, 1) := by decide +kernel
theorem nd_M_lookThrough_1 : decode prog_7_method_30_code 1 = .ok (.getfield 91, 3) := by decide +kernel
theorem nd_M_lookThrough_4 : decode prog_7_method_30_code 4 = .ok (.iload_n 1, 1) := by decide +kernel
theorem nd_M_lookThrough_5 : decode prog_7_method_30_code 5 = .ok (.iaload, 1) := by decide +kernel
theorem nd_M_lookThrough_6 : decode prog_7_method_30_code 6 = .ok (.aload_n 0, 1) := by decide +kernel
theorem nd_M_lookThrough_7 : decode prog_7_method_30_code 7 = .ok (.getfield 70, 3) := by decide +kernel
theorem nd_M_lookThrough_10 : decode prog_7_method_30_code 10 = .ok (.iload_n 2, 1) := by decide +kernel
theorem nd_M_lookThrough_11 : decode prog_7_method_30_code 11 = .ok (.iaload, 1) := by decide +kernel
theorem nd_M_lookThrough_12 : decode prog_7_method_30_code 12 = .ok (.if_icmp .ne 94, 3) := by decide +kernel
theorem nd_M_lookThrough_15 : decode prog_7_method_30_code 15 = .ok (.aload_n 0, 1) := by decide +kernel
theorem nd_M_lookThrough_16 : decode prog_7_method_30_code 16 = .ok (.iload_n 2, 1) := by decide +kernel
theorem nd_M_lookThrough_17 : decode prog_7_method_30_code 17 = .ok (.iconst 1, 1) := by decide +kernel
theorem nd_M_lookThrough_18 : decode prog_7_method_30_code 18 = .ok (.invokevirtual 210, 3) := by decide +kernel
theorem nd_M_lookThrough_21 : decode prog_7_method_30_code 21 = .ok (.aload_n 0, 1) := by decide +kernel
theorem nd_M_lookThrough_22 : decode prog_7_method_30_code 22 = .ok (.getfield 61, 3) := by decide +kernel
theorem nd_M_lookThrough_25 : decode prog_7_method_30_code 25 = .ok (.iload_n 2, 1) := by decide +kernel
theorem nd_M_lookThrough_26 : decode prog_7_method_30_code 26 = .ok (.aload_n 0, 1) := by decide +kernel
theorem nd_M_lookThrough_27 : decode prog_7_method_30_code 27 = .ok (.getfield 13, 3) := by decide +kernel
theorem nd_M_lookThrough_30 : decode prog_7_method_30_code 30 = .ok (.iastore, 1) := by decide +kernel
theorem nd_M_lookThrough_31 : decode prog_7_method_30_code 31 = .ok (.iconst 2, 1) := by decide +kernel
theorem nd_M_lookThrough_32 : decode prog_7_method_30_code 32 = .ok (.istore_n 3, 1) := by decide +kernel
theorem nd_M_lookThrough_33 : decode prog_7_method_30_code 33 = .ok (.iconst 0, 1) := by decide +kernel
theorem nd_M_lookThrough_34 : decode prog_7_method_30_code 34 = .ok (.istore 4, 2) := by decide +kernel
theorem nd_M_lookThrough_36 : decode prog_7_method_30_code 36 = .ok (.iload 4, 2) := by decide +kernel
theorem nd_M_lookThrough_38 : decode prog_7_method_30_code 38 = .ok (.aload_n 0, 1) := by decide +kernel
theorem nd_M_lookThrough_39 : decode prog_7_method_30_code 39 = .ok (.getfield 70, 3) := by decide +kernel
theorem nd_M_lookThrough_42 : decode prog_7_method_30_code 42 = .ok (.iload_n 2, 1) := by decide +kernel
theorem nd_M_lookThrough_43 : decode prog_7_method_30_code 43 = .ok (.iaload, 1) := by decide +kernel
theorem nd_M_lookThrough_44 : decode prog_7_method_30_code 44 = .ok (.if_icmp .ge 50, 3) := by decide +kernel
theorem nd_M_lookThrough_47 : decode prog_7_method_30_code 47 = .ok (.aload_n 0, 1) := by decide +kernel
theorem nd_M_lookThrough_48 : decode prog_7_method_30_code 48 = .ok (.aload_n 0, 1) := by decide +kernel
theorem nd_M_lookThrough_49 : decode prog_7_method_30_code 49 = .ok (.getfield 73, 3) := by decide +kernel
theorem nd_M_lookThrough_52 : decode prog_7_method_30_code 52 = .ok (.bipush 12, 2) := by decide +kernel
theorem nd_M_lookThrough_54 : decode prog_7_method_30_code 54 = .ok (.iload_n 2, 1) := by decide +kernel
theorem nd_M_lookThrough_55 : decode prog_7_method_30_code 55 = .ok (.imul, 1) := by decide +kernel
theorem nd_M_lookThrough_56 : decode prog_7_method_30_code 56 = .ok (.iload 4, 2) := by decide +kernel
theorem nd_M_lookThrough_58 : decode prog_7_method_30_code 58 = .ok (.iadd, 1) := by decide +kernel
theorem nd_M_lookThrough_59 : decode prog_7_method_30_code 59 = .ok (.iaload, 1) := by decide +kernel
theorem nd_M_lookThrough_60 : decode prog_7_method_30_code 60 = .ok (.invokevirtual 216, 3) := by decide +kernel
theorem nd_M_lookThrough_63 : decode prog_7_method_30_code 63 = .ok (.iload_n 3, 1) := by decide +kernel
theorem nd_M_lookThrough_64 : decode prog_7_method_30_code 64 = .ok (.if_icmp .ge 22, 3) := by decide +kernel
theorem nd_M_lookThrough_67 : decode prog_7_method_30_code 67 = .ok (.aload_n 0, 1) := by decide +kernel
theorem nd_M_lookThrough_68 : decode prog_7_method_30_code 68 = .ok (.aload_n 0, 1) := by decide +kernel
theorem nd_M_lookThrough_69 : decode prog_7_method_30_code 69 = .ok (.getfield 73, 3) := by decide +kernel
theorem nd_M_lookThrough_72 : decode prog_7_method_30_code 72 = .ok (.bipush 12, 2) := by decide +kernel
theorem nd_M_lookThrough_74 : decode prog_7_method_30_code 74 = .ok (.iload_n 2, 1) := by decide +kernel
theorem nd_M_lookThrough_75 : decode prog_7_method_30_code 75 = .ok (.imul, 1) := by decide +kernel
theorem nd_M_lookThrough_76 : decode prog_7_method_30_code 76 = .ok (.iload 4, 2) := by decide +kernel
theorem nd_M_lookThrough_78 : decode prog_7_method_30_code 78 = .ok (.iadd, 1) := by decide +kernel
theorem nd_M_lookThrough_79 : decode prog_7_method_30_code 79 = .ok (.iaload, 1) := by decide +kernel
theorem nd_M_lookThrough_80 : decode prog_7_method_30_code 80 = .ok (.invokevirtual 216, 3) := by decide +kernel
theorem nd_M_lookThrough_83 : decode prog_7_method_30_code 83 = .ok (.goto 4, 3) := by decide +kernel
theorem nd_M_lookThrough_86 : decode prog_7_method_30_code 86 = .ok (.iload_n 3, 1) := by decide +kernel
theorem nd_M_lookThrough_87 : decode prog_7_method_30_code 87 = .ok (.istore_n 3, 1) := by decide +kernel
theorem nd_M_lookThrough_88 : decode prog_7_method_30_code 88 = .ok (.iinc 4 1, 3) := by decide +kernel
theorem nd_M_lookThrough_91 : decode prog_7_method_30_code 91 = .ok (.goto (-55), 3) := by decide +kernel
theorem nd_M_lookThrough_94 : decode prog_7_method_30_code 94 = .ok (.aload_n 0, 1) := by decide +kernel
theorem nd_M_lookThrough_95 : decode prog_7_method_30_code 95 = .ok (.getfield 67, 3) := by decide +kernel
theorem nd_M_lookThrough_98 : decode prog_7_method_30_code 98 = .ok (.iload_n 2, 1) := by decide +kernel
theorem nd_M_lookThrough_99 : decode prog_7_method_30_code 99 = .ok (.iload_n 3, 1) := by decide +kernel
theorem nd_M_lookThrough_100 : decode prog_7_method_30_code 100 = .ok (.iastore, 1) := by decide +kernel
theorem nd_M_lookThrough_101 : decode prog_7_method_30_code 101 = .ok (.aload_n 0, 1) := by decide +kernel
theorem nd_M_lookThrough_102 : decode prog_7_method_30_code 102 = .ok (.invokevirtual 213, 3) := by decide +kernel
theorem nd_M_lookThrough_105 : decode prog_7_method_30_code 105 = .ok (.return_, 1) := by decide +kernel
theorem nd_M_lookThrough_106 : decode prog_7_method_30_code 106 = .ok (.aload_n 0, 1) := by decide +kernel
theorem nd_M_lookThrough_107 : decode prog_7_method_30_code 107 = .ok (.getfield 73, 3) := by decide +kernel
theorem nd_M_lookThrough_110 : decode prog_7_method_30_code 110 = .ok (.bipush 12, 2) := by decide +kernel
theorem nd_M_lookThrough_112 : decode prog_7_method_30_code 112 = .ok (.iload_n 2, 1) := by decide +kernel
theorem nd_M_lookThrough_113 : decode prog_7_method_30_code 113 = .ok (.imul, 1) := by decide +kernel
theorem nd_M_lookThrough_114 : decode prog_7_method_30_code 114 = .ok (.aload_n 0, 1) := by decide +kernel
theorem nd_M_lookThrough_115 : decode prog_7_method_30_code 115 = .ok (.getfield 91, 3) := by decide +kernel
theorem nd_M_lookThrough_118 : decode prog_7_method_30_code 118 = .ok (.iload_n 1, 1) := by decide +kernel
theorem nd_M_lookThrough_119 : decode prog_7_method_30_code 119 = .ok (.iaload, 1) := by decide +kernel
theorem nd_M_lookThrough_120 : decode prog_7_method_30_code 120 = .ok (.iadd, 1) := by decide +kernel
theorem nd_M_lookThrough_121 : decode prog_7_method_30_code 121 = .ok (.iaload, 1) := by decide +kernel
theorem nd_M_lookThrough_122 : decode prog_7_method_30_code 122 = .ok (.istore_n 3, 1) := by decide +kernel
theorem nd_M_lookThrough_123 : decode prog_7_method_30_code 123 = .ok (.aload_n 0, 1) := by decide +kernel
theorem nd_M_lookThrough_124 : decode prog_7_method_30_code 124 = .ok (.getfield 106, 3) := by decide +kernel
theorem nd_M_lookThrough_127 : decode prog_7_method_30_code 127 = .ok (.iload_n 3, 1) := by decide +kernel
theorem nd_M_lookThrough_128 : decode prog_7_method_30_code 128 = .ok (.baload, 1) := by decide +kernel
theorem nd_M_lookThrough_129 : decode prog_7_method_30_code 129 = .ok (.ifCond .eq 13, 3) := by decide +kernel
theorem nd_M_lookThrough_132 : decode prog_7_method_30_code 132 = .ok (.aload_n 0, 1) := by decide +kernel
theorem nd_M_lookThrough_133 : decode prog_7_method_30_code 133 = .ok (.getfield 88, 3) := by decide +kernel
theorem nd_M_lookThrough_136 : decode prog_7_method_30_code 136 = .ok (.iload_n 1, 1) := by decide +kernel
theorem nd_M_lookThrough_137 : decode prog_7_method_30_code 137 = .ok (.iconst 2, 1) := by decide +kernel
theorem nd_M_lookThrough_138 : decode prog_7_method_30_code 138 = .ok (.iastore, 1) := by decide +kernel
theorem nd_M_lookThrough_139 : decode prog_7_method_30_code 139 = .ok (.goto 54, 3) := by decide +kernel
theorem nd_M_lookThrough_142 : decode prog_7_method_30_code 142 = .ok (.aload_n 0, 1) := by decide +kernel
theorem nd_M_lookThrough_143 : decode prog_7_method_30_code 143 = .ok (.iload_n 3, 1) := by decide +kernel
theorem nd_M_lookThrough_144 : decode prog_7_method_30_code 144 = .ok (.invokevirtual 219, 3) := by decide +kernel
theorem nd_M_lookThrough_147 : decode prog_7_method_30_code 147 = .ok (.ifCond .ne 12, 3) := by decide +kernel
theorem nd_M_lookThrough_150 : decode prog_7_method_30_code 150 = .ok (.aload_n 0, 1) := by decide +kernel
theorem nd_M_lookThrough_151 : decode prog_7_method_30_code 151 = .ok (.iload_n 3, 1) := by decide +kernel
theorem nd_M_lookThrough_152 : decode prog_7_method_30_code 152 = .ok (.iconst 0, 1) := by decide +kernel
theorem nd_M_lookThrough_153 : decode prog_7_method_30_code 153 = .ok (.invokevirtual 222, 3) := by decide +kernel
theorem nd_M_lookThrough_156 : decode prog_7_method_30_code 156 = .ok (.goto 37, 3) := by decide +kernel
theorem nd_M_lookThrough_159 : decode prog_7_method_30_code 159 = .ok (.aload_n 0, 1) := by decide +kernel
theorem nd_M_lookThrough_160 : decode prog_7_method_30_code 160 = .ok (.iload_n 3, 1) := by decide +kernel
theorem nd_M_lookThrough_161 : decode prog_7_method_30_code 161 = .ok (.invokevirtual 225, 3) := by decide +kernel
theorem nd_M_lookThrough_164 : decode prog_7_method_30_code 164 = .ok (.aload_n 0, 1) := by decide +kernel
theorem nd_M_lookThrough_165 : decode prog_7_method_30_code 165 = .ok (.getfield 61, 3) := by decide +kernel
theorem nd_M_lookThrough_168 : decode prog_7_method_30_code 168 = .ok (.iload_n 2, 1) := by decide +kernel
theorem nd_M_lookThrough_169 : decode prog_7_method_30_code 169 = .ok (.iaload, 1) := by decide +kernel
theorem nd_M_lookThrough_170 : decode prog_7_method_30_code 170 = .ok (.if_icmp .le 13, 3) := by decide +kernel
theorem nd_M_lookThrough_173 : decode prog_7_method_30_code 173 = .ok (.aload_n 0, 1) := by decide +kernel
theorem nd_M_lookThrough_174 : decode prog_7_method_30_code 174 = .ok (.getfield 88, 3) := by decide +kernel
theorem nd_M_lookThrough_177 : decode prog_7_method_30_code 177 = .ok (.iload_n 1, 1) := by decide +kernel
theorem nd_M_lookThrough_178 : decode prog_7_method_30_code 178 = .ok (.iconst 2, 1) := by decide +kernel
theorem nd_M_lookThrough_179 : decode prog_7_method_30_code 179 = .ok (.iastore, 1) := by decide +kernel
theorem nd_M_lookThrough_180 : decode prog_7_method_30_code 180 = .ok (.goto 13, 3) := by decide +kernel
theorem nd_M_lookThrough_183 : decode prog_7_method_30_code 183 = .ok (.aload_n 0, 1) := by decide +kernel
theorem nd_M_lookThrough_184 : decode prog_7_method_30_code 184 = .ok (.getfield 91, 3) := by decide +kernel
theorem nd_M_lookThrough_187 : decode prog_7_method_30_code 187 = .ok (.iload_n 1, 1) := by decide +kernel
theorem nd_M_lookThrough_188 : decode prog_7_method_30_code 188 = .ok (.dup2, 1) := by decide +kernel
theorem nd_M_lookThrough_189 : decode prog_7_method_30_code 189 = .ok (.iaload, 1) := by decide +kernel
theorem nd_M_lookThrough_190 : decode prog_7_method_30_code 190 = .ok (.iconst 1, 1) := by decide +kernel
theorem nd_M_lookThrough_191 : decode prog_7_method_30_code 191 = .ok (.iadd, 1) := by decide +kernel
theorem nd_M_lookThrough_192 : decode prog_7_method_30_code 192 = .ok (.iastore, 1) := by decide +kernel
theorem nd_M_lookThrough_193 : decode prog_7_method_30_code 193 = .ok (.return_, 1) := by decide +kernel
theorem nd_M_worked_0 : decode prog_7_method_31_code 0 = .ok (.aload_n 0, 1) := by decide +kernel
theorem nd_M_worked_1 : decode prog_7_method_31_code 1 = .ok (.iload_n 2, 1) := by decide +kernel
theorem nd_M_worked_2 : decode prog_7_method_31_code 2 = .ok (.iconst 0, 1) := by decide +kernel
theorem nd_M_worked_3 : decode prog_7_method_31_code 3 = .ok (.invokevirtual 210, 3) := by decide +kernel
theorem nd_M_worked_6 : decode prog_7_method_31_code 6 = .ok (.aload_n 0, 1) := by decide +kernel
theorem nd_M_worked_7 : decode prog_7_method_31_code 7 = .ok (.getfield 109, 3) := by decide +kernel
theorem nd_M_worked_10 : decode prog_7_method_31_code 10 = .ok (.iload_n 1, 1) := by decide +kernel
theorem nd_M_worked_11 : decode prog_7_method_31_code 11 = .ok (.baload, 1) := by decide +kernel
theorem nd_M_worked_12 : decode prog_7_method_31_code 12 = .ok (.ifCond .eq 7, 3) := by decide +kernel
theorem nd_M_worked_15 : decode prog_7_method_31_code 15 = .ok (.iconst 0, 1) := by decide +kernel
theorem nd_M_worked_16 : decode prog_7_method_31_code 16 = .ok (.goto 4, 3) := by decide +kernel
theorem nd_M_worked_19 : decode prog_7_method_31_code 19 = .ok (.iconst 2, 1) := by decide +kernel
theorem nd_M_worked_20 : decode prog_7_method_31_code 20 = .ok (.istore 5, 2) := by decide +kernel
theorem nd_M_worked_22 : decode prog_7_method_31_code 22 = .ok (.iconst 0, 1) := by decide +kernel
theorem nd_M_worked_23 : decode prog_7_method_31_code 23 = .ok (.istore 6, 2) := by decide +kernel
theorem nd_M_worked_25 : decode prog_7_method_31_code 25 = .ok (.iload 6, 2) := by decide +kernel
theorem nd_M_worked_27 : decode prog_7_method_31_code 27 = .ok (.aload_n 0, 1) := by decide +kernel
theorem nd_M_worked_28 : decode prog_7_method_31_code 28 = .ok (.getfield 100, 3) := by decide +kernel
theorem nd_M_worked_31 : decode prog_7_method_31_code 31 = .ok (.iload_n 1, 1) := by decide +kernel
theorem nd_M_worked_32 : decode prog_7_method_31_code 32 = .ok (.iaload, 1) := by decide +kernel
theorem nd_M_worked_33 : decode prog_7_method_31_code 33 = .ok (.if_icmp .ge 70, 3) := by decide +kernel
theorem nd_M_worked_36 : decode prog_7_method_31_code 36 = .ok (.aload_n 0, 1) := by decide +kernel
theorem nd_M_worked_37 : decode prog_7_method_31_code 37 = .ok (.getfield 103, 3) := by decide +kernel
theorem nd_M_worked_40 : decode prog_7_method_31_code 40 = .ok (.bipush 12, 2) := by decide +kernel
theorem nd_M_worked_42 : decode prog_7_method_31_code 42 = .ok (.iload_n 1, 1) := by decide +kernel
theorem nd_M_worked_43 : decode prog_7_method_31_code 43 = .ok (.imul, 1) := by decide +kernel
theorem nd_M_worked_44 : decode prog_7_method_31_code 44 = .ok (.iload 6, 2) := by decide +kernel
theorem nd_M_worked_46 : decode prog_7_method_31_code 46 = .ok (.iadd, 1) := by decide +kernel
theorem nd_M_worked_47 : decode prog_7_method_31_code 47 = .ok (.iaload, 1) := by decide +kernel
theorem nd_M_worked_48 : decode prog_7_method_31_code 48 = .ok (.istore 7, 2) := by decide +kernel
theorem nd_M_worked_50 : decode prog_7_method_31_code 50 = .ok (.aload_n 0, 1) := by decide +kernel
theorem nd_M_worked_51 : decode prog_7_method_31_code 51 = .ok (.getfield 73, 3) := by decide +kernel
theorem nd_M_worked_54 : decode prog_7_method_31_code 54 = .ok (.bipush 12, 2) := by decide +kernel
theorem nd_M_worked_56 : decode prog_7_method_31_code 56 = .ok (.iload_n 2, 1) := by decide +kernel
theorem nd_M_worked_57 : decode prog_7_method_31_code 57 = .ok (.imul, 1) := by decide +kernel
theorem nd_M_worked_58 : decode prog_7_method_31_code 58 = .ok (.iload 6, 2) := by decide +kernel
theorem nd_M_worked_60 : decode prog_7_method_31_code 60 = .ok (.iadd, 1) := by decide +kernel
theorem nd_M_worked_61 : decode prog_7_method_31_code 61 = .ok (.iload 7, 2) := by decide +kernel
theorem nd_M_worked_63 : decode prog_7_method_31_code 63 = .ok (.iastore, 1) := by decide +kernel
theorem nd_M_worked_64 : decode prog_7_method_31_code 64 = .ok (.aload_n 0, 1) := by decide +kernel
theorem nd_M_worked_65 : decode prog_7_method_31_code 65 = .ok (.getfield 109, 3) := by decide +kernel
theorem nd_M_worked_68 : decode prog_7_method_31_code 68 = .ok (.iload_n 1, 1) := by decide +kernel
theorem nd_M_worked_69 : decode prog_7_method_31_code 69 = .ok (.baload, 1) := by decide +kernel
theorem nd_M_worked_70 : decode prog_7_method_31_code 70 = .ok (.ifCond .ne 23, 3) := by decide +kernel
theorem nd_M_worked_73 : decode prog_7_method_31_code 73 = .ok (.aload_n 0, 1) := by decide +kernel
theorem nd_M_worked_74 : decode prog_7_method_31_code 74 = .ok (.iload 7, 2) := by decide +kernel
theorem nd_M_worked_76 : decode prog_7_method_31_code 76 = .ok (.invokevirtual 216, 3) := by decide +kernel
theorem nd_M_worked_79 : decode prog_7_method_31_code 79 = .ok (.iload 5, 2) := by decide +kernel
theorem nd_M_worked_81 : decode prog_7_method_31_code 81 = .ok (.if_icmp .ge 12, 3) := by decide +kernel
theorem nd_M_worked_84 : decode prog_7_method_31_code 84 = .ok (.aload_n 0, 1) := by decide +kernel
theorem nd_M_worked_85 : decode prog_7_method_31_code 85 = .ok (.iload 7, 2) := by decide +kernel
theorem nd_M_worked_87 : decode prog_7_method_31_code 87 = .ok (.invokevirtual 216, 3) := by decide +kernel
theorem nd_M_worked_90 : decode prog_7_method_31_code 90 = .ok (.goto 5, 3) := by decide +kernel
theorem nd_M_worked_93 : decode prog_7_method_31_code 93 = .ok (.iload 5, 2) := by decide +kernel
theorem nd_M_worked_95 : decode prog_7_method_31_code 95 = .ok (.istore 5, 2) := by decide +kernel
theorem nd_M_worked_97 : decode prog_7_method_31_code 97 = .ok (.iinc 6 1, 3) := by decide +kernel
theorem nd_M_worked_100 : decode prog_7_method_31_code 100 = .ok (.goto (-75), 3) := by decide +kernel
theorem nd_M_worked_103 : decode prog_7_method_31_code 103 = .ok (.aload_n 0, 1) := by decide +kernel
theorem nd_M_worked_104 : decode prog_7_method_31_code 104 = .ok (.getfield 51, 3) := by decide +kernel
theorem nd_M_worked_107 : decode prog_7_method_31_code 107 = .ok (.iload_n 2, 1) := by decide +kernel
theorem nd_M_worked_108 : decode prog_7_method_31_code 108 = .ok (.baload, 1) := by decide +kernel
theorem nd_M_worked_109 : decode prog_7_method_31_code 109 = .ok (.ifCond .eq 40, 3) := by decide +kernel
theorem nd_M_worked_112 : decode prog_7_method_31_code 112 = .ok (.aload_n 0, 1) := by decide +kernel
theorem nd_M_worked_113 : decode prog_7_method_31_code 113 = .ok (.getfield 54, 3) := by decide +kernel
theorem nd_M_worked_116 : decode prog_7_method_31_code 116 = .ok (.iload_n 2, 1) := by decide +kernel
theorem nd_M_worked_117 : decode prog_7_method_31_code 117 = .ok (.baload, 1) := by decide +kernel
theorem nd_M_worked_118 : decode prog_7_method_31_code 118 = .ok (.ifCond .eq 14, 3) := by decide +kernel
theorem nd_M_worked_121 : decode prog_7_method_31_code 121 = .ok (.aload_n 0, 1) := by decide +kernel
theorem nd_M_worked_122 : decode prog_7_method_31_code 122 = .ok (.getfield 57, 3) := by decide +kernel
theorem nd_M_worked_125 : decode prog_7_method_31_code 125 = .ok (.iload_n 2, 1) := by decide +kernel
theorem nd_M_worked_126 : decode prog_7_method_31_code 126 = .ok (.laload, 1) := by decide +kernel
theorem nd_M_worked_127 : decode prog_7_method_31_code 127 = .ok (.lload_n 3, 1) := by decide +kernel
theorem nd_M_worked_128 : decode prog_7_method_31_code 128 = .ok (.lcmp, 1) := by decide +kernel
theorem nd_M_worked_129 : decode prog_7_method_31_code 129 = .ok (.ifCond .eq 16, 3) := by decide +kernel
theorem nd_M_worked_132 : decode prog_7_method_31_code 132 = .ok (.aload_n 0, 1) := by decide +kernel
theorem nd_M_worked_133 : decode prog_7_method_31_code 133 = .ok (.getfield 61, 3) := by decide +kernel
theorem nd_M_worked_136 : decode prog_7_method_31_code 136 = .ok (.iload_n 2, 1) := by decide +kernel
theorem nd_M_worked_137 : decode prog_7_method_31_code 137 = .ok (.iaload, 1) := by decide +kernel
theorem nd_M_worked_138 : decode prog_7_method_31_code 138 = .ok (.aload_n 0, 1) := by decide +kernel
theorem nd_M_worked_139 : decode prog_7_method_31_code 139 = .ok (.getfield 13, 3) := by decide +kernel
theorem nd_M_worked_142 : decode prog_7_method_31_code 142 = .ok (.if_icmp .ne 7, 3) := by decide +kernel
theorem nd_M_worked_145 : decode prog_7_method_31_code 145 = .ok (.iconst 1, 1) := by decide +kernel
theorem nd_M_worked_146 : decode prog_7_method_31_code 146 = .ok (.goto 4, 3) := by decide +kernel
theorem nd_M_worked_149 : decode prog_7_method_31_code 149 = .ok (.iconst 0, 1) := by decide +kernel
theorem nd_M_worked_150 : decode prog_7_method_31_code 150 = .ok (.istore 6, 2) := by decide +kernel
theorem nd_M_worked_152 : decode prog_7_method_31_code 152 = .ok (.aload_n 0, 1) := by decide +kernel
theorem nd_M_worked_153 : decode prog_7_method_31_code 153 = .ok (.getfield 64, 3) := by decide +kernel
theorem nd_M_worked_156 : decode prog_7_method_31_code 156 = .ok (.iload_n 2, 1) := by decide +kernel
theorem nd_M_worked_157 : decode prog_7_method_31_code 157 = .ok (.iload 6, 2) := by decide +kernel
theorem nd_M_worked_159 : decode prog_7_method_31_code 159 = .ok (.ifCond .eq 12, 3) := by decide +kernel
theorem nd_M_worked_162 : decode prog_7_method_31_code 162 = .ok (.aload_n 0, 1) := by decide +kernel
theorem nd_M_worked_163 : decode prog_7_method_31_code 163 = .ok (.getfield 64, 3) := by decide +kernel
theorem nd_M_worked_166 : decode prog_7_method_31_code 166 = .ok (.iload_n 2, 1) := by decide +kernel
theorem nd_M_worked_167 : decode prog_7_method_31_code 167 = .ok (.iaload, 1) := by decide +kernel
theorem nd_M_worked_168 : decode prog_7_method_31_code 168 = .ok (.goto 7, 3) := by decide +kernel
theorem nd_M_worked_171 : decode prog_7_method_31_code 171 = .ok (.aload_n 0, 1) := by decide +kernel
theorem nd_M_worked_172 : decode prog_7_method_31_code 172 = .ok (.getfield 13, 3) := by decide +kernel
theorem nd_M_worked_175 : decode prog_7_method_31_code 175 = .ok (.iastore, 1) := by decide +kernel
theorem nd_M_worked_176 : decode prog_7_method_31_code 176 = .ok (.aload_n 0, 1) := by decide +kernel
theorem nd_M_worked_177 : decode prog_7_method_31_code 177 = .ok (.getfield 51, 3) := by decide +kernel
theorem nd_M_worked_180 : decode prog_7_method_31_code 180 = .ok (.iload_n 2, 1) := by decide +kernel
theorem nd_M_worked_181 : decode prog_7_method_31_code 181 = .ok (.iconst 1, 1) := by decide +kernel
theorem nd_M_worked_182 : decode prog_7_method_31_code 182 = .ok (.bastore, 1) := by decide +kernel
theorem nd_M_worked_183 : decode prog_7_method_31_code 183 = .ok (.aload_n 0, 1) := by decide +kernel
theorem nd_M_worked_184 : decode prog_7_method_31_code 184 = .ok (.getfield 54, 3) := by decide +kernel
theorem nd_M_worked_187 : decode prog_7_method_31_code 187 = .ok (.iload_n 2, 1) := by decide +kernel
theorem nd_M_worked_188 : decode prog_7_method_31_code 188 = .ok (.iconst 1, 1) := by decide +kernel
theorem nd_M_worked_189 : decode prog_7_method_31_code 189 = .ok (.bastore, 1) := by decide +kernel
theorem nd_M_worked_190 : decode prog_7_method_31_code 190 = .ok (.aload_n 0, 1) := by decide +kernel
theorem nd_M_worked_191 : decode prog_7_method_31_code 191 = .ok (.getfield 57, 3) := by decide +kernel
theorem nd_M_worked_194 : decode prog_7_method_31_code 194 = .ok (.iload_n 2, 1) := by decide +kernel
theorem nd_M_worked_195 : decode prog_7_method_31_code 195 = .ok (.lload_n 3, 1) := by decide +kernel
theorem nd_M_worked_196 : decode prog_7_method_31_code 196 = .ok (.lastore, 1) := by decide +kernel
theorem nd_M_worked_197 : decode prog_7_method_31_code 197 = .ok (.aload_n 0, 1) := by decide +kernel
theorem nd_M_worked_198 : decode prog_7_method_31_code 198 = .ok (.getfield 61, 3) := by decide +kernel
theorem nd_M_worked_201 : decode prog_7_method_31_code 201 = .ok (.iload_n 2, 1) := by decide +kernel
theorem nd_M_worked_202 : decode prog_7_method_31_code 202 = .ok (.aload_n 0, 1) := by decide +kernel
theorem nd_M_worked_203 : decode prog_7_method_31_code 203 = .ok (.getfield 13, 3) := by decide +kernel
theorem nd_M_worked_206 : decode prog_7_method_31_code 206 = .ok (.iastore, 1) := by decide +kernel
theorem nd_M_worked_207 : decode prog_7_method_31_code 207 = .ok (.aload_n 0, 1) := by decide +kernel
theorem nd_M_worked_208 : decode prog_7_method_31_code 208 = .ok (.getfield 67, 3) := by decide +kernel
theorem nd_M_worked_211 : decode prog_7_method_31_code 211 = .ok (.iload_n 2, 1) := by decide +kernel
theorem nd_M_worked_212 : decode prog_7_method_31_code 212 = .ok (.iload 5, 2) := by decide +kernel
theorem nd_M_worked_214 : decode prog_7_method_31_code 214 = .ok (.iastore, 1) := by decide +kernel
theorem nd_M_worked_215 : decode prog_7_method_31_code 215 = .ok (.aload_n 0, 1) := by decide +kernel
theorem nd_M_worked_216 : decode prog_7_method_31_code 216 = .ok (.getfield 70, 3) := by decide +kernel
theorem nd_M_worked_219 : decode prog_7_method_31_code 219 = .ok (.iload_n 2, 1) := by decide +kernel
theorem nd_M_worked_220 : decode prog_7_method_31_code 220 = .ok (.aload_n 0, 1) := by decide +kernel
theorem nd_M_worked_221 : decode prog_7_method_31_code 221 = .ok (.getfield 100, 3) := by decide +kernel
theorem nd_M_worked_224 : decode prog_7_method_31_code 224 = .ok (.iload_n 1, 1) := by decide +kernel
theorem nd_M_worked_225 : decode prog_7_method_31_code 225 = .ok (.iaload, 1) := by decide +kernel
theorem nd_M_worked_226 : decode prog_7_method_31_code 226 = .ok (.iastore, 1) := by decide +kernel
theorem nd_M_worked_227 : decode prog_7_method_31_code 227 = .ok (.aload_n 0, 1) := by decide +kernel
theorem nd_M_worked_228 : decode prog_7_method_31_code 228 = .ok (.iload_n 2, 1) := by decide +kernel
theorem nd_M_worked_229 : decode prog_7_method_31_code 229 = .ok (.invokevirtual 228, 3) := by decide +kernel
theorem nd_M_worked_232 : decode prog_7_method_31_code 232 = .ok (.aload_n 0, 1) := by decide +kernel
theorem nd_M_worked_233 : decode prog_7_method_31_code 233 = .ok (.invokevirtual 213, 3) := by decide +kernel
theorem nd_M_worked_236 : decode prog_7_method_31_code 236 = .ok (.return_, 1) := by decide +kernel
theorem nd_M_push_0 : decode prog_7_method_32_code 0 = .ok (.aload_n 0, 1) := by decide +kernel
theorem nd_M_push_1 : decode prog_7_method_32_code 1 = .ok (.getfield 97, 3) := by decide +kernel
theorem nd_M_push_4 : decode prog_7_method_32_code 4 = .ok (.bipush 16, 2) := by decide +kernel
theorem nd_M_push_6 : decode prog_7_method_32_code 6 = .ok (.iload_n 1, 1) := by decide +kernel
theorem nd_M_push_7 : decode prog_7_method_32_code 7 = .ok (.imul, 1) := by decide +kernel
theorem nd_M_push_8 : decode prog_7_method_32_code 8 = .ok (.aload_n 0, 1) := by decide +kernel
theorem nd_M_push_9 : decode prog_7_method_32_code 9 = .ok (.getfield 94, 3) := by decide +kernel
theorem nd_M_push_12 : decode prog_7_method_32_code 12 = .ok (.iload_n 1, 1) := by decide +kernel
theorem nd_M_push_13 : decode prog_7_method_32_code 13 = .ok (.iaload, 1) := by decide +kernel
theorem nd_M_push_14 : decode prog_7_method_32_code 14 = .ok (.iadd, 1) := by decide +kernel
theorem nd_M_push_15 : decode prog_7_method_32_code 15 = .ok (.lload_n 2, 1) := by decide +kernel
theorem nd_M_push_16 : decode prog_7_method_32_code 16 = .ok (.lastore, 1) := by decide +kernel
theorem nd_M_push_17 : decode prog_7_method_32_code 17 = .ok (.aload_n 0, 1) := by decide +kernel
theorem nd_M_push_18 : decode prog_7_method_32_code 18 = .ok (.getfield 94, 3) := by decide +kernel
theorem nd_M_push_21 : decode prog_7_method_32_code 21 = .ok (.iload_n 1, 1) := by decide +kernel
theorem nd_M_push_22 : decode prog_7_method_32_code 22 = .ok (.dup2, 1) := by decide +kernel
theorem nd_M_push_23 : decode prog_7_method_32_code 23 = .ok (.iaload, 1) := by decide +kernel
theorem nd_M_push_24 : decode prog_7_method_32_code 24 = .ok (.iconst 1, 1) := by decide +kernel
theorem nd_M_push_25 : decode prog_7_method_32_code 25 = .ok (.iadd, 1) := by decide +kernel
theorem nd_M_push_26 : decode prog_7_method_32_code 26 = .ok (.iastore, 1) := by decide +kernel
theorem nd_M_push_27 : decode prog_7_method_32_code 27 = .ok (.return_, 1) := by decide +kernel
theorem nd_M_pop_0 : decode prog_7_method_33_code 0 = .ok (.aload_n 0, 1) := by decide +kernel
theorem nd_M_pop_1 : decode prog_7_method_33_code 1 = .ok (.getfield 94, 3) := by decide +kernel
theorem nd_M_pop_4 : decode prog_7_method_33_code 4 = .ok (.iload_n 1, 1) := by decide +kernel
theorem nd_M_pop_5 : decode prog_7_method_33_code 5 = .ok (.dup2, 1) := by decide +kernel
theorem nd_M_pop_6 : decode prog_7_method_33_code 6 = .ok (.iaload, 1) := by decide +kernel
theorem nd_M_pop_7 : decode prog_7_method_33_code 7 = .ok (.iconst 1, 1) := by decide +kernel
theorem nd_M_pop_8 : decode prog_7_method_33_code 8 = .ok (.isub, 1) := by decide +kernel
theorem nd_M_pop_9 : decode prog_7_method_33_code 9 = .ok (.iastore, 1) := by decide +kernel
theorem nd_M_pop_10 : decode prog_7_method_33_code 10 = .ok (.aload_n 0, 1) := by decide +kernel
theorem nd_M_pop_11 : decode prog_7_method_33_code 11 = .ok (.getfield 97, 3) := by decide +kernel
theorem nd_M_pop_14 : decode prog_7_method_33_code 14 = .ok (.bipush 16, 2) := by decide +kernel
theorem nd_M_pop_16 : decode prog_7_method_33_code 16 = .ok (.iload_n 1, 1) := by decide +kernel
theorem nd_M_pop_17 : decode prog_7_method_33_code 17 = .ok (.imul, 1) := by decide +kernel
theorem nd_M_pop_18 : decode prog_7_method_33_code 18 = .ok (.aload_n 0, 1) := by decide +kernel
theorem nd_M_pop_19 : decode prog_7_method_33_code 19 = .ok (.getfield 94, 3) := by decide +kernel
theorem nd_M_pop_22 : decode prog_7_method_33_code 22 = .ok (.iload_n 1, 1) := by decide +kernel
theorem nd_M_pop_23 : decode prog_7_method_33_code 23 = .ok (.iaload, 1) := by decide +kernel
theorem nd_M_pop_24 : decode prog_7_method_33_code 24 = .ok (.iadd, 1) := by decide +kernel
theorem nd_M_pop_25 : decode prog_7_method_33_code 25 = .ok (.laload, 1) := by decide +kernel
theorem nd_M_pop_26 : decode prog_7_method_33_code 26 = .ok (.lreturn, 1) := by decide +kernel
theorem nd_M_advance_0 : decode prog_7_method_34_code 0 = .ok (.aload_n 0, 1) := by decide +kernel
theorem nd_M_advance_1 : decode prog_7_method_34_code 1 = .ok (.getfield 33, 3) := by decide +kernel
theorem nd_M_advance_4 : decode prog_7_method_34_code 4 = .ok (.bipush 40, 2) := by decide +kernel
theorem nd_M_advance_6 : decode prog_7_method_34_code 6 = .ok (.iload_n 2, 1) := by decide +kernel
theorem nd_M_advance_7 : decode prog_7_method_34_code 7 = .ok (.imul, 1) := by decide +kernel
theorem nd_M_advance_8 : decode prog_7_method_34_code 8 = .ok (.aload_n 0, 1) := by decide +kernel
theorem nd_M_advance_9 : decode prog_7_method_34_code 9 = .ok (.getfield 91, 3) := by decide +kernel
theorem nd_M_advance_12 : decode prog_7_method_34_code 12 = .ok (.iload_n 1, 1) := by decide +kernel
theorem nd_M_advance_13 : decode prog_7_method_34_code 13 = .ok (.iaload, 1) := by decide +kernel
theorem nd_M_advance_14 : decode prog_7_method_34_code 14 = .ok (.iadd, 1) := by decide +kernel
theorem nd_M_advance_15 : decode prog_7_method_34_code 15 = .ok (.iaload, 1) := by decide +kernel
theorem nd_M_advance_16 : decode prog_7_method_34_code 16 = .ok (.istore_n 3, 1) := by decide +kernel
theorem nd_M_advance_17 : decode prog_7_method_34_code 17 = .ok (.aload_n 0, 1) := by decide +kernel
theorem nd_M_advance_18 : decode prog_7_method_34_code 18 = .ok (.getfield 36, 3) := by decide +kernel
theorem nd_M_advance_21 : decode prog_7_method_34_code 21 = .ok (.bipush 40, 2) := by decide +kernel
theorem nd_M_advance_23 : decode prog_7_method_34_code 23 = .ok (.iload_n 2, 1) := by decide +kernel
theorem nd_M_advance_24 : decode prog_7_method_34_code 24 = .ok (.imul, 1) := by decide +kernel
theorem nd_M_advance_25 : decode prog_7_method_34_code 25 = .ok (.aload_n 0, 1) := by decide +kernel
theorem nd_M_advance_26 : decode prog_7_method_34_code 26 = .ok (.getfield 91, 3) := by decide +kernel
theorem nd_M_advance_29 : decode prog_7_method_34_code 29 = .ok (.iload_n 1, 1) := by decide +kernel
theorem nd_M_advance_30 : decode prog_7_method_34_code 30 = .ok (.iaload, 1) := by decide +kernel
theorem nd_M_advance_31 : decode prog_7_method_34_code 31 = .ok (.iadd, 1) := by decide +kernel
theorem nd_M_advance_32 : decode prog_7_method_34_code 32 = .ok (.iaload, 1) := by decide +kernel
theorem nd_M_advance_33 : decode prog_7_method_34_code 33 = .ok (.istore 4, 2) := by decide +kernel
theorem nd_M_advance_35 : decode prog_7_method_34_code 35 = .ok (.iload_n 3, 1) := by decide +kernel
theorem nd_M_advance_36 : decode prog_7_method_34_code 36 = .ok (.iconst 1, 1) := by decide +kernel
theorem nd_M_advance_37 : decode prog_7_method_34_code 37 = .ok (.if_icmp .ne 14, 3) := by decide +kernel
theorem nd_M_advance_40 : decode prog_7_method_34_code 40 = .ok (.aload_n 0, 1) := by decide +kernel
theorem nd_M_advance_41 : decode prog_7_method_34_code 41 = .ok (.iload_n 1, 1) := by decide +kernel
theorem nd_M_advance_42 : decode prog_7_method_34_code 42 = .ok (.iload_n 2, 1) := by decide +kernel
theorem nd_M_advance_43 : decode prog_7_method_34_code 43 = .ok (.iload 4, 2) := by decide +kernel
theorem nd_M_advance_45 : decode prog_7_method_34_code 45 = .ok (.invokevirtual 231, 3) := by decide +kernel
theorem nd_M_advance_48 : decode prog_7_method_34_code 48 = .ok (.goto 161, 3) := by decide +kernel
theorem nd_M_advance_51 : decode prog_7_method_34_code 51 = .ok (.iload_n 3, 1) := by decide +kernel
theorem nd_M_advance_52 : decode prog_7_method_34_code 52 = .ok (.iconst 2, 1) := by decide +kernel
theorem nd_M_advance_53 : decode prog_7_method_34_code 53 = .ok (.if_icmp .ne 51, 3) := by decide +kernel
theorem nd_M_advance_56 : decode prog_7_method_34_code 56 = .ok (.aload_n 0, 1) := by decide +kernel
theorem nd_M_advance_57 : decode prog_7_method_34_code 57 = .ok (.getfield 97, 3) := by decide +kernel
theorem nd_M_advance_60 : decode prog_7_method_34_code 60 = .ok (.bipush 16, 2) := by decide +kernel
theorem nd_M_advance_62 : decode prog_7_method_34_code 62 = .ok (.iload_n 1, 1) := by decide +kernel
theorem nd_M_advance_63 : decode prog_7_method_34_code 63 = .ok (.imul, 1) := by decide +kernel
theorem nd_M_advance_64 : decode prog_7_method_34_code 64 = .ok (.aload_n 0, 1) := by decide +kernel
theorem nd_M_advance_65 : decode prog_7_method_34_code 65 = .ok (.getfield 94, 3) := by decide +kernel
theorem nd_M_advance_68 : decode prog_7_method_34_code 68 = .ok (.iload_n 1, 1) := by decide +kernel
theorem nd_M_advance_69 : decode prog_7_method_34_code 69 = .ok (.iaload, 1) := by decide +kernel
theorem nd_M_advance_70 : decode prog_7_method_34_code 70 = .ok (.iadd, 1) := by decide +kernel
theorem nd_M_advance_71 : decode prog_7_method_34_code 71 = .ok (.iconst 1, 1) := by decide +kernel
theorem nd_M_advance_72 : decode prog_7_method_34_code 72 = .ok (.isub, 1) := by decide +kernel
theorem nd_M_advance_73 : decode prog_7_method_34_code 73 = .ok (.laload, 1) := by decide +kernel
theorem nd_M_advance_74 : decode prog_7_method_34_code 74 = .ok (.l2i, 1) := by decide +kernel
theorem nd_M_advance_75 : decode prog_7_method_34_code 75 = .ok (.bipush 12, 2) := by decide +kernel
theorem nd_M_advance_77 : decode prog_7_method_34_code 77 = .ok (.irem, 1) := by decide +kernel
theorem nd_M_advance_78 : decode prog_7_method_34_code 78 = .ok (.istore 5, 2) := by decide +kernel
theorem nd_M_advance_80 : decode prog_7_method_34_code 80 = .ok (.aload_n 0, 1) := by decide +kernel
theorem nd_M_advance_81 : decode prog_7_method_34_code 81 = .ok (.iload_n 1, 1) := by decide +kernel
theorem nd_M_advance_82 : decode prog_7_method_34_code 82 = .ok (.iload_n 2, 1) := by decide +kernel
theorem nd_M_advance_83 : decode prog_7_method_34_code 83 = .ok (.iload 5, 2) := by decide +kernel
theorem nd_M_advance_85 : decode prog_7_method_34_code 85 = .ok (.ifCond .ge 11, 3) := by decide +kernel
theorem nd_M_advance_88 : decode prog_7_method_34_code 88 = .ok (.iload 5, 2) := by decide +kernel
theorem nd_M_advance_90 : decode prog_7_method_34_code 90 = .ok (.bipush 12, 2) := by decide +kernel
theorem nd_M_advance_92 : decode prog_7_method_34_code 92 = .ok (.iadd, 1) := by decide +kernel
theorem nd_M_advance_93 : decode prog_7_method_34_code 93 = .ok (.goto 5, 3) := by decide +kernel
theorem nd_M_advance_96 : decode prog_7_method_34_code 96 = .ok (.iload 5, 2) := by decide +kernel
theorem nd_M_advance_98 : decode prog_7_method_34_code 98 = .ok (.invokevirtual 231, 3) := by decide +kernel
theorem nd_M_advance_101 : decode prog_7_method_34_code 101 = .ok (.goto 108, 3) := by decide +kernel
theorem nd_M_advance_104 : decode prog_7_method_34_code 104 = .ok (.aload_n 0, 1) := by decide +kernel
theorem nd_M_advance_105 : decode prog_7_method_34_code 105 = .ok (.getfield 91, 3) := by decide +kernel
theorem nd_M_advance_108 : decode prog_7_method_34_code 108 = .ok (.iload_n 1, 1) := by decide +kernel
theorem nd_M_advance_109 : decode prog_7_method_34_code 109 = .ok (.dup2, 1) := by decide +kernel
theorem nd_M_advance_110 : decode prog_7_method_34_code 110 = .ok (.iaload, 1) := by decide +kernel
theorem nd_M_advance_111 : decode prog_7_method_34_code 111 = .ok (.iconst 1, 1) := by decide +kernel
theorem nd_M_advance_112 : decode prog_7_method_34_code 112 = .ok (.iadd, 1) := by decide +kernel
theorem nd_M_advance_113 : decode prog_7_method_34_code 113 = .ok (.iastore, 1) := by decide +kernel
theorem nd_M_advance_114 : decode prog_7_method_34_code 114 = .ok (.iload_n 3, 1) := by decide +kernel
theorem nd_M_advance_115 : decode prog_7_method_34_code 115 = .ok (.ifCond .ne 14, 3) := by decide +kernel
theorem nd_M_advance_118 : decode prog_7_method_34_code 118 = .ok (.aload_n 0, 1) := by decide +kernel
theorem nd_M_advance_119 : decode prog_7_method_34_code 119 = .ok (.iload_n 1, 1) := by decide +kernel
theorem nd_M_advance_120 : decode prog_7_method_34_code 120 = .ok (.iload 4, 2) := by decide +kernel
theorem nd_M_advance_122 : decode prog_7_method_34_code 122 = .ok (.i2l, 1) := by decide +kernel
theorem nd_M_advance_123 : decode prog_7_method_34_code 123 = .ok (.invokevirtual 235, 3) := by decide +kernel
theorem nd_M_advance_126 : decode prog_7_method_34_code 126 = .ok (.goto 83, 3) := by decide +kernel
theorem nd_M_advance_129 : decode prog_7_method_34_code 129 = .ok (.iload_n 3, 1) := by decide +kernel
theorem nd_M_advance_130 : decode prog_7_method_34_code 130 = .ok (.iconst 3, 1) := by decide +kernel
theorem nd_M_advance_131 : decode prog_7_method_34_code 131 = .ok (.if_icmp .ne 19, 3) := by decide +kernel
theorem nd_M_advance_134 : decode prog_7_method_34_code 134 = .ok (.aload_n 0, 1) := by decide +kernel
theorem nd_M_advance_135 : decode prog_7_method_34_code 135 = .ok (.iload_n 1, 1) := by decide +kernel
theorem nd_M_advance_136 : decode prog_7_method_34_code 136 = .ok (.aload_n 0, 1) := by decide +kernel
theorem nd_M_advance_137 : decode prog_7_method_34_code 137 = .ok (.iload_n 1, 1) := by decide +kernel
theorem nd_M_advance_138 : decode prog_7_method_34_code 138 = .ok (.invokevirtual 239, 3) := by decide +kernel
theorem nd_M_advance_141 : decode prog_7_method_34_code 141 = .ok (.l2i, 1) := by decide +kernel
theorem nd_M_advance_142 : decode prog_7_method_34_code 142 = .ok (.ineg, 1) := by decide +kernel
theorem nd_M_advance_143 : decode prog_7_method_34_code 143 = .ok (.i2l, 1) := by decide +kernel
theorem nd_M_advance_144 : decode prog_7_method_34_code 144 = .ok (.invokevirtual 235, 3) := by decide +kernel
theorem nd_M_advance_147 : decode prog_7_method_34_code 147 = .ok (.goto 62, 3) := by decide +kernel
theorem nd_M_advance_150 : decode prog_7_method_34_code 150 = .ok (.iload_n 3, 1) := by decide +kernel
theorem nd_M_advance_151 : decode prog_7_method_34_code 151 = .ok (.bipush 9, 2) := by decide +kernel
theorem nd_M_advance_153 : decode prog_7_method_34_code 153 = .ok (.if_icmp .ne 14, 3) := by decide +kernel
theorem nd_M_advance_156 : decode prog_7_method_34_code 156 = .ok (.aload_n 0, 1) := by decide +kernel
theorem nd_M_advance_157 : decode prog_7_method_34_code 157 = .ok (.getfield 91, 3) := by decide +kernel
theorem nd_M_advance_160 : decode prog_7_method_34_code 160 = .ok (.iload_n 1, 1) := by decide +kernel
theorem nd_M_advance_161 : decode prog_7_method_34_code 161 = .ok (.iload 4, 2) := by decide +kernel
theorem nd_M_advance_163 : decode prog_7_method_34_code 163 = .ok (.iastore, 1) := by decide +kernel
theorem nd_M_advance_164 : decode prog_7_method_34_code 164 = .ok (.goto 45, 3) := by decide +kernel
theorem nd_M_advance_167 : decode prog_7_method_34_code 167 = .ok (.iload_n 3, 1) := by decide +kernel
theorem nd_M_advance_168 : decode prog_7_method_34_code 168 = .ok (.bipush 10, 2) := by decide +kernel
theorem nd_M_advance_170 : decode prog_7_method_34_code 170 = .ok (.if_icmp .ne 33, 3) := by decide +kernel
theorem nd_M_advance_173 : decode prog_7_method_34_code 173 = .ok (.aload_n 0, 1) := by decide +kernel
theorem nd_M_advance_174 : decode prog_7_method_34_code 174 = .ok (.getfield 91, 3) := by decide +kernel
theorem nd_M_advance_177 : decode prog_7_method_34_code 177 = .ok (.iload_n 1, 1) := by decide +kernel
theorem nd_M_advance_178 : decode prog_7_method_34_code 178 = .ok (.aload_n 0, 1) := by decide +kernel
theorem nd_M_advance_179 : decode prog_7_method_34_code 179 = .ok (.iload_n 1, 1) := by decide +kernel
theorem nd_M_advance_180 : decode prog_7_method_34_code 180 = .ok (.invokevirtual 239, 3) := by decide +kernel
theorem nd_M_advance_183 : decode prog_7_method_34_code 183 = .ok (.lconst 0, 1) := by decide +kernel
theorem nd_M_advance_184 : decode prog_7_method_34_code 184 = .ok (.lcmp, 1) := by decide +kernel
theorem nd_M_advance_185 : decode prog_7_method_34_code 185 = .ok (.ifCond .ne 8, 3) := by decide +kernel
theorem nd_M_advance_188 : decode prog_7_method_34_code 188 = .ok (.iload 4, 2) := by decide +kernel
theorem nd_M_advance_190 : decode prog_7_method_34_code 190 = .ok (.goto 9, 3) := by decide +kernel
theorem nd_M_advance_193 : decode prog_7_method_34_code 193 = .ok (.aload_n 0, 1) := by decide +kernel
theorem nd_M_advance_194 : decode prog_7_method_34_code 194 = .ok (.getfield 91, 3) := by decide +kernel
theorem nd_M_advance_197 : decode prog_7_method_34_code 197 = .ok (.iload_n 1, 1) := by decide +kernel
theorem nd_M_advance_198 : decode prog_7_method_34_code 198 = .ok (.iaload, 1) := by decide +kernel
theorem nd_M_advance_199 : decode prog_7_method_34_code 199 = .ok (.iastore, 1) := by decide +kernel
theorem nd_M_advance_200 : decode prog_7_method_34_code 200 = .ok (.goto 9, 3) := by decide +kernel
theorem nd_M_advance_203 : decode prog_7_method_34_code 203 = .ok (.aload_n 0, 1) := by decide +kernel
theorem nd_M_advance_204 : decode prog_7_method_34_code 204 = .ok (.iload_n 1, 1) := by decide +kernel
theorem nd_M_advance_205 : decode prog_7_method_34_code 205 = .ok (.iload_n 3, 1) := by decide +kernel
theorem nd_M_advance_206 : decode prog_7_method_34_code 206 = .ok (.invokevirtual 243, 3) := by decide +kernel
theorem nd_M_advance_209 : decode prog_7_method_34_code 209 = .ok (.return_, 1) := by decide +kernel
theorem nd_M_combine_0 : decode prog_7_method_35_code 0 = .ok (.aload_n 0, 1) := by decide +kernel
theorem nd_M_combine_1 : decode prog_7_method_35_code 1 = .ok (.iload_n 1, 1) := by decide +kernel
theorem nd_M_combine_2 : decode prog_7_method_35_code 2 = .ok (.invokevirtual 239, 3) := by decide +kernel
theorem nd_M_combine_5 : decode prog_7_method_35_code 5 = .ok (.l2i, 1) := by decide +kernel
theorem nd_M_combine_6 : decode prog_7_method_35_code 6 = .ok (.istore_n 3, 1) := by decide +kernel
theorem nd_M_combine_7 : decode prog_7_method_35_code 7 = .ok (.aload_n 0, 1) := by decide +kernel
theorem nd_M_combine_8 : decode prog_7_method_35_code 8 = .ok (.iload_n 1, 1) := by decide +kernel
theorem nd_M_combine_9 : decode prog_7_method_35_code 9 = .ok (.invokevirtual 239, 3) := by decide +kernel
theorem nd_M_combine_12 : decode prog_7_method_35_code 12 = .ok (.l2i, 1) := by decide +kernel
theorem nd_M_combine_13 : decode prog_7_method_35_code 13 = .ok (.istore 4, 2) := by decide +kernel
theorem nd_M_combine_15 : decode prog_7_method_35_code 15 = .ok (.aload_n 0, 1) := by decide +kernel
theorem nd_M_combine_16 : decode prog_7_method_35_code 16 = .ok (.iload_n 1, 1) := by decide +kernel
theorem nd_M_combine_17 : decode prog_7_method_35_code 17 = .ok (.iload_n 2, 1) := by decide +kernel
theorem nd_M_combine_18 : decode prog_7_method_35_code 18 = .ok (.iconst 4, 1) := by decide +kernel
theorem nd_M_combine_19 : decode prog_7_method_35_code 19 = .ok (.if_icmp .ne 11, 3) := by decide +kernel
theorem nd_M_combine_22 : decode prog_7_method_35_code 22 = .ok (.iload 4, 2) := by decide +kernel
theorem nd_M_combine_24 : decode prog_7_method_35_code 24 = .ok (.iload_n 3, 1) := by decide +kernel
theorem nd_M_combine_25 : decode prog_7_method_35_code 25 = .ok (.imul, 1) := by decide +kernel
theorem nd_M_combine_26 : decode prog_7_method_35_code 26 = .ok (.i2l, 1) := by decide +kernel
theorem nd_M_combine_27 : decode prog_7_method_35_code 27 = .ok (.goto 62, 3) := by decide +kernel
theorem nd_M_combine_30 : decode prog_7_method_35_code 30 = .ok (.iload_n 2, 1) := by decide +kernel
theorem nd_M_combine_31 : decode prog_7_method_35_code 31 = .ok (.iconst 5, 1) := by decide +kernel
theorem nd_M_combine_32 : decode prog_7_method_35_code 32 = .ok (.if_icmp .ne 11, 3) := by decide +kernel
theorem nd_M_combine_35 : decode prog_7_method_35_code 35 = .ok (.iload 4, 2) := by decide +kernel
theorem nd_M_combine_37 : decode prog_7_method_35_code 37 = .ok (.iload_n 3, 1) := by decide +kernel
theorem nd_M_combine_38 : decode prog_7_method_35_code 38 = .ok (.iadd, 1) := by decide +kernel
theorem nd_M_combine_39 : decode prog_7_method_35_code 39 = .ok (.i2l, 1) := by decide +kernel
theorem nd_M_combine_40 : decode prog_7_method_35_code 40 = .ok (.goto 49, 3) := by decide +kernel
theorem nd_M_combine_43 : decode prog_7_method_35_code 43 = .ok (.iload_n 2, 1) := by decide +kernel
theorem nd_M_combine_44 : decode prog_7_method_35_code 44 = .ok (.bipush 6, 2) := by decide +kernel
theorem nd_M_combine_46 : decode prog_7_method_35_code 46 = .ok (.if_icmp .ne 11, 3) := by decide +kernel
theorem nd_M_combine_49 : decode prog_7_method_35_code 49 = .ok (.iload 4, 2) := by decide +kernel
theorem nd_M_combine_51 : decode prog_7_method_35_code 51 = .ok (.iload_n 3, 1) := by decide +kernel
theorem nd_M_combine_52 : decode prog_7_method_35_code 52 = .ok (.isub, 1) := by decide +kernel
theorem nd_M_combine_53 : decode prog_7_method_35_code 53 = .ok (.i2l, 1) := by decide +kernel
theorem nd_M_combine_54 : decode prog_7_method_35_code 54 = .ok (.goto 35, 3) := by decide +kernel
theorem nd_M_combine_57 : decode prog_7_method_35_code 57 = .ok (.iload_n 2, 1) := by decide +kernel
theorem nd_M_combine_58 : decode prog_7_method_35_code 58 = .ok (.bipush 7, 2) := by decide +kernel
theorem nd_M_combine_60 : decode prog_7_method_35_code 60 = .ok (.if_icmp .ne 18, 3) := by decide +kernel
theorem nd_M_combine_63 : decode prog_7_method_35_code 63 = .ok (.iload 4, 2) := by decide +kernel
theorem nd_M_combine_65 : decode prog_7_method_35_code 65 = .ok (.iload_n 3, 1) := by decide +kernel
theorem nd_M_combine_66 : decode prog_7_method_35_code 66 = .ok (.if_icmp .ge 7, 3) := by decide +kernel
theorem nd_M_combine_69 : decode prog_7_method_35_code 69 = .ok (.iconst 1, 1) := by decide +kernel
theorem nd_M_combine_70 : decode prog_7_method_35_code 70 = .ok (.goto 4, 3) := by decide +kernel
theorem nd_M_combine_73 : decode prog_7_method_35_code 73 = .ok (.iconst 0, 1) := by decide +kernel
theorem nd_M_combine_74 : decode prog_7_method_35_code 74 = .ok (.i2l, 1) := by decide +kernel
theorem nd_M_combine_75 : decode prog_7_method_35_code 75 = .ok (.goto 14, 3) := by decide +kernel
theorem nd_M_combine_78 : decode prog_7_method_35_code 78 = .ok (.iload 4, 2) := by decide +kernel
theorem nd_M_combine_80 : decode prog_7_method_35_code 80 = .ok (.iload_n 3, 1) := by decide +kernel
theorem nd_M_combine_81 : decode prog_7_method_35_code 81 = .ok (.if_icmp .ne 7, 3) := by decide +kernel
theorem nd_M_combine_84 : decode prog_7_method_35_code 84 = .ok (.lconst 1, 1) := by decide +kernel
theorem nd_M_combine_85 : decode prog_7_method_35_code 85 = .ok (.goto 4, 3) := by decide +kernel
theorem nd_M_combine_88 : decode prog_7_method_35_code 88 = .ok (.lconst 0, 1) := by decide +kernel
theorem nd_M_combine_89 : decode prog_7_method_35_code 89 = .ok (.invokevirtual 235, 3) := by decide +kernel
theorem nd_M_combine_92 : decode prog_7_method_35_code 92 = .ok (.return_, 1) := by decide +kernel
theorem nd_M_look_0 : decode prog_7_method_36_code 0 = .ok (.iconst 0, 1) := by decide +kernel
theorem nd_M_look_1 : decode prog_7_method_36_code 1 = .ok (.istore 4, 2) := by decide +kernel
theorem nd_M_look_3 : decode prog_7_method_36_code 3 = .ok (.iconst 0, 1) := by decide +kernel
theorem nd_M_look_4 : decode prog_7_method_36_code 4 = .ok (.istore 5, 2) := by decide +kernel
theorem nd_M_look_6 : decode prog_7_method_36_code 6 = .ok (.iload 5, 2) := by decide +kernel
theorem nd_M_look_8 : decode prog_7_method_36_code 8 = .ok (.aload_n 0, 1) := by decide +kernel
theorem nd_M_look_9 : decode prog_7_method_36_code 9 = .ok (.getfield 100, 3) := by decide +kernel
theorem nd_M_look_12 : decode prog_7_method_36_code 12 = .ok (.iload_n 1, 1) := by decide +kernel
theorem nd_M_look_13 : decode prog_7_method_36_code 13 = .ok (.iaload, 1) := by decide +kernel
theorem nd_M_look_14 : decode prog_7_method_36_code 14 = .ok (.if_icmp .ge 37, 3) := by decide +kernel
theorem nd_M_look_17 : decode prog_7_method_36_code 17 = .ok (.iload 4, 2) := by decide +kernel
theorem nd_M_look_19 : decode prog_7_method_36_code 19 = .ok (.ifCond .ne 19, 3) := by decide +kernel
theorem nd_M_look_22 : decode prog_7_method_36_code 22 = .ok (.aload_n 0, 1) := by decide +kernel
theorem nd_M_look_23 : decode prog_7_method_36_code 23 = .ok (.getfield 103, 3) := by decide +kernel
theorem nd_M_look_26 : decode prog_7_method_36_code 26 = .ok (.bipush 12, 2) := by decide +kernel
theorem nd_M_look_28 : decode prog_7_method_36_code 28 = .ok (.iload_n 1, 1) := by decide +kernel
theorem nd_M_look_29 : decode prog_7_method_36_code 29 = .ok (.imul, 1) := by decide +kernel
theorem nd_M_look_30 : decode prog_7_method_36_code 30 = .ok (.iload 5, 2) := by decide +kernel
theorem nd_M_look_32 : decode prog_7_method_36_code 32 = .ok (.iadd, 1) := by decide +kernel
theorem nd_M_look_33 : decode prog_7_method_36_code 33 = .ok (.iaload, 1) := by decide +kernel
theorem nd_M_look_34 : decode prog_7_method_36_code 34 = .ok (.iload_n 3, 1) := by decide +kernel
theorem nd_M_look_35 : decode prog_7_method_36_code 35 = .ok (.if_icmp .ne 7, 3) := by decide +kernel
theorem nd_M_look_38 : decode prog_7_method_36_code 38 = .ok (.iconst 1, 1) := by decide +kernel
theorem nd_M_look_39 : decode prog_7_method_36_code 39 = .ok (.goto 4, 3) := by decide +kernel
theorem nd_M_look_42 : decode prog_7_method_36_code 42 = .ok (.iconst 0, 1) := by decide +kernel
theorem nd_M_look_43 : decode prog_7_method_36_code 43 = .ok (.istore 4, 2) := by decide +kernel
theorem nd_M_look_45 : decode prog_7_method_36_code 45 = .ok (.iinc 5 1, 3) := by decide +kernel
theorem nd_M_look_48 : decode prog_7_method_36_code 48 = .ok (.goto (-42), 3) := by decide +kernel
theorem nd_M_look_51 : decode prog_7_method_36_code 51 = .ok (.iload 4, 2) := by decide +kernel
theorem nd_M_look_53 : decode prog_7_method_36_code 53 = .ok (.ifCond .ne 30, 3) := by decide +kernel
theorem nd_M_look_56 : decode prog_7_method_36_code 56 = .ok (.aload_n 0, 1) := by decide +kernel
theorem nd_M_look_57 : decode prog_7_method_36_code 57 = .ok (.getfield 103, 3) := by decide +kernel
theorem nd_M_look_60 : decode prog_7_method_36_code 60 = .ok (.bipush 12, 2) := by decide +kernel
theorem nd_M_look_62 : decode prog_7_method_36_code 62 = .ok (.iload_n 1, 1) := by decide +kernel
theorem nd_M_look_63 : decode prog_7_method_36_code 63 = .ok (.imul, 1) := by decide +kernel
theorem nd_M_look_64 : decode prog_7_method_36_code 64 = .ok (.aload_n 0, 1) := by decide +kernel
theorem nd_M_look_65 : decode prog_7_method_36_code 65 = .ok (.getfield 100, 3) := by decide +kernel
theorem nd_M_look_68 : decode prog_7_method_36_code 68 = .ok (.iload_n 1, 1) := by decide +kernel
theorem nd_M_look_69 : decode prog_7_method_36_code 69 = .ok (.iaload, 1) := by decide +kernel
theorem nd_M_look_70 : decode prog_7_method_36_code 70 = .ok (.iadd, 1) := by decide +kernel
theorem nd_M_look_71 : decode prog_7_method_36_code 71 = .ok (.iload_n 3, 1) := by decide +kernel
theorem nd_M_look_72 : decode prog_7_method_36_code 72 = .ok (.iastore, 1) := by decide +kernel
theorem nd_M_look_73 : decode prog_7_method_36_code 73 = .ok (.aload_n 0, 1) := by decide +kernel
theorem nd_M_look_74 : decode prog_7_method_36_code 74 = .ok (.getfield 100, 3) := by decide +kernel
theorem nd_M_look_77 : decode prog_7_method_36_code 77 = .ok (.iload_n 1, 1) := by decide +kernel
theorem nd_M_look_78 : decode prog_7_method_36_code 78 = .ok (.dup2, 1) := by decide +kernel
theorem nd_M_look_79 : decode prog_7_method_36_code 79 = .ok (.iaload, 1) := by decide +kernel
theorem nd_M_look_80 : decode prog_7_method_36_code 80 = .ok (.iconst 1, 1) := by decide +kernel
theorem nd_M_look_81 : decode prog_7_method_36_code 81 = .ok (.iadd, 1) := by decide +kernel
theorem nd_M_look_82 : decode prog_7_method_36_code 82 = .ok (.iastore, 1) := by decide +kernel
theorem nd_M_look_83 : decode prog_7_method_36_code 83 = .ok (.aload_n 0, 1) := by decide +kernel
theorem nd_M_look_84 : decode prog_7_method_36_code 84 = .ok (.getfield 106, 3) := by decide +kernel
theorem nd_M_look_87 : decode prog_7_method_36_code 87 = .ok (.iload_n 3, 1) := by decide +kernel
theorem nd_M_look_88 : decode prog_7_method_36_code 88 = .ok (.baload, 1) := by decide +kernel
theorem nd_M_look_89 : decode prog_7_method_36_code 89 = .ok (.ifCond .eq 22, 3) := by decide +kernel
theorem nd_M_look_92 : decode prog_7_method_36_code 92 = .ok (.aload_n 0, 1) := by decide +kernel
theorem nd_M_look_93 : decode prog_7_method_36_code 93 = .ok (.getfield 109, 3) := by decide +kernel
theorem nd_M_look_96 : decode prog_7_method_36_code 96 = .ok (.iload_n 1, 1) := by decide +kernel
theorem nd_M_look_97 : decode prog_7_method_36_code 97 = .ok (.iconst 1, 1) := by decide +kernel
theorem nd_M_look_98 : decode prog_7_method_36_code 98 = .ok (.bastore, 1) := by decide +kernel
theorem nd_M_look_99 : decode prog_7_method_36_code 99 = .ok (.aload_n 0, 1) := by decide +kernel
theorem nd_M_look_100 : decode prog_7_method_36_code 100 = .ok (.iload_n 1, 1) := by decide +kernel
theorem nd_M_look_101 : decode prog_7_method_36_code 101 = .ok (.iload_n 2, 1) := by decide +kernel
theorem nd_M_look_102 : decode prog_7_method_36_code 102 = .ok (.ldc2_w 246, 3) := by decide +kernel
theorem nd_M_look_105 : decode prog_7_method_36_code 105 = .ok (.invokevirtual 203, 3) := by decide +kernel
theorem nd_M_look_108 : decode prog_7_method_36_code 108 = .ok (.goto 156, 3) := by decide +kernel
theorem nd_M_look_111 : decode prog_7_method_36_code 111 = .ok (.aload_n 0, 1) := by decide +kernel
theorem nd_M_look_112 : decode prog_7_method_36_code 112 = .ok (.iload_n 3, 1) := by decide +kernel
theorem nd_M_look_113 : decode prog_7_method_36_code 113 = .ok (.invokevirtual 219, 3) := by decide +kernel
theorem nd_M_look_116 : decode prog_7_method_36_code 116 = .ok (.ifCond .ne 12, 3) := by decide +kernel
theorem nd_M_look_119 : decode prog_7_method_36_code 119 = .ok (.aload_n 0, 1) := by decide +kernel
theorem nd_M_look_120 : decode prog_7_method_36_code 120 = .ok (.iload_n 3, 1) := by decide +kernel
theorem nd_M_look_121 : decode prog_7_method_36_code 121 = .ok (.iconst 0, 1) := by decide +kernel
theorem nd_M_look_122 : decode prog_7_method_36_code 122 = .ok (.invokevirtual 222, 3) := by decide +kernel
theorem nd_M_look_125 : decode prog_7_method_36_code 125 = .ok (.goto 139, 3) := by decide +kernel
theorem nd_M_look_128 : decode prog_7_method_36_code 128 = .ok (.aload_n 0, 1) := by decide +kernel
theorem nd_M_look_129 : decode prog_7_method_36_code 129 = .ok (.getfield 20, 3) := by decide +kernel
theorem nd_M_look_132 : decode prog_7_method_36_code 132 = .ok (.iload_n 3, 1) := by decide +kernel
theorem nd_M_look_133 : decode prog_7_method_36_code 133 = .ok (.baload, 1) := by decide +kernel
theorem nd_M_look_134 : decode prog_7_method_36_code 134 = .ok (.ifCond .eq 21, 3) := by decide +kernel
theorem nd_M_look_137 : decode prog_7_method_36_code 137 = .ok (.aload_n 0, 1) := by decide +kernel
theorem nd_M_look_138 : decode prog_7_method_36_code 138 = .ok (.getfield 54, 3) := by decide +kernel
theorem nd_M_look_141 : decode prog_7_method_36_code 141 = .ok (.iload_n 3, 1) := by decide +kernel
theorem nd_M_look_142 : decode prog_7_method_36_code 142 = .ok (.baload, 1) := by decide +kernel
theorem nd_M_look_143 : decode prog_7_method_36_code 143 = .ok (.ifCond .ne 12, 3) := by decide +kernel
theorem nd_M_look_146 : decode prog_7_method_36_code 146 = .ok (.aload_n 0, 1) := by decide +kernel
theorem nd_M_look_147 : decode prog_7_method_36_code 147 = .ok (.iload_n 3, 1) := by decide +kernel
theorem nd_M_look_148 : decode prog_7_method_36_code 148 = .ok (.iconst 2, 1) := by decide +kernel
theorem nd_M_look_149 : decode prog_7_method_36_code 149 = .ok (.invokevirtual 222, 3) := by decide +kernel
theorem nd_M_look_152 : decode prog_7_method_36_code 152 = .ok (.goto 112, 3) := by decide +kernel
theorem nd_M_look_155 : decode prog_7_method_36_code 155 = .ok (.aload_n 0, 1) := by decide +kernel
theorem nd_M_look_156 : decode prog_7_method_36_code 156 = .ok (.getfield 20, 3) := by decide +kernel
theorem nd_M_look_159 : decode prog_7_method_36_code 159 = .ok (.iload_n 3, 1) := by decide +kernel
theorem nd_M_look_160 : decode prog_7_method_36_code 160 = .ok (.baload, 1) := by decide +kernel
theorem nd_M_look_161 : decode prog_7_method_36_code 161 = .ok (.ifCond .eq 8, 3) := by decide +kernel
theorem nd_M_look_164 : decode prog_7_method_36_code 164 = .ok (.aload_n 0, 1) := by decide +kernel
theorem nd_M_look_165 : decode prog_7_method_36_code 165 = .ok (.iload_n 3, 1) := by decide +kernel
theorem nd_M_look_166 : decode prog_7_method_36_code 166 = .ok (.invokevirtual 228, 3) := by decide +kernel
theorem nd_M_look_169 : decode prog_7_method_36_code 169 = .ok (.aload_n 0, 1) := by decide +kernel
theorem nd_M_look_170 : decode prog_7_method_36_code 170 = .ok (.getfield 20, 3) := by decide +kernel
theorem nd_M_look_173 : decode prog_7_method_36_code 173 = .ok (.iload_n 3, 1) := by decide +kernel
theorem nd_M_look_174 : decode prog_7_method_36_code 174 = .ok (.baload, 1) := by decide +kernel
theorem nd_M_look_175 : decode prog_7_method_36_code 175 = .ok (.ifCond .eq 12, 3) := by decide +kernel
theorem nd_M_look_178 : decode prog_7_method_36_code 178 = .ok (.aload_n 0, 1) := by decide +kernel
theorem nd_M_look_179 : decode prog_7_method_36_code 179 = .ok (.getfield 57, 3) := by decide +kernel
theorem nd_M_look_182 : decode prog_7_method_36_code 182 = .ok (.iload_n 3, 1) := by decide +kernel
theorem nd_M_look_183 : decode prog_7_method_36_code 183 = .ok (.laload, 1) := by decide +kernel
theorem nd_M_look_184 : decode prog_7_method_36_code 184 = .ok (.goto 10, 3) := by decide +kernel
theorem nd_M_look_187 : decode prog_7_method_36_code 187 = .ok (.aload_n 0, 1) := by decide +kernel
theorem nd_M_look_188 : decode prog_7_method_36_code 188 = .ok (.getfield 42, 3) := by decide +kernel
theorem nd_M_look_191 : decode prog_7_method_36_code 191 = .ok (.iload_n 3, 1) := by decide +kernel
theorem nd_M_look_192 : decode prog_7_method_36_code 192 = .ok (.iaload, 1) := by decide +kernel
theorem nd_M_look_193 : decode prog_7_method_36_code 193 = .ok (.i2l, 1) := by decide +kernel
theorem nd_M_look_194 : decode prog_7_method_36_code 194 = .ok (.lstore 5, 2) := by decide +kernel
theorem nd_M_look_196 : decode prog_7_method_36_code 196 = .ok (.lload 5, 2) := by decide +kernel
theorem nd_M_look_198 : decode prog_7_method_36_code 198 = .ok (.ldc2_w 246, 3) := by decide +kernel
theorem nd_M_look_201 : decode prog_7_method_36_code 201 = .ok (.lcmp, 1) := by decide +kernel
theorem nd_M_look_202 : decode prog_7_method_36_code 202 = .ok (.ifCond .ne 15, 3) := by decide +kernel
theorem nd_M_look_205 : decode prog_7_method_36_code 205 = .ok (.aload_n 0, 1) := by decide +kernel
theorem nd_M_look_206 : decode prog_7_method_36_code 206 = .ok (.iload_n 1, 1) := by decide +kernel
theorem nd_M_look_207 : decode prog_7_method_36_code 207 = .ok (.iload_n 2, 1) := by decide +kernel
theorem nd_M_look_208 : decode prog_7_method_36_code 208 = .ok (.ldc2_w 246, 3) := by decide +kernel
theorem nd_M_look_211 : decode prog_7_method_36_code 211 = .ok (.invokevirtual 203, 3) := by decide +kernel
theorem nd_M_look_214 : decode prog_7_method_36_code 214 = .ok (.goto 50, 3) := by decide +kernel
theorem nd_M_look_217 : decode prog_7_method_36_code 217 = .ok (.aload_n 0, 1) := by decide +kernel
theorem nd_M_look_218 : decode prog_7_method_36_code 218 = .ok (.getfield 33, 3) := by decide +kernel
theorem nd_M_look_221 : decode prog_7_method_36_code 221 = .ok (.bipush 40, 2) := by decide +kernel
theorem nd_M_look_223 : decode prog_7_method_36_code 223 = .ok (.iload_n 2, 1) := by decide +kernel
theorem nd_M_look_224 : decode prog_7_method_36_code 224 = .ok (.imul, 1) := by decide +kernel
theorem nd_M_look_225 : decode prog_7_method_36_code 225 = .ok (.aload_n 0, 1) := by decide +kernel
theorem nd_M_look_226 : decode prog_7_method_36_code 226 = .ok (.getfield 91, 3) := by decide +kernel
theorem nd_M_look_229 : decode prog_7_method_36_code 229 = .ok (.iload_n 1, 1) := by decide +kernel
theorem nd_M_look_230 : decode prog_7_method_36_code 230 = .ok (.iaload, 1) := by decide +kernel
theorem nd_M_look_231 : decode prog_7_method_36_code 231 = .ok (.iadd, 1) := by decide +kernel
theorem nd_M_look_232 : decode prog_7_method_36_code 232 = .ok (.iaload, 1) := by decide +kernel
theorem nd_M_look_233 : decode prog_7_method_36_code 233 = .ok (.iconst 2, 1) := by decide +kernel
theorem nd_M_look_234 : decode prog_7_method_36_code 234 = .ok (.if_icmp .ne 13, 3) := by decide +kernel
theorem nd_M_look_237 : decode prog_7_method_36_code 237 = .ok (.aload_n 0, 1) := by decide +kernel
theorem nd_M_look_238 : decode prog_7_method_36_code 238 = .ok (.getfield 94, 3) := by decide +kernel
theorem nd_M_look_241 : decode prog_7_method_36_code 241 = .ok (.iload_n 1, 1) := by decide +kernel
theorem nd_M_look_242 : decode prog_7_method_36_code 242 = .ok (.dup2, 1) := by decide +kernel
theorem nd_M_look_243 : decode prog_7_method_36_code 243 = .ok (.iaload, 1) := by decide +kernel
theorem nd_M_look_244 : decode prog_7_method_36_code 244 = .ok (.iconst 1, 1) := by decide +kernel
theorem nd_M_look_245 : decode prog_7_method_36_code 245 = .ok (.isub, 1) := by decide +kernel
theorem nd_M_look_246 : decode prog_7_method_36_code 246 = .ok (.iastore, 1) := by decide +kernel
theorem nd_M_look_247 : decode prog_7_method_36_code 247 = .ok (.aload_n 0, 1) := by decide +kernel
theorem nd_M_look_248 : decode prog_7_method_36_code 248 = .ok (.iload_n 1, 1) := by decide +kernel
theorem nd_M_look_249 : decode prog_7_method_36_code 249 = .ok (.lload 5, 2) := by decide +kernel
theorem nd_M_look_251 : decode prog_7_method_36_code 251 = .ok (.invokevirtual 235, 3) := by decide +kernel
theorem nd_M_look_254 : decode prog_7_method_36_code 254 = .ok (.aload_n 0, 1) := by decide +kernel
theorem nd_M_look_255 : decode prog_7_method_36_code 255 = .ok (.getfield 91, 3) := by decide +kernel
theorem nd_M_look_258 : decode prog_7_method_36_code 258 = .ok (.iload_n 1, 1) := by decide +kernel
theorem nd_M_look_259 : decode prog_7_method_36_code 259 = .ok (.dup2, 1) := by decide +kernel
theorem nd_M_look_260 : decode prog_7_method_36_code 260 = .ok (.iaload, 1) := by decide +kernel
theorem nd_M_look_261 : decode prog_7_method_36_code 261 = .ok (.iconst 1, 1) := by decide +kernel
theorem nd_M_look_262 : decode prog_7_method_36_code 262 = .ok (.iadd, 1) := by decide +kernel
theorem nd_M_look_263 : decode prog_7_method_36_code 263 = .ok (.iastore, 1) := by decide +kernel
theorem nd_M_look_264 : decode prog_7_method_36_code 264 = .ok (.return_, 1) := by decide +kernel
theorem nd_M_values_0 : decode prog_7_method_37_code 0 = .ok (.iconst 0, 1) := by decide +kernel
theorem nd_M_values_1 : decode prog_7_method_37_code 1 = .ok (.istore_n 1, 1) := by decide +kernel
theorem nd_M_values_2 : decode prog_7_method_37_code 2 = .ok (.iconst 0, 1) := by decide +kernel
theorem nd_M_values_3 : decode prog_7_method_37_code 3 = .ok (.istore_n 2, 1) := by decide +kernel
theorem nd_M_values_4 : decode prog_7_method_37_code 4 = .ok (.iload_n 2, 1) := by decide +kernel
theorem nd_M_values_5 : decode prog_7_method_37_code 5 = .ok (.bipush 12, 2) := by decide +kernel
theorem nd_M_values_7 : decode prog_7_method_37_code 7 = .ok (.if_icmp .ge 26, 3) := by decide +kernel
theorem nd_M_values_10 : decode prog_7_method_37_code 10 = .ok (.aload_n 0, 1) := by decide +kernel
theorem nd_M_values_11 : decode prog_7_method_37_code 11 = .ok (.getfield 54, 3) := by decide +kernel
theorem nd_M_values_14 : decode prog_7_method_37_code 14 = .ok (.iload_n 2, 1) := by decide +kernel
theorem nd_M_values_15 : decode prog_7_method_37_code 15 = .ok (.baload, 1) := by decide +kernel
theorem nd_M_values_16 : decode prog_7_method_37_code 16 = .ok (.ifCond .eq 9, 3) := by decide +kernel
theorem nd_M_values_19 : decode prog_7_method_37_code 19 = .ok (.iload_n 1, 1) := by decide +kernel
theorem nd_M_values_20 : decode prog_7_method_37_code 20 = .ok (.iconst 1, 1) := by decide +kernel
theorem nd_M_values_21 : decode prog_7_method_37_code 21 = .ok (.iadd, 1) := by decide +kernel
theorem nd_M_values_22 : decode prog_7_method_37_code 22 = .ok (.goto 4, 3) := by decide +kernel
theorem nd_M_values_25 : decode prog_7_method_37_code 25 = .ok (.iload_n 1, 1) := by decide +kernel
theorem nd_M_values_26 : decode prog_7_method_37_code 26 = .ok (.istore_n 1, 1) := by decide +kernel
theorem nd_M_values_27 : decode prog_7_method_37_code 27 = .ok (.iinc 2 1, 3) := by decide +kernel
theorem nd_M_values_30 : decode prog_7_method_37_code 30 = .ok (.goto (-26), 3) := by decide +kernel
theorem nd_M_values_33 : decode prog_7_method_37_code 33 = .ok (.iload_n 1, 1) := by decide +kernel
theorem nd_M_values_34 : decode prog_7_method_37_code 34 = .ok (.ireturn, 1) := by decide +kernel
theorem nd_M_ask_0 : decode prog_7_method_38_code 0 = .ok (.iload_n 1, 1) := by decide +kernel
theorem nd_M_ask_1 : decode prog_7_method_38_code 1 = .ok (.invokestatic 185, 3) := by decide +kernel
theorem nd_M_ask_4 : decode prog_7_method_38_code 4 = .ok (.ifCond .ne 7, 3) := by decide +kernel
theorem nd_M_ask_7 : decode prog_7_method_38_code 7 = .ok (.ldc2_w 248, 3) := by decide +kernel
theorem nd_M_ask_10 : decode prog_7_method_38_code 10 = .ok (.lreturn, 1) := by decide +kernel
theorem nd_M_ask_11 : decode prog_7_method_38_code 11 = .ok (.iconst 0, 1) := by decide +kernel
theorem nd_M_ask_12 : decode prog_7_method_38_code 12 = .ok (.istore_n 2, 1) := by decide +kernel
theorem nd_M_ask_13 : decode prog_7_method_38_code 13 = .ok (.iload_n 2, 1) := by decide +kernel
theorem nd_M_ask_14 : decode prog_7_method_38_code 14 = .ok (.iconst 3, 1) := by decide +kernel
theorem nd_M_ask_15 : decode prog_7_method_38_code 15 = .ok (.if_icmp .ge 16, 3) := by decide +kernel
theorem nd_M_ask_18 : decode prog_7_method_38_code 18 = .ok (.aload_n 0, 1) := by decide +kernel
theorem nd_M_ask_19 : decode prog_7_method_38_code 19 = .ok (.getfield 82, 3) := by decide +kernel
theorem nd_M_ask_22 : decode prog_7_method_38_code 22 = .ok (.iload_n 2, 1) := by decide +kernel
theorem nd_M_ask_23 : decode prog_7_method_38_code 23 = .ok (.iconst 0, 1) := by decide +kernel
theorem nd_M_ask_24 : decode prog_7_method_38_code 24 = .ok (.iastore, 1) := by decide +kernel
theorem nd_M_ask_25 : decode prog_7_method_38_code 25 = .ok (.iinc 2 1, 3) := by decide +kernel
theorem nd_M_ask_28 : decode prog_7_method_38_code 28 = .ok (.goto (-15), 3) := by decide +kernel
theorem nd_M_ask_31 : decode prog_7_method_38_code 31 = .ok (.aload_n 0, 1) := by decide +kernel
theorem nd_M_ask_32 : decode prog_7_method_38_code 32 = .ok (.getfield 20, 3) := by decide +kernel
theorem nd_M_ask_35 : decode prog_7_method_38_code 35 = .ok (.iload_n 1, 1) := by decide +kernel
theorem nd_M_ask_36 : decode prog_7_method_38_code 36 = .ok (.baload, 1) := by decide +kernel
theorem nd_M_ask_37 : decode prog_7_method_38_code 37 = .ok (.ifCond .ne 11, 3) := by decide +kernel
theorem nd_M_ask_40 : decode prog_7_method_38_code 40 = .ok (.aload_n 0, 1) := by decide +kernel
theorem nd_M_ask_41 : decode prog_7_method_38_code 41 = .ok (.getfield 42, 3) := by decide +kernel
theorem nd_M_ask_44 : decode prog_7_method_38_code 44 = .ok (.iload_n 1, 1) := by decide +kernel
theorem nd_M_ask_45 : decode prog_7_method_38_code 45 = .ok (.iaload, 1) := by decide +kernel
theorem nd_M_ask_46 : decode prog_7_method_38_code 46 = .ok (.i2l, 1) := by decide +kernel
theorem nd_M_ask_47 : decode prog_7_method_38_code 47 = .ok (.lreturn, 1) := by decide +kernel
theorem nd_M_ask_48 : decode prog_7_method_38_code 48 = .ok (.aload_n 0, 1) := by decide +kernel
theorem nd_M_ask_49 : decode prog_7_method_38_code 49 = .ok (.iconst 0, 1) := by decide +kernel
theorem nd_M_ask_50 : decode prog_7_method_38_code 50 = .ok (.putfield 191, 3) := by decide +kernel
theorem nd_M_ask_53 : decode prog_7_method_38_code 53 = .ok (.aload_n 0, 1) := by decide +kernel
theorem nd_M_ask_54 : decode prog_7_method_38_code 54 = .ok (.iload_n 1, 1) := by decide +kernel
theorem nd_M_ask_55 : decode prog_7_method_38_code 55 = .ok (.invokevirtual 219, 3) := by decide +kernel
theorem nd_M_ask_58 : decode prog_7_method_38_code 58 = .ok (.ifCond .ne 9, 3) := by decide +kernel
theorem nd_M_ask_61 : decode prog_7_method_38_code 61 = .ok (.aload_n 0, 1) := by decide +kernel
theorem nd_M_ask_62 : decode prog_7_method_38_code 62 = .ok (.iload_n 1, 1) := by decide +kernel
theorem nd_M_ask_63 : decode prog_7_method_38_code 63 = .ok (.iconst 0, 1) := by decide +kernel
theorem nd_M_ask_64 : decode prog_7_method_38_code 64 = .ok (.invokevirtual 222, 3) := by decide +kernel
theorem nd_M_ask_67 : decode prog_7_method_38_code 67 = .ok (.aload_n 0, 1) := by decide +kernel
theorem nd_M_ask_68 : decode prog_7_method_38_code 68 = .ok (.invokevirtual 250, 3) := by decide +kernel
theorem nd_M_ask_71 : decode prog_7_method_38_code 71 = .ok (.aload_n 0, 1) := by decide +kernel
theorem nd_M_ask_72 : decode prog_7_method_38_code 72 = .ok (.getfield 54, 3) := by decide +kernel
theorem nd_M_ask_75 : decode prog_7_method_38_code 75 = .ok (.iload_n 1, 1) := by decide +kernel
theorem nd_M_ask_76 : decode prog_7_method_38_code 76 = .ok (.baload, 1) := by decide +kernel
theorem nd_M_ask_77 : decode prog_7_method_38_code 77 = .ok (.ifCond .ne 9, 3) := by decide +kernel
theorem nd_M_ask_80 : decode prog_7_method_38_code 80 = .ok (.aload_n 0, 1) := by decide +kernel
theorem nd_M_ask_81 : decode prog_7_method_38_code 81 = .ok (.iload_n 1, 1) := by decide +kernel
theorem nd_M_ask_82 : decode prog_7_method_38_code 82 = .ok (.iconst 2, 1) := by decide +kernel
theorem nd_M_ask_83 : decode prog_7_method_38_code 83 = .ok (.invokevirtual 222, 3) := by decide +kernel
theorem nd_M_ask_86 : decode prog_7_method_38_code 86 = .ok (.aload_n 0, 1) := by decide +kernel
theorem nd_M_ask_87 : decode prog_7_method_38_code 87 = .ok (.invokevirtual 250, 3) := by decide +kernel
theorem nd_M_ask_90 : decode prog_7_method_38_code 90 = .ok (.aload_n 0, 1) := by decide +kernel
theorem nd_M_ask_91 : decode prog_7_method_38_code 91 = .ok (.iload_n 1, 1) := by decide +kernel
theorem nd_M_ask_92 : decode prog_7_method_38_code 92 = .ok (.invokevirtual 228, 3) := by decide +kernel
theorem nd_M_ask_95 : decode prog_7_method_38_code 95 = .ok (.aload_n 0, 1) := by decide +kernel
theorem nd_M_ask_96 : decode prog_7_method_38_code 96 = .ok (.getfield 57, 3) := by decide +kernel
theorem nd_M_ask_99 : decode prog_7_method_38_code 99 = .ok (.iload_n 1, 1) := by decide +kernel
theorem nd_M_ask_100 : decode prog_7_method_38_code 100 = .ok (.laload, 1) := by decide +kernel
theorem nd_M_ask_101 : decode prog_7_method_38_code 101 = .ok (.lstore_n 2, 1) := by decide +kernel
theorem nd_M_ask_102 : decode prog_7_method_38_code 102 = .ok (.aload_n 0, 1) := by decide +kernel
theorem nd_M_ask_103 : decode prog_7_method_38_code 103 = .ok (.invokevirtual 253, 3) := by decide +kernel
theorem nd_M_ask_106 : decode prog_7_method_38_code 106 = .ok (.aload_n 0, 1) := by decide +kernel
theorem nd_M_ask_107 : decode prog_7_method_38_code 107 = .ok (.getfield 124, 3) := by decide +kernel
theorem nd_M_ask_110 : decode prog_7_method_38_code 110 = .ok (.if_icmp .le 74, 3) := by decide +kernel
theorem nd_M_ask_113 : decode prog_7_method_38_code 113 = .ok (.iconst (-1), 1) := by decide +kernel
theorem nd_M_ask_114 : decode prog_7_method_38_code 114 = .ok (.istore 4, 2) := by decide +kernel
theorem nd_M_ask_116 : decode prog_7_method_38_code 116 = .ok (.iconst 0, 1) := by decide +kernel
theorem nd_M_ask_117 : decode prog_7_method_38_code 117 = .ok (.istore 5, 2) := by decide +kernel
theorem nd_M_ask_119 : decode prog_7_method_38_code 119 = .ok (.iload 5, 2) := by decide +kernel
theorem nd_M_ask_121 : decode prog_7_method_38_code 121 = .ok (.bipush 12, 2) := by decide +kernel
theorem nd_M_ask_123 : decode prog_7_method_38_code 123 = .ok (.if_icmp .ge 50, 3) := by decide +kernel
theorem nd_M_ask_126 : decode prog_7_method_38_code 126 = .ok (.aload_n 0, 1) := by decide +kernel
theorem nd_M_ask_127 : decode prog_7_method_38_code 127 = .ok (.getfield 54, 3) := by decide +kernel
theorem nd_M_ask_130 : decode prog_7_method_38_code 130 = .ok (.iload 5, 2) := by decide +kernel
theorem nd_M_ask_132 : decode prog_7_method_38_code 132 = .ok (.baload, 1) := by decide +kernel
theorem nd_M_ask_133 : decode prog_7_method_38_code 133 = .ok (.ifCond .eq 30, 3) := by decide +kernel
theorem nd_M_ask_136 : decode prog_7_method_38_code 136 = .ok (.iload 4, 2) := by decide +kernel
theorem nd_M_ask_138 : decode prog_7_method_38_code 138 = .ok (.ifCond .lt 20, 3) := by decide +kernel
theorem nd_M_ask_141 : decode prog_7_method_38_code 141 = .ok (.aload_n 0, 1) := by decide +kernel
theorem nd_M_ask_142 : decode prog_7_method_38_code 142 = .ok (.getfield 76, 3) := by decide +kernel
theorem nd_M_ask_145 : decode prog_7_method_38_code 145 = .ok (.iload 5, 2) := by decide +kernel
theorem nd_M_ask_147 : decode prog_7_method_38_code 147 = .ok (.iaload, 1) := by decide +kernel
theorem nd_M_ask_148 : decode prog_7_method_38_code 148 = .ok (.aload_n 0, 1) := by decide +kernel
theorem nd_M_ask_149 : decode prog_7_method_38_code 149 = .ok (.getfield 76, 3) := by decide +kernel
theorem nd_M_ask_152 : decode prog_7_method_38_code 152 = .ok (.iload 4, 2) := by decide +kernel
theorem nd_M_ask_154 : decode prog_7_method_38_code 154 = .ok (.iaload, 1) := by decide +kernel
theorem nd_M_ask_155 : decode prog_7_method_38_code 155 = .ok (.if_icmp .ge 8, 3) := by decide +kernel
theorem nd_M_ask_158 : decode prog_7_method_38_code 158 = .ok (.iload 5, 2) := by decide +kernel
theorem nd_M_ask_160 : decode prog_7_method_38_code 160 = .ok (.goto 5, 3) := by decide +kernel
theorem nd_M_ask_163 : decode prog_7_method_38_code 163 = .ok (.iload 4, 2) := by decide +kernel
theorem nd_M_ask_165 : decode prog_7_method_38_code 165 = .ok (.istore 4, 2) := by decide +kernel
theorem nd_M_ask_167 : decode prog_7_method_38_code 167 = .ok (.iinc 5 1, 3) := by decide +kernel
theorem nd_M_ask_170 : decode prog_7_method_38_code 170 = .ok (.goto (-51), 3) := by decide +kernel
theorem nd_M_ask_173 : decode prog_7_method_38_code 173 = .ok (.aload_n 0, 1) := by decide +kernel
theorem nd_M_ask_174 : decode prog_7_method_38_code 174 = .ok (.getfield 54, 3) := by decide +kernel
theorem nd_M_ask_177 : decode prog_7_method_38_code 177 = .ok (.iload 4, 2) := by decide +kernel
theorem nd_M_ask_179 : decode prog_7_method_38_code 179 = .ok (.iconst 0, 1) := by decide +kernel
theorem nd_M_ask_180 : decode prog_7_method_38_code 180 = .ok (.bastore, 1) := by decide +kernel
theorem nd_M_ask_181 : decode prog_7_method_38_code 181 = .ok (.goto (-79), 3) := by decide +kernel
theorem nd_M_ask_184 : decode prog_7_method_38_code 184 = .ok (.lload_n 2, 1) := by decide +kernel
theorem nd_M_ask_185 : decode prog_7_method_38_code 185 = .ok (.lreturn, 1) := by decide +kernel
theorem nd_M_revision_0 : decode prog_7_method_39_code 0 = .ok (.aload_n 0, 1) := by decide +kernel
theorem nd_M_revision_1 : decode prog_7_method_39_code 1 = .ok (.getfield 13, 3) := by decide +kernel
theorem nd_M_revision_4 : decode prog_7_method_39_code 4 = .ok (.ireturn, 1) := by decide +kernel
theorem nd_M_changed_0 : decode prog_7_method_40_code 0 = .ok (.iload_n 1, 1) := by decide +kernel
theorem nd_M_changed_1 : decode prog_7_method_40_code 1 = .ok (.ifCond .lt 8, 3) := by decide +kernel
theorem nd_M_changed_4 : decode prog_7_method_40_code 4 = .ok (.iload_n 1, 1) := by decide +kernel
theorem nd_M_changed_5 : decode prog_7_method_40_code 5 = .ok (.iconst 2, 1) := by decide +kernel
theorem nd_M_changed_6 : decode prog_7_method_40_code 6 = .ok (.if_icmp .le 7, 3) := by decide +kernel
theorem nd_M_changed_9 : decode prog_7_method_40_code 9 = .ok (.iconst (-1), 1) := by decide +kernel
theorem nd_M_changed_10 : decode prog_7_method_40_code 10 = .ok (.goto 9, 3) := by decide +kernel
theorem nd_M_changed_13 : decode prog_7_method_40_code 13 = .ok (.aload_n 0, 1) := by decide +kernel
theorem nd_M_changed_14 : decode prog_7_method_40_code 14 = .ok (.getfield 17, 3) := by decide +kernel
theorem nd_M_changed_17 : decode prog_7_method_40_code 17 = .ok (.iload_n 1, 1) := by decide +kernel
theorem nd_M_changed_18 : decode prog_7_method_40_code 18 = .ok (.iaload, 1) := by decide +kernel
theorem nd_M_changed_19 : decode prog_7_method_40_code 19 = .ok (.ireturn, 1) := by decide +kernel
theorem nd_M_note_0 : decode prog_7_method_41_code 0 = .ok (.iload_n 1, 1) := by decide +kernel
theorem nd_M_note_1 : decode prog_7_method_41_code 1 = .ok (.invokestatic 185, 3) := by decide +kernel
theorem nd_M_note_4 : decode prog_7_method_41_code 4 = .ok (.ifCond .eq 13, 3) := by decide +kernel
theorem nd_M_note_7 : decode prog_7_method_41_code 7 = .ok (.iload_n 2, 1) := by decide +kernel
theorem nd_M_note_8 : decode prog_7_method_41_code 8 = .ok (.ifCond .lt 9, 3) := by decide +kernel
theorem nd_M_note_11 : decode prog_7_method_41_code 11 = .ok (.iload_n 2, 1) := by decide +kernel
theorem nd_M_note_12 : decode prog_7_method_41_code 12 = .ok (.bipush 7, 2) := by decide +kernel
theorem nd_M_note_14 : decode prog_7_method_41_code 14 = .ok (.if_icmp .le 5, 3) := by decide +kernel
theorem nd_M_note_17 : decode prog_7_method_41_code 17 = .ok (.iconst (-1), 1) := by decide +kernel
theorem nd_M_note_18 : decode prog_7_method_41_code 18 = .ok (.ireturn, 1) := by decide +kernel
theorem nd_M_note_19 : decode prog_7_method_41_code 19 = .ok (.iload_n 2, 1) := by decide +kernel
theorem nd_M_note_20 : decode prog_7_method_41_code 20 = .ok (.iconst 3, 1) := by decide +kernel
theorem nd_M_note_21 : decode prog_7_method_41_code 21 = .ok (.if_icmp .ge 14, 3) := by decide +kernel
theorem nd_M_note_24 : decode prog_7_method_41_code 24 = .ok (.aload_n 0, 1) := by decide +kernel
theorem nd_M_note_25 : decode prog_7_method_41_code 25 = .ok (.getfield 79, 3) := by decide +kernel
theorem nd_M_note_28 : decode prog_7_method_41_code 28 = .ok (.iconst 3, 1) := by decide +kernel
theorem nd_M_note_29 : decode prog_7_method_41_code 29 = .ok (.iload_n 1, 1) := by decide +kernel
theorem nd_M_note_30 : decode prog_7_method_41_code 30 = .ok (.imul, 1) := by decide +kernel
theorem nd_M_note_31 : decode prog_7_method_41_code 31 = .ok (.iload_n 2, 1) := by decide +kernel
theorem nd_M_note_32 : decode prog_7_method_41_code 32 = .ok (.iadd, 1) := by decide +kernel
theorem nd_M_note_33 : decode prog_7_method_41_code 33 = .ok (.iaload, 1) := by decide +kernel
theorem nd_M_note_34 : decode prog_7_method_41_code 34 = .ok (.ireturn, 1) := by decide +kernel
theorem nd_M_note_35 : decode prog_7_method_41_code 35 = .ok (.aload_n 0, 1) := by decide +kernel
theorem nd_M_note_36 : decode prog_7_method_41_code 36 = .ok (.getfield 20, 3) := by decide +kernel
theorem nd_M_note_39 : decode prog_7_method_41_code 39 = .ok (.iload_n 1, 1) := by decide +kernel
theorem nd_M_note_40 : decode prog_7_method_41_code 40 = .ok (.baload, 1) := by decide +kernel
theorem nd_M_note_41 : decode prog_7_method_41_code 41 = .ok (.istore_n 3, 1) := by decide +kernel
theorem nd_M_note_42 : decode prog_7_method_41_code 42 = .ok (.iload_n 3, 1) := by decide +kernel
theorem nd_M_note_43 : decode prog_7_method_41_code 43 = .ok (.ifCond .eq 14, 3) := by decide +kernel
theorem nd_M_note_46 : decode prog_7_method_41_code 46 = .ok (.aload_n 0, 1) := by decide +kernel
theorem nd_M_note_47 : decode prog_7_method_41_code 47 = .ok (.getfield 51, 3) := by decide +kernel
theorem nd_M_note_50 : decode prog_7_method_41_code 50 = .ok (.iload_n 1, 1) := by decide +kernel
theorem nd_M_note_51 : decode prog_7_method_41_code 51 = .ok (.baload, 1) := by decide +kernel
theorem nd_M_note_52 : decode prog_7_method_41_code 52 = .ok (.ifCond .ne 5, 3) := by decide +kernel
theorem nd_M_note_55 : decode prog_7_method_41_code 55 = .ok (.iconst 0, 1) := by decide +kernel
theorem nd_M_note_56 : decode prog_7_method_41_code 56 = .ok (.ireturn, 1) := by decide +kernel
theorem nd_M_note_57 : decode prog_7_method_41_code 57 = .ok (.iload_n 2, 1) := by decide +kernel
theorem nd_M_note_58 : decode prog_7_method_41_code 58 = .ok (.tableswitch 72 3 6 #[30, 36, 51, 57], 30) := by decide +kernel
theorem nd_M_note_88 : decode prog_7_method_41_code 88 = .ok (.aload_n 0, 1) := by decide +kernel
theorem nd_M_note_89 : decode prog_7_method_41_code 89 = .ok (.iload_n 1, 1) := by decide +kernel
theorem nd_M_note_90 : decode prog_7_method_41_code 90 = .ok (.invokevirtual 225, 3) := by decide +kernel
theorem nd_M_note_93 : decode prog_7_method_41_code 93 = .ok (.ireturn, 1) := by decide +kernel
theorem nd_M_note_94 : decode prog_7_method_41_code 94 = .ok (.iload_n 3, 1) := by decide +kernel
theorem nd_M_note_95 : decode prog_7_method_41_code 95 = .ok (.ifCond .eq 12, 3) := by decide +kernel
theorem nd_M_note_98 : decode prog_7_method_41_code 98 = .ok (.aload_n 0, 1) := by decide +kernel
theorem nd_M_note_99 : decode prog_7_method_41_code 99 = .ok (.getfield 61, 3) := by decide +kernel
theorem nd_M_note_102 : decode prog_7_method_41_code 102 = .ok (.iload_n 1, 1) := by decide +kernel
theorem nd_M_note_103 : decode prog_7_method_41_code 103 = .ok (.iaload, 1) := by decide +kernel
theorem nd_M_note_104 : decode prog_7_method_41_code 104 = .ok (.goto 4, 3) := by decide +kernel
theorem nd_M_note_107 : decode prog_7_method_41_code 107 = .ok (.iconst 0, 1) := by decide +kernel
theorem nd_M_note_108 : decode prog_7_method_41_code 108 = .ok (.ireturn, 1) := by decide +kernel
theorem nd_M_note_109 : decode prog_7_method_41_code 109 = .ok (.aload_n 0, 1) := by decide +kernel
theorem nd_M_note_110 : decode prog_7_method_41_code 110 = .ok (.iload_n 1, 1) := by decide +kernel
theorem nd_M_note_111 : decode prog_7_method_41_code 111 = .ok (.invokevirtual 216, 3) := by decide +kernel
theorem nd_M_note_114 : decode prog_7_method_41_code 114 = .ok (.ireturn, 1) := by decide +kernel
theorem nd_M_note_115 : decode prog_7_method_41_code 115 = .ok (.iload_n 3, 1) := by decide +kernel
theorem nd_M_note_116 : decode prog_7_method_41_code 116 = .ok (.ifCond .eq 12, 3) := by decide +kernel
theorem nd_M_note_119 : decode prog_7_method_41_code 119 = .ok (.aload_n 0, 1) := by decide +kernel
theorem nd_M_note_120 : decode prog_7_method_41_code 120 = .ok (.getfield 70, 3) := by decide +kernel
theorem nd_M_note_123 : decode prog_7_method_41_code 123 = .ok (.iload_n 1, 1) := by decide +kernel
theorem nd_M_note_124 : decode prog_7_method_41_code 124 = .ok (.iaload, 1) := by decide +kernel
theorem nd_M_note_125 : decode prog_7_method_41_code 125 = .ok (.goto 4, 3) := by decide +kernel
theorem nd_M_note_128 : decode prog_7_method_41_code 128 = .ok (.iconst 0, 1) := by decide +kernel
theorem nd_M_note_129 : decode prog_7_method_41_code 129 = .ok (.ireturn, 1) := by decide +kernel
theorem nd_M_note_130 : decode prog_7_method_41_code 130 = .ok (.iload_n 3, 1) := by decide +kernel
theorem nd_M_note_131 : decode prog_7_method_41_code 131 = .ok (.ifCond .eq 12, 3) := by decide +kernel
theorem nd_M_note_134 : decode prog_7_method_41_code 134 = .ok (.aload_n 0, 1) := by decide +kernel
theorem nd_M_note_135 : decode prog_7_method_41_code 135 = .ok (.getfield 54, 3) := by decide +kernel
theorem nd_M_note_138 : decode prog_7_method_41_code 138 = .ok (.iload_n 1, 1) := by decide +kernel
theorem nd_M_note_139 : decode prog_7_method_41_code 139 = .ok (.baload, 1) := by decide +kernel
theorem nd_M_note_140 : decode prog_7_method_41_code 140 = .ok (.ifCond .eq 7, 3) := by decide +kernel
theorem nd_M_note_143 : decode prog_7_method_41_code 143 = .ok (.iconst 1, 1) := by decide +kernel
theorem nd_M_note_144 : decode prog_7_method_41_code 144 = .ok (.goto 4, 3) := by decide +kernel
theorem nd_M_note_147 : decode prog_7_method_41_code 147 = .ok (.iconst 0, 1) := by decide +kernel
theorem nd_M_note_148 : decode prog_7_method_41_code 148 = .ok (.ireturn, 1) := by decide +kernel
theorem nd_M_read_0 : decode prog_7_method_42_code 0 = .ok (.iload_n 1, 1) := by decide +kernel
theorem nd_M_read_1 : decode prog_7_method_42_code 1 = .ok (.invokestatic 185, 3) := by decide +kernel
theorem nd_M_read_4 : decode prog_7_method_42_code 4 = .ok (.ifCond .eq 82, 3) := by decide +kernel
theorem nd_M_read_7 : decode prog_7_method_42_code 7 = .ok (.aload_n 0, 1) := by decide +kernel
theorem nd_M_read_8 : decode prog_7_method_42_code 8 = .ok (.getfield 20, 3) := by decide +kernel
theorem nd_M_read_11 : decode prog_7_method_42_code 11 = .ok (.iload_n 1, 1) := by decide +kernel
theorem nd_M_read_12 : decode prog_7_method_42_code 12 = .ok (.invokestatic 185, 3) := by decide +kernel
theorem nd_M_read_15 : decode prog_7_method_42_code 15 = .ok (.ifCond .eq 7, 3) := by decide +kernel
theorem nd_M_read_18 : decode prog_7_method_42_code 18 = .ok (.iload_n 1, 1) := by decide +kernel
theorem nd_M_read_19 : decode prog_7_method_42_code 19 = .ok (.goto 4, 3) := by decide +kernel
theorem nd_M_read_22 : decode prog_7_method_42_code 22 = .ok (.iconst 0, 1) := by decide +kernel
theorem nd_M_read_23 : decode prog_7_method_42_code 23 = .ok (.baload, 1) := by decide +kernel
theorem nd_M_read_24 : decode prog_7_method_42_code 24 = .ok (.ifCond .eq 62, 3) := by decide +kernel
theorem nd_M_read_27 : decode prog_7_method_42_code 27 = .ok (.aload_n 0, 1) := by decide +kernel
theorem nd_M_read_28 : decode prog_7_method_42_code 28 = .ok (.getfield 51, 3) := by decide +kernel
theorem nd_M_read_31 : decode prog_7_method_42_code 31 = .ok (.iload_n 1, 1) := by decide +kernel
theorem nd_M_read_32 : decode prog_7_method_42_code 32 = .ok (.invokestatic 185, 3) := by decide +kernel
theorem nd_M_read_35 : decode prog_7_method_42_code 35 = .ok (.ifCond .eq 7, 3) := by decide +kernel
theorem nd_M_read_38 : decode prog_7_method_42_code 38 = .ok (.iload_n 1, 1) := by decide +kernel
theorem nd_M_read_39 : decode prog_7_method_42_code 39 = .ok (.goto 4, 3) := by decide +kernel
theorem nd_M_read_42 : decode prog_7_method_42_code 42 = .ok (.iconst 0, 1) := by decide +kernel
theorem nd_M_read_43 : decode prog_7_method_42_code 43 = .ok (.baload, 1) := by decide +kernel
theorem nd_M_read_44 : decode prog_7_method_42_code 44 = .ok (.ifCond .eq 42, 3) := by decide +kernel
theorem nd_M_read_47 : decode prog_7_method_42_code 47 = .ok (.iload_n 2, 1) := by decide +kernel
theorem nd_M_read_48 : decode prog_7_method_42_code 48 = .ok (.ifCond .lt 38, 3) := by decide +kernel
theorem nd_M_read_51 : decode prog_7_method_42_code 51 = .ok (.iload_n 2, 1) := by decide +kernel
theorem nd_M_read_52 : decode prog_7_method_42_code 52 = .ok (.aload_n 0, 1) := by decide +kernel
theorem nd_M_read_53 : decode prog_7_method_42_code 53 = .ok (.getfield 70, 3) := by decide +kernel
theorem nd_M_read_56 : decode prog_7_method_42_code 56 = .ok (.iload_n 1, 1) := by decide +kernel
theorem nd_M_read_57 : decode prog_7_method_42_code 57 = .ok (.invokestatic 185, 3) := by decide +kernel
theorem nd_M_read_60 : decode prog_7_method_42_code 60 = .ok (.ifCond .eq 7, 3) := by decide +kernel
theorem nd_M_read_63 : decode prog_7_method_42_code 63 = .ok (.iload_n 1, 1) := by decide +kernel
theorem nd_M_read_64 : decode prog_7_method_42_code 64 = .ok (.goto 4, 3) := by decide +kernel
theorem nd_M_read_67 : decode prog_7_method_42_code 67 = .ok (.iconst 0, 1) := by decide +kernel
theorem nd_M_read_68 : decode prog_7_method_42_code 68 = .ok (.iaload, 1) := by decide +kernel
theorem nd_M_read_69 : decode prog_7_method_42_code 69 = .ok (.if_icmp .ge 17, 3) := by decide +kernel
theorem nd_M_read_72 : decode prog_7_method_42_code 72 = .ok (.aload_n 0, 1) := by decide +kernel
theorem nd_M_read_73 : decode prog_7_method_42_code 73 = .ok (.getfield 73, 3) := by decide +kernel
theorem nd_M_read_76 : decode prog_7_method_42_code 76 = .ok (.bipush 12, 2) := by decide +kernel
theorem nd_M_read_78 : decode prog_7_method_42_code 78 = .ok (.iload_n 1, 1) := by decide +kernel
theorem nd_M_read_79 : decode prog_7_method_42_code 79 = .ok (.imul, 1) := by decide +kernel
theorem nd_M_read_80 : decode prog_7_method_42_code 80 = .ok (.iload_n 2, 1) := by decide +kernel
theorem nd_M_read_81 : decode prog_7_method_42_code 81 = .ok (.iadd, 1) := by decide +kernel
theorem nd_M_read_82 : decode prog_7_method_42_code 82 = .ok (.iaload, 1) := by decide +kernel
theorem nd_M_read_83 : decode prog_7_method_42_code 83 = .ok (.goto 4, 3) := by decide +kernel
theorem nd_M_read_86 : decode prog_7_method_42_code 86 = .ok (.iconst (-1), 1) := by decide +kernel
theorem nd_M_read_87 : decode prog_7_method_42_code 87 = .ok (.ireturn, 1) := by decide +kernel
theorem nd_M_count_0 : decode prog_7_method_43_code 0 = .ok (.iload_n 1, 1) := by decide +kernel
theorem nd_M_count_1 : decode prog_7_method_43_code 1 = .ok (.ifCond .lt 17, 3) := by decide +kernel
theorem nd_M_count_4 : decode prog_7_method_43_code 4 = .ok (.iload_n 1, 1) := by decide +kernel
theorem nd_M_count_5 : decode prog_7_method_43_code 5 = .ok (.iconst 3, 1) := by decide +kernel
theorem nd_M_count_6 : decode prog_7_method_43_code 6 = .ok (.if_icmp .ge 12, 3) := by decide +kernel
theorem nd_M_count_9 : decode prog_7_method_43_code 9 = .ok (.aload_n 0, 1) := by decide +kernel
theorem nd_M_count_10 : decode prog_7_method_43_code 10 = .ok (.getfield 82, 3) := by decide +kernel
theorem nd_M_count_13 : decode prog_7_method_43_code 13 = .ok (.iload_n 1, 1) := by decide +kernel
theorem nd_M_count_14 : decode prog_7_method_43_code 14 = .ok (.iaload, 1) := by decide +kernel
theorem nd_M_count_15 : decode prog_7_method_43_code 15 = .ok (.goto 16, 3) := by decide +kernel
theorem nd_M_count_18 : decode prog_7_method_43_code 18 = .ok (.iload_n 1, 1) := by decide +kernel
theorem nd_M_count_19 : decode prog_7_method_43_code 19 = .ok (.iconst 3, 1) := by decide +kernel
theorem nd_M_count_20 : decode prog_7_method_43_code 20 = .ok (.if_icmp .ne 10, 3) := by decide +kernel
theorem nd_M_count_23 : decode prog_7_method_43_code 23 = .ok (.aload_n 0, 1) := by decide +kernel
theorem nd_M_count_24 : decode prog_7_method_43_code 24 = .ok (.invokevirtual 253, 3) := by decide +kernel
theorem nd_M_count_27 : decode prog_7_method_43_code 27 = .ok (.goto 4, 3) := by decide +kernel
theorem nd_M_count_30 : decode prog_7_method_43_code 30 = .ok (.iconst (-1), 1) := by decide +kernel
theorem nd_M_count_31 : decode prog_7_method_43_code 31 = .ok (.ireturn, 1) := by decide +kernel
