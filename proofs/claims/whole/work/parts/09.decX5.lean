theorem dX5_delta_138 : decode cX5_delta 138 = .ok (.aload_n 0, 1) := by decide +kernel
theorem dX5_delta_139 : decode cX5_delta 139 = .ok (.dup, 1) := by decide +kernel
theorem dX5_delta_140 : decode cX5_delta 140 = .ok (.getfield 163, 3) := by decide +kernel
theorem dX5_delta_143 : decode cX5_delta 143 = .ok (.iload_n 3, 1) := by decide +kernel
theorem dX5_delta_144 : decode cX5_delta 144 = .ok (.iconst (-1), 1) := by decide +kernel
theorem dX5_delta_145 : decode cX5_delta 145 = .ok (.if_icmp .ne 7, 3) := by decide +kernel
theorem dX5_delta_148 : decode cX5_delta 148 = .ok (.iconst 1, 1) := by decide +kernel
theorem dX5_delta_149 : decode cX5_delta 149 = .ok (.goto 4, 3) := by decide +kernel
theorem dX5_delta_152 : decode cX5_delta 152 = .ok (.iconst 0, 1) := by decide +kernel
theorem dX5_delta_153 : decode cX5_delta 153 = .ok (.iadd, 1) := by decide +kernel
theorem dX5_delta_154 : decode cX5_delta 154 = .ok (.putfield 163, 3) := by decide +kernel
theorem dX5_delta_157 : decode cX5_delta 157 = .ok (.goto (-128), 3) := by decide +kernel
theorem dX5_delta_160 : decode cX5_delta 160 = .ok (.aload_n 0, 1) := by decide +kernel
theorem dX5_delta_161 : decode cX5_delta 161 = .ok (.iconst 0, 1) := by decide +kernel
theorem dX5_delta_162 : decode cX5_delta 162 = .ok (.putfield 157, 3) := by decide +kernel
theorem dX5_delta_165 : decode cX5_delta 165 = .ok (.iconst 0, 1) := by decide +kernel
theorem dX5_delta_166 : decode cX5_delta 166 = .ok (.istore_n 3, 1) := by decide +kernel
theorem dX5_delta_167 : decode cX5_delta 167 = .ok (.iload_n 3, 1) := by decide +kernel
theorem dX5_delta_168 : decode cX5_delta 168 = .ok (.aload_n 0, 1) := by decide +kernel
theorem dX5_delta_169 : decode cX5_delta 169 = .ok (.getfield 169, 3) := by decide +kernel
theorem dX5_delta_172 : decode cX5_delta 172 = .ok (.if_icmp .ge 190, 3) := by decide +kernel
theorem dX5_delta_175 : decode cX5_delta 175 = .ok (.iconst 1, 1) := by decide +kernel
theorem dX5_delta_176 : decode cX5_delta 176 = .ok (.istore 4, 2) := by decide +kernel
theorem dX5_delta_178 : decode cX5_delta 178 = .ok (.aload_n 0, 1) := by decide +kernel
theorem dX5_delta_179 : decode cX5_delta 179 = .ok (.getfield 118, 3) := by decide +kernel
theorem dX5_delta_182 : decode cX5_delta 182 = .ok (.iload_n 3, 1) := by decide +kernel
theorem dX5_delta_183 : decode cX5_delta 183 = .ok (.iaload, 1) := by decide +kernel
theorem dX5_delta_184 : decode cX5_delta 184 = .ok (.ifCond .ge 7, 3) := by decide +kernel
theorem dX5_delta_187 : decode cX5_delta 187 = .ok (.iconst 1, 1) := by decide +kernel
theorem dX5_delta_188 : decode cX5_delta 188 = .ok (.goto 4, 3) := by decide +kernel
theorem dX5_delta_191 : decode cX5_delta 191 = .ok (.iconst 0, 1) := by decide +kernel
theorem dX5_delta_192 : decode cX5_delta 192 = .ok (.istore 5, 2) := by decide +kernel
theorem dX5_delta_194 : decode cX5_delta 194 = .ok (.iload 4, 2) := by decide +kernel
theorem dX5_delta_196 : decode cX5_delta 196 = .ok (.sipush 255, 3) := by decide +kernel
theorem dX5_delta_199 : decode cX5_delta 199 = .ok (.if_icmp .ge 61, 3) := by decide +kernel
theorem dX5_delta_202 : decode cX5_delta 202 = .ok (.iload_n 3, 1) := by decide +kernel
theorem dX5_delta_203 : decode cX5_delta 203 = .ok (.iload 4, 2) := by decide +kernel
theorem dX5_delta_205 : decode cX5_delta 205 = .ok (.iadd, 1) := by decide +kernel
theorem dX5_delta_206 : decode cX5_delta 206 = .ok (.aload_n 0, 1) := by decide +kernel
theorem dX5_delta_207 : decode cX5_delta 207 = .ok (.getfield 169, 3) := by decide +kernel
theorem dX5_delta_210 : decode cX5_delta 210 = .ok (.if_icmp .ge 50, 3) := by decide +kernel
theorem dX5_delta_213 : decode cX5_delta 213 = .ok (.iload 5, 2) := by decide +kernel
theorem dX5_delta_215 : decode cX5_delta 215 = .ok (.ifCond .eq 18, 3) := by decide +kernel
theorem dX5_delta_218 : decode cX5_delta 218 = .ok (.aload_n 0, 1) := by decide +kernel
theorem dX5_delta_219 : decode cX5_delta 219 = .ok (.getfield 118, 3) := by decide +kernel
theorem dX5_delta_222 : decode cX5_delta 222 = .ok (.iload_n 3, 1) := by decide +kernel
theorem dX5_delta_223 : decode cX5_delta 223 = .ok (.iload 4, 2) := by decide +kernel
theorem dX5_delta_225 : decode cX5_delta 225 = .ok (.iadd, 1) := by decide +kernel
theorem dX5_delta_226 : decode cX5_delta 226 = .ok (.iaload, 1) := by decide +kernel
theorem dX5_delta_227 : decode cX5_delta 227 = .ok (.ifCond .ge 33, 3) := by decide +kernel
theorem dX5_delta_230 : decode cX5_delta 230 = .ok (.goto 24, 3) := by decide +kernel
theorem dX5_delta_233 : decode cX5_delta 233 = .ok (.aload_n 0, 1) := by decide +kernel
theorem dX5_delta_234 : decode cX5_delta 234 = .ok (.getfield 118, 3) := by decide +kernel
theorem dX5_delta_237 : decode cX5_delta 237 = .ok (.iload_n 3, 1) := by decide +kernel
theorem dX5_delta_238 : decode cX5_delta 238 = .ok (.iload 4, 2) := by decide +kernel
theorem dX5_delta_240 : decode cX5_delta 240 = .ok (.iadd, 1) := by decide +kernel
theorem dX5_delta_241 : decode cX5_delta 241 = .ok (.iaload, 1) := by decide +kernel
theorem dX5_delta_242 : decode cX5_delta 242 = .ok (.aload_n 0, 1) := by decide +kernel
theorem dX5_delta_243 : decode cX5_delta 243 = .ok (.getfield 118, 3) := by decide +kernel
theorem dX5_delta_246 : decode cX5_delta 246 = .ok (.iload_n 3, 1) := by decide +kernel
theorem dX5_delta_247 : decode cX5_delta 247 = .ok (.iaload, 1) := by decide +kernel
theorem dX5_delta_248 : decode cX5_delta 248 = .ok (.iload 4, 2) := by decide +kernel
theorem dX5_delta_250 : decode cX5_delta 250 = .ok (.iadd, 1) := by decide +kernel
theorem dX5_delta_251 : decode cX5_delta 251 = .ok (.if_icmp .ne 9, 3) := by decide +kernel
theorem dX5_delta_254 : decode cX5_delta 254 = .ok (.iinc 4 1, 3) := by decide +kernel
theorem dX5_delta_257 : decode cX5_delta 257 = .ok (.goto (-63), 3) := by decide +kernel
theorem dX5_delta_260 : decode cX5_delta 260 = .ok (.aload_n 0, 1) := by decide +kernel
theorem dX5_delta_261 : decode cX5_delta 261 = .ok (.dup, 1) := by decide +kernel
theorem dX5_delta_262 : decode cX5_delta 262 = .ok (.getfield 166, 3) := by decide +kernel
theorem dX5_delta_265 : decode cX5_delta 265 = .ok (.iconst 1, 1) := by decide +kernel
theorem dX5_delta_266 : decode cX5_delta 266 = .ok (.iadd, 1) := by decide +kernel
theorem dX5_delta_267 : decode cX5_delta 267 = .ok (.putfield 166, 3) := by decide +kernel
theorem dX5_delta_270 : decode cX5_delta 270 = .ok (.iload 5, 2) := by decide +kernel
theorem dX5_delta_272 : decode cX5_delta 272 = .ok (.ifCond .eq 48, 3) := by decide +kernel
theorem dX5_delta_275 : decode cX5_delta 275 = .ok (.aload_n 0, 1) := by decide +kernel
theorem dX5_delta_276 : decode cX5_delta 276 = .ok (.iconst 0, 1) := by decide +kernel
theorem dX5_delta_277 : decode cX5_delta 277 = .ok (.invokevirtual 175, 3) := by decide +kernel
theorem dX5_delta_280 : decode cX5_delta 280 = .ok (.aload_n 0, 1) := by decide +kernel
theorem dX5_delta_281 : decode cX5_delta 281 = .ok (.iload 4, 2) := by decide +kernel
theorem dX5_delta_283 : decode cX5_delta 283 = .ok (.invokevirtual 175, 3) := by decide +kernel
theorem dX5_delta_286 : decode cX5_delta 286 = .ok (.iconst 0, 1) := by decide +kernel
theorem dX5_delta_287 : decode cX5_delta 287 = .ok (.istore 6, 2) := by decide +kernel
theorem dX5_delta_289 : decode cX5_delta 289 = .ok (.iload 6, 2) := by decide +kernel
theorem dX5_delta_291 : decode cX5_delta 291 = .ok (.iload 4, 2) := by decide +kernel
theorem dX5_delta_293 : decode cX5_delta 293 = .ok (.if_icmp .ge 24, 3) := by decide +kernel
theorem dX5_delta_296 : decode cX5_delta 296 = .ok (.aload_n 0, 1) := by decide +kernel
theorem dX5_delta_297 : decode cX5_delta 297 = .ok (.iconst (-1), 1) := by decide +kernel
theorem dX5_delta_298 : decode cX5_delta 298 = .ok (.aload_n 0, 1) := by decide +kernel
theorem dX5_delta_299 : decode cX5_delta 299 = .ok (.getfield 118, 3) := by decide +kernel
theorem dX5_delta_302 : decode cX5_delta 302 = .ok (.iload_n 3, 1) := by decide +kernel
theorem dX5_delta_303 : decode cX5_delta 303 = .ok (.iload 6, 2) := by decide +kernel
theorem dX5_delta_305 : decode cX5_delta 305 = .ok (.iadd, 1) := by decide +kernel
theorem dX5_delta_306 : decode cX5_delta 306 = .ok (.iaload, 1) := by decide +kernel
theorem dX5_delta_307 : decode cX5_delta 307 = .ok (.isub, 1) := by decide +kernel
theorem dX5_delta_308 : decode cX5_delta 308 = .ok (.invokevirtual 175, 3) := by decide +kernel
theorem dX5_delta_311 : decode cX5_delta 311 = .ok (.iinc 6 1, 3) := by decide +kernel
theorem dX5_delta_314 : decode cX5_delta 314 = .ok (.goto (-25), 3) := by decide +kernel
theorem dX5_delta_317 : decode cX5_delta 317 = .ok (.goto 37, 3) := by decide +kernel
theorem dX5_delta_320 : decode cX5_delta 320 = .ok (.aload_n 0, 1) := by decide +kernel
theorem dX5_delta_321 : decode cX5_delta 321 = .ok (.iconst 1, 1) := by decide +kernel
theorem dX5_delta_322 : decode cX5_delta 322 = .ok (.invokevirtual 175, 3) := by decide +kernel
theorem dX5_delta_325 : decode cX5_delta 325 = .ok (.aload_n 0, 1) := by decide +kernel
theorem dX5_delta_326 : decode cX5_delta 326 = .ok (.aload_n 0, 1) := by decide +kernel
theorem dX5_delta_327 : decode cX5_delta 327 = .ok (.getfield 118, 3) := by decide +kernel
theorem dX5_delta_330 : decode cX5_delta 330 = .ok (.iload_n 3, 1) := by decide +kernel
theorem dX5_delta_331 : decode cX5_delta 331 = .ok (.iaload, 1) := by decide +kernel
theorem dX5_delta_332 : decode cX5_delta 332 = .ok (.bipush 8, 2) := by decide +kernel
theorem dX5_delta_334 : decode cX5_delta 334 = .ok (.ishr, 1) := by decide +kernel
theorem dX5_delta_335 : decode cX5_delta 335 = .ok (.invokevirtual 175, 3) := by decide +kernel
theorem dX5_delta_338 : decode cX5_delta 338 = .ok (.aload_n 0, 1) := by decide +kernel
theorem dX5_delta_339 : decode cX5_delta 339 = .ok (.aload_n 0, 1) := by decide +kernel
theorem dX5_delta_340 : decode cX5_delta 340 = .ok (.getfield 118, 3) := by decide +kernel
theorem dX5_delta_343 : decode cX5_delta 343 = .ok (.iload_n 3, 1) := by decide +kernel
theorem dX5_delta_344 : decode cX5_delta 344 = .ok (.iaload, 1) := by decide +kernel
theorem dX5_delta_345 : decode cX5_delta 345 = .ok (.invokevirtual 175, 3) := by decide +kernel
theorem dX5_delta_348 : decode cX5_delta 348 = .ok (.aload_n 0, 1) := by decide +kernel
theorem dX5_delta_349 : decode cX5_delta 349 = .ok (.iload 4, 2) := by decide +kernel
theorem dX5_delta_351 : decode cX5_delta 351 = .ok (.invokevirtual 175, 3) := by decide +kernel
theorem dX5_delta_354 : decode cX5_delta 354 = .ok (.iload_n 3, 1) := by decide +kernel
theorem dX5_delta_355 : decode cX5_delta 355 = .ok (.iload 4, 2) := by decide +kernel
theorem dX5_delta_357 : decode cX5_delta 357 = .ok (.iadd, 1) := by decide +kernel
theorem dX5_delta_358 : decode cX5_delta 358 = .ok (.istore_n 3, 1) := by decide +kernel
theorem dX5_delta_359 : decode cX5_delta 359 = .ok (.goto (-192), 3) := by decide +kernel
theorem dX5_delta_362 : decode cX5_delta 362 = .ok (.aload_n 0, 1) := by decide +kernel
theorem dX5_delta_363 : decode cX5_delta 363 = .ok (.getfield 157, 3) := by decide +kernel
theorem dX5_delta_366 : decode cX5_delta 366 = .ok (.ireturn, 1) := by decide +kernel
theorem dX5_apply_0 : decode cX5_apply 0 = .ok (.aload_n 0, 1) := by decide +kernel
theorem dX5_apply_1 : decode cX5_apply 1 = .ok (.getfield 13, 3) := by decide +kernel
theorem dX5_apply_4 : decode cX5_apply 4 = .ok (.iconst 2, 1) := by decide +kernel
theorem dX5_apply_5 : decode cX5_apply 5 = .ok (.iconst 0, 1) := by decide +kernel
theorem dX5_apply_6 : decode cX5_apply 6 = .ok (.iastore, 1) := by decide +kernel
theorem dX5_apply_7 : decode cX5_apply 7 = .ok (.iconst 0, 1) := by decide +kernel
theorem dX5_apply_8 : decode cX5_apply 8 = .ok (.istore_n 1, 1) := by decide +kernel
theorem dX5_apply_9 : decode cX5_apply 9 = .ok (.iconst 0, 1) := by decide +kernel
theorem dX5_apply_10 : decode cX5_apply 10 = .ok (.istore_n 2, 1) := by decide +kernel
theorem dX5_apply_11 : decode cX5_apply 11 = .ok (.iload_n 2, 1) := by decide +kernel
theorem dX5_apply_12 : decode cX5_apply 12 = .ok (.aload_n 0, 1) := by decide +kernel
theorem dX5_apply_13 : decode cX5_apply 13 = .ok (.getfield 157, 3) := by decide +kernel
theorem dX5_apply_16 : decode cX5_apply 16 = .ok (.if_icmp .ge 266, 3) := by decide +kernel
theorem dX5_apply_19 : decode cX5_apply 19 = .ok (.aload_n 0, 1) := by decide +kernel
theorem dX5_apply_20 : decode cX5_apply 20 = .ok (.getfield 17, 3) := by decide +kernel
theorem dX5_apply_23 : decode cX5_apply 23 = .ok (.iload_n 2, 1) := by decide +kernel
theorem dX5_apply_24 : decode cX5_apply 24 = .ok (.baload, 1) := by decide +kernel
theorem dX5_apply_25 : decode cX5_apply 25 = .ok (.sipush 255, 3) := by decide +kernel
theorem dX5_apply_28 : decode cX5_apply 28 = .ok (.iand, 1) := by decide +kernel
theorem dX5_apply_29 : decode cX5_apply 29 = .ok (.istore_n 3, 1) := by decide +kernel
theorem dX5_apply_30 : decode cX5_apply 30 = .ok (.iload_n 3, 1) := by decide +kernel
theorem dX5_apply_31 : decode cX5_apply 31 = .ok (.ifCond .ne 7, 3) := by decide +kernel
theorem dX5_apply_34 : decode cX5_apply 34 = .ok (.iconst 2, 1) := by decide +kernel
theorem dX5_apply_35 : decode cX5_apply 35 = .ok (.goto 4, 3) := by decide +kernel
theorem dX5_apply_38 : decode cX5_apply 38 = .ok (.iconst 4, 1) := by decide +kernel
theorem dX5_apply_39 : decode cX5_apply 39 = .ok (.istore 4, 2) := by decide +kernel
theorem dX5_apply_41 : decode cX5_apply 41 = .ok (.iload_n 3, 1) := by decide +kernel
theorem dX5_apply_42 : decode cX5_apply 42 = .ok (.iconst 1, 1) := by decide +kernel
theorem dX5_apply_43 : decode cX5_apply 43 = .ok (.if_icmp .gt 14, 3) := by decide +kernel
theorem dX5_apply_46 : decode cX5_apply 46 = .ok (.iload_n 2, 1) := by decide +kernel
theorem dX5_apply_47 : decode cX5_apply 47 = .ok (.iload 4, 2) := by decide +kernel
theorem dX5_apply_49 : decode cX5_apply 49 = .ok (.iadd, 1) := by decide +kernel
theorem dX5_apply_50 : decode cX5_apply 50 = .ok (.aload_n 0, 1) := by decide +kernel
theorem dX5_apply_51 : decode cX5_apply 51 = .ok (.getfield 157, 3) := by decide +kernel
theorem dX5_apply_54 : decode cX5_apply 54 = .ok (.if_icmp .le 6, 3) := by decide +kernel
theorem dX5_apply_57 : decode cX5_apply 57 = .ok (.bipush (-2), 2) := by decide +kernel
theorem dX5_apply_59 : decode cX5_apply 59 = .ok (.ireturn, 1) := by decide +kernel
theorem dX5_apply_60 : decode cX5_apply 60 = .ok (.aload_n 0, 1) := by decide +kernel
theorem dX5_apply_61 : decode cX5_apply 61 = .ok (.getfield 17, 3) := by decide +kernel
theorem dX5_apply_64 : decode cX5_apply 64 = .ok (.iload_n 2, 1) := by decide +kernel
theorem dX5_apply_65 : decode cX5_apply 65 = .ok (.iload 4, 2) := by decide +kernel
theorem dX5_apply_67 : decode cX5_apply 67 = .ok (.iadd, 1) := by decide +kernel
theorem dX5_apply_68 : decode cX5_apply 68 = .ok (.iconst 1, 1) := by decide +kernel
theorem dX5_apply_69 : decode cX5_apply 69 = .ok (.isub, 1) := by decide +kernel
theorem dX5_apply_70 : decode cX5_apply 70 = .ok (.baload, 1) := by decide +kernel
theorem dX5_apply_71 : decode cX5_apply 71 = .ok (.sipush 255, 3) := by decide +kernel
theorem dX5_apply_74 : decode cX5_apply 74 = .ok (.iand, 1) := by decide +kernel
theorem dX5_apply_75 : decode cX5_apply 75 = .ok (.istore 5, 2) := by decide +kernel
theorem dX5_apply_77 : decode cX5_apply 77 = .ok (.iload_n 3, 1) := by decide +kernel
theorem dX5_apply_78 : decode cX5_apply 78 = .ok (.ifCond .ne 7, 3) := by decide +kernel
theorem dX5_apply_81 : decode cX5_apply 81 = .ok (.iconst 0, 1) := by decide +kernel
theorem dX5_apply_82 : decode cX5_apply 82 = .ok (.goto 36, 3) := by decide +kernel
theorem dX5_apply_85 : decode cX5_apply 85 = .ok (.aload_n 0, 1) := by decide +kernel
theorem dX5_apply_86 : decode cX5_apply 86 = .ok (.getfield 17, 3) := by decide +kernel
theorem dX5_apply_89 : decode cX5_apply 89 = .ok (.iload_n 2, 1) := by decide +kernel
theorem dX5_apply_90 : decode cX5_apply 90 = .ok (.iconst 1, 1) := by decide +kernel
theorem dX5_apply_91 : decode cX5_apply 91 = .ok (.iadd, 1) := by decide +kernel
theorem dX5_apply_92 : decode cX5_apply 92 = .ok (.baload, 1) := by decide +kernel
theorem dX5_apply_93 : decode cX5_apply 93 = .ok (.sipush 255, 3) := by decide +kernel
theorem dX5_apply_96 : decode cX5_apply 96 = .ok (.iand, 1) := by decide +kernel
theorem dX5_apply_97 : decode cX5_apply 97 = .ok (.bipush 8, 2) := by decide +kernel
theorem dX5_apply_99 : decode cX5_apply 99 = .ok (.ishl, 1) := by decide +kernel
theorem dX5_apply_100 : decode cX5_apply 100 = .ok (.aload_n 0, 1) := by decide +kernel
theorem dX5_apply_101 : decode cX5_apply 101 = .ok (.getfield 17, 3) := by decide +kernel
theorem dX5_apply_104 : decode cX5_apply 104 = .ok (.iload_n 2, 1) := by decide +kernel
theorem dX5_apply_105 : decode cX5_apply 105 = .ok (.iconst 2, 1) := by decide +kernel
theorem dX5_apply_106 : decode cX5_apply 106 = .ok (.iadd, 1) := by decide +kernel
theorem dX5_apply_107 : decode cX5_apply 107 = .ok (.baload, 1) := by decide +kernel
theorem dX5_apply_108 : decode cX5_apply 108 = .ok (.sipush 255, 3) := by decide +kernel
theorem dX5_apply_111 : decode cX5_apply 111 = .ok (.iand, 1) := by decide +kernel
theorem dX5_apply_112 : decode cX5_apply 112 = .ok (.ior, 1) := by decide +kernel
theorem dX5_apply_113 : decode cX5_apply 113 = .ok (.aload_n 0, 1) := by decide +kernel
theorem dX5_apply_114 : decode cX5_apply 114 = .ok (.getfield 27, 3) := by decide +kernel
theorem dX5_apply_117 : decode cX5_apply 117 = .ok (.imul, 1) := by decide +kernel
theorem dX5_apply_118 : decode cX5_apply 118 = .ok (.istore 6, 2) := by decide +kernel
theorem dX5_apply_120 : decode cX5_apply 120 = .ok (.iload_n 3, 1) := by decide +kernel
theorem dX5_apply_121 : decode cX5_apply 121 = .ok (.ifCond .ne 8, 3) := by decide +kernel
theorem dX5_apply_124 : decode cX5_apply 124 = .ok (.iload 5, 2) := by decide +kernel
theorem dX5_apply_126 : decode cX5_apply 126 = .ok (.goto 10, 3) := by decide +kernel
theorem dX5_apply_129 : decode cX5_apply 129 = .ok (.iload 5, 2) := by decide +kernel
theorem dX5_apply_131 : decode cX5_apply 131 = .ok (.aload_n 0, 1) := by decide +kernel
theorem dX5_apply_132 : decode cX5_apply 132 = .ok (.getfield 27, 3) := by decide +kernel
theorem dX5_apply_135 : decode cX5_apply 135 = .ok (.imul, 1) := by decide +kernel
theorem dX5_apply_136 : decode cX5_apply 136 = .ok (.istore 7, 2) := by decide +kernel
theorem dX5_apply_138 : decode cX5_apply 138 = .ok (.iload 5, 2) := by decide +kernel
theorem dX5_apply_140 : decode cX5_apply 140 = .ok (.ifCond .le 51, 3) := by decide +kernel
theorem dX5_apply_143 : decode cX5_apply 143 = .ok (.iload_n 1, 1) := by decide +kernel
theorem dX5_apply_144 : decode cX5_apply 144 = .ok (.iload 7, 2) := by decide +kernel
theorem dX5_apply_146 : decode cX5_apply 146 = .ok (.iadd, 1) := by decide +kernel
theorem dX5_apply_147 : decode cX5_apply 147 = .ok (.sipush 2000, 3) := by decide +kernel
theorem dX5_apply_150 : decode cX5_apply 150 = .ok (.if_icmp .gt 41, 3) := by decide +kernel
theorem dX5_apply_153 : decode cX5_apply 153 = .ok (.iload_n 3, 1) := by decide +kernel
theorem dX5_apply_154 : decode cX5_apply 154 = .ok (.ifCond .ne 19, 3) := by decide +kernel
theorem dX5_apply_157 : decode cX5_apply 157 = .ok (.iload_n 2, 1) := by decide +kernel
theorem dX5_apply_158 : decode cX5_apply 158 = .ok (.iconst 2, 1) := by decide +kernel
theorem dX5_apply_159 : decode cX5_apply 159 = .ok (.iadd, 1) := by decide +kernel
theorem dX5_apply_160 : decode cX5_apply 160 = .ok (.iload 5, 2) := by decide +kernel
theorem dX5_apply_162 : decode cX5_apply 162 = .ok (.iadd, 1) := by decide +kernel
theorem dX5_apply_163 : decode cX5_apply 163 = .ok (.aload_n 0, 1) := by decide +kernel
theorem dX5_apply_164 : decode cX5_apply 164 = .ok (.getfield 157, 3) := by decide +kernel
theorem dX5_apply_167 : decode cX5_apply 167 = .ok (.if_icmp .gt 24, 3) := by decide +kernel
theorem dX5_apply_170 : decode cX5_apply 170 = .ok (.goto 17, 3) := by decide +kernel
theorem dX5_apply_173 : decode cX5_apply 173 = .ok (.iload 6, 2) := by decide +kernel
theorem dX5_apply_175 : decode cX5_apply 175 = .ok (.iload 7, 2) := by decide +kernel
theorem dX5_apply_177 : decode cX5_apply 177 = .ok (.iadd, 1) := by decide +kernel
theorem dX5_apply_178 : decode cX5_apply 178 = .ok (.aload_n 0, 1) := by decide +kernel
theorem dX5_apply_179 : decode cX5_apply 179 = .ok (.getfield 13, 3) := by decide +kernel
theorem dX5_apply_182 : decode cX5_apply 182 = .ok (.iconst 0, 1) := by decide +kernel
theorem dX5_apply_183 : decode cX5_apply 183 = .ok (.iaload, 1) := by decide +kernel
theorem dX5_apply_184 : decode cX5_apply 184 = .ok (.if_icmp .gt 7, 3) := by decide +kernel
theorem dX5_apply_187 : decode cX5_apply 187 = .ok (.iconst 1, 1) := by decide +kernel
theorem dX5_apply_188 : decode cX5_apply 188 = .ok (.goto 4, 3) := by decide +kernel
theorem dX5_apply_191 : decode cX5_apply 191 = .ok (.iconst 0, 1) := by decide +kernel
theorem dX5_apply_192 : decode cX5_apply 192 = .ok (.istore 8, 2) := by decide +kernel
theorem dX5_apply_194 : decode cX5_apply 194 = .ok (.iload 8, 2) := by decide +kernel
theorem dX5_apply_196 : decode cX5_apply 196 = .ok (.ifCond .ne 6, 3) := by decide +kernel
theorem dX5_apply_199 : decode cX5_apply 199 = .ok (.bipush (-2), 2) := by decide +kernel
theorem dX5_apply_201 : decode cX5_apply 201 = .ok (.ireturn, 1) := by decide +kernel
theorem dX5_apply_202 : decode cX5_apply 202 = .ok (.iconst 0, 1) := by decide +kernel
theorem dX5_apply_203 : decode cX5_apply 203 = .ok (.istore 9, 2) := by decide +kernel
theorem dX5_apply_205 : decode cX5_apply 205 = .ok (.iload 9, 2) := by decide +kernel
theorem dX5_apply_207 : decode cX5_apply 207 = .ok (.iload 7, 2) := by decide +kernel
theorem dX5_apply_209 : decode cX5_apply 209 = .ok (.if_icmp .ge 50, 3) := by decide +kernel
theorem dX5_apply_212 : decode cX5_apply 212 = .ok (.aload_n 0, 1) := by decide +kernel
theorem dX5_apply_213 : decode cX5_apply 213 = .ok (.getfield 7, 3) := by decide +kernel
theorem dX5_apply_216 : decode cX5_apply 216 = .ok (.sipush 4000, 3) := by decide +kernel
theorem dX5_apply_219 : decode cX5_apply 219 = .ok (.iload_n 1, 1) := by decide +kernel
theorem dX5_apply_220 : decode cX5_apply 220 = .ok (.iadd, 1) := by decide +kernel
theorem dX5_apply_221 : decode cX5_apply 221 = .ok (.iload 9, 2) := by decide +kernel
theorem dX5_apply_223 : decode cX5_apply 223 = .ok (.iadd, 1) := by decide +kernel
theorem dX5_apply_224 : decode cX5_apply 224 = .ok (.iload_n 3, 1) := by decide +kernel
theorem dX5_apply_225 : decode cX5_apply 225 = .ok (.ifCond .ne 17, 3) := by decide +kernel
theorem dX5_apply_228 : decode cX5_apply 228 = .ok (.aload_n 0, 1) := by decide +kernel
theorem dX5_apply_229 : decode cX5_apply 229 = .ok (.getfield 17, 3) := by decide +kernel
theorem dX5_apply_232 : decode cX5_apply 232 = .ok (.iload_n 2, 1) := by decide +kernel
theorem dX5_apply_233 : decode cX5_apply 233 = .ok (.iconst 2, 1) := by decide +kernel
theorem dX5_apply_234 : decode cX5_apply 234 = .ok (.iadd, 1) := by decide +kernel
theorem dX5_apply_235 : decode cX5_apply 235 = .ok (.iload 9, 2) := by decide +kernel
theorem dX5_apply_237 : decode cX5_apply 237 = .ok (.iadd, 1) := by decide +kernel
theorem dX5_apply_238 : decode cX5_apply 238 = .ok (.baload, 1) := by decide +kernel
theorem dX5_apply_239 : decode cX5_apply 239 = .ok (.goto 13, 3) := by decide +kernel
theorem dX5_apply_242 : decode cX5_apply 242 = .ok (.aload_n 0, 1) := by decide +kernel
theorem dX5_apply_243 : decode cX5_apply 243 = .ok (.getfield 7, 3) := by decide +kernel
theorem dX5_apply_246 : decode cX5_apply 246 = .ok (.iload 6, 2) := by decide +kernel
theorem dX5_apply_248 : decode cX5_apply 248 = .ok (.iload 9, 2) := by decide +kernel
theorem dX5_apply_250 : decode cX5_apply 250 = .ok (.iadd, 1) := by decide +kernel
theorem dX5_apply_251 : decode cX5_apply 251 = .ok (.baload, 1) := by decide +kernel
theorem dX5_apply_252 : decode cX5_apply 252 = .ok (.bastore, 1) := by decide +kernel
theorem dX5_apply_253 : decode cX5_apply 253 = .ok (.iinc 9 1, 3) := by decide +kernel
theorem dX5_apply_256 : decode cX5_apply 256 = .ok (.goto (-51), 3) := by decide +kernel
theorem dX5_apply_259 : decode cX5_apply 259 = .ok (.iload_n 1, 1) := by decide +kernel
theorem dX5_apply_260 : decode cX5_apply 260 = .ok (.iload 7, 2) := by decide +kernel
theorem dX5_apply_262 : decode cX5_apply 262 = .ok (.iadd, 1) := by decide +kernel
theorem dX5_apply_263 : decode cX5_apply 263 = .ok (.istore_n 1, 1) := by decide +kernel
theorem dX5_apply_264 : decode cX5_apply 264 = .ok (.iload_n 2, 1) := by decide +kernel
theorem dX5_apply_265 : decode cX5_apply 265 = .ok (.iload_n 3, 1) := by decide +kernel
theorem dX5_apply_266 : decode cX5_apply 266 = .ok (.ifCond .ne 10, 3) := by decide +kernel
theorem dX5_apply_269 : decode cX5_apply 269 = .ok (.iconst 2, 1) := by decide +kernel
theorem dX5_apply_270 : decode cX5_apply 270 = .ok (.iload 5, 2) := by decide +kernel
theorem dX5_apply_272 : decode cX5_apply 272 = .ok (.iadd, 1) := by decide +kernel
theorem dX5_apply_273 : decode cX5_apply 273 = .ok (.goto 4, 3) := by decide +kernel
theorem dX5_apply_276 : decode cX5_apply 276 = .ok (.iconst 4, 1) := by decide +kernel
theorem dX5_apply_277 : decode cX5_apply 277 = .ok (.iadd, 1) := by decide +kernel
theorem dX5_apply_278 : decode cX5_apply 278 = .ok (.istore_n 2, 1) := by decide +kernel
theorem dX5_apply_279 : decode cX5_apply 279 = .ok (.goto (-268), 3) := by decide +kernel
theorem dX5_apply_282 : decode cX5_apply 282 = .ok (.aload_n 0, 1) := by decide +kernel
theorem dX5_apply_283 : decode cX5_apply 283 = .ok (.getfield 13, 3) := by decide +kernel
theorem dX5_apply_286 : decode cX5_apply 286 = .ok (.iconst 2, 1) := by decide +kernel
theorem dX5_apply_287 : decode cX5_apply 287 = .ok (.iload_n 1, 1) := by decide +kernel
theorem dX5_apply_288 : decode cX5_apply 288 = .ok (.iastore, 1) := by decide +kernel
theorem dX5_apply_289 : decode cX5_apply 289 = .ok (.iload_n 1, 1) := by decide +kernel
theorem dX5_apply_290 : decode cX5_apply 290 = .ok (.ireturn, 1) := by decide +kernel
theorem dX5_at_0 : decode cX5_at 0 = .ok (.iload_n 1, 1) := by decide +kernel
theorem dX5_at_1 : decode cX5_at 1 = .ok (.ifCond .lt 21, 3) := by decide +kernel
theorem dX5_at_4 : decode cX5_at 4 = .ok (.iload_n 1, 1) := by decide +kernel
theorem dX5_at_5 : decode cX5_at 5 = .ok (.iconst 3, 1) := by decide +kernel
theorem dX5_at_6 : decode cX5_at 6 = .ok (.if_icmp .gt 16, 3) := by decide +kernel
theorem dX5_at_9 : decode cX5_at 9 = .ok (.iload_n 2, 1) := by decide +kernel
theorem dX5_at_10 : decode cX5_at 10 = .ok (.ifCond .lt 12, 3) := by decide +kernel
theorem dX5_at_13 : decode cX5_at 13 = .ok (.iload_n 2, 1) := by decide +kernel
theorem dX5_at_14 : decode cX5_at 14 = .ok (.aload_n 0, 1) := by decide +kernel
theorem dX5_at_15 : decode cX5_at 15 = .ok (.iload_n 1, 1) := by decide +kernel
theorem dX5_at_16 : decode cX5_at 16 = .ok (.invokevirtual 178, 3) := by decide +kernel
theorem dX5_at_19 : decode cX5_at 19 = .ok (.if_icmp .lt 5, 3) := by decide +kernel
theorem dX5_at_22 : decode cX5_at 22 = .ok (.iconst (-1), 1) := by decide +kernel
theorem dX5_at_23 : decode cX5_at 23 = .ok (.ireturn, 1) := by decide +kernel
theorem dX5_at_24 : decode cX5_at 24 = .ok (.iload_n 1, 1) := by decide +kernel
theorem dX5_at_25 : decode cX5_at 25 = .ok (.iconst 2, 1) := by decide +kernel
theorem dX5_at_26 : decode cX5_at 26 = .ok (.if_icmp .ne 12, 3) := by decide +kernel
theorem dX5_at_29 : decode cX5_at 29 = .ok (.aload_n 0, 1) := by decide +kernel
theorem dX5_at_30 : decode cX5_at 30 = .ok (.getfield 17, 3) := by decide +kernel
theorem dX5_at_33 : decode cX5_at 33 = .ok (.iload_n 2, 1) := by decide +kernel
theorem dX5_at_34 : decode cX5_at 34 = .ok (.baload, 1) := by decide +kernel
theorem dX5_at_35 : decode cX5_at 35 = .ok (.goto 24, 3) := by decide +kernel
theorem dX5_at_38 : decode cX5_at 38 = .ok (.aload_n 0, 1) := by decide +kernel
theorem dX5_at_39 : decode cX5_at 39 = .ok (.getfield 7, 3) := by decide +kernel
theorem dX5_at_42 : decode cX5_at 42 = .ok (.sipush 2000, 3) := by decide +kernel
theorem dX5_at_45 : decode cX5_at 45 = .ok (.iload_n 1, 1) := by decide +kernel
theorem dX5_at_46 : decode cX5_at 46 = .ok (.iconst 3, 1) := by decide +kernel
theorem dX5_at_47 : decode cX5_at 47 = .ok (.if_icmp .ne 7, 3) := by decide +kernel
theorem dX5_at_50 : decode cX5_at 50 = .ok (.iconst 2, 1) := by decide +kernel
theorem dX5_at_51 : decode cX5_at 51 = .ok (.goto 4, 3) := by decide +kernel
theorem dX5_at_54 : decode cX5_at 54 = .ok (.iload_n 1, 1) := by decide +kernel
theorem dX5_at_55 : decode cX5_at 55 = .ok (.imul, 1) := by decide +kernel
theorem dX5_at_56 : decode cX5_at 56 = .ok (.iload_n 2, 1) := by decide +kernel
theorem dX5_at_57 : decode cX5_at 57 = .ok (.iadd, 1) := by decide +kernel
theorem dX5_at_58 : decode cX5_at 58 = .ok (.baload, 1) := by decide +kernel
theorem dX5_at_59 : decode cX5_at 59 = .ok (.sipush 255, 3) := by decide +kernel
theorem dX5_at_62 : decode cX5_at 62 = .ok (.iand, 1) := by decide +kernel
theorem dX5_at_63 : decode cX5_at 63 = .ok (.ireturn, 1) := by decide +kernel
theorem dX5_size_0 : decode cX5_size 0 = .ok (.iload_n 1, 1) := by decide +kernel
theorem dX5_size_1 : decode cX5_size 1 = .ok (.ifCond .eq 8, 3) := by decide +kernel
theorem dX5_size_4 : decode cX5_size 4 = .ok (.iload_n 1, 1) := by decide +kernel
theorem dX5_size_5 : decode cX5_size 5 = .ok (.iconst 1, 1) := by decide +kernel
theorem dX5_size_6 : decode cX5_size 6 = .ok (.if_icmp .ne 12, 3) := by decide +kernel
theorem dX5_size_9 : decode cX5_size 9 = .ok (.aload_n 0, 1) := by decide +kernel
theorem dX5_size_10 : decode cX5_size 10 = .ok (.getfield 13, 3) := by decide +kernel
theorem dX5_size_13 : decode cX5_size 13 = .ok (.iload_n 1, 1) := by decide +kernel
theorem dX5_size_14 : decode cX5_size 14 = .ok (.iaload, 1) := by decide +kernel
theorem dX5_size_15 : decode cX5_size 15 = .ok (.goto 30, 3) := by decide +kernel
theorem dX5_size_18 : decode cX5_size 18 = .ok (.iload_n 1, 1) := by decide +kernel
theorem dX5_size_19 : decode cX5_size 19 = .ok (.iconst 2, 1) := by decide +kernel
theorem dX5_size_20 : decode cX5_size 20 = .ok (.if_icmp .ne 10, 3) := by decide +kernel
theorem dX5_size_23 : decode cX5_size 23 = .ok (.aload_n 0, 1) := by decide +kernel
theorem dX5_size_24 : decode cX5_size 24 = .ok (.getfield 157, 3) := by decide +kernel
theorem dX5_size_27 : decode cX5_size 27 = .ok (.goto 18, 3) := by decide +kernel
theorem dX5_size_30 : decode cX5_size 30 = .ok (.iload_n 1, 1) := by decide +kernel
theorem dX5_size_31 : decode cX5_size 31 = .ok (.iconst 3, 1) := by decide +kernel
theorem dX5_size_32 : decode cX5_size 32 = .ok (.if_icmp .ne 12, 3) := by decide +kernel
theorem dX5_size_35 : decode cX5_size 35 = .ok (.aload_n 0, 1) := by decide +kernel
theorem dX5_size_36 : decode cX5_size 36 = .ok (.getfield 13, 3) := by decide +kernel
theorem dX5_size_39 : decode cX5_size 39 = .ok (.iconst 2, 1) := by decide +kernel
theorem dX5_size_40 : decode cX5_size 40 = .ok (.iaload, 1) := by decide +kernel
theorem dX5_size_41 : decode cX5_size 41 = .ok (.goto 4, 3) := by decide +kernel
theorem dX5_size_44 : decode cX5_size 44 = .ok (.iconst (-1), 1) := by decide +kernel
theorem dX5_size_45 : decode cX5_size 45 = .ok (.ireturn, 1) := by decide +kernel
theorem dX5_change_0 : decode cX5_change 0 = .ok (.iload_n 1, 1) := by decide +kernel
theorem dX5_change_1 : decode cX5_change 1 = .ok (.ifCond .lt 22, 3) := by decide +kernel
theorem dX5_change_4 : decode cX5_change 4 = .ok (.iload_n 1, 1) := by decide +kernel
theorem dX5_change_5 : decode cX5_change 5 = .ok (.aload_n 0, 1) := by decide +kernel
theorem dX5_change_6 : decode cX5_change 6 = .ok (.getfield 157, 3) := by decide +kernel
theorem dX5_change_9 : decode cX5_change 9 = .ok (.if_icmp .ge 14, 3) := by decide +kernel
theorem dX5_change_12 : decode cX5_change 12 = .ok (.iload_n 2, 1) := by decide +kernel
theorem dX5_change_13 : decode cX5_change 13 = .ok (.ifCond .lt 10, 3) := by decide +kernel
theorem dX5_change_16 : decode cX5_change 16 = .ok (.iload_n 2, 1) := by decide +kernel
theorem dX5_change_17 : decode cX5_change 17 = .ok (.sipush 255, 3) := by decide +kernel
theorem dX5_change_20 : decode cX5_change 20 = .ok (.if_icmp .le 5, 3) := by decide +kernel
theorem dX5_change_23 : decode cX5_change 23 = .ok (.iconst 0, 1) := by decide +kernel
theorem dX5_change_24 : decode cX5_change 24 = .ok (.ireturn, 1) := by decide +kernel
theorem dX5_change_25 : decode cX5_change 25 = .ok (.aload_n 0, 1) := by decide +kernel
theorem dX5_change_26 : decode cX5_change 26 = .ok (.getfield 17, 3) := by decide +kernel
theorem dX5_change_29 : decode cX5_change 29 = .ok (.iload_n 1, 1) := by decide +kernel
theorem dX5_change_30 : decode cX5_change 30 = .ok (.iload_n 2, 1) := by decide +kernel
theorem dX5_change_31 : decode cX5_change 31 = .ok (.i2b, 1) := by decide +kernel
theorem dX5_change_32 : decode cX5_change 32 = .ok (.bastore, 1) := by decide +kernel
theorem dX5_change_33 : decode cX5_change 33 = .ok (.iconst 1, 1) := by decide +kernel
theorem dX5_change_34 : decode cX5_change 34 = .ok (.ireturn, 1) := by decide +kernel
theorem dX5_push_0 : decode cX5_push 0 = .ok (.iload_n 1, 1) := by decide +kernel
theorem dX5_push_1 : decode cX5_push 1 = .ok (.ifCond .lt 20, 3) := by decide +kernel
theorem dX5_push_4 : decode cX5_push 4 = .ok (.iload_n 1, 1) := by decide +kernel
theorem dX5_push_5 : decode cX5_push 5 = .ok (.sipush 255, 3) := by decide +kernel
theorem dX5_push_8 : decode cX5_push 8 = .ok (.if_icmp .gt 13, 3) := by decide +kernel
theorem dX5_push_11 : decode cX5_push 11 = .ok (.aload_n 0, 1) := by decide +kernel
theorem dX5_push_12 : decode cX5_push 12 = .ok (.getfield 157, 3) := by decide +kernel
theorem dX5_push_15 : decode cX5_push 15 = .ok (.sipush 6000, 3) := by decide +kernel
theorem dX5_push_18 : decode cX5_push 18 = .ok (.if_icmp .lt 5, 3) := by decide +kernel
theorem dX5_push_21 : decode cX5_push 21 = .ok (.iconst 0, 1) := by decide +kernel
theorem dX5_push_22 : decode cX5_push 22 = .ok (.ireturn, 1) := by decide +kernel
theorem dX5_push_23 : decode cX5_push 23 = .ok (.aload_n 0, 1) := by decide +kernel
theorem dX5_push_24 : decode cX5_push 24 = .ok (.iload_n 1, 1) := by decide +kernel
theorem dX5_push_25 : decode cX5_push 25 = .ok (.invokevirtual 175, 3) := by decide +kernel
theorem dX5_push_28 : decode cX5_push 28 = .ok (.iconst 1, 1) := by decide +kernel
theorem dX5_push_29 : decode cX5_push 29 = .ok (.ireturn, 1) := by decide +kernel
theorem dX5_keep_0 : decode cX5_keep 0 = .ok (.iload_n 1, 1) := by decide +kernel
theorem dX5_keep_1 : decode cX5_keep 1 = .ok (.ifCond .lt 11, 3) := by decide +kernel
theorem dX5_keep_4 : decode cX5_keep 4 = .ok (.iload_n 1, 1) := by decide +kernel
theorem dX5_keep_5 : decode cX5_keep 5 = .ok (.aload_n 0, 1) := by decide +kernel
theorem dX5_keep_6 : decode cX5_keep 6 = .ok (.getfield 157, 3) := by decide +kernel
theorem dX5_keep_9 : decode cX5_keep 9 = .ok (.if_icmp .le 5, 3) := by decide +kernel
theorem dX5_keep_12 : decode cX5_keep 12 = .ok (.iconst 0, 1) := by decide +kernel
theorem dX5_keep_13 : decode cX5_keep 13 = .ok (.ireturn, 1) := by decide +kernel
theorem dX5_keep_14 : decode cX5_keep 14 = .ok (.aload_n 0, 1) := by decide +kernel
theorem dX5_keep_15 : decode cX5_keep 15 = .ok (.iload_n 1, 1) := by decide +kernel
theorem dX5_keep_16 : decode cX5_keep 16 = .ok (.putfield 157, 3) := by decide +kernel
theorem dX5_keep_19 : decode cX5_keep 19 = .ok (.iconst 1, 1) := by decide +kernel
theorem dX5_keep_20 : decode cX5_keep 20 = .ok (.ireturn, 1) := by decide +kernel
theorem dX5_sumAt_0 : decode cX5_sumAt 0 = .ok (.iload_n 1, 1) := by decide +kernel
theorem dX5_sumAt_1 : decode cX5_sumAt 1 = .ok (.invokestatic 121, 3) := by decide +kernel
theorem dX5_sumAt_4 : decode cX5_sumAt 4 = .ok (.ifCond .eq 33, 3) := by decide +kernel
theorem dX5_sumAt_7 : decode cX5_sumAt 7 = .ok (.iload_n 2, 1) := by decide +kernel
theorem dX5_sumAt_8 : decode cX5_sumAt 8 = .ok (.ifCond .lt 29, 3) := by decide +kernel
theorem dX5_sumAt_11 : decode cX5_sumAt 11 = .ok (.iload_n 3, 1) := by decide +kernel
theorem dX5_sumAt_12 : decode cX5_sumAt 12 = .ok (.ifCond .lt 25, 3) := by decide +kernel
theorem dX5_sumAt_15 : decode cX5_sumAt 15 = .ok (.iload_n 2, 1) := by decide +kernel
theorem dX5_sumAt_16 : decode cX5_sumAt 16 = .ok (.aload_n 0, 1) := by decide +kernel
theorem dX5_sumAt_17 : decode cX5_sumAt 17 = .ok (.getfield 13, 3) := by decide +kernel
theorem dX5_sumAt_20 : decode cX5_sumAt 20 = .ok (.iload_n 1, 1) := by decide +kernel
theorem dX5_sumAt_21 : decode cX5_sumAt 21 = .ok (.iaload, 1) := by decide +kernel
theorem dX5_sumAt_22 : decode cX5_sumAt 22 = .ok (.if_icmp .gt 15, 3) := by decide +kernel
theorem dX5_sumAt_25 : decode cX5_sumAt 25 = .ok (.iload_n 3, 1) := by decide +kernel
theorem dX5_sumAt_26 : decode cX5_sumAt 26 = .ok (.aload_n 0, 1) := by decide +kernel
theorem dX5_sumAt_27 : decode cX5_sumAt 27 = .ok (.getfield 13, 3) := by decide +kernel
theorem dX5_sumAt_30 : decode cX5_sumAt 30 = .ok (.iload_n 1, 1) := by decide +kernel
theorem dX5_sumAt_31 : decode cX5_sumAt 31 = .ok (.iaload, 1) := by decide +kernel
theorem dX5_sumAt_32 : decode cX5_sumAt 32 = .ok (.iload_n 2, 1) := by decide +kernel
theorem dX5_sumAt_33 : decode cX5_sumAt 33 = .ok (.isub, 1) := by decide +kernel
theorem dX5_sumAt_34 : decode cX5_sumAt 34 = .ok (.if_icmp .le 5, 3) := by decide +kernel
theorem dX5_sumAt_37 : decode cX5_sumAt 37 = .ok (.iconst 0, 1) := by decide +kernel
theorem dX5_sumAt_38 : decode cX5_sumAt 38 = .ok (.ireturn, 1) := by decide +kernel
theorem dX5_sumAt_39 : decode cX5_sumAt 39 = .ok (.aload_n 0, 1) := by decide +kernel
theorem dX5_sumAt_40 : decode cX5_sumAt 40 = .ok (.sipush 2000, 3) := by decide +kernel
theorem dX5_sumAt_43 : decode cX5_sumAt 43 = .ok (.iload_n 1, 1) := by decide +kernel
theorem dX5_sumAt_44 : decode cX5_sumAt 44 = .ok (.imul, 1) := by decide +kernel
theorem dX5_sumAt_45 : decode cX5_sumAt 45 = .ok (.iload_n 2, 1) := by decide +kernel
theorem dX5_sumAt_46 : decode cX5_sumAt 46 = .ok (.iadd, 1) := by decide +kernel
theorem dX5_sumAt_47 : decode cX5_sumAt 47 = .ok (.iload_n 3, 1) := by decide +kernel
theorem dX5_sumAt_48 : decode cX5_sumAt 48 = .ok (.invokevirtual 139, 3) := by decide +kernel
theorem dX5_sumAt_51 : decode cX5_sumAt 51 = .ok (.ireturn, 1) := by decide +kernel
theorem dX5_md5_0 : decode cX5_md5 0 = .ok (.iload_n 1, 1) := by decide +kernel
theorem dX5_md5_1 : decode cX5_md5 1 = .ok (.invokestatic 121, 3) := by decide +kernel
theorem dX5_md5_4 : decode cX5_md5 4 = .ok (.ifCond .eq 13, 3) := by decide +kernel
theorem dX5_md5_7 : decode cX5_md5 7 = .ok (.iload_n 2, 1) := by decide +kernel
theorem dX5_md5_8 : decode cX5_md5 8 = .ok (.ifCond .lt 9, 3) := by decide +kernel
theorem dX5_md5_11 : decode cX5_md5 11 = .ok (.iload_n 2, 1) := by decide +kernel
theorem dX5_md5_12 : decode cX5_md5 12 = .ok (.bipush 15, 2) := by decide +kernel
theorem dX5_md5_14 : decode cX5_md5 14 = .ok (.if_icmp .le 5, 3) := by decide +kernel
theorem dX5_md5_17 : decode cX5_md5 17 = .ok (.iconst (-1), 1) := by decide +kernel
theorem dX5_md5_18 : decode cX5_md5 18 = .ok (.ireturn, 1) := by decide +kernel
theorem dX5_md5_19 : decode cX5_md5 19 = .ok (.aload_n 0, 1) := by decide +kernel
theorem dX5_md5_20 : decode cX5_md5 20 = .ok (.sipush 2000, 3) := by decide +kernel
theorem dX5_md5_23 : decode cX5_md5 23 = .ok (.iload_n 1, 1) := by decide +kernel
theorem dX5_md5_24 : decode cX5_md5 24 = .ok (.imul, 1) := by decide +kernel
theorem dX5_md5_25 : decode cX5_md5 25 = .ok (.aload_n 0, 1) := by decide +kernel
theorem dX5_md5_26 : decode cX5_md5 26 = .ok (.getfield 13, 3) := by decide +kernel
theorem dX5_md5_29 : decode cX5_md5 29 = .ok (.iload_n 1, 1) := by decide +kernel
theorem dX5_md5_30 : decode cX5_md5 30 = .ok (.iaload, 1) := by decide +kernel
theorem dX5_md5_31 : decode cX5_md5 31 = .ok (.invokevirtual 143, 3) := by decide +kernel
theorem dX5_md5_34 : decode cX5_md5 34 = .ok (.aload_n 0, 1) := by decide +kernel
theorem dX5_md5_35 : decode cX5_md5 35 = .ok (.iload_n 2, 1) := by decide +kernel
theorem dX5_md5_36 : decode cX5_md5 36 = .ok (.invokevirtual 147, 3) := by decide +kernel
theorem dX5_md5_39 : decode cX5_md5 39 = .ok (.ireturn, 1) := by decide +kernel
theorem dX5_same_0 : decode cX5_same 0 = .ok (.aload_n 0, 1) := by decide +kernel
theorem dX5_same_1 : decode cX5_same 1 = .ok (.getfield 13, 3) := by decide +kernel
theorem dX5_same_4 : decode cX5_same 4 = .ok (.iconst 1, 1) := by decide +kernel
theorem dX5_same_5 : decode cX5_same 5 = .ok (.iaload, 1) := by decide +kernel
theorem dX5_same_6 : decode cX5_same 6 = .ok (.aload_n 0, 1) := by decide +kernel
theorem dX5_same_7 : decode cX5_same 7 = .ok (.getfield 13, 3) := by decide +kernel
theorem dX5_same_10 : decode cX5_same 10 = .ok (.iconst 2, 1) := by decide +kernel
theorem dX5_same_11 : decode cX5_same 11 = .ok (.iaload, 1) := by decide +kernel
theorem dX5_same_12 : decode cX5_same 12 = .ok (.if_icmp .ne 7, 3) := by decide +kernel
theorem dX5_same_15 : decode cX5_same 15 = .ok (.iconst 1, 1) := by decide +kernel
theorem dX5_same_16 : decode cX5_same 16 = .ok (.goto 4, 3) := by decide +kernel
theorem dX5_same_19 : decode cX5_same 19 = .ok (.iconst 0, 1) := by decide +kernel
theorem dX5_same_20 : decode cX5_same 20 = .ok (.istore_n 1, 1) := by decide +kernel
theorem dX5_same_21 : decode cX5_same 21 = .ok (.iconst 0, 1) := by decide +kernel
theorem dX5_same_22 : decode cX5_same 22 = .ok (.istore_n 2, 1) := by decide +kernel
theorem dX5_same_23 : decode cX5_same 23 = .ok (.iload_n 2, 1) := by decide +kernel
theorem dX5_same_24 : decode cX5_same 24 = .ok (.aload_n 0, 1) := by decide +kernel
theorem dX5_same_25 : decode cX5_same 25 = .ok (.getfield 13, 3) := by decide +kernel
theorem dX5_same_28 : decode cX5_same 28 = .ok (.iconst 1, 1) := by decide +kernel
theorem dX5_same_29 : decode cX5_same 29 = .ok (.iaload, 1) := by decide +kernel
theorem dX5_same_30 : decode cX5_same 30 = .ok (.if_icmp .ge 42, 3) := by decide +kernel
theorem dX5_same_33 : decode cX5_same 33 = .ok (.iload_n 1, 1) := by decide +kernel
theorem dX5_same_34 : decode cX5_same 34 = .ok (.ifCond .eq 38, 3) := by decide +kernel
theorem dX5_same_37 : decode cX5_same 37 = .ok (.aload_n 0, 1) := by decide +kernel
theorem dX5_same_38 : decode cX5_same 38 = .ok (.getfield 7, 3) := by decide +kernel
theorem dX5_same_41 : decode cX5_same 41 = .ok (.sipush 2000, 3) := by decide +kernel
theorem dX5_same_44 : decode cX5_same 44 = .ok (.iload_n 2, 1) := by decide +kernel
theorem dX5_same_45 : decode cX5_same 45 = .ok (.iadd, 1) := by decide +kernel
theorem dX5_same_46 : decode cX5_same 46 = .ok (.baload, 1) := by decide +kernel
theorem dX5_same_47 : decode cX5_same 47 = .ok (.aload_n 0, 1) := by decide +kernel
theorem dX5_same_48 : decode cX5_same 48 = .ok (.getfield 7, 3) := by decide +kernel
theorem dX5_same_51 : decode cX5_same 51 = .ok (.sipush 4000, 3) := by decide +kernel
theorem dX5_same_54 : decode cX5_same 54 = .ok (.iload_n 2, 1) := by decide +kernel
theorem dX5_same_55 : decode cX5_same 55 = .ok (.iadd, 1) := by decide +kernel
theorem dX5_same_56 : decode cX5_same 56 = .ok (.baload, 1) := by decide +kernel
theorem dX5_same_57 : decode cX5_same 57 = .ok (.if_icmp .ne 7, 3) := by decide +kernel
theorem dX5_same_60 : decode cX5_same 60 = .ok (.iconst 1, 1) := by decide +kernel
theorem dX5_same_61 : decode cX5_same 61 = .ok (.goto 4, 3) := by decide +kernel
theorem dX5_same_64 : decode cX5_same 64 = .ok (.iconst 0, 1) := by decide +kernel
theorem dX5_same_65 : decode cX5_same 65 = .ok (.istore_n 1, 1) := by decide +kernel
theorem dX5_same_66 : decode cX5_same 66 = .ok (.iinc 2 1, 3) := by decide +kernel
theorem dX5_same_69 : decode cX5_same 69 = .ok (.goto (-46), 3) := by decide +kernel
theorem dX5_same_72 : decode cX5_same 72 = .ok (.iload_n 1, 1) := by decide +kernel
theorem dX5_same_73 : decode cX5_same 73 = .ok (.ireturn, 1) := by decide +kernel
theorem dX5_count_0 : decode cX5_count 0 = .ok (.iload_n 1, 1) := by decide +kernel
theorem dX5_count_1 : decode cX5_count 1 = .ok (.tableswitch 78 0 6 #[43, 48, 53, 58, 63, 68, 73], 43) := by decide +kernel
theorem dX5_count_44 : decode cX5_count 44 = .ok (.aload_n 0, 1) := by decide +kernel
theorem dX5_count_45 : decode cX5_count 45 = .ok (.getfield 160, 3) := by decide +kernel
theorem dX5_count_48 : decode cX5_count 48 = .ok (.ireturn, 1) := by decide +kernel
theorem dX5_count_49 : decode cX5_count 49 = .ok (.aload_n 0, 1) := by decide +kernel
theorem dX5_count_50 : decode cX5_count 50 = .ok (.getfield 163, 3) := by decide +kernel
theorem dX5_count_53 : decode cX5_count 53 = .ok (.ireturn, 1) := by decide +kernel
theorem dX5_count_54 : decode cX5_count 54 = .ok (.aload_n 0, 1) := by decide +kernel
theorem dX5_count_55 : decode cX5_count 55 = .ok (.getfield 166, 3) := by decide +kernel
theorem dX5_count_58 : decode cX5_count 58 = .ok (.ireturn, 1) := by decide +kernel
theorem dX5_count_59 : decode cX5_count 59 = .ok (.aload_n 0, 1) := by decide +kernel
theorem dX5_count_60 : decode cX5_count 60 = .ok (.getfield 154, 3) := by decide +kernel
theorem dX5_count_63 : decode cX5_count 63 = .ok (.ireturn, 1) := by decide +kernel
theorem dX5_count_64 : decode cX5_count 64 = .ok (.aload_n 0, 1) := by decide +kernel
theorem dX5_count_65 : decode cX5_count 65 = .ok (.getfield 136, 3) := by decide +kernel
theorem dX5_count_68 : decode cX5_count 68 = .ok (.ireturn, 1) := by decide +kernel
theorem dX5_count_69 : decode cX5_count 69 = .ok (.aload_n 0, 1) := by decide +kernel
theorem dX5_count_70 : decode cX5_count 70 = .ok (.getfield 27, 3) := by decide +kernel
theorem dX5_count_73 : decode cX5_count 73 = .ok (.ireturn, 1) := by decide +kernel
theorem dX5_count_74 : decode cX5_count 74 = .ok (.aload_n 0, 1) := by decide +kernel
theorem dX5_count_75 : decode cX5_count 75 = .ok (.getfield 30, 3) := by decide +kernel
theorem dX5_count_78 : decode cX5_count 78 = .ok (.ireturn, 1) := by decide +kernel
theorem dX5_count_79 : decode cX5_count 79 = .ok (.iconst (-1), 1) := by decide +kernel
theorem dX5_count_80 : decode cX5_count 80 = .ok (.ireturn, 1) := by decide +kernel
