theorem dX5_init_0 : decode cX5_init 0 = .ok (.aload_n 0, 1) := by decide +kernel
theorem dX5_init_1 : decode cX5_init 1 = .ok (.invokespecial 1, 3) := by decide +kernel
theorem dX5_init_4 : decode cX5_init 4 = .ok (.aload_n 0, 1) := by decide +kernel
theorem dX5_init_5 : decode cX5_init 5 = .ok (.sipush 6000, 3) := by decide +kernel
theorem dX5_init_8 : decode cX5_init 8 = .ok (.newarray .byte, 2) := by decide +kernel
theorem dX5_init_10 : decode cX5_init 10 = .ok (.putfield 7, 3) := by decide +kernel
theorem dX5_init_13 : decode cX5_init 13 = .ok (.aload_n 0, 1) := by decide +kernel
theorem dX5_init_14 : decode cX5_init 14 = .ok (.iconst 3, 1) := by decide +kernel
theorem dX5_init_15 : decode cX5_init 15 = .ok (.newarray .int, 2) := by decide +kernel
theorem dX5_init_17 : decode cX5_init 17 = .ok (.putfield 13, 3) := by decide +kernel
theorem dX5_init_20 : decode cX5_init 20 = .ok (.aload_n 0, 1) := by decide +kernel
theorem dX5_init_21 : decode cX5_init 21 = .ok (.sipush 8100, 3) := by decide +kernel
theorem dX5_init_24 : decode cX5_init 24 = .ok (.newarray .byte, 2) := by decide +kernel
theorem dX5_init_26 : decode cX5_init 26 = .ok (.putfield 17, 3) := by decide +kernel
theorem dX5_init_29 : decode cX5_init 29 = .ok (.aload_n 0, 1) := by decide +kernel
theorem dX5_init_30 : decode cX5_init 30 = .ok (.bipush 16, 2) := by decide +kernel
theorem dX5_init_32 : decode cX5_init 32 = .ok (.putfield 20, 3) := by decide +kernel
theorem dX5_init_35 : decode cX5_init 35 = .ok (.aload_n 0, 1) := by decide +kernel
theorem dX5_init_36 : decode cX5_init 36 = .ok (.bipush 8, 2) := by decide +kernel
theorem dX5_init_38 : decode cX5_init 38 = .ok (.putfield 24, 3) := by decide +kernel
theorem dX5_init_41 : decode cX5_init 41 = .ok (.aload_n 0, 1) := by decide +kernel
theorem dX5_init_42 : decode cX5_init 42 = .ok (.bipush 16, 2) := by decide +kernel
theorem dX5_init_44 : decode cX5_init 44 = .ok (.putfield 27, 3) := by decide +kernel
theorem dX5_init_47 : decode cX5_init 47 = .ok (.aload_n 0, 1) := by decide +kernel
theorem dX5_init_48 : decode cX5_init 48 = .ok (.bipush 8, 2) := by decide +kernel
theorem dX5_init_50 : decode cX5_init 50 = .ok (.putfield 30, 3) := by decide +kernel
theorem dX5_init_53 : decode cX5_init 53 = .ok (.aload_n 0, 1) := by decide +kernel
theorem dX5_init_54 : decode cX5_init 54 = .ok (.sipush 2000, 3) := by decide +kernel
theorem dX5_init_57 : decode cX5_init 57 = .ok (.newarray .int, 2) := by decide +kernel
theorem dX5_init_59 : decode cX5_init 59 = .ok (.putfield 33, 3) := by decide +kernel
theorem dX5_init_62 : decode cX5_init 62 = .ok (.aload_n 0, 1) := by decide +kernel
theorem dX5_init_63 : decode cX5_init 63 = .ok (.sipush 32000, 3) := by decide +kernel
theorem dX5_init_66 : decode cX5_init 66 = .ok (.newarray .byte, 2) := by decide +kernel
theorem dX5_init_68 : decode cX5_init 68 = .ok (.putfield 36, 3) := by decide +kernel
theorem dX5_init_71 : decode cX5_init 71 = .ok (.aload_n 0, 1) := by decide +kernel
theorem dX5_init_72 : decode cX5_init 72 = .ok (.sipush 2112, 3) := by decide +kernel
theorem dX5_init_75 : decode cX5_init 75 = .ok (.newarray .byte, 2) := by decide +kernel
theorem dX5_init_77 : decode cX5_init 77 = .ok (.putfield 39, 3) := by decide +kernel
theorem dX5_init_80 : decode cX5_init 80 = .ok (.aload_n 0, 1) := by decide +kernel
theorem dX5_init_81 : decode cX5_init 81 = .ok (.iconst 4, 1) := by decide +kernel
theorem dX5_init_82 : decode cX5_init 82 = .ok (.newarray .int, 2) := by decide +kernel
theorem dX5_init_84 : decode cX5_init 84 = .ok (.putfield 42, 3) := by decide +kernel
theorem dX5_init_87 : decode cX5_init 87 = .ok (.aload_n 0, 1) := by decide +kernel
theorem dX5_init_88 : decode cX5_init 88 = .ok (.bipush 16, 2) := by decide +kernel
theorem dX5_init_90 : decode cX5_init 90 = .ok (.newarray .int, 2) := by decide +kernel
theorem dX5_init_92 : decode cX5_init 92 = .ok (.putfield 45, 3) := by decide +kernel
theorem dX5_init_95 : decode cX5_init 95 = .ok (.aload_n 0, 1) := by decide +kernel
theorem dX5_init_96 : decode cX5_init 96 = .ok (.bipush 64, 2) := by decide +kernel
theorem dX5_init_98 : decode cX5_init 98 = .ok (.newarray .int, 2) := by decide +kernel
theorem dX5_init_100 : decode cX5_init 100 = .ok (.dup, 1) := by decide +kernel
theorem dX5_init_101 : decode cX5_init 101 = .ok (.iconst 0, 1) := by decide +kernel
theorem dX5_init_102 : decode cX5_init 102 = .ok (.ldc 48, 2) := by decide +kernel
theorem dX5_init_104 : decode cX5_init 104 = .ok (.iastore, 1) := by decide +kernel
theorem dX5_init_105 : decode cX5_init 105 = .ok (.dup, 1) := by decide +kernel
theorem dX5_init_106 : decode cX5_init 106 = .ok (.iconst 1, 1) := by decide +kernel
theorem dX5_init_107 : decode cX5_init 107 = .ok (.ldc 49, 2) := by decide +kernel
theorem dX5_init_109 : decode cX5_init 109 = .ok (.iastore, 1) := by decide +kernel
theorem dX5_init_110 : decode cX5_init 110 = .ok (.dup, 1) := by decide +kernel
theorem dX5_init_111 : decode cX5_init 111 = .ok (.iconst 2, 1) := by decide +kernel
theorem dX5_init_112 : decode cX5_init 112 = .ok (.ldc 50, 2) := by decide +kernel
theorem dX5_init_114 : decode cX5_init 114 = .ok (.iastore, 1) := by decide +kernel
theorem dX5_init_115 : decode cX5_init 115 = .ok (.dup, 1) := by decide +kernel
theorem dX5_init_116 : decode cX5_init 116 = .ok (.iconst 3, 1) := by decide +kernel
theorem dX5_init_117 : decode cX5_init 117 = .ok (.ldc 51, 2) := by decide +kernel
theorem dX5_init_119 : decode cX5_init 119 = .ok (.iastore, 1) := by decide +kernel
theorem dX5_init_120 : decode cX5_init 120 = .ok (.dup, 1) := by decide +kernel
theorem dX5_init_121 : decode cX5_init 121 = .ok (.iconst 4, 1) := by decide +kernel
theorem dX5_init_122 : decode cX5_init 122 = .ok (.ldc 52, 2) := by decide +kernel
theorem dX5_init_124 : decode cX5_init 124 = .ok (.iastore, 1) := by decide +kernel
theorem dX5_init_125 : decode cX5_init 125 = .ok (.dup, 1) := by decide +kernel
theorem dX5_init_126 : decode cX5_init 126 = .ok (.iconst 5, 1) := by decide +kernel
theorem dX5_init_127 : decode cX5_init 127 = .ok (.ldc 53, 2) := by decide +kernel
theorem dX5_init_129 : decode cX5_init 129 = .ok (.iastore, 1) := by decide +kernel
theorem dX5_init_130 : decode cX5_init 130 = .ok (.dup, 1) := by decide +kernel
theorem dX5_init_131 : decode cX5_init 131 = .ok (.bipush 6, 2) := by decide +kernel
theorem dX5_init_133 : decode cX5_init 133 = .ok (.ldc 54, 2) := by decide +kernel
theorem dX5_init_135 : decode cX5_init 135 = .ok (.iastore, 1) := by decide +kernel
theorem dX5_init_136 : decode cX5_init 136 = .ok (.dup, 1) := by decide +kernel
theorem dX5_init_137 : decode cX5_init 137 = .ok (.bipush 7, 2) := by decide +kernel
theorem dX5_init_139 : decode cX5_init 139 = .ok (.ldc 55, 2) := by decide +kernel
theorem dX5_init_141 : decode cX5_init 141 = .ok (.iastore, 1) := by decide +kernel
theorem dX5_init_142 : decode cX5_init 142 = .ok (.dup, 1) := by decide +kernel
theorem dX5_init_143 : decode cX5_init 143 = .ok (.bipush 8, 2) := by decide +kernel
theorem dX5_init_145 : decode cX5_init 145 = .ok (.ldc 56, 2) := by decide +kernel
theorem dX5_init_147 : decode cX5_init 147 = .ok (.iastore, 1) := by decide +kernel
theorem dX5_init_148 : decode cX5_init 148 = .ok (.dup, 1) := by decide +kernel
theorem dX5_init_149 : decode cX5_init 149 = .ok (.bipush 9, 2) := by decide +kernel
theorem dX5_init_151 : decode cX5_init 151 = .ok (.ldc 57, 2) := by decide +kernel
theorem dX5_init_153 : decode cX5_init 153 = .ok (.iastore, 1) := by decide +kernel
theorem dX5_init_154 : decode cX5_init 154 = .ok (.dup, 1) := by decide +kernel
theorem dX5_init_155 : decode cX5_init 155 = .ok (.bipush 10, 2) := by decide +kernel
theorem dX5_init_157 : decode cX5_init 157 = .ok (.ldc 58, 2) := by decide +kernel
theorem dX5_init_159 : decode cX5_init 159 = .ok (.iastore, 1) := by decide +kernel
theorem dX5_init_160 : decode cX5_init 160 = .ok (.dup, 1) := by decide +kernel
theorem dX5_init_161 : decode cX5_init 161 = .ok (.bipush 11, 2) := by decide +kernel
theorem dX5_init_163 : decode cX5_init 163 = .ok (.ldc 59, 2) := by decide +kernel
theorem dX5_init_165 : decode cX5_init 165 = .ok (.iastore, 1) := by decide +kernel
theorem dX5_init_166 : decode cX5_init 166 = .ok (.dup, 1) := by decide +kernel
theorem dX5_init_167 : decode cX5_init 167 = .ok (.bipush 12, 2) := by decide +kernel
theorem dX5_init_169 : decode cX5_init 169 = .ok (.ldc 60, 2) := by decide +kernel
theorem dX5_init_171 : decode cX5_init 171 = .ok (.iastore, 1) := by decide +kernel
theorem dX5_init_172 : decode cX5_init 172 = .ok (.dup, 1) := by decide +kernel
theorem dX5_init_173 : decode cX5_init 173 = .ok (.bipush 13, 2) := by decide +kernel
theorem dX5_init_175 : decode cX5_init 175 = .ok (.ldc 61, 2) := by decide +kernel
theorem dX5_init_177 : decode cX5_init 177 = .ok (.iastore, 1) := by decide +kernel
theorem dX5_init_178 : decode cX5_init 178 = .ok (.dup, 1) := by decide +kernel
theorem dX5_init_179 : decode cX5_init 179 = .ok (.bipush 14, 2) := by decide +kernel
theorem dX5_init_181 : decode cX5_init 181 = .ok (.ldc 62, 2) := by decide +kernel
theorem dX5_init_183 : decode cX5_init 183 = .ok (.iastore, 1) := by decide +kernel
theorem dX5_init_184 : decode cX5_init 184 = .ok (.dup, 1) := by decide +kernel
theorem dX5_init_185 : decode cX5_init 185 = .ok (.bipush 15, 2) := by decide +kernel
theorem dX5_init_187 : decode cX5_init 187 = .ok (.ldc 63, 2) := by decide +kernel
theorem dX5_init_189 : decode cX5_init 189 = .ok (.iastore, 1) := by decide +kernel
theorem dX5_init_190 : decode cX5_init 190 = .ok (.dup, 1) := by decide +kernel
theorem dX5_init_191 : decode cX5_init 191 = .ok (.bipush 16, 2) := by decide +kernel
theorem dX5_init_193 : decode cX5_init 193 = .ok (.ldc 64, 2) := by decide +kernel
theorem dX5_init_195 : decode cX5_init 195 = .ok (.iastore, 1) := by decide +kernel
theorem dX5_init_196 : decode cX5_init 196 = .ok (.dup, 1) := by decide +kernel
theorem dX5_init_197 : decode cX5_init 197 = .ok (.bipush 17, 2) := by decide +kernel
theorem dX5_init_199 : decode cX5_init 199 = .ok (.ldc 65, 2) := by decide +kernel
theorem dX5_init_201 : decode cX5_init 201 = .ok (.iastore, 1) := by decide +kernel
theorem dX5_init_202 : decode cX5_init 202 = .ok (.dup, 1) := by decide +kernel
theorem dX5_init_203 : decode cX5_init 203 = .ok (.bipush 18, 2) := by decide +kernel
theorem dX5_init_205 : decode cX5_init 205 = .ok (.ldc 66, 2) := by decide +kernel
theorem dX5_init_207 : decode cX5_init 207 = .ok (.iastore, 1) := by decide +kernel
theorem dX5_init_208 : decode cX5_init 208 = .ok (.dup, 1) := by decide +kernel
theorem dX5_init_209 : decode cX5_init 209 = .ok (.bipush 19, 2) := by decide +kernel
theorem dX5_init_211 : decode cX5_init 211 = .ok (.ldc 67, 2) := by decide +kernel
theorem dX5_init_213 : decode cX5_init 213 = .ok (.iastore, 1) := by decide +kernel
theorem dX5_init_214 : decode cX5_init 214 = .ok (.dup, 1) := by decide +kernel
theorem dX5_init_215 : decode cX5_init 215 = .ok (.bipush 20, 2) := by decide +kernel
theorem dX5_init_217 : decode cX5_init 217 = .ok (.ldc 68, 2) := by decide +kernel
theorem dX5_init_219 : decode cX5_init 219 = .ok (.iastore, 1) := by decide +kernel
theorem dX5_init_220 : decode cX5_init 220 = .ok (.dup, 1) := by decide +kernel
theorem dX5_init_221 : decode cX5_init 221 = .ok (.bipush 21, 2) := by decide +kernel
theorem dX5_init_223 : decode cX5_init 223 = .ok (.ldc 69, 2) := by decide +kernel
theorem dX5_init_225 : decode cX5_init 225 = .ok (.iastore, 1) := by decide +kernel
theorem dX5_init_226 : decode cX5_init 226 = .ok (.dup, 1) := by decide +kernel
theorem dX5_init_227 : decode cX5_init 227 = .ok (.bipush 22, 2) := by decide +kernel
theorem dX5_init_229 : decode cX5_init 229 = .ok (.ldc 70, 2) := by decide +kernel
theorem dX5_init_231 : decode cX5_init 231 = .ok (.iastore, 1) := by decide +kernel
theorem dX5_init_232 : decode cX5_init 232 = .ok (.dup, 1) := by decide +kernel
theorem dX5_init_233 : decode cX5_init 233 = .ok (.bipush 23, 2) := by decide +kernel
theorem dX5_init_235 : decode cX5_init 235 = .ok (.ldc 71, 2) := by decide +kernel
theorem dX5_init_237 : decode cX5_init 237 = .ok (.iastore, 1) := by decide +kernel
theorem dX5_init_238 : decode cX5_init 238 = .ok (.dup, 1) := by decide +kernel
theorem dX5_init_239 : decode cX5_init 239 = .ok (.bipush 24, 2) := by decide +kernel
theorem dX5_init_241 : decode cX5_init 241 = .ok (.ldc 72, 2) := by decide +kernel
theorem dX5_init_243 : decode cX5_init 243 = .ok (.iastore, 1) := by decide +kernel
theorem dX5_init_244 : decode cX5_init 244 = .ok (.dup, 1) := by decide +kernel
theorem dX5_init_245 : decode cX5_init 245 = .ok (.bipush 25, 2) := by decide +kernel
theorem dX5_init_247 : decode cX5_init 247 = .ok (.ldc 73, 2) := by decide +kernel
theorem dX5_init_249 : decode cX5_init 249 = .ok (.iastore, 1) := by decide +kernel
theorem dX5_init_250 : decode cX5_init 250 = .ok (.dup, 1) := by decide +kernel
theorem dX5_init_251 : decode cX5_init 251 = .ok (.bipush 26, 2) := by decide +kernel
theorem dX5_init_253 : decode cX5_init 253 = .ok (.ldc 74, 2) := by decide +kernel
theorem dX5_init_255 : decode cX5_init 255 = .ok (.iastore, 1) := by decide +kernel
theorem dX5_init_256 : decode cX5_init 256 = .ok (.dup, 1) := by decide +kernel
theorem dX5_init_257 : decode cX5_init 257 = .ok (.bipush 27, 2) := by decide +kernel
theorem dX5_init_259 : decode cX5_init 259 = .ok (.ldc 75, 2) := by decide +kernel
theorem dX5_init_261 : decode cX5_init 261 = .ok (.iastore, 1) := by decide +kernel
theorem dX5_init_262 : decode cX5_init 262 = .ok (.dup, 1) := by decide +kernel
theorem dX5_init_263 : decode cX5_init 263 = .ok (.bipush 28, 2) := by decide +kernel
theorem dX5_init_265 : decode cX5_init 265 = .ok (.ldc 76, 2) := by decide +kernel
theorem dX5_init_267 : decode cX5_init 267 = .ok (.iastore, 1) := by decide +kernel
theorem dX5_init_268 : decode cX5_init 268 = .ok (.dup, 1) := by decide +kernel
theorem dX5_init_269 : decode cX5_init 269 = .ok (.bipush 29, 2) := by decide +kernel
theorem dX5_init_271 : decode cX5_init 271 = .ok (.ldc 77, 2) := by decide +kernel
theorem dX5_init_273 : decode cX5_init 273 = .ok (.iastore, 1) := by decide +kernel
theorem dX5_init_274 : decode cX5_init 274 = .ok (.dup, 1) := by decide +kernel
theorem dX5_init_275 : decode cX5_init 275 = .ok (.bipush 30, 2) := by decide +kernel
theorem dX5_init_277 : decode cX5_init 277 = .ok (.ldc 78, 2) := by decide +kernel
theorem dX5_init_279 : decode cX5_init 279 = .ok (.iastore, 1) := by decide +kernel
theorem dX5_init_280 : decode cX5_init 280 = .ok (.dup, 1) := by decide +kernel
theorem dX5_init_281 : decode cX5_init 281 = .ok (.bipush 31, 2) := by decide +kernel
theorem dX5_init_283 : decode cX5_init 283 = .ok (.ldc 79, 2) := by decide +kernel
theorem dX5_init_285 : decode cX5_init 285 = .ok (.iastore, 1) := by decide +kernel
theorem dX5_init_286 : decode cX5_init 286 = .ok (.dup, 1) := by decide +kernel
theorem dX5_init_287 : decode cX5_init 287 = .ok (.bipush 32, 2) := by decide +kernel
theorem dX5_init_289 : decode cX5_init 289 = .ok (.ldc 80, 2) := by decide +kernel
theorem dX5_init_291 : decode cX5_init 291 = .ok (.iastore, 1) := by decide +kernel
theorem dX5_init_292 : decode cX5_init 292 = .ok (.dup, 1) := by decide +kernel
theorem dX5_init_293 : decode cX5_init 293 = .ok (.bipush 33, 2) := by decide +kernel
theorem dX5_init_295 : decode cX5_init 295 = .ok (.ldc 81, 2) := by decide +kernel
theorem dX5_init_297 : decode cX5_init 297 = .ok (.iastore, 1) := by decide +kernel
theorem dX5_init_298 : decode cX5_init 298 = .ok (.dup, 1) := by decide +kernel
theorem dX5_init_299 : decode cX5_init 299 = .ok (.bipush 34, 2) := by decide +kernel
theorem dX5_init_301 : decode cX5_init 301 = .ok (.ldc 82, 2) := by decide +kernel
theorem dX5_init_303 : decode cX5_init 303 = .ok (.iastore, 1) := by decide +kernel
theorem dX5_init_304 : decode cX5_init 304 = .ok (.dup, 1) := by decide +kernel
theorem dX5_init_305 : decode cX5_init 305 = .ok (.bipush 35, 2) := by decide +kernel
theorem dX5_init_307 : decode cX5_init 307 = .ok (.ldc 83, 2) := by decide +kernel
theorem dX5_init_309 : decode cX5_init 309 = .ok (.iastore, 1) := by decide +kernel
theorem dX5_init_310 : decode cX5_init 310 = .ok (.dup, 1) := by decide +kernel
theorem dX5_init_311 : decode cX5_init 311 = .ok (.bipush 36, 2) := by decide +kernel
theorem dX5_init_313 : decode cX5_init 313 = .ok (.ldc 84, 2) := by decide +kernel
theorem dX5_init_315 : decode cX5_init 315 = .ok (.iastore, 1) := by decide +kernel
theorem dX5_init_316 : decode cX5_init 316 = .ok (.dup, 1) := by decide +kernel
theorem dX5_init_317 : decode cX5_init 317 = .ok (.bipush 37, 2) := by decide +kernel
theorem dX5_init_319 : decode cX5_init 319 = .ok (.ldc 85, 2) := by decide +kernel
theorem dX5_init_321 : decode cX5_init 321 = .ok (.iastore, 1) := by decide +kernel
theorem dX5_init_322 : decode cX5_init 322 = .ok (.dup, 1) := by decide +kernel
theorem dX5_init_323 : decode cX5_init 323 = .ok (.bipush 38, 2) := by decide +kernel
theorem dX5_init_325 : decode cX5_init 325 = .ok (.ldc 86, 2) := by decide +kernel
theorem dX5_init_327 : decode cX5_init 327 = .ok (.iastore, 1) := by decide +kernel
theorem dX5_init_328 : decode cX5_init 328 = .ok (.dup, 1) := by decide +kernel
theorem dX5_init_329 : decode cX5_init 329 = .ok (.bipush 39, 2) := by decide +kernel
theorem dX5_init_331 : decode cX5_init 331 = .ok (.ldc 87, 2) := by decide +kernel
theorem dX5_init_333 : decode cX5_init 333 = .ok (.iastore, 1) := by decide +kernel
theorem dX5_init_334 : decode cX5_init 334 = .ok (.dup, 1) := by decide +kernel
theorem dX5_init_335 : decode cX5_init 335 = .ok (.bipush 40, 2) := by decide +kernel
theorem dX5_init_337 : decode cX5_init 337 = .ok (.ldc 88, 2) := by decide +kernel
theorem dX5_init_339 : decode cX5_init 339 = .ok (.iastore, 1) := by decide +kernel
theorem dX5_init_340 : decode cX5_init 340 = .ok (.dup, 1) := by decide +kernel
theorem dX5_init_341 : decode cX5_init 341 = .ok (.bipush 41, 2) := by decide +kernel
theorem dX5_init_343 : decode cX5_init 343 = .ok (.ldc 89, 2) := by decide +kernel
theorem dX5_init_345 : decode cX5_init 345 = .ok (.iastore, 1) := by decide +kernel
theorem dX5_init_346 : decode cX5_init 346 = .ok (.dup, 1) := by decide +kernel
theorem dX5_init_347 : decode cX5_init 347 = .ok (.bipush 42, 2) := by decide +kernel
theorem dX5_init_349 : decode cX5_init 349 = .ok (.ldc 90, 2) := by decide +kernel
theorem dX5_init_351 : decode cX5_init 351 = .ok (.iastore, 1) := by decide +kernel
theorem dX5_init_352 : decode cX5_init 352 = .ok (.dup, 1) := by decide +kernel
theorem dX5_init_353 : decode cX5_init 353 = .ok (.bipush 43, 2) := by decide +kernel
theorem dX5_init_355 : decode cX5_init 355 = .ok (.ldc 91, 2) := by decide +kernel
theorem dX5_init_357 : decode cX5_init 357 = .ok (.iastore, 1) := by decide +kernel
theorem dX5_init_358 : decode cX5_init 358 = .ok (.dup, 1) := by decide +kernel
theorem dX5_init_359 : decode cX5_init 359 = .ok (.bipush 44, 2) := by decide +kernel
theorem dX5_init_361 : decode cX5_init 361 = .ok (.ldc 92, 2) := by decide +kernel
theorem dX5_init_363 : decode cX5_init 363 = .ok (.iastore, 1) := by decide +kernel
theorem dX5_init_364 : decode cX5_init 364 = .ok (.dup, 1) := by decide +kernel
theorem dX5_init_365 : decode cX5_init 365 = .ok (.bipush 45, 2) := by decide +kernel
theorem dX5_init_367 : decode cX5_init 367 = .ok (.ldc 93, 2) := by decide +kernel
theorem dX5_init_369 : decode cX5_init 369 = .ok (.iastore, 1) := by decide +kernel
theorem dX5_init_370 : decode cX5_init 370 = .ok (.dup, 1) := by decide +kernel
theorem dX5_init_371 : decode cX5_init 371 = .ok (.bipush 46, 2) := by decide +kernel
theorem dX5_init_373 : decode cX5_init 373 = .ok (.ldc 94, 2) := by decide +kernel
theorem dX5_init_375 : decode cX5_init 375 = .ok (.iastore, 1) := by decide +kernel
theorem dX5_init_376 : decode cX5_init 376 = .ok (.dup, 1) := by decide +kernel
theorem dX5_init_377 : decode cX5_init 377 = .ok (.bipush 47, 2) := by decide +kernel
theorem dX5_init_379 : decode cX5_init 379 = .ok (.ldc 95, 2) := by decide +kernel
theorem dX5_init_381 : decode cX5_init 381 = .ok (.iastore, 1) := by decide +kernel
theorem dX5_init_382 : decode cX5_init 382 = .ok (.dup, 1) := by decide +kernel
theorem dX5_init_383 : decode cX5_init 383 = .ok (.bipush 48, 2) := by decide +kernel
theorem dX5_init_385 : decode cX5_init 385 = .ok (.ldc 96, 2) := by decide +kernel
theorem dX5_init_387 : decode cX5_init 387 = .ok (.iastore, 1) := by decide +kernel
theorem dX5_init_388 : decode cX5_init 388 = .ok (.dup, 1) := by decide +kernel
theorem dX5_init_389 : decode cX5_init 389 = .ok (.bipush 49, 2) := by decide +kernel
theorem dX5_init_391 : decode cX5_init 391 = .ok (.ldc 97, 2) := by decide +kernel
theorem dX5_init_393 : decode cX5_init 393 = .ok (.iastore, 1) := by decide +kernel
theorem dX5_init_394 : decode cX5_init 394 = .ok (.dup, 1) := by decide +kernel
theorem dX5_init_395 : decode cX5_init 395 = .ok (.bipush 50, 2) := by decide +kernel
theorem dX5_init_397 : decode cX5_init 397 = .ok (.ldc 98, 2) := by decide +kernel
theorem dX5_init_399 : decode cX5_init 399 = .ok (.iastore, 1) := by decide +kernel
theorem dX5_init_400 : decode cX5_init 400 = .ok (.dup, 1) := by decide +kernel
theorem dX5_init_401 : decode cX5_init 401 = .ok (.bipush 51, 2) := by decide +kernel
theorem dX5_init_403 : decode cX5_init 403 = .ok (.ldc 99, 2) := by decide +kernel
theorem dX5_init_405 : decode cX5_init 405 = .ok (.iastore, 1) := by decide +kernel
theorem dX5_init_406 : decode cX5_init 406 = .ok (.dup, 1) := by decide +kernel
theorem dX5_init_407 : decode cX5_init 407 = .ok (.bipush 52, 2) := by decide +kernel
theorem dX5_init_409 : decode cX5_init 409 = .ok (.ldc 100, 2) := by decide +kernel
theorem dX5_init_411 : decode cX5_init 411 = .ok (.iastore, 1) := by decide +kernel
theorem dX5_init_412 : decode cX5_init 412 = .ok (.dup, 1) := by decide +kernel
theorem dX5_init_413 : decode cX5_init 413 = .ok (.bipush 53, 2) := by decide +kernel
theorem dX5_init_415 : decode cX5_init 415 = .ok (.ldc 101, 2) := by decide +kernel
theorem dX5_init_417 : decode cX5_init 417 = .ok (.iastore, 1) := by decide +kernel
theorem dX5_init_418 : decode cX5_init 418 = .ok (.dup, 1) := by decide +kernel
theorem dX5_init_419 : decode cX5_init 419 = .ok (.bipush 54, 2) := by decide +kernel
theorem dX5_init_421 : decode cX5_init 421 = .ok (.ldc 102, 2) := by decide +kernel
theorem dX5_init_423 : decode cX5_init 423 = .ok (.iastore, 1) := by decide +kernel
theorem dX5_init_424 : decode cX5_init 424 = .ok (.dup, 1) := by decide +kernel
theorem dX5_init_425 : decode cX5_init 425 = .ok (.bipush 55, 2) := by decide +kernel
theorem dX5_init_427 : decode cX5_init 427 = .ok (.ldc 103, 2) := by decide +kernel
theorem dX5_init_429 : decode cX5_init 429 = .ok (.iastore, 1) := by decide +kernel
theorem dX5_init_430 : decode cX5_init 430 = .ok (.dup, 1) := by decide +kernel
theorem dX5_init_431 : decode cX5_init 431 = .ok (.bipush 56, 2) := by decide +kernel
theorem dX5_init_433 : decode cX5_init 433 = .ok (.ldc 104, 2) := by decide +kernel
theorem dX5_init_435 : decode cX5_init 435 = .ok (.iastore, 1) := by decide +kernel
theorem dX5_init_436 : decode cX5_init 436 = .ok (.dup, 1) := by decide +kernel
theorem dX5_init_437 : decode cX5_init 437 = .ok (.bipush 57, 2) := by decide +kernel
theorem dX5_init_439 : decode cX5_init 439 = .ok (.ldc 105, 2) := by decide +kernel
theorem dX5_init_441 : decode cX5_init 441 = .ok (.iastore, 1) := by decide +kernel
theorem dX5_init_442 : decode cX5_init 442 = .ok (.dup, 1) := by decide +kernel
theorem dX5_init_443 : decode cX5_init 443 = .ok (.bipush 58, 2) := by decide +kernel
theorem dX5_init_445 : decode cX5_init 445 = .ok (.ldc 106, 2) := by decide +kernel
theorem dX5_init_447 : decode cX5_init 447 = .ok (.iastore, 1) := by decide +kernel
theorem dX5_init_448 : decode cX5_init 448 = .ok (.dup, 1) := by decide +kernel
theorem dX5_init_449 : decode cX5_init 449 = .ok (.bipush 59, 2) := by decide +kernel
theorem dX5_init_451 : decode cX5_init 451 = .ok (.ldc 107, 2) := by decide +kernel
theorem dX5_init_453 : decode cX5_init 453 = .ok (.iastore, 1) := by decide +kernel
theorem dX5_init_454 : decode cX5_init 454 = .ok (.dup, 1) := by decide +kernel
theorem dX5_init_455 : decode cX5_init 455 = .ok (.bipush 60, 2) := by decide +kernel
theorem dX5_init_457 : decode cX5_init 457 = .ok (.ldc 108, 2) := by decide +kernel
theorem dX5_init_459 : decode cX5_init 459 = .ok (.iastore, 1) := by decide +kernel
theorem dX5_init_460 : decode cX5_init 460 = .ok (.dup, 1) := by decide +kernel
theorem dX5_init_461 : decode cX5_init 461 = .ok (.bipush 61, 2) := by decide +kernel
theorem dX5_init_463 : decode cX5_init 463 = .ok (.ldc 109, 2) := by decide +kernel
theorem dX5_init_465 : decode cX5_init 465 = .ok (.iastore, 1) := by decide +kernel
theorem dX5_init_466 : decode cX5_init 466 = .ok (.dup, 1) := by decide +kernel
theorem dX5_init_467 : decode cX5_init 467 = .ok (.bipush 62, 2) := by decide +kernel
theorem dX5_init_469 : decode cX5_init 469 = .ok (.ldc 110, 2) := by decide +kernel
theorem dX5_init_471 : decode cX5_init 471 = .ok (.iastore, 1) := by decide +kernel
theorem dX5_init_472 : decode cX5_init 472 = .ok (.dup, 1) := by decide +kernel
theorem dX5_init_473 : decode cX5_init 473 = .ok (.bipush 63, 2) := by decide +kernel
theorem dX5_init_475 : decode cX5_init 475 = .ok (.ldc 111, 2) := by decide +kernel
theorem dX5_init_477 : decode cX5_init 477 = .ok (.iastore, 1) := by decide +kernel
theorem dX5_init_478 : decode cX5_init 478 = .ok (.putfield 112, 3) := by decide +kernel
theorem dX5_init_481 : decode cX5_init 481 = .ok (.aload_n 0, 1) := by decide +kernel
theorem dX5_init_482 : decode cX5_init 482 = .ok (.bipush 16, 2) := by decide +kernel
theorem dX5_init_484 : decode cX5_init 484 = .ok (.newarray .int, 2) := by decide +kernel
theorem dX5_init_486 : decode cX5_init 486 = .ok (.dup, 1) := by decide +kernel
theorem dX5_init_487 : decode cX5_init 487 = .ok (.iconst 0, 1) := by decide +kernel
theorem dX5_init_488 : decode cX5_init 488 = .ok (.bipush 7, 2) := by decide +kernel
theorem dX5_init_490 : decode cX5_init 490 = .ok (.iastore, 1) := by decide +kernel
theorem dX5_init_491 : decode cX5_init 491 = .ok (.dup, 1) := by decide +kernel
theorem dX5_init_492 : decode cX5_init 492 = .ok (.iconst 1, 1) := by decide +kernel
theorem dX5_init_493 : decode cX5_init 493 = .ok (.bipush 12, 2) := by decide +kernel
theorem dX5_init_495 : decode cX5_init 495 = .ok (.iastore, 1) := by decide +kernel
theorem dX5_init_496 : decode cX5_init 496 = .ok (.dup, 1) := by decide +kernel
theorem dX5_init_497 : decode cX5_init 497 = .ok (.iconst 2, 1) := by decide +kernel
theorem dX5_init_498 : decode cX5_init 498 = .ok (.bipush 17, 2) := by decide +kernel
theorem dX5_init_500 : decode cX5_init 500 = .ok (.iastore, 1) := by decide +kernel
theorem dX5_init_501 : decode cX5_init 501 = .ok (.dup, 1) := by decide +kernel
theorem dX5_init_502 : decode cX5_init 502 = .ok (.iconst 3, 1) := by decide +kernel
theorem dX5_init_503 : decode cX5_init 503 = .ok (.bipush 22, 2) := by decide +kernel
theorem dX5_init_505 : decode cX5_init 505 = .ok (.iastore, 1) := by decide +kernel
theorem dX5_init_506 : decode cX5_init 506 = .ok (.dup, 1) := by decide +kernel
theorem dX5_init_507 : decode cX5_init 507 = .ok (.iconst 4, 1) := by decide +kernel
theorem dX5_init_508 : decode cX5_init 508 = .ok (.iconst 5, 1) := by decide +kernel
theorem dX5_init_509 : decode cX5_init 509 = .ok (.iastore, 1) := by decide +kernel
theorem dX5_init_510 : decode cX5_init 510 = .ok (.dup, 1) := by decide +kernel
theorem dX5_init_511 : decode cX5_init 511 = .ok (.iconst 5, 1) := by decide +kernel
theorem dX5_init_512 : decode cX5_init 512 = .ok (.bipush 9, 2) := by decide +kernel
theorem dX5_init_514 : decode cX5_init 514 = .ok (.iastore, 1) := by decide +kernel
theorem dX5_init_515 : decode cX5_init 515 = .ok (.dup, 1) := by decide +kernel
theorem dX5_init_516 : decode cX5_init 516 = .ok (.bipush 6, 2) := by decide +kernel
theorem dX5_init_518 : decode cX5_init 518 = .ok (.bipush 14, 2) := by decide +kernel
theorem dX5_init_520 : decode cX5_init 520 = .ok (.iastore, 1) := by decide +kernel
theorem dX5_init_521 : decode cX5_init 521 = .ok (.dup, 1) := by decide +kernel
theorem dX5_init_522 : decode cX5_init 522 = .ok (.bipush 7, 2) := by decide +kernel
theorem dX5_init_524 : decode cX5_init 524 = .ok (.bipush 20, 2) := by decide +kernel
theorem dX5_init_526 : decode cX5_init 526 = .ok (.iastore, 1) := by decide +kernel
theorem dX5_init_527 : decode cX5_init 527 = .ok (.dup, 1) := by decide +kernel
theorem dX5_init_528 : decode cX5_init 528 = .ok (.bipush 8, 2) := by decide +kernel
theorem dX5_init_530 : decode cX5_init 530 = .ok (.iconst 4, 1) := by decide +kernel
theorem dX5_init_531 : decode cX5_init 531 = .ok (.iastore, 1) := by decide +kernel
theorem dX5_init_532 : decode cX5_init 532 = .ok (.dup, 1) := by decide +kernel
theorem dX5_init_533 : decode cX5_init 533 = .ok (.bipush 9, 2) := by decide +kernel
theorem dX5_init_535 : decode cX5_init 535 = .ok (.bipush 11, 2) := by decide +kernel
theorem dX5_init_537 : decode cX5_init 537 = .ok (.iastore, 1) := by decide +kernel
theorem dX5_init_538 : decode cX5_init 538 = .ok (.dup, 1) := by decide +kernel
theorem dX5_init_539 : decode cX5_init 539 = .ok (.bipush 10, 2) := by decide +kernel
theorem dX5_init_541 : decode cX5_init 541 = .ok (.bipush 16, 2) := by decide +kernel
theorem dX5_init_543 : decode cX5_init 543 = .ok (.iastore, 1) := by decide +kernel
theorem dX5_init_544 : decode cX5_init 544 = .ok (.dup, 1) := by decide +kernel
theorem dX5_init_545 : decode cX5_init 545 = .ok (.bipush 11, 2) := by decide +kernel
theorem dX5_init_547 : decode cX5_init 547 = .ok (.bipush 23, 2) := by decide +kernel
theorem dX5_init_549 : decode cX5_init 549 = .ok (.iastore, 1) := by decide +kernel
theorem dX5_init_550 : decode cX5_init 550 = .ok (.dup, 1) := by decide +kernel
theorem dX5_init_551 : decode cX5_init 551 = .ok (.bipush 12, 2) := by decide +kernel
theorem dX5_init_553 : decode cX5_init 553 = .ok (.bipush 6, 2) := by decide +kernel
theorem dX5_init_555 : decode cX5_init 555 = .ok (.iastore, 1) := by decide +kernel
theorem dX5_init_556 : decode cX5_init 556 = .ok (.dup, 1) := by decide +kernel
theorem dX5_init_557 : decode cX5_init 557 = .ok (.bipush 13, 2) := by decide +kernel
theorem dX5_init_559 : decode cX5_init 559 = .ok (.bipush 10, 2) := by decide +kernel
theorem dX5_init_561 : decode cX5_init 561 = .ok (.iastore, 1) := by decide +kernel
theorem dX5_init_562 : decode cX5_init 562 = .ok (.dup, 1) := by decide +kernel
theorem dX5_init_563 : decode cX5_init 563 = .ok (.bipush 14, 2) := by decide +kernel
theorem dX5_init_565 : decode cX5_init 565 = .ok (.bipush 15, 2) := by decide +kernel
theorem dX5_init_567 : decode cX5_init 567 = .ok (.iastore, 1) := by decide +kernel
theorem dX5_init_568 : decode cX5_init 568 = .ok (.dup, 1) := by decide +kernel
theorem dX5_init_569 : decode cX5_init 569 = .ok (.bipush 15, 2) := by decide +kernel
theorem dX5_init_571 : decode cX5_init 571 = .ok (.bipush 21, 2) := by decide +kernel
theorem dX5_init_573 : decode cX5_init 573 = .ok (.iastore, 1) := by decide +kernel
theorem dX5_init_574 : decode cX5_init 574 = .ok (.putfield 115, 3) := by decide +kernel
theorem dX5_init_577 : decode cX5_init 577 = .ok (.aload_n 0, 1) := by decide +kernel
theorem dX5_init_578 : decode cX5_init 578 = .ok (.sipush 2000, 3) := by decide +kernel
theorem dX5_init_581 : decode cX5_init 581 = .ok (.newarray .int, 2) := by decide +kernel
theorem dX5_init_583 : decode cX5_init 583 = .ok (.putfield 118, 3) := by decide +kernel
theorem dX5_init_586 : decode cX5_init 586 = .ok (.aload_n 0, 1) := by decide +kernel
theorem dX5_init_587 : decode cX5_init 587 = .ok (.bipush 16, 2) := by decide +kernel
theorem dX5_init_589 : decode cX5_init 589 = .ok (.putfield 20, 3) := by decide +kernel
theorem dX5_init_592 : decode cX5_init 592 = .ok (.return_, 1) := by decide +kernel
theorem dX5_isFile_0 : decode cX5_isFile 0 = .ok (.iload_n 0, 1) := by decide +kernel
theorem dX5_isFile_1 : decode cX5_isFile 1 = .ok (.ifCond .eq 8, 3) := by decide +kernel
theorem dX5_isFile_4 : decode cX5_isFile 4 = .ok (.iload_n 0, 1) := by decide +kernel
theorem dX5_isFile_5 : decode cX5_isFile 5 = .ok (.iconst 1, 1) := by decide +kernel
theorem dX5_isFile_6 : decode cX5_isFile 6 = .ok (.if_icmp .ne 7, 3) := by decide +kernel
theorem dX5_isFile_9 : decode cX5_isFile 9 = .ok (.iconst 1, 1) := by decide +kernel
theorem dX5_isFile_10 : decode cX5_isFile 10 = .ok (.goto 4, 3) := by decide +kernel
theorem dX5_isFile_13 : decode cX5_isFile 13 = .ok (.iconst 0, 1) := by decide +kernel
theorem dX5_isFile_14 : decode cX5_isFile 14 = .ok (.ireturn, 1) := by decide +kernel
theorem dX5_feed_0 : decode cX5_feed 0 = .ok (.iload_n 1, 1) := by decide +kernel
theorem dX5_feed_1 : decode cX5_feed 1 = .ok (.invokestatic 121, 3) := by decide +kernel
theorem dX5_feed_4 : decode cX5_feed 4 = .ok (.ifCond .eq 17, 3) := by decide +kernel
theorem dX5_feed_7 : decode cX5_feed 7 = .ok (.aload_n 0, 1) := by decide +kernel
theorem dX5_feed_8 : decode cX5_feed 8 = .ok (.getfield 13, 3) := by decide +kernel
theorem dX5_feed_11 : decode cX5_feed 11 = .ok (.iload_n 1, 1) := by decide +kernel
theorem dX5_feed_12 : decode cX5_feed 12 = .ok (.iaload, 1) := by decide +kernel
theorem dX5_feed_13 : decode cX5_feed 13 = .ok (.iconst 4, 1) := by decide +kernel
theorem dX5_feed_14 : decode cX5_feed 14 = .ok (.iadd, 1) := by decide +kernel
theorem dX5_feed_15 : decode cX5_feed 15 = .ok (.sipush 2000, 3) := by decide +kernel
theorem dX5_feed_18 : decode cX5_feed 18 = .ok (.if_icmp .le 5, 3) := by decide +kernel
theorem dX5_feed_21 : decode cX5_feed 21 = .ok (.iconst (-1), 1) := by decide +kernel
theorem dX5_feed_22 : decode cX5_feed 22 = .ok (.ireturn, 1) := by decide +kernel
theorem dX5_feed_23 : decode cX5_feed 23 = .ok (.bipush 24, 2) := by decide +kernel
theorem dX5_feed_25 : decode cX5_feed 25 = .ok (.istore_n 3, 1) := by decide +kernel
theorem dX5_feed_26 : decode cX5_feed 26 = .ok (.iload_n 3, 1) := by decide +kernel
theorem dX5_feed_27 : decode cX5_feed 27 = .ok (.ifCond .lt 40, 3) := by decide +kernel
theorem dX5_feed_30 : decode cX5_feed 30 = .ok (.aload_n 0, 1) := by decide +kernel
theorem dX5_feed_31 : decode cX5_feed 31 = .ok (.getfield 7, 3) := by decide +kernel
theorem dX5_feed_34 : decode cX5_feed 34 = .ok (.sipush 2000, 3) := by decide +kernel
theorem dX5_feed_37 : decode cX5_feed 37 = .ok (.iload_n 1, 1) := by decide +kernel
theorem dX5_feed_38 : decode cX5_feed 38 = .ok (.imul, 1) := by decide +kernel
theorem dX5_feed_39 : decode cX5_feed 39 = .ok (.aload_n 0, 1) := by decide +kernel
theorem dX5_feed_40 : decode cX5_feed 40 = .ok (.getfield 13, 3) := by decide +kernel
theorem dX5_feed_43 : decode cX5_feed 43 = .ok (.iload_n 1, 1) := by decide +kernel
theorem dX5_feed_44 : decode cX5_feed 44 = .ok (.iaload, 1) := by decide +kernel
theorem dX5_feed_45 : decode cX5_feed 45 = .ok (.iadd, 1) := by decide +kernel
theorem dX5_feed_46 : decode cX5_feed 46 = .ok (.iload_n 2, 1) := by decide +kernel
theorem dX5_feed_47 : decode cX5_feed 47 = .ok (.iload_n 3, 1) := by decide +kernel
theorem dX5_feed_48 : decode cX5_feed 48 = .ok (.ishr, 1) := by decide +kernel
theorem dX5_feed_49 : decode cX5_feed 49 = .ok (.i2b, 1) := by decide +kernel
theorem dX5_feed_50 : decode cX5_feed 50 = .ok (.bastore, 1) := by decide +kernel
theorem dX5_feed_51 : decode cX5_feed 51 = .ok (.aload_n 0, 1) := by decide +kernel
theorem dX5_feed_52 : decode cX5_feed 52 = .ok (.getfield 13, 3) := by decide +kernel
theorem dX5_feed_55 : decode cX5_feed 55 = .ok (.iload_n 1, 1) := by decide +kernel
theorem dX5_feed_56 : decode cX5_feed 56 = .ok (.dup2, 1) := by decide +kernel
theorem dX5_feed_57 : decode cX5_feed 57 = .ok (.iaload, 1) := by decide +kernel
theorem dX5_feed_58 : decode cX5_feed 58 = .ok (.iconst 1, 1) := by decide +kernel
theorem dX5_feed_59 : decode cX5_feed 59 = .ok (.iadd, 1) := by decide +kernel
theorem dX5_feed_60 : decode cX5_feed 60 = .ok (.iastore, 1) := by decide +kernel
theorem dX5_feed_61 : decode cX5_feed 61 = .ok (.iinc 3 (-8), 3) := by decide +kernel
theorem dX5_feed_64 : decode cX5_feed 64 = .ok (.goto (-38), 3) := by decide +kernel
theorem dX5_feed_67 : decode cX5_feed 67 = .ok (.aload_n 0, 1) := by decide +kernel
theorem dX5_feed_68 : decode cX5_feed 68 = .ok (.getfield 13, 3) := by decide +kernel
theorem dX5_feed_71 : decode cX5_feed 71 = .ok (.iload_n 1, 1) := by decide +kernel
theorem dX5_feed_72 : decode cX5_feed 72 = .ok (.iaload, 1) := by decide +kernel
theorem dX5_feed_73 : decode cX5_feed 73 = .ok (.ireturn, 1) := by decide +kernel
theorem dX5_cut_0 : decode cX5_cut 0 = .ok (.iload_n 1, 1) := by decide +kernel
theorem dX5_cut_1 : decode cX5_cut 1 = .ok (.invokestatic 121, 3) := by decide +kernel
theorem dX5_cut_4 : decode cX5_cut 4 = .ok (.ifCond .eq 17, 3) := by decide +kernel
theorem dX5_cut_7 : decode cX5_cut 7 = .ok (.iload_n 2, 1) := by decide +kernel
theorem dX5_cut_8 : decode cX5_cut 8 = .ok (.ifCond .lt 13, 3) := by decide +kernel
theorem dX5_cut_11 : decode cX5_cut 11 = .ok (.iload_n 2, 1) := by decide +kernel
theorem dX5_cut_12 : decode cX5_cut 12 = .ok (.aload_n 0, 1) := by decide +kernel
theorem dX5_cut_13 : decode cX5_cut 13 = .ok (.getfield 13, 3) := by decide +kernel
theorem dX5_cut_16 : decode cX5_cut 16 = .ok (.iload_n 1, 1) := by decide +kernel
theorem dX5_cut_17 : decode cX5_cut 17 = .ok (.iaload, 1) := by decide +kernel
theorem dX5_cut_18 : decode cX5_cut 18 = .ok (.if_icmp .le 5, 3) := by decide +kernel
theorem dX5_cut_21 : decode cX5_cut 21 = .ok (.iconst 0, 1) := by decide +kernel
theorem dX5_cut_22 : decode cX5_cut 22 = .ok (.ireturn, 1) := by decide +kernel
theorem dX5_cut_23 : decode cX5_cut 23 = .ok (.aload_n 0, 1) := by decide +kernel
theorem dX5_cut_24 : decode cX5_cut 24 = .ok (.getfield 13, 3) := by decide +kernel
theorem dX5_cut_27 : decode cX5_cut 27 = .ok (.iload_n 1, 1) := by decide +kernel
theorem dX5_cut_28 : decode cX5_cut 28 = .ok (.iload_n 2, 1) := by decide +kernel
theorem dX5_cut_29 : decode cX5_cut 29 = .ok (.iastore, 1) := by decide +kernel
theorem dX5_cut_30 : decode cX5_cut 30 = .ok (.iconst 1, 1) := by decide +kernel
theorem dX5_cut_31 : decode cX5_cut 31 = .ok (.ireturn, 1) := by decide +kernel
theorem dX5_put_0 : decode cX5_put 0 = .ok (.iload_n 1, 1) := by decide +kernel
theorem dX5_put_1 : decode cX5_put 1 = .ok (.invokestatic 121, 3) := by decide +kernel
theorem dX5_put_4 : decode cX5_put 4 = .ok (.ifCond .eq 28, 3) := by decide +kernel
theorem dX5_put_7 : decode cX5_put 7 = .ok (.iload_n 2, 1) := by decide +kernel
theorem dX5_put_8 : decode cX5_put 8 = .ok (.ifCond .lt 24, 3) := by decide +kernel
theorem dX5_put_11 : decode cX5_put 11 = .ok (.iload_n 2, 1) := by decide +kernel
theorem dX5_put_12 : decode cX5_put 12 = .ok (.aload_n 0, 1) := by decide +kernel
theorem dX5_put_13 : decode cX5_put 13 = .ok (.getfield 13, 3) := by decide +kernel
theorem dX5_put_16 : decode cX5_put 16 = .ok (.iload_n 1, 1) := by decide +kernel
theorem dX5_put_17 : decode cX5_put 17 = .ok (.iaload, 1) := by decide +kernel
theorem dX5_put_18 : decode cX5_put 18 = .ok (.if_icmp .ge 14, 3) := by decide +kernel
theorem dX5_put_21 : decode cX5_put 21 = .ok (.iload_n 3, 1) := by decide +kernel
theorem dX5_put_22 : decode cX5_put 22 = .ok (.ifCond .lt 10, 3) := by decide +kernel
theorem dX5_put_25 : decode cX5_put 25 = .ok (.iload_n 3, 1) := by decide +kernel
theorem dX5_put_26 : decode cX5_put 26 = .ok (.sipush 255, 3) := by decide +kernel
theorem dX5_put_29 : decode cX5_put 29 = .ok (.if_icmp .le 5, 3) := by decide +kernel
theorem dX5_put_32 : decode cX5_put 32 = .ok (.iconst 0, 1) := by decide +kernel
theorem dX5_put_33 : decode cX5_put 33 = .ok (.ireturn, 1) := by decide +kernel
theorem dX5_put_34 : decode cX5_put 34 = .ok (.aload_n 0, 1) := by decide +kernel
theorem dX5_put_35 : decode cX5_put 35 = .ok (.getfield 7, 3) := by decide +kernel
theorem dX5_put_38 : decode cX5_put 38 = .ok (.sipush 2000, 3) := by decide +kernel
theorem dX5_put_41 : decode cX5_put 41 = .ok (.iload_n 1, 1) := by decide +kernel
theorem dX5_put_42 : decode cX5_put 42 = .ok (.imul, 1) := by decide +kernel
theorem dX5_put_43 : decode cX5_put 43 = .ok (.iload_n 2, 1) := by decide +kernel
theorem dX5_put_44 : decode cX5_put 44 = .ok (.iadd, 1) := by decide +kernel
theorem dX5_put_45 : decode cX5_put 45 = .ok (.iload_n 3, 1) := by decide +kernel
theorem dX5_put_46 : decode cX5_put 46 = .ok (.i2b, 1) := by decide +kernel
theorem dX5_put_47 : decode cX5_put 47 = .ok (.bastore, 1) := by decide +kernel
theorem dX5_put_48 : decode cX5_put 48 = .ok (.iconst 1, 1) := by decide +kernel
theorem dX5_put_49 : decode cX5_put 49 = .ok (.ireturn, 1) := by decide +kernel
theorem dX5_shape_0 : decode cX5_shape 0 = .ok (.iload_n 1, 1) := by decide +kernel
theorem dX5_shape_1 : decode cX5_shape 1 = .ok (.iconst 1, 1) := by decide +kernel
theorem dX5_shape_2 : decode cX5_shape 2 = .ok (.if_icmp .lt 21, 3) := by decide +kernel
theorem dX5_shape_5 : decode cX5_shape 5 = .ok (.iload_n 1, 1) := by decide +kernel
theorem dX5_shape_6 : decode cX5_shape 6 = .ok (.sipush 256, 3) := by decide +kernel
theorem dX5_shape_9 : decode cX5_shape 9 = .ok (.if_icmp .gt 14, 3) := by decide +kernel
theorem dX5_shape_12 : decode cX5_shape 12 = .ok (.iload_n 2, 1) := by decide +kernel
theorem dX5_shape_13 : decode cX5_shape 13 = .ok (.iconst 1, 1) := by decide +kernel
theorem dX5_shape_14 : decode cX5_shape 14 = .ok (.if_icmp .lt 9, 3) := by decide +kernel
theorem dX5_shape_17 : decode cX5_shape 17 = .ok (.iload_n 2, 1) := by decide +kernel
theorem dX5_shape_18 : decode cX5_shape 18 = .ok (.bipush 16, 2) := by decide +kernel
theorem dX5_shape_20 : decode cX5_shape 20 = .ok (.if_icmp .le 5, 3) := by decide +kernel
theorem dX5_shape_23 : decode cX5_shape 23 = .ok (.iconst 0, 1) := by decide +kernel
theorem dX5_shape_24 : decode cX5_shape 24 = .ok (.ireturn, 1) := by decide +kernel
theorem dX5_shape_25 : decode cX5_shape 25 = .ok (.aload_n 0, 1) := by decide +kernel
theorem dX5_shape_26 : decode cX5_shape 26 = .ok (.iload_n 1, 1) := by decide +kernel
theorem dX5_shape_27 : decode cX5_shape 27 = .ok (.putfield 20, 3) := by decide +kernel
theorem dX5_shape_30 : decode cX5_shape 30 = .ok (.aload_n 0, 1) := by decide +kernel
theorem dX5_shape_31 : decode cX5_shape 31 = .ok (.iload_n 2, 1) := by decide +kernel
theorem dX5_shape_32 : decode cX5_shape 32 = .ok (.putfield 24, 3) := by decide +kernel
theorem dX5_shape_35 : decode cX5_shape 35 = .ok (.iconst 1, 1) := by decide +kernel
theorem dX5_shape_36 : decode cX5_shape 36 = .ok (.ireturn, 1) := by decide +kernel
theorem dX5_sumOf_0 : decode cX5_sumOf 0 = .ok (.iconst 0, 1) := by decide +kernel
theorem dX5_sumOf_1 : decode cX5_sumOf 1 = .ok (.istore_n 3, 1) := by decide +kernel
theorem dX5_sumOf_2 : decode cX5_sumOf 2 = .ok (.iconst 0, 1) := by decide +kernel
theorem dX5_sumOf_3 : decode cX5_sumOf 3 = .ok (.istore 4, 2) := by decide +kernel
theorem dX5_sumOf_5 : decode cX5_sumOf 5 = .ok (.iconst 0, 1) := by decide +kernel
theorem dX5_sumOf_6 : decode cX5_sumOf 6 = .ok (.istore 5, 2) := by decide +kernel
theorem dX5_sumOf_8 : decode cX5_sumOf 8 = .ok (.iload 5, 2) := by decide +kernel
theorem dX5_sumOf_10 : decode cX5_sumOf 10 = .ok (.iload_n 2, 1) := by decide +kernel
theorem dX5_sumOf_11 : decode cX5_sumOf 11 = .ok (.if_icmp .ge 47, 3) := by decide +kernel
theorem dX5_sumOf_14 : decode cX5_sumOf 14 = .ok (.aload_n 0, 1) := by decide +kernel
theorem dX5_sumOf_15 : decode cX5_sumOf 15 = .ok (.getfield 7, 3) := by decide +kernel
theorem dX5_sumOf_18 : decode cX5_sumOf 18 = .ok (.iload_n 1, 1) := by decide +kernel
theorem dX5_sumOf_19 : decode cX5_sumOf 19 = .ok (.iload 5, 2) := by decide +kernel
theorem dX5_sumOf_21 : decode cX5_sumOf 21 = .ok (.iadd, 1) := by decide +kernel
theorem dX5_sumOf_22 : decode cX5_sumOf 22 = .ok (.baload, 1) := by decide +kernel
theorem dX5_sumOf_23 : decode cX5_sumOf 23 = .ok (.sipush 255, 3) := by decide +kernel
theorem dX5_sumOf_26 : decode cX5_sumOf 26 = .ok (.iand, 1) := by decide +kernel
theorem dX5_sumOf_27 : decode cX5_sumOf 27 = .ok (.istore 6, 2) := by decide +kernel
theorem dX5_sumOf_29 : decode cX5_sumOf 29 = .ok (.iload_n 3, 1) := by decide +kernel
theorem dX5_sumOf_30 : decode cX5_sumOf 30 = .ok (.iload 6, 2) := by decide +kernel
theorem dX5_sumOf_32 : decode cX5_sumOf 32 = .ok (.iadd, 1) := by decide +kernel
theorem dX5_sumOf_33 : decode cX5_sumOf 33 = .ok (.ldc 125, 2) := by decide +kernel
theorem dX5_sumOf_35 : decode cX5_sumOf 35 = .ok (.iand, 1) := by decide +kernel
theorem dX5_sumOf_36 : decode cX5_sumOf 36 = .ok (.istore_n 3, 1) := by decide +kernel
theorem dX5_sumOf_37 : decode cX5_sumOf 37 = .ok (.iload 4, 2) := by decide +kernel
theorem dX5_sumOf_39 : decode cX5_sumOf 39 = .ok (.iload_n 2, 1) := by decide +kernel
theorem dX5_sumOf_40 : decode cX5_sumOf 40 = .ok (.iload 5, 2) := by decide +kernel
theorem dX5_sumOf_42 : decode cX5_sumOf 42 = .ok (.isub, 1) := by decide +kernel
theorem dX5_sumOf_43 : decode cX5_sumOf 43 = .ok (.iload 6, 2) := by decide +kernel
theorem dX5_sumOf_45 : decode cX5_sumOf 45 = .ok (.imul, 1) := by decide +kernel
theorem dX5_sumOf_46 : decode cX5_sumOf 46 = .ok (.iadd, 1) := by decide +kernel
theorem dX5_sumOf_47 : decode cX5_sumOf 47 = .ok (.ldc 125, 2) := by decide +kernel
theorem dX5_sumOf_49 : decode cX5_sumOf 49 = .ok (.iand, 1) := by decide +kernel
theorem dX5_sumOf_50 : decode cX5_sumOf 50 = .ok (.istore 4, 2) := by decide +kernel
theorem dX5_sumOf_52 : decode cX5_sumOf 52 = .ok (.iinc 5 1, 3) := by decide +kernel
theorem dX5_sumOf_55 : decode cX5_sumOf 55 = .ok (.goto (-47), 3) := by decide +kernel
theorem dX5_sumOf_58 : decode cX5_sumOf 58 = .ok (.iload 4, 2) := by decide +kernel
theorem dX5_sumOf_60 : decode cX5_sumOf 60 = .ok (.bipush 16, 2) := by decide +kernel
theorem dX5_sumOf_62 : decode cX5_sumOf 62 = .ok (.ishl, 1) := by decide +kernel
theorem dX5_sumOf_63 : decode cX5_sumOf 63 = .ok (.iload_n 3, 1) := by decide +kernel
theorem dX5_sumOf_64 : decode cX5_sumOf 64 = .ok (.ior, 1) := by decide +kernel
theorem dX5_sumOf_65 : decode cX5_sumOf 65 = .ok (.ireturn, 1) := by decide +kernel
theorem dX5_digestOf_0 : decode cX5_digestOf 0 = .ok (.iload_n 2, 1) := by decide +kernel
theorem dX5_digestOf_1 : decode cX5_digestOf 1 = .ok (.bipush 8, 2) := by decide +kernel
theorem dX5_digestOf_3 : decode cX5_digestOf 3 = .ok (.iadd, 1) := by decide +kernel
theorem dX5_digestOf_4 : decode cX5_digestOf 4 = .ok (.bipush 64, 2) := by decide +kernel
theorem dX5_digestOf_6 : decode cX5_digestOf 6 = .ok (.idiv, 1) := by decide +kernel
theorem dX5_digestOf_7 : decode cX5_digestOf 7 = .ok (.bipush 64, 2) := by decide +kernel
theorem dX5_digestOf_9 : decode cX5_digestOf 9 = .ok (.imul, 1) := by decide +kernel
theorem dX5_digestOf_10 : decode cX5_digestOf 10 = .ok (.bipush 64, 2) := by decide +kernel
theorem dX5_digestOf_12 : decode cX5_digestOf 12 = .ok (.iadd, 1) := by decide +kernel
theorem dX5_digestOf_13 : decode cX5_digestOf 13 = .ok (.istore_n 3, 1) := by decide +kernel
theorem dX5_digestOf_14 : decode cX5_digestOf 14 = .ok (.iconst 0, 1) := by decide +kernel
theorem dX5_digestOf_15 : decode cX5_digestOf 15 = .ok (.istore 4, 2) := by decide +kernel
theorem dX5_digestOf_17 : decode cX5_digestOf 17 = .ok (.iload 4, 2) := by decide +kernel
theorem dX5_digestOf_19 : decode cX5_digestOf 19 = .ok (.iload_n 3, 1) := by decide +kernel
theorem dX5_digestOf_20 : decode cX5_digestOf 20 = .ok (.if_icmp .ge 35, 3) := by decide +kernel
theorem dX5_digestOf_23 : decode cX5_digestOf 23 = .ok (.aload_n 0, 1) := by decide +kernel
theorem dX5_digestOf_24 : decode cX5_digestOf 24 = .ok (.getfield 39, 3) := by decide +kernel
theorem dX5_digestOf_27 : decode cX5_digestOf 27 = .ok (.iload 4, 2) := by decide +kernel
theorem dX5_digestOf_29 : decode cX5_digestOf 29 = .ok (.iload 4, 2) := by decide +kernel
theorem dX5_digestOf_31 : decode cX5_digestOf 31 = .ok (.iload_n 2, 1) := by decide +kernel
theorem dX5_digestOf_32 : decode cX5_digestOf 32 = .ok (.if_icmp .ge 15, 3) := by decide +kernel
theorem dX5_digestOf_35 : decode cX5_digestOf 35 = .ok (.aload_n 0, 1) := by decide +kernel
theorem dX5_digestOf_36 : decode cX5_digestOf 36 = .ok (.getfield 7, 3) := by decide +kernel
theorem dX5_digestOf_39 : decode cX5_digestOf 39 = .ok (.iload_n 1, 1) := by decide +kernel
theorem dX5_digestOf_40 : decode cX5_digestOf 40 = .ok (.iload 4, 2) := by decide +kernel
theorem dX5_digestOf_42 : decode cX5_digestOf 42 = .ok (.iadd, 1) := by decide +kernel
theorem dX5_digestOf_43 : decode cX5_digestOf 43 = .ok (.baload, 1) := by decide +kernel
theorem dX5_digestOf_44 : decode cX5_digestOf 44 = .ok (.goto 4, 3) := by decide +kernel
theorem dX5_digestOf_47 : decode cX5_digestOf 47 = .ok (.iconst 0, 1) := by decide +kernel
theorem dX5_digestOf_48 : decode cX5_digestOf 48 = .ok (.bastore, 1) := by decide +kernel
theorem dX5_digestOf_49 : decode cX5_digestOf 49 = .ok (.iinc 4 1, 3) := by decide +kernel
theorem dX5_digestOf_52 : decode cX5_digestOf 52 = .ok (.goto (-35), 3) := by decide +kernel
theorem dX5_digestOf_55 : decode cX5_digestOf 55 = .ok (.aload_n 0, 1) := by decide +kernel
theorem dX5_digestOf_56 : decode cX5_digestOf 56 = .ok (.getfield 39, 3) := by decide +kernel
theorem dX5_digestOf_59 : decode cX5_digestOf 59 = .ok (.iload_n 2, 1) := by decide +kernel
theorem dX5_digestOf_60 : decode cX5_digestOf 60 = .ok (.bipush (-128), 2) := by decide +kernel
theorem dX5_digestOf_62 : decode cX5_digestOf 62 = .ok (.bastore, 1) := by decide +kernel
theorem dX5_digestOf_63 : decode cX5_digestOf 63 = .ok (.ldc2_w 126, 3) := by decide +kernel
theorem dX5_digestOf_66 : decode cX5_digestOf 66 = .ok (.iload_n 2, 1) := by decide +kernel
theorem dX5_digestOf_67 : decode cX5_digestOf 67 = .ok (.i2l, 1) := by decide +kernel
theorem dX5_digestOf_68 : decode cX5_digestOf 68 = .ok (.lmul, 1) := by decide +kernel
theorem dX5_digestOf_69 : decode cX5_digestOf 69 = .ok (.lstore 4, 2) := by decide +kernel
theorem dX5_digestOf_71 : decode cX5_digestOf 71 = .ok (.iconst 0, 1) := by decide +kernel
theorem dX5_digestOf_72 : decode cX5_digestOf 72 = .ok (.istore 6, 2) := by decide +kernel
theorem dX5_digestOf_74 : decode cX5_digestOf 74 = .ok (.iload 6, 2) := by decide +kernel
theorem dX5_digestOf_76 : decode cX5_digestOf 76 = .ok (.bipush 8, 2) := by decide +kernel
theorem dX5_digestOf_78 : decode cX5_digestOf 78 = .ok (.if_icmp .ge 31, 3) := by decide +kernel
theorem dX5_digestOf_81 : decode cX5_digestOf 81 = .ok (.aload_n 0, 1) := by decide +kernel
