theorem dX5_digestOf_82 : decode cX5_digestOf 82 = .ok (.getfield 39, 3) := by decide +kernel
theorem dX5_digestOf_85 : decode cX5_digestOf 85 = .ok (.iload_n 3, 1) := by decide +kernel
theorem dX5_digestOf_86 : decode cX5_digestOf 86 = .ok (.bipush 8, 2) := by decide +kernel
theorem dX5_digestOf_88 : decode cX5_digestOf 88 = .ok (.isub, 1) := by decide +kernel
theorem dX5_digestOf_89 : decode cX5_digestOf 89 = .ok (.iload 6, 2) := by decide +kernel
theorem dX5_digestOf_91 : decode cX5_digestOf 91 = .ok (.iadd, 1) := by decide +kernel
theorem dX5_digestOf_92 : decode cX5_digestOf 92 = .ok (.lload 4, 2) := by decide +kernel
theorem dX5_digestOf_94 : decode cX5_digestOf 94 = .ok (.bipush 8, 2) := by decide +kernel
theorem dX5_digestOf_96 : decode cX5_digestOf 96 = .ok (.iload 6, 2) := by decide +kernel
theorem dX5_digestOf_98 : decode cX5_digestOf 98 = .ok (.imul, 1) := by decide +kernel
theorem dX5_digestOf_99 : decode cX5_digestOf 99 = .ok (.lshr, 1) := by decide +kernel
theorem dX5_digestOf_100 : decode cX5_digestOf 100 = .ok (.l2i, 1) := by decide +kernel
theorem dX5_digestOf_101 : decode cX5_digestOf 101 = .ok (.i2b, 1) := by decide +kernel
theorem dX5_digestOf_102 : decode cX5_digestOf 102 = .ok (.bastore, 1) := by decide +kernel
theorem dX5_digestOf_103 : decode cX5_digestOf 103 = .ok (.iinc 6 1, 3) := by decide +kernel
theorem dX5_digestOf_106 : decode cX5_digestOf 106 = .ok (.goto (-32), 3) := by decide +kernel
theorem dX5_digestOf_109 : decode cX5_digestOf 109 = .ok (.aload_n 0, 1) := by decide +kernel
theorem dX5_digestOf_110 : decode cX5_digestOf 110 = .ok (.getfield 42, 3) := by decide +kernel
theorem dX5_digestOf_113 : decode cX5_digestOf 113 = .ok (.iconst 0, 1) := by decide +kernel
theorem dX5_digestOf_114 : decode cX5_digestOf 114 = .ok (.ldc 128, 2) := by decide +kernel
theorem dX5_digestOf_116 : decode cX5_digestOf 116 = .ok (.iastore, 1) := by decide +kernel
theorem dX5_digestOf_117 : decode cX5_digestOf 117 = .ok (.aload_n 0, 1) := by decide +kernel
theorem dX5_digestOf_118 : decode cX5_digestOf 118 = .ok (.getfield 42, 3) := by decide +kernel
theorem dX5_digestOf_121 : decode cX5_digestOf 121 = .ok (.iconst 1, 1) := by decide +kernel
theorem dX5_digestOf_122 : decode cX5_digestOf 122 = .ok (.ldc 129, 2) := by decide +kernel
theorem dX5_digestOf_124 : decode cX5_digestOf 124 = .ok (.iastore, 1) := by decide +kernel
theorem dX5_digestOf_125 : decode cX5_digestOf 125 = .ok (.aload_n 0, 1) := by decide +kernel
theorem dX5_digestOf_126 : decode cX5_digestOf 126 = .ok (.getfield 42, 3) := by decide +kernel
theorem dX5_digestOf_129 : decode cX5_digestOf 129 = .ok (.iconst 2, 1) := by decide +kernel
theorem dX5_digestOf_130 : decode cX5_digestOf 130 = .ok (.ldc 130, 2) := by decide +kernel
theorem dX5_digestOf_132 : decode cX5_digestOf 132 = .ok (.iastore, 1) := by decide +kernel
theorem dX5_digestOf_133 : decode cX5_digestOf 133 = .ok (.aload_n 0, 1) := by decide +kernel
theorem dX5_digestOf_134 : decode cX5_digestOf 134 = .ok (.getfield 42, 3) := by decide +kernel
theorem dX5_digestOf_137 : decode cX5_digestOf 137 = .ok (.iconst 3, 1) := by decide +kernel
theorem dX5_digestOf_138 : decode cX5_digestOf 138 = .ok (.ldc 131, 2) := by decide +kernel
theorem dX5_digestOf_140 : decode cX5_digestOf 140 = .ok (.iastore, 1) := by decide +kernel
theorem dX5_digestOf_141 : decode cX5_digestOf 141 = .ok (.iconst 0, 1) := by decide +kernel
theorem dX5_digestOf_142 : decode cX5_digestOf 142 = .ok (.istore 6, 2) := by decide +kernel
theorem dX5_digestOf_144 : decode cX5_digestOf 144 = .ok (.iload 6, 2) := by decide +kernel
theorem dX5_digestOf_146 : decode cX5_digestOf 146 = .ok (.iload_n 3, 1) := by decide +kernel
theorem dX5_digestOf_147 : decode cX5_digestOf 147 = .ok (.if_icmp .ge 15, 3) := by decide +kernel
theorem dX5_digestOf_150 : decode cX5_digestOf 150 = .ok (.aload_n 0, 1) := by decide +kernel
theorem dX5_digestOf_151 : decode cX5_digestOf 151 = .ok (.iload 6, 2) := by decide +kernel
theorem dX5_digestOf_153 : decode cX5_digestOf 153 = .ok (.invokevirtual 132, 3) := by decide +kernel
theorem dX5_digestOf_156 : decode cX5_digestOf 156 = .ok (.iinc 6 64, 3) := by decide +kernel
theorem dX5_digestOf_159 : decode cX5_digestOf 159 = .ok (.goto (-15), 3) := by decide +kernel
theorem dX5_digestOf_162 : decode cX5_digestOf 162 = .ok (.return_, 1) := by decide +kernel
theorem dX5_mix_0 : decode cX5_mix 0 = .ok (.iconst 0, 1) := by decide +kernel
theorem dX5_mix_1 : decode cX5_mix 1 = .ok (.istore_n 2, 1) := by decide +kernel
theorem dX5_mix_2 : decode cX5_mix 2 = .ok (.iload_n 2, 1) := by decide +kernel
theorem dX5_mix_3 : decode cX5_mix 3 = .ok (.bipush 16, 2) := by decide +kernel
theorem dX5_mix_5 : decode cX5_mix 5 = .ok (.if_icmp .ge 60, 3) := by decide +kernel
theorem dX5_mix_8 : decode cX5_mix 8 = .ok (.aload_n 0, 1) := by decide +kernel
theorem dX5_mix_9 : decode cX5_mix 9 = .ok (.getfield 45, 3) := by decide +kernel
theorem dX5_mix_12 : decode cX5_mix 12 = .ok (.iload_n 2, 1) := by decide +kernel
theorem dX5_mix_13 : decode cX5_mix 13 = .ok (.iconst 0, 1) := by decide +kernel
theorem dX5_mix_14 : decode cX5_mix 14 = .ok (.iastore, 1) := by decide +kernel
theorem dX5_mix_15 : decode cX5_mix 15 = .ok (.iconst 3, 1) := by decide +kernel
theorem dX5_mix_16 : decode cX5_mix 16 = .ok (.istore_n 3, 1) := by decide +kernel
theorem dX5_mix_17 : decode cX5_mix 17 = .ok (.iload_n 3, 1) := by decide +kernel
theorem dX5_mix_18 : decode cX5_mix 18 = .ok (.ifCond .lt 41, 3) := by decide +kernel
theorem dX5_mix_21 : decode cX5_mix 21 = .ok (.aload_n 0, 1) := by decide +kernel
theorem dX5_mix_22 : decode cX5_mix 22 = .ok (.getfield 45, 3) := by decide +kernel
theorem dX5_mix_25 : decode cX5_mix 25 = .ok (.iload_n 2, 1) := by decide +kernel
theorem dX5_mix_26 : decode cX5_mix 26 = .ok (.aload_n 0, 1) := by decide +kernel
theorem dX5_mix_27 : decode cX5_mix 27 = .ok (.getfield 45, 3) := by decide +kernel
theorem dX5_mix_30 : decode cX5_mix 30 = .ok (.iload_n 2, 1) := by decide +kernel
theorem dX5_mix_31 : decode cX5_mix 31 = .ok (.iaload, 1) := by decide +kernel
theorem dX5_mix_32 : decode cX5_mix 32 = .ok (.bipush 8, 2) := by decide +kernel
theorem dX5_mix_34 : decode cX5_mix 34 = .ok (.ishl, 1) := by decide +kernel
theorem dX5_mix_35 : decode cX5_mix 35 = .ok (.aload_n 0, 1) := by decide +kernel
theorem dX5_mix_36 : decode cX5_mix 36 = .ok (.getfield 39, 3) := by decide +kernel
theorem dX5_mix_39 : decode cX5_mix 39 = .ok (.iload_n 1, 1) := by decide +kernel
theorem dX5_mix_40 : decode cX5_mix 40 = .ok (.iconst 4, 1) := by decide +kernel
theorem dX5_mix_41 : decode cX5_mix 41 = .ok (.iload_n 2, 1) := by decide +kernel
theorem dX5_mix_42 : decode cX5_mix 42 = .ok (.imul, 1) := by decide +kernel
theorem dX5_mix_43 : decode cX5_mix 43 = .ok (.iadd, 1) := by decide +kernel
theorem dX5_mix_44 : decode cX5_mix 44 = .ok (.iload_n 3, 1) := by decide +kernel
theorem dX5_mix_45 : decode cX5_mix 45 = .ok (.iadd, 1) := by decide +kernel
theorem dX5_mix_46 : decode cX5_mix 46 = .ok (.baload, 1) := by decide +kernel
theorem dX5_mix_47 : decode cX5_mix 47 = .ok (.sipush 255, 3) := by decide +kernel
theorem dX5_mix_50 : decode cX5_mix 50 = .ok (.iand, 1) := by decide +kernel
theorem dX5_mix_51 : decode cX5_mix 51 = .ok (.ior, 1) := by decide +kernel
theorem dX5_mix_52 : decode cX5_mix 52 = .ok (.iastore, 1) := by decide +kernel
theorem dX5_mix_53 : decode cX5_mix 53 = .ok (.iinc 3 (-1), 3) := by decide +kernel
theorem dX5_mix_56 : decode cX5_mix 56 = .ok (.goto (-39), 3) := by decide +kernel
theorem dX5_mix_59 : decode cX5_mix 59 = .ok (.iinc 2 1, 3) := by decide +kernel
theorem dX5_mix_62 : decode cX5_mix 62 = .ok (.goto (-60), 3) := by decide +kernel
theorem dX5_mix_65 : decode cX5_mix 65 = .ok (.aload_n 0, 1) := by decide +kernel
theorem dX5_mix_66 : decode cX5_mix 66 = .ok (.getfield 42, 3) := by decide +kernel
theorem dX5_mix_69 : decode cX5_mix 69 = .ok (.iconst 0, 1) := by decide +kernel
theorem dX5_mix_70 : decode cX5_mix 70 = .ok (.iaload, 1) := by decide +kernel
theorem dX5_mix_71 : decode cX5_mix 71 = .ok (.istore_n 2, 1) := by decide +kernel
theorem dX5_mix_72 : decode cX5_mix 72 = .ok (.aload_n 0, 1) := by decide +kernel
theorem dX5_mix_73 : decode cX5_mix 73 = .ok (.getfield 42, 3) := by decide +kernel
theorem dX5_mix_76 : decode cX5_mix 76 = .ok (.iconst 1, 1) := by decide +kernel
theorem dX5_mix_77 : decode cX5_mix 77 = .ok (.iaload, 1) := by decide +kernel
theorem dX5_mix_78 : decode cX5_mix 78 = .ok (.istore_n 3, 1) := by decide +kernel
theorem dX5_mix_79 : decode cX5_mix 79 = .ok (.aload_n 0, 1) := by decide +kernel
theorem dX5_mix_80 : decode cX5_mix 80 = .ok (.getfield 42, 3) := by decide +kernel
theorem dX5_mix_83 : decode cX5_mix 83 = .ok (.iconst 2, 1) := by decide +kernel
theorem dX5_mix_84 : decode cX5_mix 84 = .ok (.iaload, 1) := by decide +kernel
theorem dX5_mix_85 : decode cX5_mix 85 = .ok (.istore 4, 2) := by decide +kernel
theorem dX5_mix_87 : decode cX5_mix 87 = .ok (.aload_n 0, 1) := by decide +kernel
theorem dX5_mix_88 : decode cX5_mix 88 = .ok (.getfield 42, 3) := by decide +kernel
theorem dX5_mix_91 : decode cX5_mix 91 = .ok (.iconst 3, 1) := by decide +kernel
theorem dX5_mix_92 : decode cX5_mix 92 = .ok (.iaload, 1) := by decide +kernel
theorem dX5_mix_93 : decode cX5_mix 93 = .ok (.istore 5, 2) := by decide +kernel
theorem dX5_mix_95 : decode cX5_mix 95 = .ok (.iconst 0, 1) := by decide +kernel
theorem dX5_mix_96 : decode cX5_mix 96 = .ok (.istore 6, 2) := by decide +kernel
theorem dX5_mix_98 : decode cX5_mix 98 = .ok (.iload 6, 2) := by decide +kernel
theorem dX5_mix_100 : decode cX5_mix 100 = .ok (.bipush 64, 2) := by decide +kernel
theorem dX5_mix_102 : decode cX5_mix 102 = .ok (.if_icmp .ge 204, 3) := by decide +kernel
theorem dX5_mix_105 : decode cX5_mix 105 = .ok (.iload 6, 2) := by decide +kernel
theorem dX5_mix_107 : decode cX5_mix 107 = .ok (.bipush 16, 2) := by decide +kernel
theorem dX5_mix_109 : decode cX5_mix 109 = .ok (.idiv, 1) := by decide +kernel
theorem dX5_mix_110 : decode cX5_mix 110 = .ok (.istore 7, 2) := by decide +kernel
theorem dX5_mix_112 : decode cX5_mix 112 = .ok (.iload 7, 2) := by decide +kernel
theorem dX5_mix_114 : decode cX5_mix 114 = .ok (.ifCond .ne 17, 3) := by decide +kernel
theorem dX5_mix_117 : decode cX5_mix 117 = .ok (.iload_n 3, 1) := by decide +kernel
theorem dX5_mix_118 : decode cX5_mix 118 = .ok (.iload 4, 2) := by decide +kernel
theorem dX5_mix_120 : decode cX5_mix 120 = .ok (.iand, 1) := by decide +kernel
theorem dX5_mix_121 : decode cX5_mix 121 = .ok (.iload_n 3, 1) := by decide +kernel
theorem dX5_mix_122 : decode cX5_mix 122 = .ok (.iconst (-1), 1) := by decide +kernel
theorem dX5_mix_123 : decode cX5_mix 123 = .ok (.ixor, 1) := by decide +kernel
theorem dX5_mix_124 : decode cX5_mix 124 = .ok (.iload 5, 2) := by decide +kernel
theorem dX5_mix_126 : decode cX5_mix 126 = .ok (.iand, 1) := by decide +kernel
theorem dX5_mix_127 : decode cX5_mix 127 = .ok (.ior, 1) := by decide +kernel
theorem dX5_mix_128 : decode cX5_mix 128 = .ok (.goto 49, 3) := by decide +kernel
theorem dX5_mix_131 : decode cX5_mix 131 = .ok (.iload 7, 2) := by decide +kernel
theorem dX5_mix_133 : decode cX5_mix 133 = .ok (.iconst 1, 1) := by decide +kernel
theorem dX5_mix_134 : decode cX5_mix 134 = .ok (.if_icmp .ne 18, 3) := by decide +kernel
theorem dX5_mix_137 : decode cX5_mix 137 = .ok (.iload 5, 2) := by decide +kernel
theorem dX5_mix_139 : decode cX5_mix 139 = .ok (.iload_n 3, 1) := by decide +kernel
theorem dX5_mix_140 : decode cX5_mix 140 = .ok (.iand, 1) := by decide +kernel
theorem dX5_mix_141 : decode cX5_mix 141 = .ok (.iload 5, 2) := by decide +kernel
theorem dX5_mix_143 : decode cX5_mix 143 = .ok (.iconst (-1), 1) := by decide +kernel
theorem dX5_mix_144 : decode cX5_mix 144 = .ok (.ixor, 1) := by decide +kernel
theorem dX5_mix_145 : decode cX5_mix 145 = .ok (.iload 4, 2) := by decide +kernel
theorem dX5_mix_147 : decode cX5_mix 147 = .ok (.iand, 1) := by decide +kernel
theorem dX5_mix_148 : decode cX5_mix 148 = .ok (.ior, 1) := by decide +kernel
theorem dX5_mix_149 : decode cX5_mix 149 = .ok (.goto 28, 3) := by decide +kernel
theorem dX5_mix_152 : decode cX5_mix 152 = .ok (.iload 7, 2) := by decide +kernel
theorem dX5_mix_154 : decode cX5_mix 154 = .ok (.iconst 2, 1) := by decide +kernel
theorem dX5_mix_155 : decode cX5_mix 155 = .ok (.if_icmp .ne 13, 3) := by decide +kernel
theorem dX5_mix_158 : decode cX5_mix 158 = .ok (.iload_n 3, 1) := by decide +kernel
theorem dX5_mix_159 : decode cX5_mix 159 = .ok (.iload 4, 2) := by decide +kernel
theorem dX5_mix_161 : decode cX5_mix 161 = .ok (.ixor, 1) := by decide +kernel
theorem dX5_mix_162 : decode cX5_mix 162 = .ok (.iload 5, 2) := by decide +kernel
theorem dX5_mix_164 : decode cX5_mix 164 = .ok (.ixor, 1) := by decide +kernel
theorem dX5_mix_165 : decode cX5_mix 165 = .ok (.goto 12, 3) := by decide +kernel
theorem dX5_mix_168 : decode cX5_mix 168 = .ok (.iload 4, 2) := by decide +kernel
theorem dX5_mix_170 : decode cX5_mix 170 = .ok (.iload_n 3, 1) := by decide +kernel
theorem dX5_mix_171 : decode cX5_mix 171 = .ok (.iload 5, 2) := by decide +kernel
theorem dX5_mix_173 : decode cX5_mix 173 = .ok (.iconst (-1), 1) := by decide +kernel
theorem dX5_mix_174 : decode cX5_mix 174 = .ok (.ixor, 1) := by decide +kernel
theorem dX5_mix_175 : decode cX5_mix 175 = .ok (.ior, 1) := by decide +kernel
theorem dX5_mix_176 : decode cX5_mix 176 = .ok (.ixor, 1) := by decide +kernel
theorem dX5_mix_177 : decode cX5_mix 177 = .ok (.istore 8, 2) := by decide +kernel
theorem dX5_mix_179 : decode cX5_mix 179 = .ok (.iload 7, 2) := by decide +kernel
theorem dX5_mix_181 : decode cX5_mix 181 = .ok (.ifCond .ne 8, 3) := by decide +kernel
theorem dX5_mix_184 : decode cX5_mix 184 = .ok (.iload 6, 2) := by decide +kernel
theorem dX5_mix_186 : decode cX5_mix 186 = .ok (.goto 47, 3) := by decide +kernel
theorem dX5_mix_189 : decode cX5_mix 189 = .ok (.iload 7, 2) := by decide +kernel
theorem dX5_mix_191 : decode cX5_mix 191 = .ok (.iconst 1, 1) := by decide +kernel
theorem dX5_mix_192 : decode cX5_mix 192 = .ok (.if_icmp .ne 15, 3) := by decide +kernel
theorem dX5_mix_195 : decode cX5_mix 195 = .ok (.iconst 5, 1) := by decide +kernel
theorem dX5_mix_196 : decode cX5_mix 196 = .ok (.iload 6, 2) := by decide +kernel
theorem dX5_mix_198 : decode cX5_mix 198 = .ok (.imul, 1) := by decide +kernel
theorem dX5_mix_199 : decode cX5_mix 199 = .ok (.iconst 1, 1) := by decide +kernel
theorem dX5_mix_200 : decode cX5_mix 200 = .ok (.iadd, 1) := by decide +kernel
theorem dX5_mix_201 : decode cX5_mix 201 = .ok (.bipush 16, 2) := by decide +kernel
theorem dX5_mix_203 : decode cX5_mix 203 = .ok (.irem, 1) := by decide +kernel
theorem dX5_mix_204 : decode cX5_mix 204 = .ok (.goto 29, 3) := by decide +kernel
theorem dX5_mix_207 : decode cX5_mix 207 = .ok (.iload 7, 2) := by decide +kernel
theorem dX5_mix_209 : decode cX5_mix 209 = .ok (.iconst 2, 1) := by decide +kernel
theorem dX5_mix_210 : decode cX5_mix 210 = .ok (.if_icmp .ne 15, 3) := by decide +kernel
theorem dX5_mix_213 : decode cX5_mix 213 = .ok (.iconst 3, 1) := by decide +kernel
theorem dX5_mix_214 : decode cX5_mix 214 = .ok (.iload 6, 2) := by decide +kernel
theorem dX5_mix_216 : decode cX5_mix 216 = .ok (.imul, 1) := by decide +kernel
theorem dX5_mix_217 : decode cX5_mix 217 = .ok (.iconst 5, 1) := by decide +kernel
theorem dX5_mix_218 : decode cX5_mix 218 = .ok (.iadd, 1) := by decide +kernel
theorem dX5_mix_219 : decode cX5_mix 219 = .ok (.bipush 16, 2) := by decide +kernel
theorem dX5_mix_221 : decode cX5_mix 221 = .ok (.irem, 1) := by decide +kernel
theorem dX5_mix_222 : decode cX5_mix 222 = .ok (.goto 11, 3) := by decide +kernel
theorem dX5_mix_225 : decode cX5_mix 225 = .ok (.bipush 7, 2) := by decide +kernel
theorem dX5_mix_227 : decode cX5_mix 227 = .ok (.iload 6, 2) := by decide +kernel
theorem dX5_mix_229 : decode cX5_mix 229 = .ok (.imul, 1) := by decide +kernel
theorem dX5_mix_230 : decode cX5_mix 230 = .ok (.bipush 16, 2) := by decide +kernel
theorem dX5_mix_232 : decode cX5_mix 232 = .ok (.irem, 1) := by decide +kernel
theorem dX5_mix_233 : decode cX5_mix 233 = .ok (.istore 9, 2) := by decide +kernel
theorem dX5_mix_235 : decode cX5_mix 235 = .ok (.iload_n 2, 1) := by decide +kernel
theorem dX5_mix_236 : decode cX5_mix 236 = .ok (.iload 8, 2) := by decide +kernel
theorem dX5_mix_238 : decode cX5_mix 238 = .ok (.iadd, 1) := by decide +kernel
theorem dX5_mix_239 : decode cX5_mix 239 = .ok (.aload_n 0, 1) := by decide +kernel
theorem dX5_mix_240 : decode cX5_mix 240 = .ok (.getfield 112, 3) := by decide +kernel
theorem dX5_mix_243 : decode cX5_mix 243 = .ok (.iload 6, 2) := by decide +kernel
theorem dX5_mix_245 : decode cX5_mix 245 = .ok (.iaload, 1) := by decide +kernel
theorem dX5_mix_246 : decode cX5_mix 246 = .ok (.iadd, 1) := by decide +kernel
theorem dX5_mix_247 : decode cX5_mix 247 = .ok (.aload_n 0, 1) := by decide +kernel
theorem dX5_mix_248 : decode cX5_mix 248 = .ok (.getfield 45, 3) := by decide +kernel
theorem dX5_mix_251 : decode cX5_mix 251 = .ok (.iload 9, 2) := by decide +kernel
theorem dX5_mix_253 : decode cX5_mix 253 = .ok (.iaload, 1) := by decide +kernel
theorem dX5_mix_254 : decode cX5_mix 254 = .ok (.iadd, 1) := by decide +kernel
theorem dX5_mix_255 : decode cX5_mix 255 = .ok (.istore 10, 2) := by decide +kernel
theorem dX5_mix_257 : decode cX5_mix 257 = .ok (.aload_n 0, 1) := by decide +kernel
theorem dX5_mix_258 : decode cX5_mix 258 = .ok (.getfield 115, 3) := by decide +kernel
theorem dX5_mix_261 : decode cX5_mix 261 = .ok (.iconst 4, 1) := by decide +kernel
theorem dX5_mix_262 : decode cX5_mix 262 = .ok (.iload 7, 2) := by decide +kernel
theorem dX5_mix_264 : decode cX5_mix 264 = .ok (.imul, 1) := by decide +kernel
theorem dX5_mix_265 : decode cX5_mix 265 = .ok (.iload 6, 2) := by decide +kernel
theorem dX5_mix_267 : decode cX5_mix 267 = .ok (.iconst 4, 1) := by decide +kernel
theorem dX5_mix_268 : decode cX5_mix 268 = .ok (.irem, 1) := by decide +kernel
theorem dX5_mix_269 : decode cX5_mix 269 = .ok (.iadd, 1) := by decide +kernel
theorem dX5_mix_270 : decode cX5_mix 270 = .ok (.iaload, 1) := by decide +kernel
theorem dX5_mix_271 : decode cX5_mix 271 = .ok (.istore 11, 2) := by decide +kernel
theorem dX5_mix_273 : decode cX5_mix 273 = .ok (.iload 5, 2) := by decide +kernel
theorem dX5_mix_275 : decode cX5_mix 275 = .ok (.istore_n 2, 1) := by decide +kernel
theorem dX5_mix_276 : decode cX5_mix 276 = .ok (.iload 4, 2) := by decide +kernel
theorem dX5_mix_278 : decode cX5_mix 278 = .ok (.istore 5, 2) := by decide +kernel
theorem dX5_mix_280 : decode cX5_mix 280 = .ok (.iload_n 3, 1) := by decide +kernel
theorem dX5_mix_281 : decode cX5_mix 281 = .ok (.istore 4, 2) := by decide +kernel
theorem dX5_mix_283 : decode cX5_mix 283 = .ok (.iload_n 3, 1) := by decide +kernel
theorem dX5_mix_284 : decode cX5_mix 284 = .ok (.iload 10, 2) := by decide +kernel
theorem dX5_mix_286 : decode cX5_mix 286 = .ok (.iload 11, 2) := by decide +kernel
theorem dX5_mix_288 : decode cX5_mix 288 = .ok (.ishl, 1) := by decide +kernel
theorem dX5_mix_289 : decode cX5_mix 289 = .ok (.iload 10, 2) := by decide +kernel
theorem dX5_mix_291 : decode cX5_mix 291 = .ok (.bipush 32, 2) := by decide +kernel
theorem dX5_mix_293 : decode cX5_mix 293 = .ok (.iload 11, 2) := by decide +kernel
theorem dX5_mix_295 : decode cX5_mix 295 = .ok (.isub, 1) := by decide +kernel
theorem dX5_mix_296 : decode cX5_mix 296 = .ok (.iushr, 1) := by decide +kernel
theorem dX5_mix_297 : decode cX5_mix 297 = .ok (.ior, 1) := by decide +kernel
theorem dX5_mix_298 : decode cX5_mix 298 = .ok (.iadd, 1) := by decide +kernel
theorem dX5_mix_299 : decode cX5_mix 299 = .ok (.istore_n 3, 1) := by decide +kernel
theorem dX5_mix_300 : decode cX5_mix 300 = .ok (.iinc 6 1, 3) := by decide +kernel
theorem dX5_mix_303 : decode cX5_mix 303 = .ok (.goto (-205), 3) := by decide +kernel
theorem dX5_mix_306 : decode cX5_mix 306 = .ok (.aload_n 0, 1) := by decide +kernel
theorem dX5_mix_307 : decode cX5_mix 307 = .ok (.getfield 42, 3) := by decide +kernel
theorem dX5_mix_310 : decode cX5_mix 310 = .ok (.iconst 0, 1) := by decide +kernel
theorem dX5_mix_311 : decode cX5_mix 311 = .ok (.dup2, 1) := by decide +kernel
theorem dX5_mix_312 : decode cX5_mix 312 = .ok (.iaload, 1) := by decide +kernel
theorem dX5_mix_313 : decode cX5_mix 313 = .ok (.iload_n 2, 1) := by decide +kernel
theorem dX5_mix_314 : decode cX5_mix 314 = .ok (.iadd, 1) := by decide +kernel
theorem dX5_mix_315 : decode cX5_mix 315 = .ok (.iastore, 1) := by decide +kernel
theorem dX5_mix_316 : decode cX5_mix 316 = .ok (.aload_n 0, 1) := by decide +kernel
theorem dX5_mix_317 : decode cX5_mix 317 = .ok (.getfield 42, 3) := by decide +kernel
theorem dX5_mix_320 : decode cX5_mix 320 = .ok (.iconst 1, 1) := by decide +kernel
theorem dX5_mix_321 : decode cX5_mix 321 = .ok (.dup2, 1) := by decide +kernel
theorem dX5_mix_322 : decode cX5_mix 322 = .ok (.iaload, 1) := by decide +kernel
theorem dX5_mix_323 : decode cX5_mix 323 = .ok (.iload_n 3, 1) := by decide +kernel
theorem dX5_mix_324 : decode cX5_mix 324 = .ok (.iadd, 1) := by decide +kernel
theorem dX5_mix_325 : decode cX5_mix 325 = .ok (.iastore, 1) := by decide +kernel
theorem dX5_mix_326 : decode cX5_mix 326 = .ok (.aload_n 0, 1) := by decide +kernel
theorem dX5_mix_327 : decode cX5_mix 327 = .ok (.getfield 42, 3) := by decide +kernel
theorem dX5_mix_330 : decode cX5_mix 330 = .ok (.iconst 2, 1) := by decide +kernel
theorem dX5_mix_331 : decode cX5_mix 331 = .ok (.dup2, 1) := by decide +kernel
theorem dX5_mix_332 : decode cX5_mix 332 = .ok (.iaload, 1) := by decide +kernel
theorem dX5_mix_333 : decode cX5_mix 333 = .ok (.iload 4, 2) := by decide +kernel
theorem dX5_mix_335 : decode cX5_mix 335 = .ok (.iadd, 1) := by decide +kernel
theorem dX5_mix_336 : decode cX5_mix 336 = .ok (.iastore, 1) := by decide +kernel
theorem dX5_mix_337 : decode cX5_mix 337 = .ok (.aload_n 0, 1) := by decide +kernel
theorem dX5_mix_338 : decode cX5_mix 338 = .ok (.getfield 42, 3) := by decide +kernel
theorem dX5_mix_341 : decode cX5_mix 341 = .ok (.iconst 3, 1) := by decide +kernel
theorem dX5_mix_342 : decode cX5_mix 342 = .ok (.dup2, 1) := by decide +kernel
theorem dX5_mix_343 : decode cX5_mix 343 = .ok (.iaload, 1) := by decide +kernel
theorem dX5_mix_344 : decode cX5_mix 344 = .ok (.iload 5, 2) := by decide +kernel
theorem dX5_mix_346 : decode cX5_mix 346 = .ok (.iadd, 1) := by decide +kernel
theorem dX5_mix_347 : decode cX5_mix 347 = .ok (.iastore, 1) := by decide +kernel
theorem dX5_mix_348 : decode cX5_mix 348 = .ok (.return_, 1) := by decide +kernel
theorem dX5_digestByte_0 : decode cX5_digestByte 0 = .ok (.aload_n 0, 1) := by decide +kernel
theorem dX5_digestByte_1 : decode cX5_digestByte 1 = .ok (.getfield 42, 3) := by decide +kernel
theorem dX5_digestByte_4 : decode cX5_digestByte 4 = .ok (.iload_n 1, 1) := by decide +kernel
theorem dX5_digestByte_5 : decode cX5_digestByte 5 = .ok (.iconst 4, 1) := by decide +kernel
theorem dX5_digestByte_6 : decode cX5_digestByte 6 = .ok (.idiv, 1) := by decide +kernel
theorem dX5_digestByte_7 : decode cX5_digestByte 7 = .ok (.iaload, 1) := by decide +kernel
theorem dX5_digestByte_8 : decode cX5_digestByte 8 = .ok (.bipush 8, 2) := by decide +kernel
theorem dX5_digestByte_10 : decode cX5_digestByte 10 = .ok (.iload_n 1, 1) := by decide +kernel
theorem dX5_digestByte_11 : decode cX5_digestByte 11 = .ok (.iconst 4, 1) := by decide +kernel
theorem dX5_digestByte_12 : decode cX5_digestByte 12 = .ok (.irem, 1) := by decide +kernel
theorem dX5_digestByte_13 : decode cX5_digestByte 13 = .ok (.imul, 1) := by decide +kernel
theorem dX5_digestByte_14 : decode cX5_digestByte 14 = .ok (.iushr, 1) := by decide +kernel
theorem dX5_digestByte_15 : decode cX5_digestByte 15 = .ok (.sipush 255, 3) := by decide +kernel
theorem dX5_digestByte_18 : decode cX5_digestByte 18 = .ok (.iand, 1) := by decide +kernel
theorem dX5_digestByte_19 : decode cX5_digestByte 19 = .ok (.ireturn, 1) := by decide +kernel
theorem dX5_sign_0 : decode cX5_sign 0 = .ok (.aload_n 0, 1) := by decide +kernel
theorem dX5_sign_1 : decode cX5_sign 1 = .ok (.aload_n 0, 1) := by decide +kernel
theorem dX5_sign_2 : decode cX5_sign 2 = .ok (.getfield 20, 3) := by decide +kernel
theorem dX5_sign_5 : decode cX5_sign 5 = .ok (.putfield 27, 3) := by decide +kernel
theorem dX5_sign_8 : decode cX5_sign 8 = .ok (.aload_n 0, 1) := by decide +kernel
theorem dX5_sign_9 : decode cX5_sign 9 = .ok (.aload_n 0, 1) := by decide +kernel
theorem dX5_sign_10 : decode cX5_sign 10 = .ok (.getfield 24, 3) := by decide +kernel
theorem dX5_sign_13 : decode cX5_sign 13 = .ok (.putfield 30, 3) := by decide +kernel
theorem dX5_sign_16 : decode cX5_sign 16 = .ok (.aload_n 0, 1) := by decide +kernel
theorem dX5_sign_17 : decode cX5_sign 17 = .ok (.aload_n 0, 1) := by decide +kernel
theorem dX5_sign_18 : decode cX5_sign 18 = .ok (.getfield 13, 3) := by decide +kernel
theorem dX5_sign_21 : decode cX5_sign 21 = .ok (.iconst 0, 1) := by decide +kernel
theorem dX5_sign_22 : decode cX5_sign 22 = .ok (.iaload, 1) := by decide +kernel
theorem dX5_sign_23 : decode cX5_sign 23 = .ok (.aload_n 0, 1) := by decide +kernel
theorem dX5_sign_24 : decode cX5_sign 24 = .ok (.getfield 20, 3) := by decide +kernel
theorem dX5_sign_27 : decode cX5_sign 27 = .ok (.idiv, 1) := by decide +kernel
theorem dX5_sign_28 : decode cX5_sign 28 = .ok (.putfield 136, 3) := by decide +kernel
theorem dX5_sign_31 : decode cX5_sign 31 = .ok (.iconst 0, 1) := by decide +kernel
theorem dX5_sign_32 : decode cX5_sign 32 = .ok (.istore_n 1, 1) := by decide +kernel
theorem dX5_sign_33 : decode cX5_sign 33 = .ok (.iload_n 1, 1) := by decide +kernel
theorem dX5_sign_34 : decode cX5_sign 34 = .ok (.aload_n 0, 1) := by decide +kernel
theorem dX5_sign_35 : decode cX5_sign 35 = .ok (.getfield 136, 3) := by decide +kernel
theorem dX5_sign_38 : decode cX5_sign 38 = .ok (.if_icmp .ge 74, 3) := by decide +kernel
theorem dX5_sign_41 : decode cX5_sign 41 = .ok (.aload_n 0, 1) := by decide +kernel
theorem dX5_sign_42 : decode cX5_sign 42 = .ok (.getfield 33, 3) := by decide +kernel
theorem dX5_sign_45 : decode cX5_sign 45 = .ok (.iload_n 1, 1) := by decide +kernel
theorem dX5_sign_46 : decode cX5_sign 46 = .ok (.aload_n 0, 1) := by decide +kernel
theorem dX5_sign_47 : decode cX5_sign 47 = .ok (.aload_n 0, 1) := by decide +kernel
theorem dX5_sign_48 : decode cX5_sign 48 = .ok (.getfield 20, 3) := by decide +kernel
theorem dX5_sign_51 : decode cX5_sign 51 = .ok (.iload_n 1, 1) := by decide +kernel
theorem dX5_sign_52 : decode cX5_sign 52 = .ok (.imul, 1) := by decide +kernel
theorem dX5_sign_53 : decode cX5_sign 53 = .ok (.aload_n 0, 1) := by decide +kernel
theorem dX5_sign_54 : decode cX5_sign 54 = .ok (.getfield 20, 3) := by decide +kernel
theorem dX5_sign_57 : decode cX5_sign 57 = .ok (.invokevirtual 139, 3) := by decide +kernel
theorem dX5_sign_60 : decode cX5_sign 60 = .ok (.iastore, 1) := by decide +kernel
theorem dX5_sign_61 : decode cX5_sign 61 = .ok (.aload_n 0, 1) := by decide +kernel
theorem dX5_sign_62 : decode cX5_sign 62 = .ok (.aload_n 0, 1) := by decide +kernel
theorem dX5_sign_63 : decode cX5_sign 63 = .ok (.getfield 20, 3) := by decide +kernel
theorem dX5_sign_66 : decode cX5_sign 66 = .ok (.iload_n 1, 1) := by decide +kernel
theorem dX5_sign_67 : decode cX5_sign 67 = .ok (.imul, 1) := by decide +kernel
theorem dX5_sign_68 : decode cX5_sign 68 = .ok (.aload_n 0, 1) := by decide +kernel
theorem dX5_sign_69 : decode cX5_sign 69 = .ok (.getfield 20, 3) := by decide +kernel
theorem dX5_sign_72 : decode cX5_sign 72 = .ok (.invokevirtual 143, 3) := by decide +kernel
theorem dX5_sign_75 : decode cX5_sign 75 = .ok (.iconst 0, 1) := by decide +kernel
theorem dX5_sign_76 : decode cX5_sign 76 = .ok (.istore_n 2, 1) := by decide +kernel
theorem dX5_sign_77 : decode cX5_sign 77 = .ok (.iload_n 2, 1) := by decide +kernel
theorem dX5_sign_78 : decode cX5_sign 78 = .ok (.bipush 16, 2) := by decide +kernel
theorem dX5_sign_80 : decode cX5_sign 80 = .ok (.if_icmp .ge 26, 3) := by decide +kernel
theorem dX5_sign_83 : decode cX5_sign 83 = .ok (.aload_n 0, 1) := by decide +kernel
theorem dX5_sign_84 : decode cX5_sign 84 = .ok (.getfield 36, 3) := by decide +kernel
theorem dX5_sign_87 : decode cX5_sign 87 = .ok (.bipush 16, 2) := by decide +kernel
theorem dX5_sign_89 : decode cX5_sign 89 = .ok (.iload_n 1, 1) := by decide +kernel
theorem dX5_sign_90 : decode cX5_sign 90 = .ok (.imul, 1) := by decide +kernel
theorem dX5_sign_91 : decode cX5_sign 91 = .ok (.iload_n 2, 1) := by decide +kernel
theorem dX5_sign_92 : decode cX5_sign 92 = .ok (.iadd, 1) := by decide +kernel
theorem dX5_sign_93 : decode cX5_sign 93 = .ok (.aload_n 0, 1) := by decide +kernel
theorem dX5_sign_94 : decode cX5_sign 94 = .ok (.iload_n 2, 1) := by decide +kernel
theorem dX5_sign_95 : decode cX5_sign 95 = .ok (.invokevirtual 147, 3) := by decide +kernel
theorem dX5_sign_98 : decode cX5_sign 98 = .ok (.i2b, 1) := by decide +kernel
theorem dX5_sign_99 : decode cX5_sign 99 = .ok (.bastore, 1) := by decide +kernel
theorem dX5_sign_100 : decode cX5_sign 100 = .ok (.iinc 2 1, 3) := by decide +kernel
theorem dX5_sign_103 : decode cX5_sign 103 = .ok (.goto (-26), 3) := by decide +kernel
theorem dX5_sign_106 : decode cX5_sign 106 = .ok (.iinc 1 1, 3) := by decide +kernel
theorem dX5_sign_109 : decode cX5_sign 109 = .ok (.goto (-76), 3) := by decide +kernel
theorem dX5_sign_112 : decode cX5_sign 112 = .ok (.aload_n 0, 1) := by decide +kernel
theorem dX5_sign_113 : decode cX5_sign 113 = .ok (.getfield 136, 3) := by decide +kernel
theorem dX5_sign_116 : decode cX5_sign 116 = .ok (.ireturn, 1) := by decide +kernel
theorem dX5_sum_0 : decode cX5_sum 0 = .ok (.iload_n 1, 1) := by decide +kernel
theorem dX5_sum_1 : decode cX5_sum 1 = .ok (.ifCond .lt 20, 3) := by decide +kernel
theorem dX5_sum_4 : decode cX5_sum 4 = .ok (.iload_n 1, 1) := by decide +kernel
theorem dX5_sum_5 : decode cX5_sum 5 = .ok (.aload_n 0, 1) := by decide +kernel
theorem dX5_sum_6 : decode cX5_sum 6 = .ok (.getfield 136, 3) := by decide +kernel
theorem dX5_sum_9 : decode cX5_sum 9 = .ok (.if_icmp .ge 12, 3) := by decide +kernel
theorem dX5_sum_12 : decode cX5_sum 12 = .ok (.aload_n 0, 1) := by decide +kernel
theorem dX5_sum_13 : decode cX5_sum 13 = .ok (.getfield 33, 3) := by decide +kernel
theorem dX5_sum_16 : decode cX5_sum 16 = .ok (.iload_n 1, 1) := by decide +kernel
theorem dX5_sum_17 : decode cX5_sum 17 = .ok (.iaload, 1) := by decide +kernel
theorem dX5_sum_18 : decode cX5_sum 18 = .ok (.goto 4, 3) := by decide +kernel
theorem dX5_sum_21 : decode cX5_sum 21 = .ok (.iconst 0, 1) := by decide +kernel
theorem dX5_sum_22 : decode cX5_sum 22 = .ok (.ireturn, 1) := by decide +kernel
theorem dX5_digest_0 : decode cX5_digest 0 = .ok (.iload_n 1, 1) := by decide +kernel
theorem dX5_digest_1 : decode cX5_digest 1 = .ok (.ifCond .lt 41, 3) := by decide +kernel
theorem dX5_digest_4 : decode cX5_digest 4 = .ok (.iload_n 1, 1) := by decide +kernel
theorem dX5_digest_5 : decode cX5_digest 5 = .ok (.aload_n 0, 1) := by decide +kernel
theorem dX5_digest_6 : decode cX5_digest 6 = .ok (.getfield 136, 3) := by decide +kernel
theorem dX5_digest_9 : decode cX5_digest 9 = .ok (.if_icmp .ge 33, 3) := by decide +kernel
theorem dX5_digest_12 : decode cX5_digest 12 = .ok (.iload_n 2, 1) := by decide +kernel
theorem dX5_digest_13 : decode cX5_digest 13 = .ok (.ifCond .lt 29, 3) := by decide +kernel
theorem dX5_digest_16 : decode cX5_digest 16 = .ok (.iload_n 2, 1) := by decide +kernel
theorem dX5_digest_17 : decode cX5_digest 17 = .ok (.aload_n 0, 1) := by decide +kernel
theorem dX5_digest_18 : decode cX5_digest 18 = .ok (.getfield 30, 3) := by decide +kernel
theorem dX5_digest_21 : decode cX5_digest 21 = .ok (.if_icmp .ge 21, 3) := by decide +kernel
theorem dX5_digest_24 : decode cX5_digest 24 = .ok (.aload_n 0, 1) := by decide +kernel
theorem dX5_digest_25 : decode cX5_digest 25 = .ok (.getfield 36, 3) := by decide +kernel
theorem dX5_digest_28 : decode cX5_digest 28 = .ok (.bipush 16, 2) := by decide +kernel
theorem dX5_digest_30 : decode cX5_digest 30 = .ok (.iload_n 1, 1) := by decide +kernel
theorem dX5_digest_31 : decode cX5_digest 31 = .ok (.imul, 1) := by decide +kernel
theorem dX5_digest_32 : decode cX5_digest 32 = .ok (.iload_n 2, 1) := by decide +kernel
theorem dX5_digest_33 : decode cX5_digest 33 = .ok (.iadd, 1) := by decide +kernel
theorem dX5_digest_34 : decode cX5_digest 34 = .ok (.baload, 1) := by decide +kernel
theorem dX5_digest_35 : decode cX5_digest 35 = .ok (.sipush 255, 3) := by decide +kernel
theorem dX5_digest_38 : decode cX5_digest 38 = .ok (.iand, 1) := by decide +kernel
theorem dX5_digest_39 : decode cX5_digest 39 = .ok (.goto 4, 3) := by decide +kernel
theorem dX5_digest_42 : decode cX5_digest 42 = .ok (.iconst (-1), 1) := by decide +kernel
theorem dX5_digest_43 : decode cX5_digest 43 = .ok (.ireturn, 1) := by decide +kernel
theorem dX5_isDigest_0 : decode cX5_isDigest 0 = .ok (.iconst 1, 1) := by decide +kernel
theorem dX5_isDigest_1 : decode cX5_isDigest 1 = .ok (.istore_n 2, 1) := by decide +kernel
theorem dX5_isDigest_2 : decode cX5_isDigest 2 = .ok (.iconst 0, 1) := by decide +kernel
theorem dX5_isDigest_3 : decode cX5_isDigest 3 = .ok (.istore_n 3, 1) := by decide +kernel
theorem dX5_isDigest_4 : decode cX5_isDigest 4 = .ok (.iload_n 3, 1) := by decide +kernel
theorem dX5_isDigest_5 : decode cX5_isDigest 5 = .ok (.aload_n 0, 1) := by decide +kernel
theorem dX5_isDigest_6 : decode cX5_isDigest 6 = .ok (.getfield 30, 3) := by decide +kernel
theorem dX5_isDigest_9 : decode cX5_isDigest 9 = .ok (.if_icmp .ge 42, 3) := by decide +kernel
theorem dX5_isDigest_12 : decode cX5_isDigest 12 = .ok (.iload_n 2, 1) := by decide +kernel
theorem dX5_isDigest_13 : decode cX5_isDigest 13 = .ok (.ifCond .eq 30, 3) := by decide +kernel
theorem dX5_isDigest_16 : decode cX5_isDigest 16 = .ok (.aload_n 0, 1) := by decide +kernel
theorem dX5_isDigest_17 : decode cX5_isDigest 17 = .ok (.getfield 36, 3) := by decide +kernel
theorem dX5_isDigest_20 : decode cX5_isDigest 20 = .ok (.bipush 16, 2) := by decide +kernel
theorem dX5_isDigest_22 : decode cX5_isDigest 22 = .ok (.iload_n 1, 1) := by decide +kernel
theorem dX5_isDigest_23 : decode cX5_isDigest 23 = .ok (.imul, 1) := by decide +kernel
theorem dX5_isDigest_24 : decode cX5_isDigest 24 = .ok (.iload_n 3, 1) := by decide +kernel
theorem dX5_isDigest_25 : decode cX5_isDigest 25 = .ok (.iadd, 1) := by decide +kernel
theorem dX5_isDigest_26 : decode cX5_isDigest 26 = .ok (.baload, 1) := by decide +kernel
theorem dX5_isDigest_27 : decode cX5_isDigest 27 = .ok (.sipush 255, 3) := by decide +kernel
theorem dX5_isDigest_30 : decode cX5_isDigest 30 = .ok (.iand, 1) := by decide +kernel
theorem dX5_isDigest_31 : decode cX5_isDigest 31 = .ok (.aload_n 0, 1) := by decide +kernel
theorem dX5_isDigest_32 : decode cX5_isDigest 32 = .ok (.iload_n 3, 1) := by decide +kernel
theorem dX5_isDigest_33 : decode cX5_isDigest 33 = .ok (.invokevirtual 147, 3) := by decide +kernel
theorem dX5_isDigest_36 : decode cX5_isDigest 36 = .ok (.if_icmp .ne 7, 3) := by decide +kernel
theorem dX5_isDigest_39 : decode cX5_isDigest 39 = .ok (.iconst 1, 1) := by decide +kernel
theorem dX5_isDigest_40 : decode cX5_isDigest 40 = .ok (.goto 4, 3) := by decide +kernel
theorem dX5_isDigest_43 : decode cX5_isDigest 43 = .ok (.iconst 0, 1) := by decide +kernel
theorem dX5_isDigest_44 : decode cX5_isDigest 44 = .ok (.istore_n 2, 1) := by decide +kernel
theorem dX5_isDigest_45 : decode cX5_isDigest 45 = .ok (.iinc 3 1, 3) := by decide +kernel
theorem dX5_isDigest_48 : decode cX5_isDigest 48 = .ok (.goto (-44), 3) := by decide +kernel
theorem dX5_isDigest_51 : decode cX5_isDigest 51 = .ok (.iload_n 2, 1) := by decide +kernel
theorem dX5_isDigest_52 : decode cX5_isDigest 52 = .ok (.ireturn, 1) := by decide +kernel
theorem dX5_blockAt_0 : decode cX5_blockAt 0 = .ok (.iload_n 1, 1) := by decide +kernel
theorem dX5_blockAt_1 : decode cX5_blockAt 1 = .ok (.aload_n 0, 1) := by decide +kernel
theorem dX5_blockAt_2 : decode cX5_blockAt 2 = .ok (.getfield 27, 3) := by decide +kernel
theorem dX5_blockAt_5 : decode cX5_blockAt 5 = .ok (.iadd, 1) := by decide +kernel
theorem dX5_blockAt_6 : decode cX5_blockAt 6 = .ok (.aload_n 0, 1) := by decide +kernel
theorem dX5_blockAt_7 : decode cX5_blockAt 7 = .ok (.getfield 13, 3) := by decide +kernel
theorem dX5_blockAt_10 : decode cX5_blockAt 10 = .ok (.iconst 1, 1) := by decide +kernel
theorem dX5_blockAt_11 : decode cX5_blockAt 11 = .ok (.iaload, 1) := by decide +kernel
theorem dX5_blockAt_12 : decode cX5_blockAt 12 = .ok (.if_icmp .le 5, 3) := by decide +kernel
theorem dX5_blockAt_15 : decode cX5_blockAt 15 = .ok (.iconst (-1), 1) := by decide +kernel
theorem dX5_blockAt_16 : decode cX5_blockAt 16 = .ok (.ireturn, 1) := by decide +kernel
theorem dX5_blockAt_17 : decode cX5_blockAt 17 = .ok (.aload_n 0, 1) := by decide +kernel
theorem dX5_blockAt_18 : decode cX5_blockAt 18 = .ok (.sipush 2000, 3) := by decide +kernel
theorem dX5_blockAt_21 : decode cX5_blockAt 21 = .ok (.iload_n 1, 1) := by decide +kernel
theorem dX5_blockAt_22 : decode cX5_blockAt 22 = .ok (.iadd, 1) := by decide +kernel
theorem dX5_blockAt_23 : decode cX5_blockAt 23 = .ok (.aload_n 0, 1) := by decide +kernel
theorem dX5_blockAt_24 : decode cX5_blockAt 24 = .ok (.getfield 27, 3) := by decide +kernel
theorem dX5_blockAt_27 : decode cX5_blockAt 27 = .ok (.invokevirtual 139, 3) := by decide +kernel
theorem dX5_blockAt_30 : decode cX5_blockAt 30 = .ok (.istore_n 3, 1) := by decide +kernel
theorem dX5_blockAt_31 : decode cX5_blockAt 31 = .ok (.iconst 0, 1) := by decide +kernel
theorem dX5_blockAt_32 : decode cX5_blockAt 32 = .ok (.istore 4, 2) := by decide +kernel
theorem dX5_blockAt_34 : decode cX5_blockAt 34 = .ok (.iconst (-1), 1) := by decide +kernel
theorem dX5_blockAt_35 : decode cX5_blockAt 35 = .ok (.istore 5, 2) := by decide +kernel
theorem dX5_blockAt_37 : decode cX5_blockAt 37 = .ok (.iconst 0, 1) := by decide +kernel
theorem dX5_blockAt_38 : decode cX5_blockAt 38 = .ok (.istore 6, 2) := by decide +kernel
theorem dX5_blockAt_40 : decode cX5_blockAt 40 = .ok (.iload 6, 2) := by decide +kernel
theorem dX5_blockAt_42 : decode cX5_blockAt 42 = .ok (.aload_n 0, 1) := by decide +kernel
theorem dX5_blockAt_43 : decode cX5_blockAt 43 = .ok (.getfield 136, 3) := by decide +kernel
theorem dX5_blockAt_46 : decode cX5_blockAt 46 = .ok (.if_icmp .ge 74, 3) := by decide +kernel
theorem dX5_blockAt_49 : decode cX5_blockAt 49 = .ok (.aload_n 0, 1) := by decide +kernel
theorem dX5_blockAt_50 : decode cX5_blockAt 50 = .ok (.getfield 33, 3) := by decide +kernel
theorem dX5_blockAt_53 : decode cX5_blockAt 53 = .ok (.iload 6, 2) := by decide +kernel
theorem dX5_blockAt_55 : decode cX5_blockAt 55 = .ok (.iaload, 1) := by decide +kernel
theorem dX5_blockAt_56 : decode cX5_blockAt 56 = .ok (.iload_n 3, 1) := by decide +kernel
theorem dX5_blockAt_57 : decode cX5_blockAt 57 = .ok (.if_icmp .ne 57, 3) := by decide +kernel
theorem dX5_blockAt_60 : decode cX5_blockAt 60 = .ok (.iload 4, 2) := by decide +kernel
theorem dX5_blockAt_62 : decode cX5_blockAt 62 = .ok (.ifCond .ne 16, 3) := by decide +kernel
theorem dX5_blockAt_65 : decode cX5_blockAt 65 = .ok (.aload_n 0, 1) := by decide +kernel
theorem dX5_blockAt_66 : decode cX5_blockAt 66 = .ok (.sipush 2000, 3) := by decide +kernel
theorem dX5_blockAt_69 : decode cX5_blockAt 69 = .ok (.iload_n 1, 1) := by decide +kernel
theorem dX5_blockAt_70 : decode cX5_blockAt 70 = .ok (.iadd, 1) := by decide +kernel
theorem dX5_blockAt_71 : decode cX5_blockAt 71 = .ok (.aload_n 0, 1) := by decide +kernel
theorem dX5_blockAt_72 : decode cX5_blockAt 72 = .ok (.getfield 27, 3) := by decide +kernel
theorem dX5_blockAt_75 : decode cX5_blockAt 75 = .ok (.invokevirtual 143, 3) := by decide +kernel
theorem dX5_blockAt_78 : decode cX5_blockAt 78 = .ok (.iconst 1, 1) := by decide +kernel
theorem dX5_blockAt_79 : decode cX5_blockAt 79 = .ok (.istore 4, 2) := by decide +kernel
theorem dX5_blockAt_81 : decode cX5_blockAt 81 = .ok (.aload_n 0, 1) := by decide +kernel
theorem dX5_blockAt_82 : decode cX5_blockAt 82 = .ok (.iload 6, 2) := by decide +kernel
theorem dX5_blockAt_84 : decode cX5_blockAt 84 = .ok (.invokevirtual 151, 3) := by decide +kernel
theorem dX5_blockAt_87 : decode cX5_blockAt 87 = .ok (.ifCond .eq 27, 3) := by decide +kernel
theorem dX5_blockAt_90 : decode cX5_blockAt 90 = .ok (.iload 6, 2) := by decide +kernel
theorem dX5_blockAt_92 : decode cX5_blockAt 92 = .ok (.iload_n 2, 1) := by decide +kernel
theorem dX5_blockAt_93 : decode cX5_blockAt 93 = .ok (.if_icmp .ne 6, 3) := by decide +kernel
theorem dX5_blockAt_96 : decode cX5_blockAt 96 = .ok (.iload 6, 2) := by decide +kernel
theorem dX5_blockAt_98 : decode cX5_blockAt 98 = .ok (.ireturn, 1) := by decide +kernel
theorem dX5_blockAt_99 : decode cX5_blockAt 99 = .ok (.iload 5, 2) := by decide +kernel
theorem dX5_blockAt_101 : decode cX5_blockAt 101 = .ok (.iconst (-1), 1) := by decide +kernel
theorem dX5_blockAt_102 : decode cX5_blockAt 102 = .ok (.if_icmp .ne 8, 3) := by decide +kernel
theorem dX5_blockAt_105 : decode cX5_blockAt 105 = .ok (.iload 6, 2) := by decide +kernel
theorem dX5_blockAt_107 : decode cX5_blockAt 107 = .ok (.goto 5, 3) := by decide +kernel
theorem dX5_blockAt_110 : decode cX5_blockAt 110 = .ok (.iload 5, 2) := by decide +kernel
theorem dX5_blockAt_112 : decode cX5_blockAt 112 = .ok (.istore 5, 2) := by decide +kernel
theorem dX5_blockAt_114 : decode cX5_blockAt 114 = .ok (.iinc 6 1, 3) := by decide +kernel
theorem dX5_blockAt_117 : decode cX5_blockAt 117 = .ok (.goto (-77), 3) := by decide +kernel
theorem dX5_blockAt_120 : decode cX5_blockAt 120 = .ok (.aload_n 0, 1) := by decide +kernel
theorem dX5_blockAt_121 : decode cX5_blockAt 121 = .ok (.dup, 1) := by decide +kernel
theorem dX5_blockAt_122 : decode cX5_blockAt 122 = .ok (.getfield 154, 3) := by decide +kernel
theorem dX5_blockAt_125 : decode cX5_blockAt 125 = .ok (.iload 4, 2) := by decide +kernel
theorem dX5_blockAt_127 : decode cX5_blockAt 127 = .ok (.ifCond .eq 13, 3) := by decide +kernel
theorem dX5_blockAt_130 : decode cX5_blockAt 130 = .ok (.iload 5, 2) := by decide +kernel
theorem dX5_blockAt_132 : decode cX5_blockAt 132 = .ok (.iconst (-1), 1) := by decide +kernel
theorem dX5_blockAt_133 : decode cX5_blockAt 133 = .ok (.if_icmp .ne 7, 3) := by decide +kernel
theorem dX5_blockAt_136 : decode cX5_blockAt 136 = .ok (.iconst 1, 1) := by decide +kernel
theorem dX5_blockAt_137 : decode cX5_blockAt 137 = .ok (.goto 4, 3) := by decide +kernel
theorem dX5_blockAt_140 : decode cX5_blockAt 140 = .ok (.iconst 0, 1) := by decide +kernel
theorem dX5_blockAt_141 : decode cX5_blockAt 141 = .ok (.iadd, 1) := by decide +kernel
theorem dX5_blockAt_142 : decode cX5_blockAt 142 = .ok (.putfield 154, 3) := by decide +kernel
theorem dX5_blockAt_145 : decode cX5_blockAt 145 = .ok (.iload 5, 2) := by decide +kernel
theorem dX5_blockAt_147 : decode cX5_blockAt 147 = .ok (.ireturn, 1) := by decide +kernel
theorem dX5_add_0 : decode cX5_add 0 = .ok (.aload_n 0, 1) := by decide +kernel
theorem dX5_add_1 : decode cX5_add 1 = .ok (.getfield 17, 3) := by decide +kernel
theorem dX5_add_4 : decode cX5_add 4 = .ok (.aload_n 0, 1) := by decide +kernel
theorem dX5_add_5 : decode cX5_add 5 = .ok (.getfield 157, 3) := by decide +kernel
theorem dX5_add_8 : decode cX5_add 8 = .ok (.iload_n 1, 1) := by decide +kernel
theorem dX5_add_9 : decode cX5_add 9 = .ok (.i2b, 1) := by decide +kernel
theorem dX5_add_10 : decode cX5_add 10 = .ok (.bastore, 1) := by decide +kernel
theorem dX5_add_11 : decode cX5_add 11 = .ok (.aload_n 0, 1) := by decide +kernel
theorem dX5_add_12 : decode cX5_add 12 = .ok (.dup, 1) := by decide +kernel
theorem dX5_add_13 : decode cX5_add 13 = .ok (.getfield 157, 3) := by decide +kernel
theorem dX5_add_16 : decode cX5_add 16 = .ok (.iconst 1, 1) := by decide +kernel
theorem dX5_add_17 : decode cX5_add 17 = .ok (.iadd, 1) := by decide +kernel
theorem dX5_add_18 : decode cX5_add 18 = .ok (.putfield 157, 3) := by decide +kernel
theorem dX5_add_21 : decode cX5_add 21 = .ok (.return_, 1) := by decide +kernel
theorem dX5_delta_0 : decode cX5_delta 0 = .ok (.aload_n 0, 1) := by decide +kernel
theorem dX5_delta_1 : decode cX5_delta 1 = .ok (.iconst 0, 1) := by decide +kernel
theorem dX5_delta_2 : decode cX5_delta 2 = .ok (.putfield 160, 3) := by decide +kernel
theorem dX5_delta_5 : decode cX5_delta 5 = .ok (.aload_n 0, 1) := by decide +kernel
theorem dX5_delta_6 : decode cX5_delta 6 = .ok (.iconst 0, 1) := by decide +kernel
theorem dX5_delta_7 : decode cX5_delta 7 = .ok (.putfield 163, 3) := by decide +kernel
theorem dX5_delta_10 : decode cX5_delta 10 = .ok (.aload_n 0, 1) := by decide +kernel
theorem dX5_delta_11 : decode cX5_delta 11 = .ok (.iconst 0, 1) := by decide +kernel
theorem dX5_delta_12 : decode cX5_delta 12 = .ok (.putfield 166, 3) := by decide +kernel
theorem dX5_delta_15 : decode cX5_delta 15 = .ok (.aload_n 0, 1) := by decide +kernel
theorem dX5_delta_16 : decode cX5_delta 16 = .ok (.iconst 0, 1) := by decide +kernel
theorem dX5_delta_17 : decode cX5_delta 17 = .ok (.putfield 154, 3) := by decide +kernel
theorem dX5_delta_20 : decode cX5_delta 20 = .ok (.aload_n 0, 1) := by decide +kernel
theorem dX5_delta_21 : decode cX5_delta 21 = .ok (.iconst 0, 1) := by decide +kernel
theorem dX5_delta_22 : decode cX5_delta 22 = .ok (.putfield 169, 3) := by decide +kernel
theorem dX5_delta_25 : decode cX5_delta 25 = .ok (.iconst 0, 1) := by decide +kernel
theorem dX5_delta_26 : decode cX5_delta 26 = .ok (.istore_n 1, 1) := by decide +kernel
theorem dX5_delta_27 : decode cX5_delta 27 = .ok (.iconst (-1), 1) := by decide +kernel
theorem dX5_delta_28 : decode cX5_delta 28 = .ok (.istore_n 2, 1) := by decide +kernel
theorem dX5_delta_29 : decode cX5_delta 29 = .ok (.iload_n 1, 1) := by decide +kernel
theorem dX5_delta_30 : decode cX5_delta 30 = .ok (.aload_n 0, 1) := by decide +kernel
theorem dX5_delta_31 : decode cX5_delta 31 = .ok (.getfield 13, 3) := by decide +kernel
theorem dX5_delta_34 : decode cX5_delta 34 = .ok (.iconst 1, 1) := by decide +kernel
theorem dX5_delta_35 : decode cX5_delta 35 = .ok (.iaload, 1) := by decide +kernel
theorem dX5_delta_36 : decode cX5_delta 36 = .ok (.if_icmp .ge 124, 3) := by decide +kernel
theorem dX5_delta_39 : decode cX5_delta 39 = .ok (.aload_n 0, 1) := by decide +kernel
theorem dX5_delta_40 : decode cX5_delta 40 = .ok (.iload_n 1, 1) := by decide +kernel
theorem dX5_delta_41 : decode cX5_delta 41 = .ok (.iload_n 2, 1) := by decide +kernel
theorem dX5_delta_42 : decode cX5_delta 42 = .ok (.invokevirtual 172, 3) := by decide +kernel
theorem dX5_delta_45 : decode cX5_delta 45 = .ok (.istore_n 3, 1) := by decide +kernel
theorem dX5_delta_46 : decode cX5_delta 46 = .ok (.aload_n 0, 1) := by decide +kernel
theorem dX5_delta_47 : decode cX5_delta 47 = .ok (.getfield 118, 3) := by decide +kernel
theorem dX5_delta_50 : decode cX5_delta 50 = .ok (.aload_n 0, 1) := by decide +kernel
theorem dX5_delta_51 : decode cX5_delta 51 = .ok (.getfield 169, 3) := by decide +kernel
theorem dX5_delta_54 : decode cX5_delta 54 = .ok (.iload_n 3, 1) := by decide +kernel
theorem dX5_delta_55 : decode cX5_delta 55 = .ok (.iconst (-1), 1) := by decide +kernel
theorem dX5_delta_56 : decode cX5_delta 56 = .ok (.if_icmp .ne 22, 3) := by decide +kernel
theorem dX5_delta_59 : decode cX5_delta 59 = .ok (.iconst (-1), 1) := by decide +kernel
theorem dX5_delta_60 : decode cX5_delta 60 = .ok (.aload_n 0, 1) := by decide +kernel
theorem dX5_delta_61 : decode cX5_delta 61 = .ok (.getfield 7, 3) := by decide +kernel
theorem dX5_delta_64 : decode cX5_delta 64 = .ok (.sipush 2000, 3) := by decide +kernel
theorem dX5_delta_67 : decode cX5_delta 67 = .ok (.iload_n 1, 1) := by decide +kernel
theorem dX5_delta_68 : decode cX5_delta 68 = .ok (.iadd, 1) := by decide +kernel
theorem dX5_delta_69 : decode cX5_delta 69 = .ok (.baload, 1) := by decide +kernel
theorem dX5_delta_70 : decode cX5_delta 70 = .ok (.sipush 255, 3) := by decide +kernel
theorem dX5_delta_73 : decode cX5_delta 73 = .ok (.iand, 1) := by decide +kernel
theorem dX5_delta_74 : decode cX5_delta 74 = .ok (.isub, 1) := by decide +kernel
theorem dX5_delta_75 : decode cX5_delta 75 = .ok (.goto 4, 3) := by decide +kernel
theorem dX5_delta_78 : decode cX5_delta 78 = .ok (.iload_n 3, 1) := by decide +kernel
theorem dX5_delta_79 : decode cX5_delta 79 = .ok (.iastore, 1) := by decide +kernel
theorem dX5_delta_80 : decode cX5_delta 80 = .ok (.aload_n 0, 1) := by decide +kernel
theorem dX5_delta_81 : decode cX5_delta 81 = .ok (.dup, 1) := by decide +kernel
theorem dX5_delta_82 : decode cX5_delta 82 = .ok (.getfield 169, 3) := by decide +kernel
theorem dX5_delta_85 : decode cX5_delta 85 = .ok (.iconst 1, 1) := by decide +kernel
theorem dX5_delta_86 : decode cX5_delta 86 = .ok (.iadd, 1) := by decide +kernel
theorem dX5_delta_87 : decode cX5_delta 87 = .ok (.putfield 169, 3) := by decide +kernel
theorem dX5_delta_90 : decode cX5_delta 90 = .ok (.iload_n 3, 1) := by decide +kernel
theorem dX5_delta_91 : decode cX5_delta 91 = .ok (.iconst (-1), 1) := by decide +kernel
theorem dX5_delta_92 : decode cX5_delta 92 = .ok (.if_icmp .ne 7, 3) := by decide +kernel
theorem dX5_delta_95 : decode cX5_delta 95 = .ok (.iconst (-1), 1) := by decide +kernel
theorem dX5_delta_96 : decode cX5_delta 96 = .ok (.goto 6, 3) := by decide +kernel
theorem dX5_delta_99 : decode cX5_delta 99 = .ok (.iload_n 3, 1) := by decide +kernel
theorem dX5_delta_100 : decode cX5_delta 100 = .ok (.iconst 1, 1) := by decide +kernel
theorem dX5_delta_101 : decode cX5_delta 101 = .ok (.iadd, 1) := by decide +kernel
theorem dX5_delta_102 : decode cX5_delta 102 = .ok (.istore_n 2, 1) := by decide +kernel
theorem dX5_delta_103 : decode cX5_delta 103 = .ok (.iload_n 1, 1) := by decide +kernel
theorem dX5_delta_104 : decode cX5_delta 104 = .ok (.iload_n 3, 1) := by decide +kernel
theorem dX5_delta_105 : decode cX5_delta 105 = .ok (.iconst (-1), 1) := by decide +kernel
theorem dX5_delta_106 : decode cX5_delta 106 = .ok (.if_icmp .ne 7, 3) := by decide +kernel
theorem dX5_delta_109 : decode cX5_delta 109 = .ok (.iconst 1, 1) := by decide +kernel
theorem dX5_delta_110 : decode cX5_delta 110 = .ok (.goto 7, 3) := by decide +kernel
theorem dX5_delta_113 : decode cX5_delta 113 = .ok (.aload_n 0, 1) := by decide +kernel
theorem dX5_delta_114 : decode cX5_delta 114 = .ok (.getfield 27, 3) := by decide +kernel
theorem dX5_delta_117 : decode cX5_delta 117 = .ok (.iadd, 1) := by decide +kernel
theorem dX5_delta_118 : decode cX5_delta 118 = .ok (.istore_n 1, 1) := by decide +kernel
theorem dX5_delta_119 : decode cX5_delta 119 = .ok (.aload_n 0, 1) := by decide +kernel
theorem dX5_delta_120 : decode cX5_delta 120 = .ok (.dup, 1) := by decide +kernel
theorem dX5_delta_121 : decode cX5_delta 121 = .ok (.getfield 160, 3) := by decide +kernel
theorem dX5_delta_124 : decode cX5_delta 124 = .ok (.iload_n 3, 1) := by decide +kernel
theorem dX5_delta_125 : decode cX5_delta 125 = .ok (.iconst (-1), 1) := by decide +kernel
theorem dX5_delta_126 : decode cX5_delta 126 = .ok (.if_icmp .ne 7, 3) := by decide +kernel
theorem dX5_delta_129 : decode cX5_delta 129 = .ok (.iconst 0, 1) := by decide +kernel
theorem dX5_delta_130 : decode cX5_delta 130 = .ok (.goto 4, 3) := by decide +kernel
theorem dX5_delta_133 : decode cX5_delta 133 = .ok (.iconst 1, 1) := by decide +kernel
theorem dX5_delta_134 : decode cX5_delta 134 = .ok (.iadd, 1) := by decide +kernel
theorem dX5_delta_135 : decode cX5_delta 135 = .ok (.putfield 160, 3) := by decide +kernel
