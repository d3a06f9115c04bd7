theorem dX12_init_0 : decode cX12_init 0 = .ok (.aload_n 0, 1) := by decide +kernel
theorem dX12_init_1 : decode cX12_init 1 = .ok (.invokespecial 1, 3) := by decide +kernel
theorem dX12_init_4 : decode cX12_init 4 = .ok (.aload_n 0, 1) := by decide +kernel
theorem dX12_init_5 : decode cX12_init 5 = .ok (.bipush 24, 2) := by decide +kernel
theorem dX12_init_7 : decode cX12_init 7 = .ok (.newarray .int, 2) := by decide +kernel
theorem dX12_init_9 : decode cX12_init 9 = .ok (.putfield 7, 3) := by decide +kernel
theorem dX12_init_12 : decode cX12_init 12 = .ok (.aload_n 0, 1) := by decide +kernel
theorem dX12_init_13 : decode cX12_init 13 = .ok (.bipush 24, 2) := by decide +kernel
theorem dX12_init_15 : decode cX12_init 15 = .ok (.newarray .int, 2) := by decide +kernel
theorem dX12_init_17 : decode cX12_init 17 = .ok (.putfield 13, 3) := by decide +kernel
theorem dX12_init_20 : decode cX12_init 20 = .ok (.aload_n 0, 1) := by decide +kernel
theorem dX12_init_21 : decode cX12_init 21 = .ok (.bipush 24, 2) := by decide +kernel
theorem dX12_init_23 : decode cX12_init 23 = .ok (.newarray .int, 2) := by decide +kernel
theorem dX12_init_25 : decode cX12_init 25 = .ok (.putfield 16, 3) := by decide +kernel
theorem dX12_init_28 : decode cX12_init 28 = .ok (.aload_n 0, 1) := by decide +kernel
theorem dX12_init_29 : decode cX12_init 29 = .ok (.bipush 24, 2) := by decide +kernel
theorem dX12_init_31 : decode cX12_init 31 = .ok (.newarray .int, 2) := by decide +kernel
theorem dX12_init_33 : decode cX12_init 33 = .ok (.putfield 19, 3) := by decide +kernel
theorem dX12_init_36 : decode cX12_init 36 = .ok (.aload_n 0, 1) := by decide +kernel
theorem dX12_init_37 : decode cX12_init 37 = .ok (.sipush 416, 3) := by decide +kernel
theorem dX12_init_40 : decode cX12_init 40 = .ok (.newarray .int, 2) := by decide +kernel
theorem dX12_init_42 : decode cX12_init 42 = .ok (.putfield 22, 3) := by decide +kernel
theorem dX12_init_45 : decode cX12_init 45 = .ok (.aload_n 0, 1) := by decide +kernel
theorem dX12_init_46 : decode cX12_init 46 = .ok (.bipush 26, 2) := by decide +kernel
theorem dX12_init_48 : decode cX12_init 48 = .ok (.newarray .int, 2) := by decide +kernel
theorem dX12_init_50 : decode cX12_init 50 = .ok (.putfield 25, 3) := by decide +kernel
theorem dX12_init_53 : decode cX12_init 53 = .ok (.aload_n 0, 1) := by decide +kernel
theorem dX12_init_54 : decode cX12_init 54 = .ok (.iconst 4, 1) := by decide +kernel
theorem dX12_init_55 : decode cX12_init 55 = .ok (.newarray .int, 2) := by decide +kernel
theorem dX12_init_57 : decode cX12_init 57 = .ok (.putfield 28, 3) := by decide +kernel
theorem dX12_init_60 : decode cX12_init 60 = .ok (.aload_n 0, 1) := by decide +kernel
theorem dX12_init_61 : decode cX12_init 61 = .ok (.sipush 289, 3) := by decide +kernel
theorem dX12_init_64 : decode cX12_init 64 = .ok (.newarray .int, 2) := by decide +kernel
theorem dX12_init_66 : decode cX12_init 66 = .ok (.putfield 31, 3) := by decide +kernel
theorem dX12_init_69 : decode cX12_init 69 = .ok (.aload_n 0, 1) := by decide +kernel
theorem dX12_init_70 : decode cX12_init 70 = .ok (.bipush 32, 2) := by decide +kernel
theorem dX12_init_72 : decode cX12_init 72 = .ok (.newarray .int, 2) := by decide +kernel
theorem dX12_init_74 : decode cX12_init 74 = .ok (.putfield 34, 3) := by decide +kernel
theorem dX12_init_77 : decode cX12_init 77 = .ok (.aload_n 0, 1) := by decide +kernel
theorem dX12_init_78 : decode cX12_init 78 = .ok (.bipush 17, 2) := by decide +kernel
theorem dX12_init_80 : decode cX12_init 80 = .ok (.newarray .int, 2) := by decide +kernel
theorem dX12_init_82 : decode cX12_init 82 = .ok (.putfield 37, 3) := by decide +kernel
theorem dX12_init_85 : decode cX12_init 85 = .ok (.aload_n 0, 1) := by decide +kernel
theorem dX12_init_86 : decode cX12_init 86 = .ok (.bipush 17, 2) := by decide +kernel
theorem dX12_init_88 : decode cX12_init 88 = .ok (.newarray .int, 2) := by decide +kernel
theorem dX12_init_90 : decode cX12_init 90 = .ok (.putfield 40, 3) := by decide +kernel
theorem dX12_init_93 : decode cX12_init 93 = .ok (.aload_n 0, 1) := by decide +kernel
theorem dX12_init_94 : decode cX12_init 94 = .ok (.bipush 17, 2) := by decide +kernel
theorem dX12_init_96 : decode cX12_init 96 = .ok (.newarray .int, 2) := by decide +kernel
theorem dX12_init_98 : decode cX12_init 98 = .ok (.putfield 43, 3) := by decide +kernel
theorem dX12_init_101 : decode cX12_init 101 = .ok (.aload_n 0, 1) := by decide +kernel
theorem dX12_init_102 : decode cX12_init 102 = .ok (.bipush 17, 2) := by decide +kernel
theorem dX12_init_104 : decode cX12_init 104 = .ok (.newarray .int, 2) := by decide +kernel
theorem dX12_init_106 : decode cX12_init 106 = .ok (.putfield 46, 3) := by decide +kernel
theorem dX12_init_109 : decode cX12_init 109 = .ok (.aload_n 0, 1) := by decide +kernel
theorem dX12_init_110 : decode cX12_init 110 = .ok (.sipush 160, 3) := by decide +kernel
theorem dX12_init_113 : decode cX12_init 113 = .ok (.newarray .int, 2) := by decide +kernel
theorem dX12_init_115 : decode cX12_init 115 = .ok (.putfield 49, 3) := by decide +kernel
theorem dX12_init_118 : decode cX12_init 118 = .ok (.aload_n 0, 1) := by decide +kernel
theorem dX12_init_119 : decode cX12_init 119 = .ok (.sipush 160, 3) := by decide +kernel
theorem dX12_init_122 : decode cX12_init 122 = .ok (.newarray .int, 2) := by decide +kernel
theorem dX12_init_124 : decode cX12_init 124 = .ok (.putfield 52, 3) := by decide +kernel
theorem dX12_init_127 : decode cX12_init 127 = .ok (.aload_n 0, 1) := by decide +kernel
theorem dX12_init_128 : decode cX12_init 128 = .ok (.bipush 102, 2) := by decide +kernel
theorem dX12_init_130 : decode cX12_init 130 = .ok (.newarray .int, 2) := by decide +kernel
theorem dX12_init_132 : decode cX12_init 132 = .ok (.putfield 55, 3) := by decide +kernel
theorem dX12_init_135 : decode cX12_init 135 = .ok (.aload_n 0, 1) := by decide +kernel
theorem dX12_init_136 : decode cX12_init 136 = .ok (.bipush 102, 2) := by decide +kernel
theorem dX12_init_138 : decode cX12_init 138 = .ok (.newarray .int, 2) := by decide +kernel
theorem dX12_init_140 : decode cX12_init 140 = .ok (.putfield 58, 3) := by decide +kernel
theorem dX12_init_143 : decode cX12_init 143 = .ok (.aload_n 0, 1) := by decide +kernel
theorem dX12_init_144 : decode cX12_init 144 = .ok (.bipush 96, 2) := by decide +kernel
theorem dX12_init_146 : decode cX12_init 146 = .ok (.newarray .int, 2) := by decide +kernel
theorem dX12_init_148 : decode cX12_init 148 = .ok (.putfield 61, 3) := by decide +kernel
theorem dX12_init_151 : decode cX12_init 151 = .ok (.aload_n 0, 1) := by decide +kernel
theorem dX12_init_152 : decode cX12_init 152 = .ok (.iconst 2, 1) := by decide +kernel
theorem dX12_init_153 : decode cX12_init 153 = .ok (.newarray .int, 2) := by decide +kernel
theorem dX12_init_155 : decode cX12_init 155 = .ok (.putfield 64, 3) := by decide +kernel
theorem dX12_init_158 : decode cX12_init 158 = .ok (.aload_n 0, 1) := by decide +kernel
theorem dX12_init_159 : decode cX12_init 159 = .ok (.sipush 408, 3) := by decide +kernel
theorem dX12_init_162 : decode cX12_init 162 = .ok (.newarray .int, 2) := by decide +kernel
theorem dX12_init_164 : decode cX12_init 164 = .ok (.putfield 67, 3) := by decide +kernel
theorem dX12_init_167 : decode cX12_init 167 = .ok (.aload_n 0, 1) := by decide +kernel
theorem dX12_init_168 : decode cX12_init 168 = .ok (.bipush 8, 2) := by decide +kernel
theorem dX12_init_170 : decode cX12_init 170 = .ok (.newarray .int, 2) := by decide +kernel
theorem dX12_init_172 : decode cX12_init 172 = .ok (.putfield 70, 3) := by decide +kernel
theorem dX12_init_175 : decode cX12_init 175 = .ok (.aload_n 0, 1) := by decide +kernel
theorem dX12_init_176 : decode cX12_init 176 = .ok (.bipush 48, 2) := by decide +kernel
theorem dX12_init_178 : decode cX12_init 178 = .ok (.newarray .int, 2) := by decide +kernel
theorem dX12_init_180 : decode cX12_init 180 = .ok (.putfield 73, 3) := by decide +kernel
theorem dX12_init_183 : decode cX12_init 183 = .ok (.aload_n 0, 1) := by decide +kernel
theorem dX12_init_184 : decode cX12_init 184 = .ok (.bipush 8, 2) := by decide +kernel
theorem dX12_init_186 : decode cX12_init 186 = .ok (.newarray .int, 2) := by decide +kernel
theorem dX12_init_188 : decode cX12_init 188 = .ok (.putfield 76, 3) := by decide +kernel
theorem dX12_init_191 : decode cX12_init 191 = .ok (.aload_n 0, 1) := by decide +kernel
theorem dX12_init_192 : decode cX12_init 192 = .ok (.sipush 408, 3) := by decide +kernel
theorem dX12_init_195 : decode cX12_init 195 = .ok (.newarray .int, 2) := by decide +kernel
theorem dX12_init_197 : decode cX12_init 197 = .ok (.putfield 79, 3) := by decide +kernel
theorem dX12_init_200 : decode cX12_init 200 = .ok (.aload_n 0, 1) := by decide +kernel
theorem dX12_init_201 : decode cX12_init 201 = .ok (.bipush 8, 2) := by decide +kernel
theorem dX12_init_203 : decode cX12_init 203 = .ok (.newarray .int, 2) := by decide +kernel
theorem dX12_init_205 : decode cX12_init 205 = .ok (.putfield 82, 3) := by decide +kernel
theorem dX12_init_208 : decode cX12_init 208 = .ok (.aload_n 0, 1) := by decide +kernel
theorem dX12_init_209 : decode cX12_init 209 = .ok (.bipush 48, 2) := by decide +kernel
theorem dX12_init_211 : decode cX12_init 211 = .ok (.newarray .int, 2) := by decide +kernel
theorem dX12_init_213 : decode cX12_init 213 = .ok (.putfield 85, 3) := by decide +kernel
theorem dX12_init_216 : decode cX12_init 216 = .ok (.aload_n 0, 1) := by decide +kernel
theorem dX12_init_217 : decode cX12_init 217 = .ok (.bipush 8, 2) := by decide +kernel
theorem dX12_init_219 : decode cX12_init 219 = .ok (.newarray .int, 2) := by decide +kernel
theorem dX12_init_221 : decode cX12_init 221 = .ok (.putfield 88, 3) := by decide +kernel
theorem dX12_init_224 : decode cX12_init 224 = .ok (.aload_n 0, 1) := by decide +kernel
theorem dX12_init_225 : decode cX12_init 225 = .ok (.bipush 24, 2) := by decide +kernel
theorem dX12_init_227 : decode cX12_init 227 = .ok (.newarray .int, 2) := by decide +kernel
theorem dX12_init_229 : decode cX12_init 229 = .ok (.putfield 91, 3) := by decide +kernel
theorem dX12_init_232 : decode cX12_init 232 = .ok (.aload_n 0, 1) := by decide +kernel
theorem dX12_init_233 : decode cX12_init 233 = .ok (.iconst 4, 1) := by decide +kernel
theorem dX12_init_234 : decode cX12_init 234 = .ok (.newarray .int, 2) := by decide +kernel
theorem dX12_init_236 : decode cX12_init 236 = .ok (.putfield 94, 3) := by decide +kernel
theorem dX12_init_239 : decode cX12_init 239 = .ok (.aload_n 0, 1) := by decide +kernel
theorem dX12_init_240 : decode cX12_init 240 = .ok (.iconst 4, 1) := by decide +kernel
theorem dX12_init_241 : decode cX12_init 241 = .ok (.newarray .int, 2) := by decide +kernel
theorem dX12_init_243 : decode cX12_init 243 = .ok (.putfield 97, 3) := by decide +kernel
theorem dX12_init_246 : decode cX12_init 246 = .ok (.aload_n 0, 1) := by decide +kernel
theorem dX12_init_247 : decode cX12_init 247 = .ok (.iconst 5, 1) := by decide +kernel
theorem dX12_init_248 : decode cX12_init 248 = .ok (.newarray .int, 2) := by decide +kernel
theorem dX12_init_250 : decode cX12_init 250 = .ok (.dup, 1) := by decide +kernel
theorem dX12_init_251 : decode cX12_init 251 = .ok (.iconst 0, 1) := by decide +kernel
theorem dX12_init_252 : decode cX12_init 252 = .ok (.bipush (-9), 2) := by decide +kernel
theorem dX12_init_254 : decode cX12_init 254 = .ok (.iastore, 1) := by decide +kernel
theorem dX12_init_255 : decode cX12_init 255 = .ok (.dup, 1) := by decide +kernel
theorem dX12_init_256 : decode cX12_init 256 = .ok (.iconst 1, 1) := by decide +kernel
theorem dX12_init_257 : decode cX12_init 257 = .ok (.bipush (-9), 2) := by decide +kernel
theorem dX12_init_259 : decode cX12_init 259 = .ok (.iastore, 1) := by decide +kernel
theorem dX12_init_260 : decode cX12_init 260 = .ok (.dup, 1) := by decide +kernel
theorem dX12_init_261 : decode cX12_init 261 = .ok (.iconst 2, 1) := by decide +kernel
theorem dX12_init_262 : decode cX12_init 262 = .ok (.bipush (-9), 2) := by decide +kernel
theorem dX12_init_264 : decode cX12_init 264 = .ok (.iastore, 1) := by decide +kernel
theorem dX12_init_265 : decode cX12_init 265 = .ok (.dup, 1) := by decide +kernel
theorem dX12_init_266 : decode cX12_init 266 = .ok (.iconst 3, 1) := by decide +kernel
theorem dX12_init_267 : decode cX12_init 267 = .ok (.bipush (-9), 2) := by decide +kernel
theorem dX12_init_269 : decode cX12_init 269 = .ok (.iastore, 1) := by decide +kernel
theorem dX12_init_270 : decode cX12_init 270 = .ok (.dup, 1) := by decide +kernel
theorem dX12_init_271 : decode cX12_init 271 = .ok (.iconst 4, 1) := by decide +kernel
theorem dX12_init_272 : decode cX12_init 272 = .ok (.bipush (-9), 2) := by decide +kernel
theorem dX12_init_274 : decode cX12_init 274 = .ok (.iastore, 1) := by decide +kernel
theorem dX12_init_275 : decode cX12_init 275 = .ok (.putfield 100, 3) := by decide +kernel
theorem dX12_init_278 : decode cX12_init 278 = .ok (.aload_n 0, 1) := by decide +kernel
theorem dX12_init_279 : decode cX12_init 279 = .ok (.iconst 5, 1) := by decide +kernel
theorem dX12_init_280 : decode cX12_init 280 = .ok (.newarray .int, 2) := by decide +kernel
theorem dX12_init_282 : decode cX12_init 282 = .ok (.putfield 103, 3) := by decide +kernel
theorem dX12_init_285 : decode cX12_init 285 = .ok (.aload_n 0, 1) := by decide +kernel
theorem dX12_init_286 : decode cX12_init 286 = .ok (.bipush 120, 2) := by decide +kernel
theorem dX12_init_288 : decode cX12_init 288 = .ok (.newarray .int, 2) := by decide +kernel
theorem dX12_init_290 : decode cX12_init 290 = .ok (.putfield 106, 3) := by decide +kernel
theorem dX12_init_293 : decode cX12_init 293 = .ok (.aload_n 0, 1) := by decide +kernel
theorem dX12_init_294 : decode cX12_init 294 = .ok (.iconst 5, 1) := by decide +kernel
theorem dX12_init_295 : decode cX12_init 295 = .ok (.newarray .int, 2) := by decide +kernel
theorem dX12_init_297 : decode cX12_init 297 = .ok (.putfield 109, 3) := by decide +kernel
theorem dX12_init_300 : decode cX12_init 300 = .ok (.aload_n 0, 1) := by decide +kernel
theorem dX12_init_301 : decode cX12_init 301 = .ok (.iconst 5, 1) := by decide +kernel
theorem dX12_init_302 : decode cX12_init 302 = .ok (.newarray .int, 2) := by decide +kernel
theorem dX12_init_304 : decode cX12_init 304 = .ok (.putfield 112, 3) := by decide +kernel
theorem dX12_init_307 : decode cX12_init 307 = .ok (.aload_n 0, 1) := by decide +kernel
theorem dX12_init_308 : decode cX12_init 308 = .ok (.iconst 5, 1) := by decide +kernel
theorem dX12_init_309 : decode cX12_init 309 = .ok (.newarray .int, 2) := by decide +kernel
theorem dX12_init_311 : decode cX12_init 311 = .ok (.putfield 115, 3) := by decide +kernel
theorem dX12_init_314 : decode cX12_init 314 = .ok (.aload_n 0, 1) := by decide +kernel
theorem dX12_init_315 : decode cX12_init 315 = .ok (.iconst 0, 1) := by decide +kernel
theorem dX12_init_316 : decode cX12_init 316 = .ok (.bipush (-9), 2) := by decide +kernel
theorem dX12_init_318 : decode cX12_init 318 = .ok (.bipush (-9), 2) := by decide +kernel
theorem dX12_init_320 : decode cX12_init 320 = .ok (.invokevirtual 118, 3) := by decide +kernel
theorem dX12_init_323 : decode cX12_init 323 = .ok (.pop, 1) := by decide +kernel
theorem dX12_init_324 : decode cX12_init 324 = .ok (.return_, 1) := by decide +kernel
theorem dX12_refused_0 : decode cX12_refused 0 = .ok (.aload_n 0, 1) := by decide +kernel
theorem dX12_refused_1 : decode cX12_refused 1 = .ok (.iconst 0, 1) := by decide +kernel
theorem dX12_refused_2 : decode cX12_refused 2 = .ok (.putfield 122, 3) := by decide +kernel
theorem dX12_refused_5 : decode cX12_refused 5 = .ok (.iload_n 1, 1) := by decide +kernel
theorem dX12_refused_6 : decode cX12_refused 6 = .ok (.ireturn, 1) := by decide +kernel
theorem dX12_fails_0 : decode cX12_fails 0 = .ok (.aload_n 0, 1) := by decide +kernel
theorem dX12_fails_1 : decode cX12_fails 1 = .ok (.iload_n 1, 1) := by decide +kernel
theorem dX12_fails_2 : decode cX12_fails 2 = .ok (.putfield 122, 3) := by decide +kernel
theorem dX12_fails_5 : decode cX12_fails 5 = .ok (.bipush (-10), 2) := by decide +kernel
theorem dX12_fails_7 : decode cX12_fails 7 = .ok (.iload_n 1, 1) := by decide +kernel
theorem dX12_fails_8 : decode cX12_fails 8 = .ok (.isub, 1) := by decide +kernel
theorem dX12_fails_9 : decode cX12_fails 9 = .ok (.ireturn, 1) := by decide +kernel
theorem dX12_within_0 : decode cX12_within 0 = .ok (.iload_n 0, 1) := by decide +kernel
theorem dX12_within_1 : decode cX12_within 1 = .ok (.iload_n 1, 1) := by decide +kernel
theorem dX12_within_2 : decode cX12_within 2 = .ok (.if_icmp .lt 12, 3) := by decide +kernel
theorem dX12_within_5 : decode cX12_within 5 = .ok (.iload_n 0, 1) := by decide +kernel
theorem dX12_within_6 : decode cX12_within 6 = .ok (.iload_n 2, 1) := by decide +kernel
theorem dX12_within_7 : decode cX12_within 7 = .ok (.if_icmp .gt 7, 3) := by decide +kernel
theorem dX12_within_10 : decode cX12_within 10 = .ok (.iconst 1, 1) := by decide +kernel
theorem dX12_within_11 : decode cX12_within 11 = .ok (.goto 4, 3) := by decide +kernel
theorem dX12_within_14 : decode cX12_within 14 = .ok (.iconst 0, 1) := by decide +kernel
theorem dX12_within_15 : decode cX12_within 15 = .ok (.ireturn, 1) := by decide +kernel
theorem dX12_leaves_0 : decode cX12_leaves 0 = .ok (.aload_n 0, 1) := by decide +kernel
theorem dX12_leaves_1 : decode cX12_leaves 1 = .ok (.bipush 31, 2) := by decide +kernel
theorem dX12_leaves_3 : decode cX12_leaves 3 = .ok (.aload_n 0, 1) := by decide +kernel
theorem dX12_leaves_4 : decode cX12_leaves 4 = .ok (.getfield 126, 3) := by decide +kernel
theorem dX12_leaves_7 : decode cX12_leaves 7 = .ok (.imul, 1) := by decide +kernel
theorem dX12_leaves_8 : decode cX12_leaves 8 = .ok (.iload_n 1, 1) := by decide +kernel
theorem dX12_leaves_9 : decode cX12_leaves 9 = .ok (.iadd, 1) := by decide +kernel
theorem dX12_leaves_10 : decode cX12_leaves 10 = .ok (.putfield 126, 3) := by decide +kernel
theorem dX12_leaves_13 : decode cX12_leaves 13 = .ok (.return_, 1) := by decide +kernel
theorem dX12_made_0 : decode cX12_made 0 = .ok (.aload_n 0, 1) := by decide +kernel
theorem dX12_made_1 : decode cX12_made 1 = .ok (.getfield 129, 3) := by decide +kernel
theorem dX12_made_4 : decode cX12_made 4 = .ok (.istore 4, 2) := by decide +kernel
theorem dX12_made_6 : decode cX12_made 6 = .ok (.aload_n 0, 1) := by decide +kernel
theorem dX12_made_7 : decode cX12_made 7 = .ok (.dup, 1) := by decide +kernel
theorem dX12_made_8 : decode cX12_made 8 = .ok (.getfield 129, 3) := by decide +kernel
theorem dX12_made_11 : decode cX12_made 11 = .ok (.iconst 1, 1) := by decide +kernel
theorem dX12_made_12 : decode cX12_made 12 = .ok (.iadd, 1) := by decide +kernel
theorem dX12_made_13 : decode cX12_made 13 = .ok (.putfield 129, 3) := by decide +kernel
theorem dX12_made_16 : decode cX12_made 16 = .ok (.aload_n 0, 1) := by decide +kernel
theorem dX12_made_17 : decode cX12_made 17 = .ok (.getfield 7, 3) := by decide +kernel
theorem dX12_made_20 : decode cX12_made 20 = .ok (.iload 4, 2) := by decide +kernel
theorem dX12_made_22 : decode cX12_made 22 = .ok (.iload_n 1, 1) := by decide +kernel
theorem dX12_made_23 : decode cX12_made 23 = .ok (.iastore, 1) := by decide +kernel
theorem dX12_made_24 : decode cX12_made 24 = .ok (.aload_n 0, 1) := by decide +kernel
theorem dX12_made_25 : decode cX12_made 25 = .ok (.getfield 13, 3) := by decide +kernel
theorem dX12_made_28 : decode cX12_made 28 = .ok (.iload 4, 2) := by decide +kernel
theorem dX12_made_30 : decode cX12_made 30 = .ok (.iload_n 2, 1) := by decide +kernel
theorem dX12_made_31 : decode cX12_made 31 = .ok (.iastore, 1) := by decide +kernel
theorem dX12_made_32 : decode cX12_made 32 = .ok (.aload_n 0, 1) := by decide +kernel
theorem dX12_made_33 : decode cX12_made 33 = .ok (.getfield 16, 3) := by decide +kernel
theorem dX12_made_36 : decode cX12_made 36 = .ok (.iload 4, 2) := by decide +kernel
theorem dX12_made_38 : decode cX12_made 38 = .ok (.iload_n 3, 1) := by decide +kernel
theorem dX12_made_39 : decode cX12_made 39 = .ok (.iastore, 1) := by decide +kernel
theorem dX12_made_40 : decode cX12_made 40 = .ok (.aload_n 0, 1) := by decide +kernel
theorem dX12_made_41 : decode cX12_made 41 = .ok (.dup, 1) := by decide +kernel
theorem dX12_made_42 : decode cX12_made 42 = .ok (.getfield 132, 3) := by decide +kernel
theorem dX12_made_45 : decode cX12_made 45 = .ok (.iconst 1, 1) := by decide +kernel
theorem dX12_made_46 : decode cX12_made 46 = .ok (.iadd, 1) := by decide +kernel
theorem dX12_made_47 : decode cX12_made 47 = .ok (.putfield 132, 3) := by decide +kernel
theorem dX12_made_50 : decode cX12_made 50 = .ok (.aload_n 0, 1) := by decide +kernel
theorem dX12_made_51 : decode cX12_made 51 = .ok (.getfield 19, 3) := by decide +kernel
theorem dX12_made_54 : decode cX12_made 54 = .ok (.iload 4, 2) := by decide +kernel
theorem dX12_made_56 : decode cX12_made 56 = .ok (.aload_n 0, 1) := by decide +kernel
theorem dX12_made_57 : decode cX12_made 57 = .ok (.getfield 132, 3) := by decide +kernel
theorem dX12_made_60 : decode cX12_made 60 = .ok (.iastore, 1) := by decide +kernel
theorem dX12_made_61 : decode cX12_made 61 = .ok (.aload_n 0, 1) := by decide +kernel
theorem dX12_made_62 : decode cX12_made 62 = .ok (.getfield 25, 3) := by decide +kernel
theorem dX12_made_65 : decode cX12_made 65 = .ok (.iload 4, 2) := by decide +kernel
theorem dX12_made_67 : decode cX12_made 67 = .ok (.iconst 0, 1) := by decide +kernel
theorem dX12_made_68 : decode cX12_made 68 = .ok (.iastore, 1) := by decide +kernel
theorem dX12_made_69 : decode cX12_made 69 = .ok (.aload_n 0, 1) := by decide +kernel
theorem dX12_made_70 : decode cX12_made 70 = .ok (.iconst 1, 1) := by decide +kernel
theorem dX12_made_71 : decode cX12_made 71 = .ok (.invokevirtual 135, 3) := by decide +kernel
theorem dX12_made_74 : decode cX12_made 74 = .ok (.aload_n 0, 1) := by decide +kernel
theorem dX12_made_75 : decode cX12_made 75 = .ok (.iconst 2, 1) := by decide +kernel
theorem dX12_made_76 : decode cX12_made 76 = .ok (.invokevirtual 135, 3) := by decide +kernel
theorem dX12_made_79 : decode cX12_made 79 = .ok (.iload_n 3, 1) := by decide +kernel
theorem dX12_made_80 : decode cX12_made 80 = .ok (.bipush (-9), 2) := by decide +kernel
theorem dX12_made_82 : decode cX12_made 82 = .ok (.if_icmp .ne 9, 3) := by decide +kernel
theorem dX12_made_85 : decode cX12_made 85 = .ok (.aload_n 0, 1) := by decide +kernel
theorem dX12_made_86 : decode cX12_made 86 = .ok (.bipush 7, 2) := by decide +kernel
theorem dX12_made_88 : decode cX12_made 88 = .ok (.invokevirtual 135, 3) := by decide +kernel
theorem dX12_made_91 : decode cX12_made 91 = .ok (.iload_n 1, 1) := by decide +kernel
theorem dX12_made_92 : decode cX12_made 92 = .ok (.iconst 1, 1) := by decide +kernel
theorem dX12_made_93 : decode cX12_made 93 = .ok (.if_icmp .lt 13, 3) := by decide +kernel
theorem dX12_made_96 : decode cX12_made 96 = .ok (.aload_n 0, 1) := by decide +kernel
theorem dX12_made_97 : decode cX12_made 97 = .ok (.iconst 3, 1) := by decide +kernel
theorem dX12_made_98 : decode cX12_made 98 = .ok (.invokevirtual 135, 3) := by decide +kernel
theorem dX12_made_101 : decode cX12_made 101 = .ok (.aload_n 0, 1) := by decide +kernel
theorem dX12_made_102 : decode cX12_made 102 = .ok (.iconst 4, 1) := by decide +kernel
theorem dX12_made_103 : decode cX12_made 103 = .ok (.invokevirtual 135, 3) := by decide +kernel
theorem dX12_made_106 : decode cX12_made 106 = .ok (.iload_n 1, 1) := by decide +kernel
theorem dX12_made_107 : decode cX12_made 107 = .ok (.iconst 2, 1) := by decide +kernel
theorem dX12_made_108 : decode cX12_made 108 = .ok (.if_icmp .ne 14, 3) := by decide +kernel
theorem dX12_made_111 : decode cX12_made 111 = .ok (.aload_n 0, 1) := by decide +kernel
theorem dX12_made_112 : decode cX12_made 112 = .ok (.iconst 5, 1) := by decide +kernel
theorem dX12_made_113 : decode cX12_made 113 = .ok (.invokevirtual 135, 3) := by decide +kernel
theorem dX12_made_116 : decode cX12_made 116 = .ok (.aload_n 0, 1) := by decide +kernel
theorem dX12_made_117 : decode cX12_made 117 = .ok (.bipush 6, 2) := by decide +kernel
theorem dX12_made_119 : decode cX12_made 119 = .ok (.invokevirtual 135, 3) := by decide +kernel
theorem dX12_made_122 : decode cX12_made 122 = .ok (.iload 4, 2) := by decide +kernel
theorem dX12_made_124 : decode cX12_made 124 = .ok (.ireturn, 1) := by decide +kernel
theorem dX12_isCommit_0 : decode cX12_isCommit 0 = .ok (.iload_n 1, 1) := by decide +kernel
theorem dX12_isCommit_1 : decode cX12_isCommit 1 = .ok (.iconst 0, 1) := by decide +kernel
theorem dX12_isCommit_2 : decode cX12_isCommit 2 = .ok (.aload_n 0, 1) := by decide +kernel
theorem dX12_isCommit_3 : decode cX12_isCommit 3 = .ok (.getfield 129, 3) := by decide +kernel
theorem dX12_isCommit_6 : decode cX12_isCommit 6 = .ok (.iconst 1, 1) := by decide +kernel
theorem dX12_isCommit_7 : decode cX12_isCommit 7 = .ok (.isub, 1) := by decide +kernel
theorem dX12_isCommit_8 : decode cX12_isCommit 8 = .ok (.invokestatic 139, 3) := by decide +kernel
theorem dX12_isCommit_11 : decode cX12_isCommit 11 = .ok (.ireturn, 1) := by decide +kernel
theorem dX12_isBranch_0 : decode cX12_isBranch 0 = .ok (.iload_n 0, 1) := by decide +kernel
theorem dX12_isBranch_1 : decode cX12_isBranch 1 = .ok (.iconst 0, 1) := by decide +kernel
theorem dX12_isBranch_2 : decode cX12_isBranch 2 = .ok (.iconst 3, 1) := by decide +kernel
theorem dX12_isBranch_3 : decode cX12_isBranch 3 = .ok (.invokestatic 139, 3) := by decide +kernel
theorem dX12_isBranch_6 : decode cX12_isBranch 6 = .ok (.ireturn, 1) := by decide +kernel
theorem dX12_isOn_0 : decode cX12_isOn 0 = .ok (.iload_n 2, 1) := by decide +kernel
theorem dX12_isOn_1 : decode cX12_isOn 1 = .ok (.istore_n 3, 1) := by decide +kernel
theorem dX12_isOn_2 : decode cX12_isOn 2 = .ok (.iload_n 3, 1) := by decide +kernel
theorem dX12_isOn_3 : decode cX12_isOn 3 = .ok (.iload_n 1, 1) := by decide +kernel
theorem dX12_isOn_4 : decode cX12_isOn 4 = .ok (.if_icmp .le 13, 3) := by decide +kernel
theorem dX12_isOn_7 : decode cX12_isOn 7 = .ok (.aload_n 0, 1) := by decide +kernel
theorem dX12_isOn_8 : decode cX12_isOn 8 = .ok (.getfield 13, 3) := by decide +kernel
theorem dX12_isOn_11 : decode cX12_isOn 11 = .ok (.iload_n 3, 1) := by decide +kernel
theorem dX12_isOn_12 : decode cX12_isOn 12 = .ok (.iaload, 1) := by decide +kernel
theorem dX12_isOn_13 : decode cX12_isOn 13 = .ok (.istore_n 3, 1) := by decide +kernel
theorem dX12_isOn_14 : decode cX12_isOn 14 = .ok (.goto (-12), 3) := by decide +kernel
theorem dX12_isOn_17 : decode cX12_isOn 17 = .ok (.iload_n 3, 1) := by decide +kernel
theorem dX12_isOn_18 : decode cX12_isOn 18 = .ok (.iload_n 1, 1) := by decide +kernel
theorem dX12_isOn_19 : decode cX12_isOn 19 = .ok (.if_icmp .ne 7, 3) := by decide +kernel
theorem dX12_isOn_22 : decode cX12_isOn 22 = .ok (.iconst 1, 1) := by decide +kernel
theorem dX12_isOn_23 : decode cX12_isOn 23 = .ok (.goto 4, 3) := by decide +kernel
theorem dX12_isOn_26 : decode cX12_isOn 26 = .ok (.iconst 0, 1) := by decide +kernel
theorem dX12_isOn_27 : decode cX12_isOn 27 = .ok (.ireturn, 1) := by decide +kernel
theorem dX12_far_0 : decode cX12_far 0 = .ok (.iconst 1, 1) := by decide +kernel
theorem dX12_far_1 : decode cX12_far 1 = .ok (.istore_n 2, 1) := by decide +kernel
theorem dX12_far_2 : decode cX12_far 2 = .ok (.iload_n 1, 1) := by decide +kernel
theorem dX12_far_3 : decode cX12_far 3 = .ok (.istore_n 3, 1) := by decide +kernel
theorem dX12_far_4 : decode cX12_far 4 = .ok (.iload_n 3, 1) := by decide +kernel
theorem dX12_far_5 : decode cX12_far 5 = .ok (.ifCond .le 16, 3) := by decide +kernel
theorem dX12_far_8 : decode cX12_far 8 = .ok (.aload_n 0, 1) := by decide +kernel
theorem dX12_far_9 : decode cX12_far 9 = .ok (.getfield 13, 3) := by decide +kernel
theorem dX12_far_12 : decode cX12_far 12 = .ok (.iload_n 3, 1) := by decide +kernel
theorem dX12_far_13 : decode cX12_far 13 = .ok (.iaload, 1) := by decide +kernel
theorem dX12_far_14 : decode cX12_far 14 = .ok (.istore_n 3, 1) := by decide +kernel
theorem dX12_far_15 : decode cX12_far 15 = .ok (.iinc 2 1, 3) := by decide +kernel
theorem dX12_far_18 : decode cX12_far 18 = .ok (.goto (-14), 3) := by decide +kernel
theorem dX12_far_21 : decode cX12_far 21 = .ok (.iload_n 2, 1) := by decide +kernel
theorem dX12_far_22 : decode cX12_far 22 = .ok (.ireturn, 1) := by decide +kernel
theorem dX12_isSame_0 : decode cX12_isSame 0 = .ok (.aload_n 0, 1) := by decide +kernel
theorem dX12_isSame_1 : decode cX12_isSame 1 = .ok (.getfield 22, 3) := by decide +kernel
theorem dX12_isSame_4 : decode cX12_isSame 4 = .ok (.bipush 16, 2) := by decide +kernel
theorem dX12_isSame_6 : decode cX12_isSame 6 = .ok (.iload_n 1, 1) := by decide +kernel
theorem dX12_isSame_7 : decode cX12_isSame 7 = .ok (.imul, 1) := by decide +kernel
theorem dX12_isSame_8 : decode cX12_isSame 8 = .ok (.iload_n 2, 1) := by decide +kernel
theorem dX12_isSame_9 : decode cX12_isSame 9 = .ok (.iadd, 1) := by decide +kernel
theorem dX12_isSame_10 : decode cX12_isSame 10 = .ok (.iaload, 1) := by decide +kernel
theorem dX12_isSame_11 : decode cX12_isSame 11 = .ok (.aload_n 0, 1) := by decide +kernel
theorem dX12_isSame_12 : decode cX12_isSame 12 = .ok (.getfield 22, 3) := by decide +kernel
theorem dX12_isSame_15 : decode cX12_isSame 15 = .ok (.bipush 16, 2) := by decide +kernel
theorem dX12_isSame_17 : decode cX12_isSame 17 = .ok (.iload_n 3, 1) := by decide +kernel
theorem dX12_isSame_18 : decode cX12_isSame 18 = .ok (.imul, 1) := by decide +kernel
theorem dX12_isSame_19 : decode cX12_isSame 19 = .ok (.iload 4, 2) := by decide +kernel
theorem dX12_isSame_21 : decode cX12_isSame 21 = .ok (.iadd, 1) := by decide +kernel
theorem dX12_isSame_22 : decode cX12_isSame 22 = .ok (.iaload, 1) := by decide +kernel
theorem dX12_isSame_23 : decode cX12_isSame 23 = .ok (.if_icmp .ne 7, 3) := by decide +kernel
theorem dX12_isSame_26 : decode cX12_isSame 26 = .ok (.iconst 1, 1) := by decide +kernel
theorem dX12_isSame_27 : decode cX12_isSame 27 = .ok (.goto 4, 3) := by decide +kernel
theorem dX12_isSame_30 : decode cX12_isSame 30 = .ok (.iconst 0, 1) := by decide +kernel
theorem dX12_isSame_31 : decode cX12_isSame 31 = .ok (.ireturn, 1) := by decide +kernel
theorem dX12_counts_0 : decode cX12_counts 0 = .ok (.aload_n 0, 1) := by decide +kernel
theorem dX12_counts_1 : decode cX12_counts 1 = .ok (.getfield 25, 3) := by decide +kernel
theorem dX12_counts_4 : decode cX12_counts 4 = .ok (.iload_n 1, 1) := by decide +kernel
theorem dX12_counts_5 : decode cX12_counts 5 = .ok (.iaload, 1) := by decide +kernel
theorem dX12_counts_6 : decode cX12_counts 6 = .ok (.istore_n 3, 1) := by decide +kernel
theorem dX12_counts_7 : decode cX12_counts 7 = .ok (.iload_n 3, 1) := by decide +kernel
theorem dX12_counts_8 : decode cX12_counts 8 = .ok (.ifCond .lt 166, 3) := by decide +kernel
theorem dX12_counts_11 : decode cX12_counts 11 = .ok (.aload_n 0, 1) := by decide +kernel
theorem dX12_counts_12 : decode cX12_counts 12 = .ok (.getfield 25, 3) := by decide +kernel
theorem dX12_counts_15 : decode cX12_counts 15 = .ok (.iload_n 2, 1) := by decide +kernel
theorem dX12_counts_16 : decode cX12_counts 16 = .ok (.iaload, 1) := by decide +kernel
theorem dX12_counts_17 : decode cX12_counts 17 = .ok (.istore 4, 2) := by decide +kernel
theorem dX12_counts_19 : decode cX12_counts 19 = .ok (.iload 4, 2) := by decide +kernel
theorem dX12_counts_21 : decode cX12_counts 21 = .ok (.ifCond .lt 147, 3) := by decide +kernel
theorem dX12_counts_24 : decode cX12_counts 24 = .ok (.iconst 0, 1) := by decide +kernel
theorem dX12_counts_25 : decode cX12_counts 25 = .ok (.istore 5, 2) := by decide +kernel
theorem dX12_counts_27 : decode cX12_counts 27 = .ok (.iload_n 3, 1) := by decide +kernel
theorem dX12_counts_28 : decode cX12_counts 28 = .ok (.aload_n 0, 1) := by decide +kernel
theorem dX12_counts_29 : decode cX12_counts 29 = .ok (.getfield 25, 3) := by decide +kernel
theorem dX12_counts_32 : decode cX12_counts 32 = .ok (.iload_n 1, 1) := by decide +kernel
theorem dX12_counts_33 : decode cX12_counts 33 = .ok (.iaload, 1) := by decide +kernel
theorem dX12_counts_34 : decode cX12_counts 34 = .ok (.if_icmp .ge 114, 3) := by decide +kernel
theorem dX12_counts_37 : decode cX12_counts 37 = .ok (.iload 4, 2) := by decide +kernel
theorem dX12_counts_39 : decode cX12_counts 39 = .ok (.aload_n 0, 1) := by decide +kernel
theorem dX12_counts_40 : decode cX12_counts 40 = .ok (.getfield 25, 3) := by decide +kernel
theorem dX12_counts_43 : decode cX12_counts 43 = .ok (.iload_n 2, 1) := by decide +kernel
theorem dX12_counts_44 : decode cX12_counts 44 = .ok (.iaload, 1) := by decide +kernel
theorem dX12_counts_45 : decode cX12_counts 45 = .ok (.if_icmp .ge 103, 3) := by decide +kernel
theorem dX12_counts_48 : decode cX12_counts 48 = .ok (.aload_n 0, 1) := by decide +kernel
theorem dX12_counts_49 : decode cX12_counts 49 = .ok (.getfield 31, 3) := by decide +kernel
theorem dX12_counts_52 : decode cX12_counts 52 = .ok (.bipush 17, 2) := by decide +kernel
theorem dX12_counts_54 : decode cX12_counts 54 = .ok (.iload_n 3, 1) := by decide +kernel
theorem dX12_counts_55 : decode cX12_counts 55 = .ok (.iconst 1, 1) := by decide +kernel
theorem dX12_counts_56 : decode cX12_counts 56 = .ok (.iadd, 1) := by decide +kernel
theorem dX12_counts_57 : decode cX12_counts 57 = .ok (.imul, 1) := by decide +kernel
theorem dX12_counts_58 : decode cX12_counts 58 = .ok (.iload 4, 2) := by decide +kernel
theorem dX12_counts_60 : decode cX12_counts 60 = .ok (.iadd, 1) := by decide +kernel
theorem dX12_counts_61 : decode cX12_counts 61 = .ok (.iaload, 1) := by decide +kernel
theorem dX12_counts_62 : decode cX12_counts 62 = .ok (.istore 6, 2) := by decide +kernel
theorem dX12_counts_64 : decode cX12_counts 64 = .ok (.aload_n 0, 1) := by decide +kernel
theorem dX12_counts_65 : decode cX12_counts 65 = .ok (.getfield 31, 3) := by decide +kernel
theorem dX12_counts_68 : decode cX12_counts 68 = .ok (.bipush 17, 2) := by decide +kernel
theorem dX12_counts_70 : decode cX12_counts 70 = .ok (.iload_n 3, 1) := by decide +kernel
theorem dX12_counts_71 : decode cX12_counts 71 = .ok (.imul, 1) := by decide +kernel
theorem dX12_counts_72 : decode cX12_counts 72 = .ok (.iload 4, 2) := by decide +kernel
theorem dX12_counts_74 : decode cX12_counts 74 = .ok (.iadd, 1) := by decide +kernel
theorem dX12_counts_75 : decode cX12_counts 75 = .ok (.iconst 1, 1) := by decide +kernel
theorem dX12_counts_76 : decode cX12_counts 76 = .ok (.iadd, 1) := by decide +kernel
theorem dX12_counts_77 : decode cX12_counts 77 = .ok (.iaload, 1) := by decide +kernel
theorem dX12_counts_78 : decode cX12_counts 78 = .ok (.istore 7, 2) := by decide +kernel
theorem dX12_counts_80 : decode cX12_counts 80 = .ok (.iload 6, 2) := by decide +kernel
theorem dX12_counts_82 : decode cX12_counts 82 = .ok (.iload 7, 2) := by decide +kernel
theorem dX12_counts_84 : decode cX12_counts 84 = .ok (.if_icmp .le 8, 3) := by decide +kernel
theorem dX12_counts_87 : decode cX12_counts 87 = .ok (.iload 6, 2) := by decide +kernel
theorem dX12_counts_89 : decode cX12_counts 89 = .ok (.goto 5, 3) := by decide +kernel
theorem dX12_counts_92 : decode cX12_counts 92 = .ok (.iload 7, 2) := by decide +kernel
theorem dX12_counts_94 : decode cX12_counts 94 = .ok (.istore 5, 2) := by decide +kernel
theorem dX12_counts_96 : decode cX12_counts 96 = .ok (.aload_n 0, 1) := by decide +kernel
theorem dX12_counts_97 : decode cX12_counts 97 = .ok (.iload_n 1, 1) := by decide +kernel
theorem dX12_counts_98 : decode cX12_counts 98 = .ok (.iload_n 3, 1) := by decide +kernel
theorem dX12_counts_99 : decode cX12_counts 99 = .ok (.iload_n 2, 1) := by decide +kernel
theorem dX12_counts_100 : decode cX12_counts 100 = .ok (.iload 4, 2) := by decide +kernel
theorem dX12_counts_102 : decode cX12_counts 102 = .ok (.invokevirtual 143, 3) := by decide +kernel
theorem dX12_counts_105 : decode cX12_counts 105 = .ok (.ifCond .eq 24, 3) := by decide +kernel
theorem dX12_counts_108 : decode cX12_counts 108 = .ok (.aload_n 0, 1) := by decide +kernel
theorem dX12_counts_109 : decode cX12_counts 109 = .ok (.getfield 31, 3) := by decide +kernel
theorem dX12_counts_112 : decode cX12_counts 112 = .ok (.bipush 17, 2) := by decide +kernel
theorem dX12_counts_114 : decode cX12_counts 114 = .ok (.iload_n 3, 1) := by decide +kernel
theorem dX12_counts_115 : decode cX12_counts 115 = .ok (.iconst 1, 1) := by decide +kernel
theorem dX12_counts_116 : decode cX12_counts 116 = .ok (.iadd, 1) := by decide +kernel
theorem dX12_counts_117 : decode cX12_counts 117 = .ok (.imul, 1) := by decide +kernel
theorem dX12_counts_118 : decode cX12_counts 118 = .ok (.iload 4, 2) := by decide +kernel
theorem dX12_counts_120 : decode cX12_counts 120 = .ok (.iadd, 1) := by decide +kernel
theorem dX12_counts_121 : decode cX12_counts 121 = .ok (.iconst 1, 1) := by decide +kernel
theorem dX12_counts_122 : decode cX12_counts 122 = .ok (.iadd, 1) := by decide +kernel
theorem dX12_counts_123 : decode cX12_counts 123 = .ok (.iaload, 1) := by decide +kernel
theorem dX12_counts_124 : decode cX12_counts 124 = .ok (.iconst 1, 1) := by decide +kernel
theorem dX12_counts_125 : decode cX12_counts 125 = .ok (.iadd, 1) := by decide +kernel
theorem dX12_counts_126 : decode cX12_counts 126 = .ok (.goto 4, 3) := by decide +kernel
theorem dX12_counts_129 : decode cX12_counts 129 = .ok (.iconst 0, 1) := by decide +kernel
theorem dX12_counts_130 : decode cX12_counts 130 = .ok (.istore 8, 2) := by decide +kernel
theorem dX12_counts_132 : decode cX12_counts 132 = .ok (.iload 8, 2) := by decide +kernel
theorem dX12_counts_134 : decode cX12_counts 134 = .ok (.iload 5, 2) := by decide +kernel
theorem dX12_counts_136 : decode cX12_counts 136 = .ok (.if_icmp .le 8, 3) := by decide +kernel
theorem dX12_counts_139 : decode cX12_counts 139 = .ok (.iload 8, 2) := by decide +kernel
theorem dX12_counts_141 : decode cX12_counts 141 = .ok (.goto 5, 3) := by decide +kernel
theorem dX12_counts_144 : decode cX12_counts 144 = .ok (.iload 5, 2) := by decide +kernel
theorem dX12_counts_146 : decode cX12_counts 146 = .ok (.istore 5, 2) := by decide +kernel
theorem dX12_counts_148 : decode cX12_counts 148 = .ok (.aload_n 0, 1) := by decide +kernel
theorem dX12_counts_149 : decode cX12_counts 149 = .ok (.getfield 31, 3) := by decide +kernel
theorem dX12_counts_152 : decode cX12_counts 152 = .ok (.bipush 17, 2) := by decide +kernel
theorem dX12_counts_154 : decode cX12_counts 154 = .ok (.iload_n 3, 1) := by decide +kernel
theorem dX12_counts_155 : decode cX12_counts 155 = .ok (.imul, 1) := by decide +kernel
theorem dX12_counts_156 : decode cX12_counts 156 = .ok (.iload 4, 2) := by decide +kernel
theorem dX12_counts_158 : decode cX12_counts 158 = .ok (.iadd, 1) := by decide +kernel
theorem dX12_counts_159 : decode cX12_counts 159 = .ok (.iload 5, 2) := by decide +kernel
theorem dX12_counts_161 : decode cX12_counts 161 = .ok (.iastore, 1) := by decide +kernel
theorem dX12_counts_162 : decode cX12_counts 162 = .ok (.iinc 4 (-1), 3) := by decide +kernel
theorem dX12_counts_165 : decode cX12_counts 165 = .ok (.goto (-146), 3) := by decide +kernel
theorem dX12_counts_168 : decode cX12_counts 168 = .ok (.iinc 3 (-1), 3) := by decide +kernel
theorem dX12_counts_171 : decode cX12_counts 171 = .ok (.goto (-164), 3) := by decide +kernel
theorem dX12_counts_174 : decode cX12_counts 174 = .ok (.return_, 1) := by decide +kernel
theorem dX12_pairs_0 : decode cX12_pairs 0 = .ok (.aload_n 0, 1) := by decide +kernel
theorem dX12_pairs_1 : decode cX12_pairs 1 = .ok (.iload_n 1, 1) := by decide +kernel
theorem dX12_pairs_2 : decode cX12_pairs 2 = .ok (.iload_n 2, 1) := by decide +kernel
theorem dX12_pairs_3 : decode cX12_pairs 3 = .ok (.invokevirtual 147, 3) := by decide +kernel
theorem dX12_pairs_6 : decode cX12_pairs 6 = .ok (.aload_n 0, 1) := by decide +kernel
theorem dX12_pairs_7 : decode cX12_pairs 7 = .ok (.getfield 31, 3) := by decide +kernel
theorem dX12_pairs_10 : decode cX12_pairs 10 = .ok (.iconst 0, 1) := by decide +kernel
theorem dX12_pairs_11 : decode cX12_pairs 11 = .ok (.iaload, 1) := by decide +kernel
theorem dX12_pairs_12 : decode cX12_pairs 12 = .ok (.istore 4, 2) := by decide +kernel
theorem dX12_pairs_14 : decode cX12_pairs 14 = .ok (.iconst 0, 1) := by decide +kernel
theorem dX12_pairs_15 : decode cX12_pairs 15 = .ok (.istore 5, 2) := by decide +kernel
theorem dX12_pairs_17 : decode cX12_pairs 17 = .ok (.iconst 0, 1) := by decide +kernel
theorem dX12_pairs_18 : decode cX12_pairs 18 = .ok (.istore 6, 2) := by decide +kernel
theorem dX12_pairs_20 : decode cX12_pairs 20 = .ok (.iload 6, 2) := by decide +kernel
theorem dX12_pairs_22 : decode cX12_pairs 22 = .ok (.aload_n 0, 1) := by decide +kernel
theorem dX12_pairs_23 : decode cX12_pairs 23 = .ok (.getfield 25, 3) := by decide +kernel
theorem dX12_pairs_26 : decode cX12_pairs 26 = .ok (.iload_n 1, 1) := by decide +kernel
theorem dX12_pairs_27 : decode cX12_pairs 27 = .ok (.iaload, 1) := by decide +kernel
theorem dX12_pairs_28 : decode cX12_pairs 28 = .ok (.if_icmp .ge 121, 3) := by decide +kernel
theorem dX12_pairs_31 : decode cX12_pairs 31 = .ok (.aload_n 0, 1) := by decide +kernel
theorem dX12_pairs_32 : decode cX12_pairs 32 = .ok (.getfield 34, 3) := by decide +kernel
theorem dX12_pairs_35 : decode cX12_pairs 35 = .ok (.bipush 16, 2) := by decide +kernel
theorem dX12_pairs_37 : decode cX12_pairs 37 = .ok (.iload_n 3, 1) := by decide +kernel
theorem dX12_pairs_38 : decode cX12_pairs 38 = .ok (.imul, 1) := by decide +kernel
theorem dX12_pairs_39 : decode cX12_pairs 39 = .ok (.iload 6, 2) := by decide +kernel
theorem dX12_pairs_41 : decode cX12_pairs 41 = .ok (.iadd, 1) := by decide +kernel
theorem dX12_pairs_42 : decode cX12_pairs 42 = .ok (.bipush (-9), 2) := by decide +kernel
theorem dX12_pairs_44 : decode cX12_pairs 44 = .ok (.iastore, 1) := by decide +kernel
theorem dX12_pairs_45 : decode cX12_pairs 45 = .ok (.iload 5, 2) := by decide +kernel
theorem dX12_pairs_47 : decode cX12_pairs 47 = .ok (.istore 7, 2) := by decide +kernel
theorem dX12_pairs_49 : decode cX12_pairs 49 = .ok (.iload 7, 2) := by decide +kernel
theorem dX12_pairs_51 : decode cX12_pairs 51 = .ok (.aload_n 0, 1) := by decide +kernel
theorem dX12_pairs_52 : decode cX12_pairs 52 = .ok (.getfield 25, 3) := by decide +kernel
theorem dX12_pairs_55 : decode cX12_pairs 55 = .ok (.iload_n 2, 1) := by decide +kernel
theorem dX12_pairs_56 : decode cX12_pairs 56 = .ok (.iaload, 1) := by decide +kernel
theorem dX12_pairs_57 : decode cX12_pairs 57 = .ok (.if_icmp .ge 86, 3) := by decide +kernel
theorem dX12_pairs_60 : decode cX12_pairs 60 = .ok (.aload_n 0, 1) := by decide +kernel
theorem dX12_pairs_61 : decode cX12_pairs 61 = .ok (.getfield 34, 3) := by decide +kernel
theorem dX12_pairs_64 : decode cX12_pairs 64 = .ok (.bipush 16, 2) := by decide +kernel
theorem dX12_pairs_66 : decode cX12_pairs 66 = .ok (.iload_n 3, 1) := by decide +kernel
theorem dX12_pairs_67 : decode cX12_pairs 67 = .ok (.imul, 1) := by decide +kernel
theorem dX12_pairs_68 : decode cX12_pairs 68 = .ok (.iload 6, 2) := by decide +kernel
theorem dX12_pairs_70 : decode cX12_pairs 70 = .ok (.iadd, 1) := by decide +kernel
theorem dX12_pairs_71 : decode cX12_pairs 71 = .ok (.iaload, 1) := by decide +kernel
theorem dX12_pairs_72 : decode cX12_pairs 72 = .ok (.bipush (-9), 2) := by decide +kernel
theorem dX12_pairs_74 : decode cX12_pairs 74 = .ok (.if_icmp .ne 69, 3) := by decide +kernel
theorem dX12_pairs_77 : decode cX12_pairs 77 = .ok (.aload_n 0, 1) := by decide +kernel
theorem dX12_pairs_78 : decode cX12_pairs 78 = .ok (.iload_n 1, 1) := by decide +kernel
theorem dX12_pairs_79 : decode cX12_pairs 79 = .ok (.iload 6, 2) := by decide +kernel
theorem dX12_pairs_81 : decode cX12_pairs 81 = .ok (.iload_n 2, 1) := by decide +kernel
theorem dX12_pairs_82 : decode cX12_pairs 82 = .ok (.iload 7, 2) := by decide +kernel
theorem dX12_pairs_84 : decode cX12_pairs 84 = .ok (.invokevirtual 143, 3) := by decide +kernel
theorem dX12_pairs_87 : decode cX12_pairs 87 = .ok (.ifCond .eq 50, 3) := by decide +kernel
theorem dX12_pairs_90 : decode cX12_pairs 90 = .ok (.aload_n 0, 1) := by decide +kernel
theorem dX12_pairs_91 : decode cX12_pairs 91 = .ok (.getfield 31, 3) := by decide +kernel
theorem dX12_pairs_94 : decode cX12_pairs 94 = .ok (.bipush 17, 2) := by decide +kernel
theorem dX12_pairs_96 : decode cX12_pairs 96 = .ok (.iload 6, 2) := by decide +kernel
theorem dX12_pairs_98 : decode cX12_pairs 98 = .ok (.iconst 1, 1) := by decide +kernel
theorem dX12_pairs_99 : decode cX12_pairs 99 = .ok (.iadd, 1) := by decide +kernel
theorem dX12_pairs_100 : decode cX12_pairs 100 = .ok (.imul, 1) := by decide +kernel
theorem dX12_pairs_101 : decode cX12_pairs 101 = .ok (.iload 7, 2) := by decide +kernel
theorem dX12_pairs_103 : decode cX12_pairs 103 = .ok (.iadd, 1) := by decide +kernel
theorem dX12_pairs_104 : decode cX12_pairs 104 = .ok (.iconst 1, 1) := by decide +kernel
theorem dX12_pairs_105 : decode cX12_pairs 105 = .ok (.iadd, 1) := by decide +kernel
theorem dX12_pairs_106 : decode cX12_pairs 106 = .ok (.iaload, 1) := by decide +kernel
theorem dX12_pairs_107 : decode cX12_pairs 107 = .ok (.iconst 1, 1) := by decide +kernel
theorem dX12_pairs_108 : decode cX12_pairs 108 = .ok (.iadd, 1) := by decide +kernel
theorem dX12_pairs_109 : decode cX12_pairs 109 = .ok (.iload 4, 2) := by decide +kernel
theorem dX12_pairs_111 : decode cX12_pairs 111 = .ok (.if_icmp .ne 26, 3) := by decide +kernel
theorem dX12_pairs_114 : decode cX12_pairs 114 = .ok (.aload_n 0, 1) := by decide +kernel
theorem dX12_pairs_115 : decode cX12_pairs 115 = .ok (.getfield 34, 3) := by decide +kernel
theorem dX12_pairs_118 : decode cX12_pairs 118 = .ok (.bipush 16, 2) := by decide +kernel
theorem dX12_pairs_120 : decode cX12_pairs 120 = .ok (.iload_n 3, 1) := by decide +kernel
theorem dX12_pairs_121 : decode cX12_pairs 121 = .ok (.imul, 1) := by decide +kernel
theorem dX12_pairs_122 : decode cX12_pairs 122 = .ok (.iload 6, 2) := by decide +kernel
theorem dX12_pairs_124 : decode cX12_pairs 124 = .ok (.iadd, 1) := by decide +kernel
theorem dX12_pairs_125 : decode cX12_pairs 125 = .ok (.iload 7, 2) := by decide +kernel
theorem dX12_pairs_127 : decode cX12_pairs 127 = .ok (.iastore, 1) := by decide +kernel
theorem dX12_pairs_128 : decode cX12_pairs 128 = .ok (.iinc 4 (-1), 3) := by decide +kernel
theorem dX12_pairs_131 : decode cX12_pairs 131 = .ok (.iload 7, 2) := by decide +kernel
theorem dX12_pairs_133 : decode cX12_pairs 133 = .ok (.iconst 1, 1) := by decide +kernel
theorem dX12_pairs_134 : decode cX12_pairs 134 = .ok (.iadd, 1) := by decide +kernel
theorem dX12_pairs_135 : decode cX12_pairs 135 = .ok (.istore 5, 2) := by decide +kernel
theorem dX12_pairs_137 : decode cX12_pairs 137 = .ok (.iinc 7 1, 3) := by decide +kernel
theorem dX12_pairs_140 : decode cX12_pairs 140 = .ok (.goto (-91), 3) := by decide +kernel
theorem dX12_pairs_143 : decode cX12_pairs 143 = .ok (.iinc 6 1, 3) := by decide +kernel
theorem dX12_pairs_146 : decode cX12_pairs 146 = .ok (.goto (-126), 3) := by decide +kernel
theorem dX12_pairs_149 : decode cX12_pairs 149 = .ok (.return_, 1) := by decide +kernel
theorem dX12_addPiece_0 : decode cX12_addPiece 0 = .ok (.iload_n 1, 1) := by decide +kernel
theorem dX12_addPiece_1 : decode cX12_addPiece 1 = .ok (.iload_n 2, 1) := by decide +kernel
theorem dX12_addPiece_2 : decode cX12_addPiece 2 = .ok (.if_icmp .lt 9, 3) := by decide +kernel
theorem dX12_addPiece_5 : decode cX12_addPiece 5 = .ok (.iload_n 3, 1) := by decide +kernel
theorem dX12_addPiece_6 : decode cX12_addPiece 6 = .ok (.iload 4, 2) := by decide +kernel
theorem dX12_addPiece_8 : decode cX12_addPiece 8 = .ok (.if_icmp .ge 54, 3) := by decide +kernel
theorem dX12_addPiece_11 : decode cX12_addPiece 11 = .ok (.aload_n 0, 1) := by decide +kernel
theorem dX12_addPiece_12 : decode cX12_addPiece 12 = .ok (.getfield 37, 3) := by decide +kernel
theorem dX12_addPiece_15 : decode cX12_addPiece 15 = .ok (.aload_n 0, 1) := by decide +kernel
theorem dX12_addPiece_16 : decode cX12_addPiece 16 = .ok (.getfield 151, 3) := by decide +kernel
theorem dX12_addPiece_19 : decode cX12_addPiece 19 = .ok (.iload_n 1, 1) := by decide +kernel
theorem dX12_addPiece_20 : decode cX12_addPiece 20 = .ok (.iastore, 1) := by decide +kernel
theorem dX12_addPiece_21 : decode cX12_addPiece 21 = .ok (.aload_n 0, 1) := by decide +kernel
theorem dX12_addPiece_22 : decode cX12_addPiece 22 = .ok (.getfield 40, 3) := by decide +kernel
theorem dX12_addPiece_25 : decode cX12_addPiece 25 = .ok (.aload_n 0, 1) := by decide +kernel
theorem dX12_addPiece_26 : decode cX12_addPiece 26 = .ok (.getfield 151, 3) := by decide +kernel
theorem dX12_addPiece_29 : decode cX12_addPiece 29 = .ok (.iload_n 2, 1) := by decide +kernel
theorem dX12_addPiece_30 : decode cX12_addPiece 30 = .ok (.iastore, 1) := by decide +kernel
theorem dX12_addPiece_31 : decode cX12_addPiece 31 = .ok (.aload_n 0, 1) := by decide +kernel
theorem dX12_addPiece_32 : decode cX12_addPiece 32 = .ok (.getfield 43, 3) := by decide +kernel
theorem dX12_addPiece_35 : decode cX12_addPiece 35 = .ok (.aload_n 0, 1) := by decide +kernel
theorem dX12_addPiece_36 : decode cX12_addPiece 36 = .ok (.getfield 151, 3) := by decide +kernel
theorem dX12_addPiece_39 : decode cX12_addPiece 39 = .ok (.iload_n 3, 1) := by decide +kernel
theorem dX12_addPiece_40 : decode cX12_addPiece 40 = .ok (.iastore, 1) := by decide +kernel
theorem dX12_addPiece_41 : decode cX12_addPiece 41 = .ok (.aload_n 0, 1) := by decide +kernel
theorem dX12_addPiece_42 : decode cX12_addPiece 42 = .ok (.getfield 46, 3) := by decide +kernel
theorem dX12_addPiece_45 : decode cX12_addPiece 45 = .ok (.aload_n 0, 1) := by decide +kernel
theorem dX12_addPiece_46 : decode cX12_addPiece 46 = .ok (.getfield 151, 3) := by decide +kernel
theorem dX12_addPiece_49 : decode cX12_addPiece 49 = .ok (.iload 4, 2) := by decide +kernel
theorem dX12_addPiece_51 : decode cX12_addPiece 51 = .ok (.iastore, 1) := by decide +kernel
theorem dX12_addPiece_52 : decode cX12_addPiece 52 = .ok (.aload_n 0, 1) := by decide +kernel
theorem dX12_addPiece_53 : decode cX12_addPiece 53 = .ok (.dup, 1) := by decide +kernel
theorem dX12_addPiece_54 : decode cX12_addPiece 54 = .ok (.getfield 151, 3) := by decide +kernel
theorem dX12_addPiece_57 : decode cX12_addPiece 57 = .ok (.iconst 1, 1) := by decide +kernel
theorem dX12_addPiece_58 : decode cX12_addPiece 58 = .ok (.iadd, 1) := by decide +kernel
theorem dX12_addPiece_59 : decode cX12_addPiece 59 = .ok (.putfield 151, 3) := by decide +kernel
theorem dX12_addPiece_62 : decode cX12_addPiece 62 = .ok (.return_, 1) := by decide +kernel
theorem dX12_change_0 : decode cX12_change 0 = .ok (.aload_n 0, 1) := by decide +kernel
theorem dX12_change_1 : decode cX12_change 1 = .ok (.iconst 0, 1) := by decide +kernel
theorem dX12_change_2 : decode cX12_change 2 = .ok (.putfield 151, 3) := by decide +kernel
theorem dX12_change_5 : decode cX12_change 5 = .ok (.iload_n 1, 1) := by decide +kernel
theorem dX12_change_6 : decode cX12_change 6 = .ok (.ifCond .ne 4, 3) := by decide +kernel
theorem dX12_change_9 : decode cX12_change 9 = .ok (.return_, 1) := by decide +kernel
theorem dX12_change_10 : decode cX12_change 10 = .ok (.aload_n 0, 1) := by decide +kernel
theorem dX12_change_11 : decode cX12_change 11 = .ok (.getfield 13, 3) := by decide +kernel
theorem dX12_change_14 : decode cX12_change 14 = .ok (.iload_n 1, 1) := by decide +kernel
theorem dX12_change_15 : decode cX12_change 15 = .ok (.iaload, 1) := by decide +kernel
theorem dX12_change_16 : decode cX12_change 16 = .ok (.istore_n 2, 1) := by decide +kernel
theorem dX12_change_17 : decode cX12_change 17 = .ok (.aload_n 0, 1) := by decide +kernel
theorem dX12_change_18 : decode cX12_change 18 = .ok (.iload_n 2, 1) := by decide +kernel
theorem dX12_change_19 : decode cX12_change 19 = .ok (.iload_n 1, 1) := by decide +kernel
theorem dX12_change_20 : decode cX12_change 20 = .ok (.iconst 0, 1) := by decide +kernel
theorem dX12_change_21 : decode cX12_change 21 = .ok (.invokevirtual 154, 3) := by decide +kernel
theorem dX12_change_24 : decode cX12_change 24 = .ok (.iconst 0, 1) := by decide +kernel
theorem dX12_change_25 : decode cX12_change 25 = .ok (.istore_n 3, 1) := by decide +kernel
theorem dX12_change_26 : decode cX12_change 26 = .ok (.iconst 0, 1) := by decide +kernel
theorem dX12_change_27 : decode cX12_change 27 = .ok (.istore 4, 2) := by decide +kernel
theorem dX12_change_29 : decode cX12_change 29 = .ok (.iconst 0, 1) := by decide +kernel
theorem dX12_change_30 : decode cX12_change 30 = .ok (.istore 5, 2) := by decide +kernel
theorem dX12_change_32 : decode cX12_change 32 = .ok (.iload 5, 2) := by decide +kernel
theorem dX12_change_34 : decode cX12_change 34 = .ok (.aload_n 0, 1) := by decide +kernel
theorem dX12_change_35 : decode cX12_change 35 = .ok (.getfield 25, 3) := by decide +kernel
theorem dX12_change_38 : decode cX12_change 38 = .ok (.iload_n 2, 1) := by decide +kernel
theorem dX12_change_39 : decode cX12_change 39 = .ok (.iaload, 1) := by decide +kernel
theorem dX12_change_40 : decode cX12_change 40 = .ok (.if_icmp .ge 53, 3) := by decide +kernel
theorem dX12_change_43 : decode cX12_change 43 = .ok (.aload_n 0, 1) := by decide +kernel
theorem dX12_change_44 : decode cX12_change 44 = .ok (.getfield 34, 3) := by decide +kernel
theorem dX12_change_47 : decode cX12_change 47 = .ok (.iload 5, 2) := by decide +kernel
theorem dX12_change_49 : decode cX12_change 49 = .ok (.iaload, 1) := by decide +kernel
theorem dX12_change_50 : decode cX12_change 50 = .ok (.bipush (-9), 2) := by decide +kernel
theorem dX12_change_52 : decode cX12_change 52 = .ok (.if_icmp .eq 35, 3) := by decide +kernel
theorem dX12_change_55 : decode cX12_change 55 = .ok (.aload_n 0, 1) := by decide +kernel
theorem dX12_change_56 : decode cX12_change 56 = .ok (.iload_n 3, 1) := by decide +kernel
theorem dX12_change_57 : decode cX12_change 57 = .ok (.iload 5, 2) := by decide +kernel
theorem dX12_change_59 : decode cX12_change 59 = .ok (.iload 4, 2) := by decide +kernel
theorem dX12_change_61 : decode cX12_change 61 = .ok (.aload_n 0, 1) := by decide +kernel
theorem dX12_change_62 : decode cX12_change 62 = .ok (.getfield 34, 3) := by decide +kernel
theorem dX12_change_65 : decode cX12_change 65 = .ok (.iload 5, 2) := by decide +kernel
theorem dX12_change_67 : decode cX12_change 67 = .ok (.iaload, 1) := by decide +kernel
theorem dX12_change_68 : decode cX12_change 68 = .ok (.invokevirtual 158, 3) := by decide +kernel
theorem dX12_change_71 : decode cX12_change 71 = .ok (.iload 5, 2) := by decide +kernel
theorem dX12_change_73 : decode cX12_change 73 = .ok (.iconst 1, 1) := by decide +kernel
theorem dX12_change_74 : decode cX12_change 74 = .ok (.iadd, 1) := by decide +kernel
theorem dX12_change_75 : decode cX12_change 75 = .ok (.istore_n 3, 1) := by decide +kernel
theorem dX12_change_76 : decode cX12_change 76 = .ok (.aload_n 0, 1) := by decide +kernel
theorem dX12_change_77 : decode cX12_change 77 = .ok (.getfield 34, 3) := by decide +kernel
theorem dX12_change_80 : decode cX12_change 80 = .ok (.iload 5, 2) := by decide +kernel
theorem dX12_change_82 : decode cX12_change 82 = .ok (.iaload, 1) := by decide +kernel
theorem dX12_change_83 : decode cX12_change 83 = .ok (.iconst 1, 1) := by decide +kernel
theorem dX12_change_84 : decode cX12_change 84 = .ok (.iadd, 1) := by decide +kernel
theorem dX12_change_85 : decode cX12_change 85 = .ok (.istore 4, 2) := by decide +kernel
theorem dX12_change_87 : decode cX12_change 87 = .ok (.iinc 5 1, 3) := by decide +kernel
theorem dX12_change_90 : decode cX12_change 90 = .ok (.goto (-58), 3) := by decide +kernel
theorem dX12_change_93 : decode cX12_change 93 = .ok (.aload_n 0, 1) := by decide +kernel
theorem dX12_change_94 : decode cX12_change 94 = .ok (.iload_n 3, 1) := by decide +kernel
theorem dX12_change_95 : decode cX12_change 95 = .ok (.aload_n 0, 1) := by decide +kernel
theorem dX12_change_96 : decode cX12_change 96 = .ok (.getfield 25, 3) := by decide +kernel
theorem dX12_change_99 : decode cX12_change 99 = .ok (.iload_n 2, 1) := by decide +kernel
theorem dX12_change_100 : decode cX12_change 100 = .ok (.iaload, 1) := by decide +kernel
theorem dX12_change_101 : decode cX12_change 101 = .ok (.iload 4, 2) := by decide +kernel
theorem dX12_change_103 : decode cX12_change 103 = .ok (.aload_n 0, 1) := by decide +kernel
theorem dX12_change_104 : decode cX12_change 104 = .ok (.getfield 25, 3) := by decide +kernel
theorem dX12_change_107 : decode cX12_change 107 = .ok (.iload_n 1, 1) := by decide +kernel
theorem dX12_change_108 : decode cX12_change 108 = .ok (.iaload, 1) := by decide +kernel
theorem dX12_change_109 : decode cX12_change 109 = .ok (.invokevirtual 158, 3) := by decide +kernel
theorem dX12_change_112 : decode cX12_change 112 = .ok (.return_, 1) := by decide +kernel
theorem dX12_tells_0 : decode cX12_tells 0 = .ok (.aload_n 0, 1) := by decide +kernel
theorem dX12_tells_1 : decode cX12_tells 1 = .ok (.iload_n 1, 1) := by decide +kernel
theorem dX12_tells_2 : decode cX12_tells 2 = .ok (.invokevirtual 162, 3) := by decide +kernel
theorem dX12_tells_5 : decode cX12_tells 5 = .ok (.aload_n 0, 1) := by decide +kernel
theorem dX12_tells_6 : decode cX12_tells 6 = .ok (.iconst 0, 1) := by decide +kernel
theorem dX12_tells_7 : decode cX12_tells 7 = .ok (.putfield 165, 3) := by decide +kernel
theorem dX12_tells_10 : decode cX12_tells 10 = .ok (.iconst 0, 1) := by decide +kernel
theorem dX12_tells_11 : decode cX12_tells 11 = .ok (.istore_n 3, 1) := by decide +kernel
theorem dX12_tells_12 : decode cX12_tells 12 = .ok (.iload_n 3, 1) := by decide +kernel
theorem dX12_tells_13 : decode cX12_tells 13 = .ok (.aload_n 0, 1) := by decide +kernel
theorem dX12_tells_14 : decode cX12_tells 14 = .ok (.getfield 151, 3) := by decide +kernel
theorem dX12_tells_17 : decode cX12_tells 17 = .ok (.if_icmp .ge 198, 3) := by decide +kernel
theorem dX12_tells_20 : decode cX12_tells 20 = .ok (.aload_n 0, 1) := by decide +kernel
theorem dX12_tells_21 : decode cX12_tells 21 = .ok (.getfield 49, 3) := by decide +kernel
theorem dX12_tells_24 : decode cX12_tells 24 = .ok (.iload_n 2, 1) := by decide +kernel
theorem dX12_tells_25 : decode cX12_tells 25 = .ok (.aload_n 0, 1) := by decide +kernel
theorem dX12_tells_26 : decode cX12_tells 26 = .ok (.getfield 165, 3) := by decide +kernel
theorem dX12_tells_29 : decode cX12_tells 29 = .ok (.iadd, 1) := by decide +kernel
theorem dX12_tells_30 : decode cX12_tells 30 = .ok (.aload_n 0, 1) := by decide +kernel
theorem dX12_tells_31 : decode cX12_tells 31 = .ok (.getfield 40, 3) := by decide +kernel
theorem dX12_tells_34 : decode cX12_tells 34 = .ok (.iload_n 3, 1) := by decide +kernel
theorem dX12_tells_35 : decode cX12_tells 35 = .ok (.iaload, 1) := by decide +kernel
theorem dX12_tells_36 : decode cX12_tells 36 = .ok (.aload_n 0, 1) := by decide +kernel
theorem dX12_tells_37 : decode cX12_tells 37 = .ok (.getfield 37, 3) := by decide +kernel
theorem dX12_tells_40 : decode cX12_tells 40 = .ok (.iload_n 3, 1) := by decide +kernel
theorem dX12_tells_41 : decode cX12_tells 41 = .ok (.iaload, 1) := by decide +kernel
theorem dX12_tells_42 : decode cX12_tells 42 = .ok (.isub, 1) := by decide +kernel
theorem dX12_tells_43 : decode cX12_tells 43 = .ok (.iastore, 1) := by decide +kernel
theorem dX12_tells_44 : decode cX12_tells 44 = .ok (.aload_n 0, 1) := by decide +kernel
theorem dX12_tells_45 : decode cX12_tells 45 = .ok (.dup, 1) := by decide +kernel
theorem dX12_tells_46 : decode cX12_tells 46 = .ok (.getfield 165, 3) := by decide +kernel
theorem dX12_tells_49 : decode cX12_tells 49 = .ok (.iconst 1, 1) := by decide +kernel
theorem dX12_tells_50 : decode cX12_tells 50 = .ok (.iadd, 1) := by decide +kernel
theorem dX12_tells_51 : decode cX12_tells 51 = .ok (.putfield 165, 3) := by decide +kernel
theorem dX12_tells_54 : decode cX12_tells 54 = .ok (.aload_n 0, 1) := by decide +kernel
theorem dX12_tells_55 : decode cX12_tells 55 = .ok (.getfield 37, 3) := by decide +kernel
theorem dX12_tells_58 : decode cX12_tells 58 = .ok (.iload_n 3, 1) := by decide +kernel
theorem dX12_tells_59 : decode cX12_tells 59 = .ok (.iaload, 1) := by decide +kernel
theorem dX12_tells_60 : decode cX12_tells 60 = .ok (.istore 4, 2) := by decide +kernel
theorem dX12_tells_62 : decode cX12_tells 62 = .ok (.iload 4, 2) := by decide +kernel
theorem dX12_tells_64 : decode cX12_tells 64 = .ok (.aload_n 0, 1) := by decide +kernel
theorem dX12_tells_65 : decode cX12_tells 65 = .ok (.getfield 40, 3) := by decide +kernel
theorem dX12_tells_68 : decode cX12_tells 68 = .ok (.iload_n 3, 1) := by decide +kernel
theorem dX12_tells_69 : decode cX12_tells 69 = .ok (.iaload, 1) := by decide +kernel
theorem dX12_tells_70 : decode cX12_tells 70 = .ok (.if_icmp .ge 47, 3) := by decide +kernel
theorem dX12_tells_73 : decode cX12_tells 73 = .ok (.aload_n 0, 1) := by decide +kernel
theorem dX12_tells_74 : decode cX12_tells 74 = .ok (.getfield 49, 3) := by decide +kernel
theorem dX12_tells_77 : decode cX12_tells 77 = .ok (.iload_n 2, 1) := by decide +kernel
theorem dX12_tells_78 : decode cX12_tells 78 = .ok (.aload_n 0, 1) := by decide +kernel
theorem dX12_tells_79 : decode cX12_tells 79 = .ok (.getfield 165, 3) := by decide +kernel
theorem dX12_tells_82 : decode cX12_tells 82 = .ok (.iadd, 1) := by decide +kernel
theorem dX12_tells_83 : decode cX12_tells 83 = .ok (.aload_n 0, 1) := by decide +kernel
theorem dX12_tells_84 : decode cX12_tells 84 = .ok (.getfield 22, 3) := by decide +kernel
theorem dX12_tells_87 : decode cX12_tells 87 = .ok (.bipush 16, 2) := by decide +kernel
theorem dX12_tells_89 : decode cX12_tells 89 = .ok (.aload_n 0, 1) := by decide +kernel
theorem dX12_tells_90 : decode cX12_tells 90 = .ok (.getfield 13, 3) := by decide +kernel
theorem dX12_tells_93 : decode cX12_tells 93 = .ok (.iload_n 1, 1) := by decide +kernel
theorem dX12_tells_94 : decode cX12_tells 94 = .ok (.iaload, 1) := by decide +kernel
theorem dX12_tells_95 : decode cX12_tells 95 = .ok (.imul, 1) := by decide +kernel
theorem dX12_tells_96 : decode cX12_tells 96 = .ok (.iload 4, 2) := by decide +kernel
theorem dX12_tells_98 : decode cX12_tells 98 = .ok (.iadd, 1) := by decide +kernel
theorem dX12_tells_99 : decode cX12_tells 99 = .ok (.iaload, 1) := by decide +kernel
theorem dX12_tells_100 : decode cX12_tells 100 = .ok (.iastore, 1) := by decide +kernel
theorem dX12_tells_101 : decode cX12_tells 101 = .ok (.aload_n 0, 1) := by decide +kernel
theorem dX12_tells_102 : decode cX12_tells 102 = .ok (.dup, 1) := by decide +kernel
theorem dX12_tells_103 : decode cX12_tells 103 = .ok (.getfield 165, 3) := by decide +kernel
theorem dX12_tells_106 : decode cX12_tells 106 = .ok (.iconst 1, 1) := by decide +kernel
theorem dX12_tells_107 : decode cX12_tells 107 = .ok (.iadd, 1) := by decide +kernel
theorem dX12_tells_108 : decode cX12_tells 108 = .ok (.putfield 165, 3) := by decide +kernel
theorem dX12_tells_111 : decode cX12_tells 111 = .ok (.iinc 4 1, 3) := by decide +kernel
theorem dX12_tells_114 : decode cX12_tells 114 = .ok (.goto (-52), 3) := by decide +kernel
theorem dX12_tells_117 : decode cX12_tells 117 = .ok (.aload_n 0, 1) := by decide +kernel
theorem dX12_tells_118 : decode cX12_tells 118 = .ok (.getfield 49, 3) := by decide +kernel
theorem dX12_tells_121 : decode cX12_tells 121 = .ok (.iload_n 2, 1) := by decide +kernel
theorem dX12_tells_122 : decode cX12_tells 122 = .ok (.aload_n 0, 1) := by decide +kernel
theorem dX12_tells_123 : decode cX12_tells 123 = .ok (.getfield 165, 3) := by decide +kernel
theorem dX12_tells_126 : decode cX12_tells 126 = .ok (.iadd, 1) := by decide +kernel
theorem dX12_tells_127 : decode cX12_tells 127 = .ok (.aload_n 0, 1) := by decide +kernel
theorem dX12_tells_128 : decode cX12_tells 128 = .ok (.getfield 46, 3) := by decide +kernel
theorem dX12_tells_131 : decode cX12_tells 131 = .ok (.iload_n 3, 1) := by decide +kernel
theorem dX12_tells_132 : decode cX12_tells 132 = .ok (.iaload, 1) := by decide +kernel
theorem dX12_tells_133 : decode cX12_tells 133 = .ok (.aload_n 0, 1) := by decide +kernel
theorem dX12_tells_134 : decode cX12_tells 134 = .ok (.getfield 43, 3) := by decide +kernel
theorem dX12_tells_137 : decode cX12_tells 137 = .ok (.iload_n 3, 1) := by decide +kernel
theorem dX12_tells_138 : decode cX12_tells 138 = .ok (.iaload, 1) := by decide +kernel
theorem dX12_tells_139 : decode cX12_tells 139 = .ok (.isub, 1) := by decide +kernel
theorem dX12_tells_140 : decode cX12_tells 140 = .ok (.iastore, 1) := by decide +kernel
theorem dX12_tells_141 : decode cX12_tells 141 = .ok (.aload_n 0, 1) := by decide +kernel
theorem dX12_tells_142 : decode cX12_tells 142 = .ok (.dup, 1) := by decide +kernel
theorem dX12_tells_143 : decode cX12_tells 143 = .ok (.getfield 165, 3) := by decide +kernel
theorem dX12_tells_146 : decode cX12_tells 146 = .ok (.iconst 1, 1) := by decide +kernel
theorem dX12_tells_147 : decode cX12_tells 147 = .ok (.iadd, 1) := by decide +kernel
theorem dX12_tells_148 : decode cX12_tells 148 = .ok (.putfield 165, 3) := by decide +kernel
theorem dX12_tells_151 : decode cX12_tells 151 = .ok (.aload_n 0, 1) := by decide +kernel
theorem dX12_tells_152 : decode cX12_tells 152 = .ok (.getfield 43, 3) := by decide +kernel
theorem dX12_tells_155 : decode cX12_tells 155 = .ok (.iload_n 3, 1) := by decide +kernel
theorem dX12_tells_156 : decode cX12_tells 156 = .ok (.iaload, 1) := by decide +kernel
theorem dX12_tells_157 : decode cX12_tells 157 = .ok (.istore 4, 2) := by decide +kernel
theorem dX12_tells_159 : decode cX12_tells 159 = .ok (.iload 4, 2) := by decide +kernel
theorem dX12_tells_161 : decode cX12_tells 161 = .ok (.aload_n 0, 1) := by decide +kernel
theorem dX12_tells_162 : decode cX12_tells 162 = .ok (.getfield 46, 3) := by decide +kernel
theorem dX12_tells_165 : decode cX12_tells 165 = .ok (.iload_n 3, 1) := by decide +kernel
theorem dX12_tells_166 : decode cX12_tells 166 = .ok (.iaload, 1) := by decide +kernel
theorem dX12_tells_167 : decode cX12_tells 167 = .ok (.if_icmp .ge 42, 3) := by decide +kernel
theorem dX12_tells_170 : decode cX12_tells 170 = .ok (.aload_n 0, 1) := by decide +kernel
theorem dX12_tells_171 : decode cX12_tells 171 = .ok (.getfield 49, 3) := by decide +kernel
theorem dX12_tells_174 : decode cX12_tells 174 = .ok (.iload_n 2, 1) := by decide +kernel
theorem dX12_tells_175 : decode cX12_tells 175 = .ok (.aload_n 0, 1) := by decide +kernel
theorem dX12_tells_176 : decode cX12_tells 176 = .ok (.getfield 165, 3) := by decide +kernel
theorem dX12_tells_179 : decode cX12_tells 179 = .ok (.iadd, 1) := by decide +kernel
theorem dX12_tells_180 : decode cX12_tells 180 = .ok (.aload_n 0, 1) := by decide +kernel
theorem dX12_tells_181 : decode cX12_tells 181 = .ok (.getfield 22, 3) := by decide +kernel
theorem dX12_tells_184 : decode cX12_tells 184 = .ok (.bipush 16, 2) := by decide +kernel
theorem dX12_tells_186 : decode cX12_tells 186 = .ok (.iload_n 1, 1) := by decide +kernel
theorem dX12_tells_187 : decode cX12_tells 187 = .ok (.imul, 1) := by decide +kernel
theorem dX12_tells_188 : decode cX12_tells 188 = .ok (.iload 4, 2) := by decide +kernel
theorem dX12_tells_190 : decode cX12_tells 190 = .ok (.iadd, 1) := by decide +kernel
theorem dX12_tells_191 : decode cX12_tells 191 = .ok (.iaload, 1) := by decide +kernel
theorem dX12_tells_192 : decode cX12_tells 192 = .ok (.iastore, 1) := by decide +kernel
theorem dX12_tells_193 : decode cX12_tells 193 = .ok (.aload_n 0, 1) := by decide +kernel
theorem dX12_tells_194 : decode cX12_tells 194 = .ok (.dup, 1) := by decide +kernel
theorem dX12_tells_195 : decode cX12_tells 195 = .ok (.getfield 165, 3) := by decide +kernel
theorem dX12_tells_198 : decode cX12_tells 198 = .ok (.iconst 1, 1) := by decide +kernel
theorem dX12_tells_199 : decode cX12_tells 199 = .ok (.iadd, 1) := by decide +kernel
theorem dX12_tells_200 : decode cX12_tells 200 = .ok (.putfield 165, 3) := by decide +kernel
theorem dX12_tells_203 : decode cX12_tells 203 = .ok (.iinc 4 1, 3) := by decide +kernel
theorem dX12_tells_206 : decode cX12_tells 206 = .ok (.goto (-47), 3) := by decide +kernel
theorem dX12_tells_209 : decode cX12_tells 209 = .ok (.iinc 3 1, 3) := by decide +kernel
theorem dX12_tells_212 : decode cX12_tells 212 = .ok (.goto (-200), 3) := by decide +kernel
theorem dX12_tells_215 : decode cX12_tells 215 = .ok (.return_, 1) := by decide +kernel
theorem dX12_areAlike_0 : decode cX12_areAlike 0 = .ok (.aload_n 0, 1) := by decide +kernel
theorem dX12_areAlike_1 : decode cX12_areAlike 1 = .ok (.iload_n 1, 1) := by decide +kernel
theorem dX12_areAlike_2 : decode cX12_areAlike 2 = .ok (.iconst 0, 1) := by decide +kernel
theorem dX12_areAlike_3 : decode cX12_areAlike 3 = .ok (.invokevirtual 168, 3) := by decide +kernel
theorem dX12_areAlike_6 : decode cX12_areAlike 6 = .ok (.aload_n 0, 1) := by decide +kernel
theorem dX12_areAlike_7 : decode cX12_areAlike 7 = .ok (.getfield 165, 3) := by decide +kernel
theorem dX12_areAlike_10 : decode cX12_areAlike 10 = .ok (.istore_n 3, 1) := by decide +kernel
theorem dX12_areAlike_11 : decode cX12_areAlike 11 = .ok (.aload_n 0, 1) := by decide +kernel
theorem dX12_areAlike_12 : decode cX12_areAlike 12 = .ok (.getfield 151, 3) := by decide +kernel
theorem dX12_areAlike_15 : decode cX12_areAlike 15 = .ok (.istore 4, 2) := by decide +kernel
theorem dX12_areAlike_17 : decode cX12_areAlike 17 = .ok (.aload_n 0, 1) := by decide +kernel
theorem dX12_areAlike_18 : decode cX12_areAlike 18 = .ok (.iload_n 2, 1) := by decide +kernel
theorem dX12_areAlike_19 : decode cX12_areAlike 19 = .ok (.bipush 80, 2) := by decide +kernel
theorem dX12_areAlike_21 : decode cX12_areAlike 21 = .ok (.invokevirtual 168, 3) := by decide +kernel
theorem dX12_areAlike_24 : decode cX12_areAlike 24 = .ok (.iload_n 3, 1) := by decide +kernel
theorem dX12_areAlike_25 : decode cX12_areAlike 25 = .ok (.aload_n 0, 1) := by decide +kernel
theorem dX12_areAlike_26 : decode cX12_areAlike 26 = .ok (.getfield 165, 3) := by decide +kernel
theorem dX12_areAlike_29 : decode cX12_areAlike 29 = .ok (.if_icmp .ne 16, 3) := by decide +kernel
theorem dX12_areAlike_32 : decode cX12_areAlike 32 = .ok (.iload 4, 2) := by decide +kernel
theorem dX12_areAlike_34 : decode cX12_areAlike 34 = .ok (.aload_n 0, 1) := by decide +kernel
theorem dX12_areAlike_35 : decode cX12_areAlike 35 = .ok (.getfield 151, 3) := by decide +kernel
theorem dX12_areAlike_38 : decode cX12_areAlike 38 = .ok (.if_icmp .ne 7, 3) := by decide +kernel
theorem dX12_areAlike_41 : decode cX12_areAlike 41 = .ok (.iconst 1, 1) := by decide +kernel
theorem dX12_areAlike_42 : decode cX12_areAlike 42 = .ok (.goto 4, 3) := by decide +kernel
theorem dX12_areAlike_45 : decode cX12_areAlike 45 = .ok (.iconst 0, 1) := by decide +kernel
theorem dX12_areAlike_46 : decode cX12_areAlike 46 = .ok (.istore 5, 2) := by decide +kernel
theorem dX12_areAlike_48 : decode cX12_areAlike 48 = .ok (.iconst 0, 1) := by decide +kernel
theorem dX12_areAlike_49 : decode cX12_areAlike 49 = .ok (.istore 6, 2) := by decide +kernel
theorem dX12_areAlike_51 : decode cX12_areAlike 51 = .ok (.iload 6, 2) := by decide +kernel
theorem dX12_areAlike_53 : decode cX12_areAlike 53 = .ok (.iload_n 3, 1) := by decide +kernel
theorem dX12_areAlike_54 : decode cX12_areAlike 54 = .ok (.if_icmp .ge 41, 3) := by decide +kernel
theorem dX12_areAlike_57 : decode cX12_areAlike 57 = .ok (.iload 5, 2) := by decide +kernel
theorem dX12_areAlike_59 : decode cX12_areAlike 59 = .ok (.ifCond .eq 36, 3) := by decide +kernel
theorem dX12_areAlike_62 : decode cX12_areAlike 62 = .ok (.aload_n 0, 1) := by decide +kernel
theorem dX12_areAlike_63 : decode cX12_areAlike 63 = .ok (.getfield 49, 3) := by decide +kernel
theorem dX12_areAlike_66 : decode cX12_areAlike 66 = .ok (.iload 6, 2) := by decide +kernel
theorem dX12_areAlike_68 : decode cX12_areAlike 68 = .ok (.iaload, 1) := by decide +kernel
theorem dX12_areAlike_69 : decode cX12_areAlike 69 = .ok (.aload_n 0, 1) := by decide +kernel
theorem dX12_areAlike_70 : decode cX12_areAlike 70 = .ok (.getfield 49, 3) := by decide +kernel
theorem dX12_areAlike_73 : decode cX12_areAlike 73 = .ok (.bipush 80, 2) := by decide +kernel
theorem dX12_areAlike_75 : decode cX12_areAlike 75 = .ok (.iload 6, 2) := by decide +kernel
theorem dX12_areAlike_77 : decode cX12_areAlike 77 = .ok (.iadd, 1) := by decide +kernel
theorem dX12_areAlike_78 : decode cX12_areAlike 78 = .ok (.iaload, 1) := by decide +kernel
theorem dX12_areAlike_79 : decode cX12_areAlike 79 = .ok (.if_icmp .ne 7, 3) := by decide +kernel
theorem dX12_areAlike_82 : decode cX12_areAlike 82 = .ok (.iconst 1, 1) := by decide +kernel
theorem dX12_areAlike_83 : decode cX12_areAlike 83 = .ok (.goto 4, 3) := by decide +kernel
theorem dX12_areAlike_86 : decode cX12_areAlike 86 = .ok (.iconst 0, 1) := by decide +kernel
theorem dX12_areAlike_87 : decode cX12_areAlike 87 = .ok (.istore 5, 2) := by decide +kernel
theorem dX12_areAlike_89 : decode cX12_areAlike 89 = .ok (.iinc 6 1, 3) := by decide +kernel
theorem dX12_areAlike_92 : decode cX12_areAlike 92 = .ok (.goto (-41), 3) := by decide +kernel
theorem dX12_areAlike_95 : decode cX12_areAlike 95 = .ok (.iload 5, 2) := by decide +kernel
theorem dX12_areAlike_97 : decode cX12_areAlike 97 = .ok (.ireturn, 1) := by decide +kernel
theorem dX12_signOf_0 : decode cX12_signOf 0 = .ok (.bipush 7, 2) := by decide +kernel
theorem dX12_signOf_2 : decode cX12_signOf 2 = .ok (.istore_n 1, 1) := by decide +kernel
theorem dX12_signOf_3 : decode cX12_signOf 3 = .ok (.iconst 0, 1) := by decide +kernel
theorem dX12_signOf_4 : decode cX12_signOf 4 = .ok (.istore_n 2, 1) := by decide +kernel
theorem dX12_signOf_5 : decode cX12_signOf 5 = .ok (.iload_n 2, 1) := by decide +kernel
theorem dX12_signOf_6 : decode cX12_signOf 6 = .ok (.iload_n 0, 1) := by decide +kernel
theorem dX12_signOf_7 : decode cX12_signOf 7 = .ok (.if_icmp .ge 21, 3) := by decide +kernel
theorem dX12_signOf_10 : decode cX12_signOf 10 = .ok (.bipush 73, 2) := by decide +kernel
theorem dX12_signOf_12 : decode cX12_signOf 12 = .ok (.iload_n 1, 1) := by decide +kernel
theorem dX12_signOf_13 : decode cX12_signOf 13 = .ok (.imul, 1) := by decide +kernel
theorem dX12_signOf_14 : decode cX12_signOf 14 = .ok (.bipush 29, 2) := by decide +kernel
theorem dX12_signOf_16 : decode cX12_signOf 16 = .ok (.iadd, 1) := by decide +kernel
theorem dX12_signOf_17 : decode cX12_signOf 17 = .ok (.sipush 1009, 3) := by decide +kernel
theorem dX12_signOf_20 : decode cX12_signOf 20 = .ok (.irem, 1) := by decide +kernel
theorem dX12_signOf_21 : decode cX12_signOf 21 = .ok (.istore_n 1, 1) := by decide +kernel
theorem dX12_signOf_22 : decode cX12_signOf 22 = .ok (.iinc 2 1, 3) := by decide +kernel
theorem dX12_signOf_25 : decode cX12_signOf 25 = .ok (.goto (-20), 3) := by decide +kernel
theorem dX12_signOf_28 : decode cX12_signOf 28 = .ok (.iload_n 1, 1) := by decide +kernel
theorem dX12_signOf_29 : decode cX12_signOf 29 = .ok (.ireturn, 1) := by decide +kernel
theorem dX12_mark_0 : decode cX12_mark 0 = .ok (.aload_n 0, 1) := by decide +kernel
theorem dX12_mark_1 : decode cX12_mark 1 = .ok (.iload_n 1, 1) := by decide +kernel
theorem dX12_mark_2 : decode cX12_mark 2 = .ok (.invokevirtual 171, 3) := by decide +kernel
theorem dX12_mark_5 : decode cX12_mark 5 = .ok (.ifCond .ne 5, 3) := by decide +kernel
theorem dX12_mark_8 : decode cX12_mark 8 = .ok (.iconst (-1), 1) := by decide +kernel
theorem dX12_mark_9 : decode cX12_mark 9 = .ok (.ireturn, 1) := by decide +kernel
theorem dX12_mark_10 : decode cX12_mark 10 = .ok (.aload_n 0, 1) := by decide +kernel
theorem dX12_mark_11 : decode cX12_mark 11 = .ok (.iload_n 1, 1) := by decide +kernel
theorem dX12_mark_12 : decode cX12_mark 12 = .ok (.invokevirtual 162, 3) := by decide +kernel
theorem dX12_mark_15 : decode cX12_mark 15 = .ok (.aload_n 0, 1) := by decide +kernel
theorem dX12_mark_16 : decode cX12_mark 16 = .ok (.getfield 151, 3) := by decide +kernel
theorem dX12_mark_19 : decode cX12_mark 19 = .ok (.istore_n 2, 1) := by decide +kernel
theorem dX12_mark_20 : decode cX12_mark 20 = .ok (.iconst 0, 1) := by decide +kernel
theorem dX12_mark_21 : decode cX12_mark 21 = .ok (.istore_n 3, 1) := by decide +kernel
theorem dX12_mark_22 : decode cX12_mark 22 = .ok (.iload_n 3, 1) := by decide +kernel
theorem dX12_mark_23 : decode cX12_mark 23 = .ok (.aload_n 0, 1) := by decide +kernel
theorem dX12_mark_24 : decode cX12_mark 24 = .ok (.getfield 151, 3) := by decide +kernel
theorem dX12_mark_27 : decode cX12_mark 27 = .ok (.if_icmp .ge 144, 3) := by decide +kernel
theorem dX12_mark_30 : decode cX12_mark 30 = .ok (.bipush 31, 2) := by decide +kernel
theorem dX12_mark_32 : decode cX12_mark 32 = .ok (.iload_n 2, 1) := by decide +kernel
theorem dX12_mark_33 : decode cX12_mark 33 = .ok (.imul, 1) := by decide +kernel
theorem dX12_mark_34 : decode cX12_mark 34 = .ok (.aload_n 0, 1) := by decide +kernel
theorem dX12_mark_35 : decode cX12_mark 35 = .ok (.getfield 40, 3) := by decide +kernel
theorem dX12_mark_38 : decode cX12_mark 38 = .ok (.iload_n 3, 1) := by decide +kernel
theorem dX12_mark_39 : decode cX12_mark 39 = .ok (.iaload, 1) := by decide +kernel
theorem dX12_mark_40 : decode cX12_mark 40 = .ok (.aload_n 0, 1) := by decide +kernel
theorem dX12_mark_41 : decode cX12_mark 41 = .ok (.getfield 37, 3) := by decide +kernel
theorem dX12_mark_44 : decode cX12_mark 44 = .ok (.iload_n 3, 1) := by decide +kernel
theorem dX12_mark_45 : decode cX12_mark 45 = .ok (.iaload, 1) := by decide +kernel
theorem dX12_mark_46 : decode cX12_mark 46 = .ok (.isub, 1) := by decide +kernel
theorem dX12_mark_47 : decode cX12_mark 47 = .ok (.iadd, 1) := by decide +kernel
theorem dX12_mark_48 : decode cX12_mark 48 = .ok (.istore_n 2, 1) := by decide +kernel
theorem dX12_mark_49 : decode cX12_mark 49 = .ok (.aload_n 0, 1) := by decide +kernel
theorem dX12_mark_50 : decode cX12_mark 50 = .ok (.getfield 37, 3) := by decide +kernel
theorem dX12_mark_53 : decode cX12_mark 53 = .ok (.iload_n 3, 1) := by decide +kernel
theorem dX12_mark_54 : decode cX12_mark 54 = .ok (.iaload, 1) := by decide +kernel
theorem dX12_mark_55 : decode cX12_mark 55 = .ok (.istore 4, 2) := by decide +kernel
theorem dX12_mark_57 : decode cX12_mark 57 = .ok (.iload 4, 2) := by decide +kernel
theorem dX12_mark_59 : decode cX12_mark 59 = .ok (.aload_n 0, 1) := by decide +kernel
theorem dX12_mark_60 : decode cX12_mark 60 = .ok (.getfield 40, 3) := by decide +kernel
theorem dX12_mark_63 : decode cX12_mark 63 = .ok (.iload_n 3, 1) := by decide +kernel
theorem dX12_mark_64 : decode cX12_mark 64 = .ok (.iaload, 1) := by decide +kernel
theorem dX12_mark_65 : decode cX12_mark 65 = .ok (.if_icmp .ge 35, 3) := by decide +kernel
theorem dX12_mark_68 : decode cX12_mark 68 = .ok (.bipush 31, 2) := by decide +kernel
theorem dX12_mark_70 : decode cX12_mark 70 = .ok (.iload_n 2, 1) := by decide +kernel
theorem dX12_mark_71 : decode cX12_mark 71 = .ok (.imul, 1) := by decide +kernel
theorem dX12_mark_72 : decode cX12_mark 72 = .ok (.aload_n 0, 1) := by decide +kernel
theorem dX12_mark_73 : decode cX12_mark 73 = .ok (.getfield 22, 3) := by decide +kernel
theorem dX12_mark_76 : decode cX12_mark 76 = .ok (.bipush 16, 2) := by decide +kernel
theorem dX12_mark_78 : decode cX12_mark 78 = .ok (.aload_n 0, 1) := by decide +kernel
theorem dX12_mark_79 : decode cX12_mark 79 = .ok (.getfield 13, 3) := by decide +kernel
theorem dX12_mark_82 : decode cX12_mark 82 = .ok (.iload_n 1, 1) := by decide +kernel
theorem dX12_mark_83 : decode cX12_mark 83 = .ok (.iaload, 1) := by decide +kernel
theorem dX12_mark_84 : decode cX12_mark 84 = .ok (.imul, 1) := by decide +kernel
theorem dX12_mark_85 : decode cX12_mark 85 = .ok (.iload 4, 2) := by decide +kernel
theorem dX12_mark_87 : decode cX12_mark 87 = .ok (.iadd, 1) := by decide +kernel
theorem dX12_mark_88 : decode cX12_mark 88 = .ok (.iaload, 1) := by decide +kernel
theorem dX12_mark_89 : decode cX12_mark 89 = .ok (.invokestatic 175, 3) := by decide +kernel
theorem dX12_mark_92 : decode cX12_mark 92 = .ok (.iadd, 1) := by decide +kernel
theorem dX12_mark_93 : decode cX12_mark 93 = .ok (.istore_n 2, 1) := by decide +kernel
theorem dX12_mark_94 : decode cX12_mark 94 = .ok (.iinc 4 1, 3) := by decide +kernel
theorem dX12_mark_97 : decode cX12_mark 97 = .ok (.goto (-40), 3) := by decide +kernel
theorem dX12_mark_100 : decode cX12_mark 100 = .ok (.bipush 31, 2) := by decide +kernel
theorem dX12_mark_102 : decode cX12_mark 102 = .ok (.iload_n 2, 1) := by decide +kernel
theorem dX12_mark_103 : decode cX12_mark 103 = .ok (.imul, 1) := by decide +kernel
theorem dX12_mark_104 : decode cX12_mark 104 = .ok (.aload_n 0, 1) := by decide +kernel
theorem dX12_mark_105 : decode cX12_mark 105 = .ok (.getfield 46, 3) := by decide +kernel
theorem dX12_mark_108 : decode cX12_mark 108 = .ok (.iload_n 3, 1) := by decide +kernel
theorem dX12_mark_109 : decode cX12_mark 109 = .ok (.iaload, 1) := by decide +kernel
theorem dX12_mark_110 : decode cX12_mark 110 = .ok (.aload_n 0, 1) := by decide +kernel
theorem dX12_mark_111 : decode cX12_mark 111 = .ok (.getfield 43, 3) := by decide +kernel
theorem dX12_mark_114 : decode cX12_mark 114 = .ok (.iload_n 3, 1) := by decide +kernel
theorem dX12_mark_115 : decode cX12_mark 115 = .ok (.iaload, 1) := by decide +kernel
theorem dX12_mark_116 : decode cX12_mark 116 = .ok (.isub, 1) := by decide +kernel
theorem dX12_mark_117 : decode cX12_mark 117 = .ok (.iadd, 1) := by decide +kernel
theorem dX12_mark_118 : decode cX12_mark 118 = .ok (.istore_n 2, 1) := by decide +kernel
theorem dX12_mark_119 : decode cX12_mark 119 = .ok (.aload_n 0, 1) := by decide +kernel
theorem dX12_mark_120 : decode cX12_mark 120 = .ok (.getfield 43, 3) := by decide +kernel
theorem dX12_mark_123 : decode cX12_mark 123 = .ok (.iload_n 3, 1) := by decide +kernel
theorem dX12_mark_124 : decode cX12_mark 124 = .ok (.iaload, 1) := by decide +kernel
theorem dX12_mark_125 : decode cX12_mark 125 = .ok (.istore 4, 2) := by decide +kernel
theorem dX12_mark_127 : decode cX12_mark 127 = .ok (.iload 4, 2) := by decide +kernel
theorem dX12_mark_129 : decode cX12_mark 129 = .ok (.aload_n 0, 1) := by decide +kernel
theorem dX12_mark_130 : decode cX12_mark 130 = .ok (.getfield 46, 3) := by decide +kernel
theorem dX12_mark_133 : decode cX12_mark 133 = .ok (.iload_n 3, 1) := by decide +kernel
theorem dX12_mark_134 : decode cX12_mark 134 = .ok (.iaload, 1) := by decide +kernel
theorem dX12_mark_135 : decode cX12_mark 135 = .ok (.if_icmp .ge 30, 3) := by decide +kernel
theorem dX12_mark_138 : decode cX12_mark 138 = .ok (.bipush 31, 2) := by decide +kernel
theorem dX12_mark_140 : decode cX12_mark 140 = .ok (.iload_n 2, 1) := by decide +kernel
theorem dX12_mark_141 : decode cX12_mark 141 = .ok (.imul, 1) := by decide +kernel
theorem dX12_mark_142 : decode cX12_mark 142 = .ok (.aload_n 0, 1) := by decide +kernel
theorem dX12_mark_143 : decode cX12_mark 143 = .ok (.getfield 22, 3) := by decide +kernel
theorem dX12_mark_146 : decode cX12_mark 146 = .ok (.bipush 16, 2) := by decide +kernel
theorem dX12_mark_148 : decode cX12_mark 148 = .ok (.iload_n 1, 1) := by decide +kernel
theorem dX12_mark_149 : decode cX12_mark 149 = .ok (.imul, 1) := by decide +kernel
theorem dX12_mark_150 : decode cX12_mark 150 = .ok (.iload 4, 2) := by decide +kernel
theorem dX12_mark_152 : decode cX12_mark 152 = .ok (.iadd, 1) := by decide +kernel
theorem dX12_mark_153 : decode cX12_mark 153 = .ok (.iaload, 1) := by decide +kernel
theorem dX12_mark_154 : decode cX12_mark 154 = .ok (.invokestatic 175, 3) := by decide +kernel
theorem dX12_mark_157 : decode cX12_mark 157 = .ok (.iadd, 1) := by decide +kernel
theorem dX12_mark_158 : decode cX12_mark 158 = .ok (.istore_n 2, 1) := by decide +kernel
theorem dX12_mark_159 : decode cX12_mark 159 = .ok (.iinc 4 1, 3) := by decide +kernel
theorem dX12_mark_162 : decode cX12_mark 162 = .ok (.goto (-35), 3) := by decide +kernel
theorem dX12_mark_165 : decode cX12_mark 165 = .ok (.iinc 3 1, 3) := by decide +kernel
theorem dX12_mark_168 : decode cX12_mark 168 = .ok (.goto (-146), 3) := by decide +kernel
theorem dX12_mark_171 : decode cX12_mark 171 = .ok (.iload_n 2, 1) := by decide +kernel
theorem dX12_mark_172 : decode cX12_mark 172 = .ok (.ireturn, 1) := by decide +kernel
theorem dX12_alike_0 : decode cX12_alike 0 = .ok (.aload_n 0, 1) := by decide +kernel
theorem dX12_alike_1 : decode cX12_alike 1 = .ok (.iload_n 1, 1) := by decide +kernel
theorem dX12_alike_2 : decode cX12_alike 2 = .ok (.invokevirtual 171, 3) := by decide +kernel
theorem dX12_alike_5 : decode cX12_alike 5 = .ok (.ifCond .eq 11, 3) := by decide +kernel
theorem dX12_alike_8 : decode cX12_alike 8 = .ok (.aload_n 0, 1) := by decide +kernel
theorem dX12_alike_9 : decode cX12_alike 9 = .ok (.iload_n 2, 1) := by decide +kernel
theorem dX12_alike_10 : decode cX12_alike 10 = .ok (.invokevirtual 171, 3) := by decide +kernel
theorem dX12_alike_13 : decode cX12_alike 13 = .ok (.ifCond .ne 5, 3) := by decide +kernel
theorem dX12_alike_16 : decode cX12_alike 16 = .ok (.iconst (-1), 1) := by decide +kernel
theorem dX12_alike_17 : decode cX12_alike 17 = .ok (.ireturn, 1) := by decide +kernel
theorem dX12_alike_18 : decode cX12_alike 18 = .ok (.aload_n 0, 1) := by decide +kernel
theorem dX12_alike_19 : decode cX12_alike 19 = .ok (.iload_n 1, 1) := by decide +kernel
theorem dX12_alike_20 : decode cX12_alike 20 = .ok (.iload_n 2, 1) := by decide +kernel
theorem dX12_alike_21 : decode cX12_alike 21 = .ok (.invokevirtual 179, 3) := by decide +kernel
theorem dX12_alike_24 : decode cX12_alike 24 = .ok (.ifCond .eq 7, 3) := by decide +kernel
theorem dX12_alike_27 : decode cX12_alike 27 = .ok (.iconst 1, 1) := by decide +kernel
theorem dX12_alike_28 : decode cX12_alike 28 = .ok (.goto 4, 3) := by decide +kernel
theorem dX12_alike_31 : decode cX12_alike 31 = .ok (.iconst 0, 1) := by decide +kernel
theorem dX12_alike_32 : decode cX12_alike 32 = .ok (.ireturn, 1) := by decide +kernel
theorem dX12_commit_0 : decode cX12_commit 0 = .ok (.aload_n 0, 1) := by decide +kernel
theorem dX12_commit_1 : decode cX12_commit 1 = .ok (.iconst 0, 1) := by decide +kernel
theorem dX12_commit_2 : decode cX12_commit 2 = .ok (.putfield 122, 3) := by decide +kernel
theorem dX12_commit_5 : decode cX12_commit 5 = .ok (.iload_n 1, 1) := by decide +kernel
theorem dX12_commit_6 : decode cX12_commit 6 = .ok (.invokestatic 183, 3) := by decide +kernel
theorem dX12_commit_9 : decode cX12_commit 9 = .ok (.ifCond .eq 10, 3) := by decide +kernel
theorem dX12_commit_12 : decode cX12_commit 12 = .ok (.iload_n 3, 1) := by decide +kernel
theorem dX12_commit_13 : decode cX12_commit 13 = .ok (.invokestatic 186, 3) := by decide +kernel
theorem dX12_commit_16 : decode cX12_commit 16 = .ok (.ifCond .ne 5, 3) := by decide +kernel
theorem dX12_commit_19 : decode cX12_commit 19 = .ok (.iconst (-1), 1) := by decide +kernel
theorem dX12_commit_20 : decode cX12_commit 20 = .ok (.ireturn, 1) := by decide +kernel
theorem dX12_commit_21 : decode cX12_commit 21 = .ok (.iload_n 2, 1) := by decide +kernel
theorem dX12_commit_22 : decode cX12_commit 22 = .ok (.iconst 0, 1) := by decide +kernel
theorem dX12_commit_23 : decode cX12_commit 23 = .ok (.iconst 2, 1) := by decide +kernel
theorem dX12_commit_24 : decode cX12_commit 24 = .ok (.invokestatic 139, 3) := by decide +kernel
theorem dX12_commit_27 : decode cX12_commit 27 = .ok (.ifCond .ne 6, 3) := by decide +kernel
theorem dX12_commit_30 : decode cX12_commit 30 = .ok (.bipush (-2), 2) := by decide +kernel
theorem dX12_commit_32 : decode cX12_commit 32 = .ok (.ireturn, 1) := by decide +kernel
theorem dX12_commit_33 : decode cX12_commit 33 = .ok (.aload_n 0, 1) := by decide +kernel
theorem dX12_commit_34 : decode cX12_commit 34 = .ok (.getfield 189, 3) := by decide +kernel
theorem dX12_commit_37 : decode cX12_commit 37 = .ok (.ifCond .eq 6, 3) := by decide +kernel
theorem dX12_commit_40 : decode cX12_commit 40 = .ok (.bipush (-3), 2) := by decide +kernel
theorem dX12_commit_42 : decode cX12_commit 42 = .ok (.ireturn, 1) := by decide +kernel
theorem dX12_commit_43 : decode cX12_commit 43 = .ok (.aload_n 0, 1) := by decide +kernel
theorem dX12_commit_44 : decode cX12_commit 44 = .ok (.getfield 100, 3) := by decide +kernel
theorem dX12_commit_47 : decode cX12_commit 47 = .ok (.iload_n 3, 1) := by decide +kernel
theorem dX12_commit_48 : decode cX12_commit 48 = .ok (.iaload, 1) := by decide +kernel
theorem dX12_commit_49 : decode cX12_commit 49 = .ok (.ifCond .le 9, 3) := by decide +kernel
theorem dX12_commit_52 : decode cX12_commit 52 = .ok (.aload_n 0, 1) := by decide +kernel
theorem dX12_commit_53 : decode cX12_commit 53 = .ok (.iconst 2, 1) := by decide +kernel
theorem dX12_commit_54 : decode cX12_commit 54 = .ok (.invokevirtual 192, 3) := by decide +kernel
theorem dX12_commit_57 : decode cX12_commit 57 = .ok (.ireturn, 1) := by decide +kernel
theorem dX12_commit_58 : decode cX12_commit 58 = .ok (.aload_n 0, 1) := by decide +kernel
theorem dX12_commit_59 : decode cX12_commit 59 = .ok (.getfield 100, 3) := by decide +kernel
theorem dX12_commit_62 : decode cX12_commit 62 = .ok (.iload_n 3, 1) := by decide +kernel
theorem dX12_commit_63 : decode cX12_commit 63 = .ok (.iaload, 1) := by decide +kernel
theorem dX12_commit_64 : decode cX12_commit 64 = .ok (.bipush (-9), 2) := by decide +kernel
theorem dX12_commit_66 : decode cX12_commit 66 = .ok (.if_icmp .ne 9, 3) := by decide +kernel
theorem dX12_commit_69 : decode cX12_commit 69 = .ok (.aload_n 0, 1) := by decide +kernel
theorem dX12_commit_70 : decode cX12_commit 70 = .ok (.iconst 1, 1) := by decide +kernel
theorem dX12_commit_71 : decode cX12_commit 71 = .ok (.invokevirtual 192, 3) := by decide +kernel
theorem dX12_commit_74 : decode cX12_commit 74 = .ok (.ireturn, 1) := by decide +kernel
theorem dX12_commit_75 : decode cX12_commit 75 = .ok (.aload_n 0, 1) := by decide +kernel
theorem dX12_commit_76 : decode cX12_commit 76 = .ok (.iload_n 3, 1) := by decide +kernel
theorem dX12_commit_77 : decode cX12_commit 77 = .ok (.bipush 16, 2) := by decide +kernel
theorem dX12_commit_79 : decode cX12_commit 79 = .ok (.invokevirtual 195, 3) := by decide +kernel
theorem dX12_commit_82 : decode cX12_commit 82 = .ok (.ifCond .ne 6, 3) := by decide +kernel
theorem dX12_commit_85 : decode cX12_commit 85 = .ok (.bipush (-2), 2) := by decide +kernel
theorem dX12_commit_87 : decode cX12_commit 87 = .ok (.ireturn, 1) := by decide +kernel
theorem dX12_commit_88 : decode cX12_commit 88 = .ok (.aload_n 0, 1) := by decide +kernel
theorem dX12_commit_89 : decode cX12_commit 89 = .ok (.getfield 129, 3) := by decide +kernel
theorem dX12_commit_92 : decode cX12_commit 92 = .ok (.bipush 24, 2) := by decide +kernel
theorem dX12_commit_94 : decode cX12_commit 94 = .ok (.if_icmp .ne 6, 3) := by decide +kernel
theorem dX12_commit_97 : decode cX12_commit 97 = .ok (.bipush (-4), 2) := by decide +kernel
theorem dX12_commit_99 : decode cX12_commit 99 = .ok (.ireturn, 1) := by decide +kernel
theorem dX12_commit_100 : decode cX12_commit 100 = .ok (.aload_n 0, 1) := by decide +kernel
theorem dX12_commit_101 : decode cX12_commit 101 = .ok (.iload_n 2, 1) := by decide +kernel
theorem dX12_commit_102 : decode cX12_commit 102 = .ok (.aload_n 0, 1) := by decide +kernel
theorem dX12_commit_103 : decode cX12_commit 103 = .ok (.getfield 28, 3) := by decide +kernel
theorem dX12_commit_106 : decode cX12_commit 106 = .ok (.iload_n 1, 1) := by decide +kernel
theorem dX12_commit_107 : decode cX12_commit 107 = .ok (.iaload, 1) := by decide +kernel
theorem dX12_commit_108 : decode cX12_commit 108 = .ok (.bipush (-9), 2) := by decide +kernel
theorem dX12_commit_110 : decode cX12_commit 110 = .ok (.invokevirtual 118, 3) := by decide +kernel
theorem dX12_commit_113 : decode cX12_commit 113 = .ok (.istore 4, 2) := by decide +kernel
theorem dX12_commit_115 : decode cX12_commit 115 = .ok (.aload_n 0, 1) := by decide +kernel
theorem dX12_commit_116 : decode cX12_commit 116 = .ok (.getfield 25, 3) := by decide +kernel
theorem dX12_commit_119 : decode cX12_commit 119 = .ok (.iload 4, 2) := by decide +kernel
theorem dX12_commit_121 : decode cX12_commit 121 = .ok (.aload_n 0, 1) := by decide +kernel
theorem dX12_commit_122 : decode cX12_commit 122 = .ok (.getfield 103, 3) := by decide +kernel
theorem dX12_commit_125 : decode cX12_commit 125 = .ok (.iload_n 3, 1) := by decide +kernel
theorem dX12_commit_126 : decode cX12_commit 126 = .ok (.iaload, 1) := by decide +kernel
theorem dX12_commit_127 : decode cX12_commit 127 = .ok (.iastore, 1) := by decide +kernel
theorem dX12_commit_128 : decode cX12_commit 128 = .ok (.iconst 0, 1) := by decide +kernel
theorem dX12_commit_129 : decode cX12_commit 129 = .ok (.istore 5, 2) := by decide +kernel
theorem dX12_commit_131 : decode cX12_commit 131 = .ok (.iload 5, 2) := by decide +kernel
theorem dX12_commit_133 : decode cX12_commit 133 = .ok (.aload_n 0, 1) := by decide +kernel
theorem dX12_commit_134 : decode cX12_commit 134 = .ok (.getfield 25, 3) := by decide +kernel
theorem dX12_commit_137 : decode cX12_commit 137 = .ok (.iload 4, 2) := by decide +kernel
theorem dX12_commit_139 : decode cX12_commit 139 = .ok (.iaload, 1) := by decide +kernel
theorem dX12_commit_140 : decode cX12_commit 140 = .ok (.if_icmp .ge 34, 3) := by decide +kernel
theorem dX12_commit_143 : decode cX12_commit 143 = .ok (.aload_n 0, 1) := by decide +kernel
theorem dX12_commit_144 : decode cX12_commit 144 = .ok (.getfield 22, 3) := by decide +kernel
theorem dX12_commit_147 : decode cX12_commit 147 = .ok (.bipush 16, 2) := by decide +kernel
theorem dX12_commit_149 : decode cX12_commit 149 = .ok (.iload 4, 2) := by decide +kernel
theorem dX12_commit_151 : decode cX12_commit 151 = .ok (.imul, 1) := by decide +kernel
theorem dX12_commit_152 : decode cX12_commit 152 = .ok (.iload 5, 2) := by decide +kernel
theorem dX12_commit_154 : decode cX12_commit 154 = .ok (.iadd, 1) := by decide +kernel
theorem dX12_commit_155 : decode cX12_commit 155 = .ok (.aload_n 0, 1) := by decide +kernel
theorem dX12_commit_156 : decode cX12_commit 156 = .ok (.getfield 106, 3) := by decide +kernel
theorem dX12_commit_159 : decode cX12_commit 159 = .ok (.bipush 24, 2) := by decide +kernel
theorem dX12_commit_161 : decode cX12_commit 161 = .ok (.iload_n 3, 1) := by decide +kernel
theorem dX12_commit_162 : decode cX12_commit 162 = .ok (.imul, 1) := by decide +kernel
theorem dX12_commit_163 : decode cX12_commit 163 = .ok (.iload 5, 2) := by decide +kernel
theorem dX12_commit_165 : decode cX12_commit 165 = .ok (.iadd, 1) := by decide +kernel
theorem dX12_commit_166 : decode cX12_commit 166 = .ok (.iaload, 1) := by decide +kernel
theorem dX12_commit_167 : decode cX12_commit 167 = .ok (.iastore, 1) := by decide +kernel
theorem dX12_commit_168 : decode cX12_commit 168 = .ok (.iinc 5 1, 3) := by decide +kernel
theorem dX12_commit_171 : decode cX12_commit 171 = .ok (.goto (-40), 3) := by decide +kernel
theorem dX12_commit_174 : decode cX12_commit 174 = .ok (.aload_n 0, 1) := by decide +kernel
theorem dX12_commit_175 : decode cX12_commit 175 = .ok (.getfield 28, 3) := by decide +kernel
theorem dX12_commit_178 : decode cX12_commit 178 = .ok (.iload_n 1, 1) := by decide +kernel
theorem dX12_commit_179 : decode cX12_commit 179 = .ok (.iload 4, 2) := by decide +kernel
theorem dX12_commit_181 : decode cX12_commit 181 = .ok (.iastore, 1) := by decide +kernel
theorem dX12_commit_182 : decode cX12_commit 182 = .ok (.iload 4, 2) := by decide +kernel
theorem dX12_commit_184 : decode cX12_commit 184 = .ok (.ireturn, 1) := by decide +kernel
theorem dX12_areLines_0 : decode cX12_areLines 0 = .ok (.aload_n 0, 1) := by decide +kernel
theorem dX12_areLines_1 : decode cX12_areLines 1 = .ok (.getfield 103, 3) := by decide +kernel
theorem dX12_areLines_4 : decode cX12_areLines 4 = .ok (.iload_n 1, 1) := by decide +kernel
theorem dX12_areLines_5 : decode cX12_areLines 5 = .ok (.iaload, 1) := by decide +kernel
theorem dX12_areLines_6 : decode cX12_areLines 6 = .ok (.iload_n 2, 1) := by decide +kernel
theorem dX12_areLines_7 : decode cX12_areLines 7 = .ok (.if_icmp .gt 7, 3) := by decide +kernel
theorem dX12_areLines_10 : decode cX12_areLines 10 = .ok (.iconst 1, 1) := by decide +kernel
theorem dX12_areLines_11 : decode cX12_areLines 11 = .ok (.goto 4, 3) := by decide +kernel
theorem dX12_areLines_14 : decode cX12_areLines 14 = .ok (.iconst 0, 1) := by decide +kernel
theorem dX12_areLines_15 : decode cX12_areLines 15 = .ok (.istore_n 3, 1) := by decide +kernel
theorem dX12_areLines_16 : decode cX12_areLines 16 = .ok (.iconst 0, 1) := by decide +kernel
theorem dX12_areLines_17 : decode cX12_areLines 17 = .ok (.istore 4, 2) := by decide +kernel
theorem dX12_areLines_19 : decode cX12_areLines 19 = .ok (.iload 4, 2) := by decide +kernel
theorem dX12_areLines_21 : decode cX12_areLines 21 = .ok (.aload_n 0, 1) := by decide +kernel
theorem dX12_areLines_22 : decode cX12_areLines 22 = .ok (.getfield 103, 3) := by decide +kernel
theorem dX12_areLines_25 : decode cX12_areLines 25 = .ok (.iload_n 1, 1) := by decide +kernel
theorem dX12_areLines_26 : decode cX12_areLines 26 = .ok (.iaload, 1) := by decide +kernel
theorem dX12_areLines_27 : decode cX12_areLines 27 = .ok (.if_icmp .ge 40, 3) := by decide +kernel
theorem dX12_areLines_30 : decode cX12_areLines 30 = .ok (.iload_n 3, 1) := by decide +kernel
theorem dX12_areLines_31 : decode cX12_areLines 31 = .ok (.ifCond .eq 28, 3) := by decide +kernel
theorem dX12_areLines_34 : decode cX12_areLines 34 = .ok (.aload_n 0, 1) := by decide +kernel
theorem dX12_areLines_35 : decode cX12_areLines 35 = .ok (.getfield 106, 3) := by decide +kernel
theorem dX12_areLines_38 : decode cX12_areLines 38 = .ok (.bipush 24, 2) := by decide +kernel
theorem dX12_areLines_40 : decode cX12_areLines 40 = .ok (.iload_n 1, 1) := by decide +kernel
theorem dX12_areLines_41 : decode cX12_areLines 41 = .ok (.imul, 1) := by decide +kernel
theorem dX12_areLines_42 : decode cX12_areLines 42 = .ok (.iload 4, 2) := by decide +kernel
theorem dX12_areLines_44 : decode cX12_areLines 44 = .ok (.iadd, 1) := by decide +kernel
theorem dX12_areLines_45 : decode cX12_areLines 45 = .ok (.iaload, 1) := by decide +kernel
theorem dX12_areLines_46 : decode cX12_areLines 46 = .ok (.iconst 0, 1) := by decide +kernel
theorem dX12_areLines_47 : decode cX12_areLines 47 = .ok (.bipush 99, 2) := by decide +kernel
theorem dX12_areLines_49 : decode cX12_areLines 49 = .ok (.invokestatic 139, 3) := by decide +kernel
theorem dX12_areLines_52 : decode cX12_areLines 52 = .ok (.ifCond .eq 7, 3) := by decide +kernel
theorem dX12_areLines_55 : decode cX12_areLines 55 = .ok (.iconst 1, 1) := by decide +kernel
theorem dX12_areLines_56 : decode cX12_areLines 56 = .ok (.goto 4, 3) := by decide +kernel
theorem dX12_areLines_59 : decode cX12_areLines 59 = .ok (.iconst 0, 1) := by decide +kernel
theorem dX12_areLines_60 : decode cX12_areLines 60 = .ok (.istore_n 3, 1) := by decide +kernel
theorem dX12_areLines_61 : decode cX12_areLines 61 = .ok (.iinc 4 1, 3) := by decide +kernel
theorem dX12_areLines_64 : decode cX12_areLines 64 = .ok (.goto (-45), 3) := by decide +kernel
theorem dX12_areLines_67 : decode cX12_areLines 67 = .ok (.iload_n 3, 1) := by decide +kernel
theorem dX12_areLines_68 : decode cX12_areLines 68 = .ok (.ireturn, 1) := by decide +kernel
theorem dX12_ofCommit_0 : decode cX12_ofCommit 0 = .ok (.aload_n 0, 1) := by decide +kernel
theorem dX12_ofCommit_1 : decode cX12_ofCommit 1 = .ok (.iload_n 1, 1) := by decide +kernel
theorem dX12_ofCommit_2 : decode cX12_ofCommit 2 = .ok (.invokevirtual 171, 3) := by decide +kernel
theorem dX12_ofCommit_5 : decode cX12_ofCommit 5 = .ok (.ifCond .ne 5, 3) := by decide +kernel
theorem dX12_ofCommit_8 : decode cX12_ofCommit 8 = .ok (.iconst (-1), 1) := by decide +kernel
theorem dX12_ofCommit_9 : decode cX12_ofCommit 9 = .ok (.ireturn, 1) := by decide +kernel
theorem dX12_ofCommit_10 : decode cX12_ofCommit 10 = .ok (.iload_n 2, 1) := by decide +kernel
theorem dX12_ofCommit_11 : decode cX12_ofCommit 11 = .ok (.bipush 10, 2) := by decide +kernel
theorem dX12_ofCommit_13 : decode cX12_ofCommit 13 = .ok (.bipush 25, 2) := by decide +kernel
theorem dX12_ofCommit_15 : decode cX12_ofCommit 15 = .ok (.invokestatic 139, 3) := by decide +kernel
theorem dX12_ofCommit_18 : decode cX12_ofCommit 18 = .ok (.ifCond .eq 36, 3) := by decide +kernel
theorem dX12_ofCommit_21 : decode cX12_ofCommit 21 = .ok (.iload_n 2, 1) := by decide +kernel
theorem dX12_ofCommit_22 : decode cX12_ofCommit 22 = .ok (.bipush 10, 2) := by decide +kernel
theorem dX12_ofCommit_24 : decode cX12_ofCommit 24 = .ok (.isub, 1) := by decide +kernel
theorem dX12_ofCommit_25 : decode cX12_ofCommit 25 = .ok (.aload_n 0, 1) := by decide +kernel
theorem dX12_ofCommit_26 : decode cX12_ofCommit 26 = .ok (.getfield 25, 3) := by decide +kernel
theorem dX12_ofCommit_29 : decode cX12_ofCommit 29 = .ok (.iload_n 1, 1) := by decide +kernel
theorem dX12_ofCommit_30 : decode cX12_ofCommit 30 = .ok (.iaload, 1) := by decide +kernel
theorem dX12_ofCommit_31 : decode cX12_ofCommit 31 = .ok (.if_icmp .ge 20, 3) := by decide +kernel
theorem dX12_ofCommit_34 : decode cX12_ofCommit 34 = .ok (.aload_n 0, 1) := by decide +kernel
theorem dX12_ofCommit_35 : decode cX12_ofCommit 35 = .ok (.getfield 22, 3) := by decide +kernel
theorem dX12_ofCommit_38 : decode cX12_ofCommit 38 = .ok (.bipush 16, 2) := by decide +kernel
theorem dX12_ofCommit_40 : decode cX12_ofCommit 40 = .ok (.iload_n 1, 1) := by decide +kernel
theorem dX12_ofCommit_41 : decode cX12_ofCommit 41 = .ok (.imul, 1) := by decide +kernel
theorem dX12_ofCommit_42 : decode cX12_ofCommit 42 = .ok (.iload_n 2, 1) := by decide +kernel
theorem dX12_ofCommit_43 : decode cX12_ofCommit 43 = .ok (.iadd, 1) := by decide +kernel
theorem dX12_ofCommit_44 : decode cX12_ofCommit 44 = .ok (.bipush 10, 2) := by decide +kernel
theorem dX12_ofCommit_46 : decode cX12_ofCommit 46 = .ok (.isub, 1) := by decide +kernel
theorem dX12_ofCommit_47 : decode cX12_ofCommit 47 = .ok (.iaload, 1) := by decide +kernel
theorem dX12_ofCommit_48 : decode cX12_ofCommit 48 = .ok (.goto 5, 3) := by decide +kernel
theorem dX12_ofCommit_51 : decode cX12_ofCommit 51 = .ok (.bipush (-9), 2) := by decide +kernel
theorem dX12_ofCommit_53 : decode cX12_ofCommit 53 = .ok (.ireturn, 1) := by decide +kernel
theorem dX12_ofCommit_54 : decode cX12_ofCommit 54 = .ok (.iload_n 2, 1) := by decide +kernel
theorem dX12_ofCommit_55 : decode cX12_ofCommit 55 = .ok (.tableswitch 81 0 5 #[37, 44, 51, 58, 68, 74], 37) := by decide +kernel
theorem dX12_ofCommit_92 : decode cX12_ofCommit 92 = .ok (.aload_n 0, 1) := by decide +kernel
theorem dX12_ofCommit_93 : decode cX12_ofCommit 93 = .ok (.getfield 7, 3) := by decide +kernel
theorem dX12_ofCommit_96 : decode cX12_ofCommit 96 = .ok (.iload_n 1, 1) := by decide +kernel
theorem dX12_ofCommit_97 : decode cX12_ofCommit 97 = .ok (.iaload, 1) := by decide +kernel
theorem dX12_ofCommit_98 : decode cX12_ofCommit 98 = .ok (.ireturn, 1) := by decide +kernel
theorem dX12_ofCommit_99 : decode cX12_ofCommit 99 = .ok (.aload_n 0, 1) := by decide +kernel
theorem dX12_ofCommit_100 : decode cX12_ofCommit 100 = .ok (.getfield 13, 3) := by decide +kernel
theorem dX12_ofCommit_103 : decode cX12_ofCommit 103 = .ok (.iload_n 1, 1) := by decide +kernel
theorem dX12_ofCommit_104 : decode cX12_ofCommit 104 = .ok (.iaload, 1) := by decide +kernel
theorem dX12_ofCommit_105 : decode cX12_ofCommit 105 = .ok (.ireturn, 1) := by decide +kernel
theorem dX12_ofCommit_106 : decode cX12_ofCommit 106 = .ok (.aload_n 0, 1) := by decide +kernel
theorem dX12_ofCommit_107 : decode cX12_ofCommit 107 = .ok (.getfield 25, 3) := by decide +kernel
theorem dX12_ofCommit_110 : decode cX12_ofCommit 110 = .ok (.iload_n 1, 1) := by decide +kernel
theorem dX12_ofCommit_111 : decode cX12_ofCommit 111 = .ok (.iaload, 1) := by decide +kernel
theorem dX12_ofCommit_112 : decode cX12_ofCommit 112 = .ok (.ireturn, 1) := by decide +kernel
theorem dX12_ofCommit_113 : decode cX12_ofCommit 113 = .ok (.aload_n 0, 1) := by decide +kernel
theorem dX12_ofCommit_114 : decode cX12_ofCommit 114 = .ok (.iload_n 1, 1) := by decide +kernel
theorem dX12_ofCommit_115 : decode cX12_ofCommit 115 = .ok (.invokevirtual 162, 3) := by decide +kernel
theorem dX12_ofCommit_118 : decode cX12_ofCommit 118 = .ok (.aload_n 0, 1) := by decide +kernel
theorem dX12_ofCommit_119 : decode cX12_ofCommit 119 = .ok (.getfield 151, 3) := by decide +kernel
theorem dX12_ofCommit_122 : decode cX12_ofCommit 122 = .ok (.ireturn, 1) := by decide +kernel
theorem dX12_ofCommit_123 : decode cX12_ofCommit 123 = .ok (.aload_n 0, 1) := by decide +kernel
theorem dX12_ofCommit_124 : decode cX12_ofCommit 124 = .ok (.iload_n 1, 1) := by decide +kernel
theorem dX12_ofCommit_125 : decode cX12_ofCommit 125 = .ok (.invokevirtual 198, 3) := by decide +kernel
theorem dX12_ofCommit_128 : decode cX12_ofCommit 128 = .ok (.ireturn, 1) := by decide +kernel
theorem dX12_ofCommit_129 : decode cX12_ofCommit 129 = .ok (.aload_n 0, 1) := by decide +kernel
theorem dX12_ofCommit_130 : decode cX12_ofCommit 130 = .ok (.getfield 16, 3) := by decide +kernel
theorem dX12_ofCommit_133 : decode cX12_ofCommit 133 = .ok (.iload_n 1, 1) := by decide +kernel
theorem dX12_ofCommit_134 : decode cX12_ofCommit 134 = .ok (.iaload, 1) := by decide +kernel
theorem dX12_ofCommit_135 : decode cX12_ofCommit 135 = .ok (.ireturn, 1) := by decide +kernel
theorem dX12_ofCommit_136 : decode cX12_ofCommit 136 = .ok (.bipush (-2), 2) := by decide +kernel
theorem dX12_ofCommit_138 : decode cX12_ofCommit 138 = .ok (.ireturn, 1) := by decide +kernel
theorem dX12_piece_0 : decode cX12_piece 0 = .ok (.aload_n 0, 1) := by decide +kernel
theorem dX12_piece_1 : decode cX12_piece 1 = .ok (.iload_n 1, 1) := by decide +kernel
theorem dX12_piece_2 : decode cX12_piece 2 = .ok (.invokevirtual 171, 3) := by decide +kernel
theorem dX12_piece_5 : decode cX12_piece 5 = .ok (.ifCond .ne 5, 3) := by decide +kernel
theorem dX12_piece_8 : decode cX12_piece 8 = .ok (.iconst (-1), 1) := by decide +kernel
theorem dX12_piece_9 : decode cX12_piece 9 = .ok (.ireturn, 1) := by decide +kernel
theorem dX12_piece_10 : decode cX12_piece 10 = .ok (.aload_n 0, 1) := by decide +kernel
theorem dX12_piece_11 : decode cX12_piece 11 = .ok (.iload_n 1, 1) := by decide +kernel
theorem dX12_piece_12 : decode cX12_piece 12 = .ok (.invokevirtual 162, 3) := by decide +kernel
theorem dX12_piece_15 : decode cX12_piece 15 = .ok (.iload_n 2, 1) := by decide +kernel
theorem dX12_piece_16 : decode cX12_piece 16 = .ok (.iconst 0, 1) := by decide +kernel
theorem dX12_piece_17 : decode cX12_piece 17 = .ok (.aload_n 0, 1) := by decide +kernel
theorem dX12_piece_18 : decode cX12_piece 18 = .ok (.getfield 151, 3) := by decide +kernel
theorem dX12_piece_21 : decode cX12_piece 21 = .ok (.iconst 1, 1) := by decide +kernel
theorem dX12_piece_22 : decode cX12_piece 22 = .ok (.isub, 1) := by decide +kernel
theorem dX12_piece_23 : decode cX12_piece 23 = .ok (.invokestatic 139, 3) := by decide +kernel
theorem dX12_piece_26 : decode cX12_piece 26 = .ok (.ifCond .ne 5, 3) := by decide +kernel
theorem dX12_piece_29 : decode cX12_piece 29 = .ok (.iconst (-1), 1) := by decide +kernel
theorem dX12_piece_30 : decode cX12_piece 30 = .ok (.ireturn, 1) := by decide +kernel
theorem dX12_piece_31 : decode cX12_piece 31 = .ok (.aload_n 0, 1) := by decide +kernel
theorem dX12_piece_32 : decode cX12_piece 32 = .ok (.getfield 40, 3) := by decide +kernel
theorem dX12_piece_35 : decode cX12_piece 35 = .ok (.iload_n 2, 1) := by decide +kernel
theorem dX12_piece_36 : decode cX12_piece 36 = .ok (.iaload, 1) := by decide +kernel
theorem dX12_piece_37 : decode cX12_piece 37 = .ok (.aload_n 0, 1) := by decide +kernel
theorem dX12_piece_38 : decode cX12_piece 38 = .ok (.getfield 37, 3) := by decide +kernel
theorem dX12_piece_41 : decode cX12_piece 41 = .ok (.iload_n 2, 1) := by decide +kernel
theorem dX12_piece_42 : decode cX12_piece 42 = .ok (.iaload, 1) := by decide +kernel
theorem dX12_piece_43 : decode cX12_piece 43 = .ok (.isub, 1) := by decide +kernel
theorem dX12_piece_44 : decode cX12_piece 44 = .ok (.istore 4, 2) := by decide +kernel
theorem dX12_piece_46 : decode cX12_piece 46 = .ok (.aload_n 0, 1) := by decide +kernel
theorem dX12_piece_47 : decode cX12_piece 47 = .ok (.getfield 46, 3) := by decide +kernel
theorem dX12_piece_50 : decode cX12_piece 50 = .ok (.iload_n 2, 1) := by decide +kernel
theorem dX12_piece_51 : decode cX12_piece 51 = .ok (.iaload, 1) := by decide +kernel
theorem dX12_piece_52 : decode cX12_piece 52 = .ok (.aload_n 0, 1) := by decide +kernel
theorem dX12_piece_53 : decode cX12_piece 53 = .ok (.getfield 43, 3) := by decide +kernel
theorem dX12_piece_56 : decode cX12_piece 56 = .ok (.iload_n 2, 1) := by decide +kernel
theorem dX12_piece_57 : decode cX12_piece 57 = .ok (.iaload, 1) := by decide +kernel
theorem dX12_piece_58 : decode cX12_piece 58 = .ok (.isub, 1) := by decide +kernel
theorem dX12_piece_59 : decode cX12_piece 59 = .ok (.istore 5, 2) := by decide +kernel
theorem dX12_piece_61 : decode cX12_piece 61 = .ok (.iload_n 3, 1) := by decide +kernel
theorem dX12_piece_62 : decode cX12_piece 62 = .ok (.bipush 10, 2) := by decide +kernel
theorem dX12_piece_64 : decode cX12_piece 64 = .ok (.bipush 25, 2) := by decide +kernel
theorem dX12_piece_66 : decode cX12_piece 66 = .ok (.invokestatic 139, 3) := by decide +kernel
theorem dX12_piece_69 : decode cX12_piece 69 = .ok (.ifCond .eq 44, 3) := by decide +kernel
theorem dX12_piece_72 : decode cX12_piece 72 = .ok (.iload_n 3, 1) := by decide +kernel
theorem dX12_piece_73 : decode cX12_piece 73 = .ok (.bipush 10, 2) := by decide +kernel
theorem dX12_piece_75 : decode cX12_piece 75 = .ok (.isub, 1) := by decide +kernel
theorem dX12_piece_76 : decode cX12_piece 76 = .ok (.iload 4, 2) := by decide +kernel
theorem dX12_piece_78 : decode cX12_piece 78 = .ok (.if_icmp .ge 32, 3) := by decide +kernel
theorem dX12_piece_81 : decode cX12_piece 81 = .ok (.aload_n 0, 1) := by decide +kernel
theorem dX12_piece_82 : decode cX12_piece 82 = .ok (.getfield 22, 3) := by decide +kernel
theorem dX12_piece_85 : decode cX12_piece 85 = .ok (.bipush 16, 2) := by decide +kernel
theorem dX12_piece_87 : decode cX12_piece 87 = .ok (.aload_n 0, 1) := by decide +kernel
theorem dX12_piece_88 : decode cX12_piece 88 = .ok (.getfield 13, 3) := by decide +kernel
theorem dX12_piece_91 : decode cX12_piece 91 = .ok (.iload_n 1, 1) := by decide +kernel
theorem dX12_piece_92 : decode cX12_piece 92 = .ok (.iaload, 1) := by decide +kernel
theorem dX12_piece_93 : decode cX12_piece 93 = .ok (.imul, 1) := by decide +kernel
theorem dX12_piece_94 : decode cX12_piece 94 = .ok (.aload_n 0, 1) := by decide +kernel
theorem dX12_piece_95 : decode cX12_piece 95 = .ok (.getfield 37, 3) := by decide +kernel
theorem dX12_piece_98 : decode cX12_piece 98 = .ok (.iload_n 2, 1) := by decide +kernel
theorem dX12_piece_99 : decode cX12_piece 99 = .ok (.iaload, 1) := by decide +kernel
theorem dX12_piece_100 : decode cX12_piece 100 = .ok (.iadd, 1) := by decide +kernel
theorem dX12_piece_101 : decode cX12_piece 101 = .ok (.iload_n 3, 1) := by decide +kernel
theorem dX12_piece_102 : decode cX12_piece 102 = .ok (.iadd, 1) := by decide +kernel
theorem dX12_piece_103 : decode cX12_piece 103 = .ok (.bipush 10, 2) := by decide +kernel
theorem dX12_piece_105 : decode cX12_piece 105 = .ok (.isub, 1) := by decide +kernel
theorem dX12_piece_106 : decode cX12_piece 106 = .ok (.iaload, 1) := by decide +kernel
theorem dX12_piece_107 : decode cX12_piece 107 = .ok (.goto 5, 3) := by decide +kernel
theorem dX12_piece_110 : decode cX12_piece 110 = .ok (.bipush (-9), 2) := by decide +kernel
theorem dX12_piece_112 : decode cX12_piece 112 = .ok (.ireturn, 1) := by decide +kernel
theorem dX12_piece_113 : decode cX12_piece 113 = .ok (.iload_n 3, 1) := by decide +kernel
theorem dX12_piece_114 : decode cX12_piece 114 = .ok (.bipush 30, 2) := by decide +kernel
theorem dX12_piece_116 : decode cX12_piece 116 = .ok (.bipush 45, 2) := by decide +kernel
theorem dX12_piece_118 : decode cX12_piece 118 = .ok (.invokestatic 139, 3) := by decide +kernel
theorem dX12_piece_121 : decode cX12_piece 121 = .ok (.ifCond .eq 39, 3) := by decide +kernel
theorem dX12_piece_124 : decode cX12_piece 124 = .ok (.iload_n 3, 1) := by decide +kernel
theorem dX12_piece_125 : decode cX12_piece 125 = .ok (.bipush 30, 2) := by decide +kernel
theorem dX12_piece_127 : decode cX12_piece 127 = .ok (.isub, 1) := by decide +kernel
theorem dX12_piece_128 : decode cX12_piece 128 = .ok (.iload 5, 2) := by decide +kernel
theorem dX12_piece_130 : decode cX12_piece 130 = .ok (.if_icmp .ge 27, 3) := by decide +kernel
theorem dX12_piece_133 : decode cX12_piece 133 = .ok (.aload_n 0, 1) := by decide +kernel
theorem dX12_piece_134 : decode cX12_piece 134 = .ok (.getfield 22, 3) := by decide +kernel
theorem dX12_piece_137 : decode cX12_piece 137 = .ok (.bipush 16, 2) := by decide +kernel
theorem dX12_piece_139 : decode cX12_piece 139 = .ok (.iload_n 1, 1) := by decide +kernel
theorem dX12_piece_140 : decode cX12_piece 140 = .ok (.imul, 1) := by decide +kernel
theorem dX12_piece_141 : decode cX12_piece 141 = .ok (.aload_n 0, 1) := by decide +kernel
theorem dX12_piece_142 : decode cX12_piece 142 = .ok (.getfield 43, 3) := by decide +kernel
theorem dX12_piece_145 : decode cX12_piece 145 = .ok (.iload_n 2, 1) := by decide +kernel
theorem dX12_piece_146 : decode cX12_piece 146 = .ok (.iaload, 1) := by decide +kernel
theorem dX12_piece_147 : decode cX12_piece 147 = .ok (.iadd, 1) := by decide +kernel
theorem dX12_piece_148 : decode cX12_piece 148 = .ok (.iload_n 3, 1) := by decide +kernel
theorem dX12_piece_149 : decode cX12_piece 149 = .ok (.iadd, 1) := by decide +kernel
theorem dX12_piece_150 : decode cX12_piece 150 = .ok (.bipush 30, 2) := by decide +kernel
theorem dX12_piece_152 : decode cX12_piece 152 = .ok (.isub, 1) := by decide +kernel
theorem dX12_piece_153 : decode cX12_piece 153 = .ok (.iaload, 1) := by decide +kernel
theorem dX12_piece_154 : decode cX12_piece 154 = .ok (.goto 5, 3) := by decide +kernel
theorem dX12_piece_157 : decode cX12_piece 157 = .ok (.bipush (-9), 2) := by decide +kernel
theorem dX12_piece_159 : decode cX12_piece 159 = .ok (.ireturn, 1) := by decide +kernel
theorem dX12_piece_160 : decode cX12_piece 160 = .ok (.iload_n 3, 1) := by decide +kernel
theorem dX12_piece_161 : decode cX12_piece 161 = .ok (.ifCond .ne 8, 3) := by decide +kernel
theorem dX12_piece_164 : decode cX12_piece 164 = .ok (.iload 4, 2) := by decide +kernel
theorem dX12_piece_166 : decode cX12_piece 166 = .ok (.goto 15, 3) := by decide +kernel
theorem dX12_piece_169 : decode cX12_piece 169 = .ok (.iload_n 3, 1) := by decide +kernel
theorem dX12_piece_170 : decode cX12_piece 170 = .ok (.iconst 1, 1) := by decide +kernel
theorem dX12_piece_171 : decode cX12_piece 171 = .ok (.if_icmp .ne 8, 3) := by decide +kernel
theorem dX12_piece_174 : decode cX12_piece 174 = .ok (.iload 5, 2) := by decide +kernel
theorem dX12_piece_176 : decode cX12_piece 176 = .ok (.goto 5, 3) := by decide +kernel
theorem dX12_piece_179 : decode cX12_piece 179 = .ok (.bipush (-2), 2) := by decide +kernel
theorem dX12_piece_181 : decode cX12_piece 181 = .ok (.ireturn, 1) := by decide +kernel
theorem dX12_fork_0 : decode cX12_fork 0 = .ok (.aload_n 0, 1) := by decide +kernel
theorem dX12_fork_1 : decode cX12_fork 1 = .ok (.iload_n 1, 1) := by decide +kernel
theorem dX12_fork_2 : decode cX12_fork 2 = .ok (.invokevirtual 171, 3) := by decide +kernel
theorem dX12_fork_5 : decode cX12_fork 5 = .ok (.ifCond .eq 11, 3) := by decide +kernel
theorem dX12_fork_8 : decode cX12_fork 8 = .ok (.aload_n 0, 1) := by decide +kernel
theorem dX12_fork_9 : decode cX12_fork 9 = .ok (.iload_n 2, 1) := by decide +kernel
theorem dX12_fork_10 : decode cX12_fork 10 = .ok (.invokevirtual 171, 3) := by decide +kernel
theorem dX12_fork_13 : decode cX12_fork 13 = .ok (.ifCond .ne 5, 3) := by decide +kernel
theorem dX12_fork_16 : decode cX12_fork 16 = .ok (.iconst (-1), 1) := by decide +kernel
theorem dX12_fork_17 : decode cX12_fork 17 = .ok (.ireturn, 1) := by decide +kernel
theorem dX12_fork_18 : decode cX12_fork 18 = .ok (.iload_n 1, 1) := by decide +kernel
theorem dX12_fork_19 : decode cX12_fork 19 = .ok (.istore_n 3, 1) := by decide +kernel
theorem dX12_fork_20 : decode cX12_fork 20 = .ok (.aload_n 0, 1) := by decide +kernel
theorem dX12_fork_21 : decode cX12_fork 21 = .ok (.iload_n 3, 1) := by decide +kernel
theorem dX12_fork_22 : decode cX12_fork 22 = .ok (.iload_n 2, 1) := by decide +kernel
theorem dX12_fork_23 : decode cX12_fork 23 = .ok (.invokevirtual 201, 3) := by decide +kernel
theorem dX12_fork_26 : decode cX12_fork 26 = .ok (.ifCond .ne 13, 3) := by decide +kernel
theorem dX12_fork_29 : decode cX12_fork 29 = .ok (.aload_n 0, 1) := by decide +kernel
theorem dX12_fork_30 : decode cX12_fork 30 = .ok (.getfield 13, 3) := by decide +kernel
theorem dX12_fork_33 : decode cX12_fork 33 = .ok (.iload_n 3, 1) := by decide +kernel
theorem dX12_fork_34 : decode cX12_fork 34 = .ok (.iaload, 1) := by decide +kernel
theorem dX12_fork_35 : decode cX12_fork 35 = .ok (.istore_n 3, 1) := by decide +kernel
theorem dX12_fork_36 : decode cX12_fork 36 = .ok (.goto (-16), 3) := by decide +kernel
theorem dX12_fork_39 : decode cX12_fork 39 = .ok (.iload_n 3, 1) := by decide +kernel
theorem dX12_fork_40 : decode cX12_fork 40 = .ok (.ireturn, 1) := by decide +kernel
theorem dX12_ahead_0 : decode cX12_ahead 0 = .ok (.aload_n 0, 1) := by decide +kernel
theorem dX12_ahead_1 : decode cX12_ahead 1 = .ok (.iload_n 1, 1) := by decide +kernel
theorem dX12_ahead_2 : decode cX12_ahead 2 = .ok (.invokevirtual 171, 3) := by decide +kernel
theorem dX12_ahead_5 : decode cX12_ahead 5 = .ok (.ifCond .eq 11, 3) := by decide +kernel
theorem dX12_ahead_8 : decode cX12_ahead 8 = .ok (.aload_n 0, 1) := by decide +kernel
theorem dX12_ahead_9 : decode cX12_ahead 9 = .ok (.iload_n 2, 1) := by decide +kernel
theorem dX12_ahead_10 : decode cX12_ahead 10 = .ok (.invokevirtual 171, 3) := by decide +kernel
theorem dX12_ahead_13 : decode cX12_ahead 13 = .ok (.ifCond .ne 5, 3) := by decide +kernel
theorem dX12_ahead_16 : decode cX12_ahead 16 = .ok (.iconst (-1), 1) := by decide +kernel
theorem dX12_ahead_17 : decode cX12_ahead 17 = .ok (.ireturn, 1) := by decide +kernel
theorem dX12_ahead_18 : decode cX12_ahead 18 = .ok (.iconst 0, 1) := by decide +kernel
theorem dX12_ahead_19 : decode cX12_ahead 19 = .ok (.istore_n 3, 1) := by decide +kernel
theorem dX12_ahead_20 : decode cX12_ahead 20 = .ok (.iconst 0, 1) := by decide +kernel
theorem dX12_ahead_21 : decode cX12_ahead 21 = .ok (.istore 4, 2) := by decide +kernel
theorem dX12_ahead_23 : decode cX12_ahead 23 = .ok (.iload 4, 2) := by decide +kernel
theorem dX12_ahead_25 : decode cX12_ahead 25 = .ok (.aload_n 0, 1) := by decide +kernel
theorem dX12_ahead_26 : decode cX12_ahead 26 = .ok (.getfield 129, 3) := by decide +kernel
theorem dX12_ahead_29 : decode cX12_ahead 29 = .ok (.if_icmp .ge 37, 3) := by decide +kernel
theorem dX12_ahead_32 : decode cX12_ahead 32 = .ok (.iload_n 3, 1) := by decide +kernel
theorem dX12_ahead_33 : decode cX12_ahead 33 = .ok (.aload_n 0, 1) := by decide +kernel
theorem dX12_ahead_34 : decode cX12_ahead 34 = .ok (.iload 4, 2) := by decide +kernel
theorem dX12_ahead_36 : decode cX12_ahead 36 = .ok (.iload_n 1, 1) := by decide +kernel
theorem dX12_ahead_37 : decode cX12_ahead 37 = .ok (.invokevirtual 201, 3) := by decide +kernel
theorem dX12_ahead_40 : decode cX12_ahead 40 = .ok (.ifCond .eq 17, 3) := by decide +kernel
theorem dX12_ahead_43 : decode cX12_ahead 43 = .ok (.aload_n 0, 1) := by decide +kernel
theorem dX12_ahead_44 : decode cX12_ahead 44 = .ok (.iload 4, 2) := by decide +kernel
theorem dX12_ahead_46 : decode cX12_ahead 46 = .ok (.iload_n 2, 1) := by decide +kernel
theorem dX12_ahead_47 : decode cX12_ahead 47 = .ok (.invokevirtual 201, 3) := by decide +kernel
theorem dX12_ahead_50 : decode cX12_ahead 50 = .ok (.ifCond .ne 7, 3) := by decide +kernel
theorem dX12_ahead_53 : decode cX12_ahead 53 = .ok (.iconst 1, 1) := by decide +kernel
theorem dX12_ahead_54 : decode cX12_ahead 54 = .ok (.goto 4, 3) := by decide +kernel
theorem dX12_ahead_57 : decode cX12_ahead 57 = .ok (.iconst 0, 1) := by decide +kernel
theorem dX12_ahead_58 : decode cX12_ahead 58 = .ok (.iadd, 1) := by decide +kernel
theorem dX12_ahead_59 : decode cX12_ahead 59 = .ok (.istore_n 3, 1) := by decide +kernel
theorem dX12_ahead_60 : decode cX12_ahead 60 = .ok (.iinc 4 1, 3) := by decide +kernel
theorem dX12_ahead_63 : decode cX12_ahead 63 = .ok (.goto (-40), 3) := by decide +kernel
theorem dX12_ahead_66 : decode cX12_ahead 66 = .ok (.iload_n 3, 1) := by decide +kernel
theorem dX12_ahead_67 : decode cX12_ahead 67 = .ok (.ireturn, 1) := by decide +kernel
theorem dX12_swaps_0 : decode cX12_swaps 0 = .ok (.aload_n 0, 1) := by decide +kernel
theorem dX12_swaps_1 : decode cX12_swaps 1 = .ok (.iload_n 1, 1) := by decide +kernel
theorem dX12_swaps_2 : decode cX12_swaps 2 = .ok (.invokevirtual 171, 3) := by decide +kernel
theorem dX12_swaps_5 : decode cX12_swaps 5 = .ok (.ifCond .ne 5, 3) := by decide +kernel
theorem dX12_swaps_8 : decode cX12_swaps 8 = .ok (.iconst (-1), 1) := by decide +kernel
theorem dX12_swaps_9 : decode cX12_swaps 9 = .ok (.ireturn, 1) := by decide +kernel
theorem dX12_swaps_10 : decode cX12_swaps 10 = .ok (.iload_n 1, 1) := by decide +kernel
theorem dX12_swaps_11 : decode cX12_swaps 11 = .ok (.ifCond .eq 12, 3) := by decide +kernel
theorem dX12_swaps_14 : decode cX12_swaps 14 = .ok (.aload_n 0, 1) := by decide +kernel
theorem dX12_swaps_15 : decode cX12_swaps 15 = .ok (.getfield 13, 3) := by decide +kernel
theorem dX12_swaps_18 : decode cX12_swaps 18 = .ok (.iload_n 1, 1) := by decide +kernel
theorem dX12_swaps_19 : decode cX12_swaps 19 = .ok (.iaload, 1) := by decide +kernel
theorem dX12_swaps_20 : decode cX12_swaps 20 = .ok (.ifCond .ne 6, 3) := by decide +kernel
theorem dX12_swaps_23 : decode cX12_swaps 23 = .ok (.bipush (-3), 2) := by decide +kernel
theorem dX12_swaps_25 : decode cX12_swaps 25 = .ok (.ireturn, 1) := by decide +kernel
theorem dX12_swaps_26 : decode cX12_swaps 26 = .ok (.aload_n 0, 1) := by decide +kernel
theorem dX12_swaps_27 : decode cX12_swaps 27 = .ok (.getfield 13, 3) := by decide +kernel
theorem dX12_swaps_30 : decode cX12_swaps 30 = .ok (.iload_n 1, 1) := by decide +kernel
theorem dX12_swaps_31 : decode cX12_swaps 31 = .ok (.iaload, 1) := by decide +kernel
theorem dX12_swaps_32 : decode cX12_swaps 32 = .ok (.istore_n 2, 1) := by decide +kernel
theorem dX12_swaps_33 : decode cX12_swaps 33 = .ok (.aload_n 0, 1) := by decide +kernel
theorem dX12_swaps_34 : decode cX12_swaps 34 = .ok (.getfield 13, 3) := by decide +kernel
theorem dX12_swaps_37 : decode cX12_swaps 37 = .ok (.iload_n 2, 1) := by decide +kernel
theorem dX12_swaps_38 : decode cX12_swaps 38 = .ok (.iaload, 1) := by decide +kernel
theorem dX12_swaps_39 : decode cX12_swaps 39 = .ok (.istore_n 3, 1) := by decide +kernel
theorem dX12_swaps_40 : decode cX12_swaps 40 = .ok (.aload_n 0, 1) := by decide +kernel
theorem dX12_swaps_41 : decode cX12_swaps 41 = .ok (.iload_n 2, 1) := by decide +kernel
theorem dX12_swaps_42 : decode cX12_swaps 42 = .ok (.iload_n 3, 1) := by decide +kernel
theorem dX12_swaps_43 : decode cX12_swaps 43 = .ok (.iload_n 1, 1) := by decide +kernel
theorem dX12_swaps_44 : decode cX12_swaps 44 = .ok (.invokevirtual 204, 3) := by decide +kernel
theorem dX12_swaps_47 : decode cX12_swaps 47 = .ok (.aload_n 0, 1) := by decide +kernel
theorem dX12_swaps_48 : decode cX12_swaps 48 = .ok (.getfield 207, 3) := by decide +kernel
theorem dX12_swaps_51 : decode cX12_swaps 51 = .ok (.ifCond .gt 12, 3) := by decide +kernel
theorem dX12_swaps_54 : decode cX12_swaps 54 = .ok (.aload_n 0, 1) := by decide +kernel
theorem dX12_swaps_55 : decode cX12_swaps 55 = .ok (.getfield 210, 3) := by decide +kernel
theorem dX12_swaps_58 : decode cX12_swaps 58 = .ok (.bipush 16, 2) := by decide +kernel
theorem dX12_swaps_60 : decode cX12_swaps 60 = .ok (.if_icmp .le 5, 3) := by decide +kernel
theorem dX12_swaps_63 : decode cX12_swaps 63 = .ok (.iconst 0, 1) := by decide +kernel
theorem dX12_swaps_64 : decode cX12_swaps 64 = .ok (.ireturn, 1) := by decide +kernel
theorem dX12_swaps_65 : decode cX12_swaps 65 = .ok (.aload_n 0, 1) := by decide +kernel
theorem dX12_swaps_66 : decode cX12_swaps 66 = .ok (.bipush 25, 2) := by decide +kernel
theorem dX12_swaps_68 : decode cX12_swaps 68 = .ok (.invokevirtual 213, 3) := by decide +kernel
theorem dX12_swaps_71 : decode cX12_swaps 71 = .ok (.aload_n 0, 1) := by decide +kernel
theorem dX12_swaps_72 : decode cX12_swaps 72 = .ok (.iload_n 3, 1) := by decide +kernel
theorem dX12_swaps_73 : decode cX12_swaps 73 = .ok (.bipush 25, 2) := by decide +kernel
theorem dX12_swaps_75 : decode cX12_swaps 75 = .ok (.iload_n 2, 1) := by decide +kernel
theorem dX12_swaps_76 : decode cX12_swaps 76 = .ok (.invokevirtual 204, 3) := by decide +kernel
theorem dX12_swaps_79 : decode cX12_swaps 79 = .ok (.aload_n 0, 1) := by decide +kernel
theorem dX12_swaps_80 : decode cX12_swaps 80 = .ok (.getfield 207, 3) := by decide +kernel
theorem dX12_swaps_83 : decode cX12_swaps 83 = .ok (.ifCond .ne 15, 3) := by decide +kernel
theorem dX12_swaps_86 : decode cX12_swaps 86 = .ok (.aload_n 0, 1) := by decide +kernel
theorem dX12_swaps_87 : decode cX12_swaps 87 = .ok (.iload_n 1, 1) := by decide +kernel
theorem dX12_swaps_88 : decode cX12_swaps 88 = .ok (.invokevirtual 216, 3) := by decide +kernel
theorem dX12_swaps_91 : decode cX12_swaps 91 = .ok (.ifCond .eq 7, 3) := by decide +kernel
theorem dX12_swaps_94 : decode cX12_swaps 94 = .ok (.iconst 1, 1) := by decide +kernel
theorem dX12_swaps_95 : decode cX12_swaps 95 = .ok (.goto 4, 3) := by decide +kernel
theorem dX12_swaps_98 : decode cX12_swaps 98 = .ok (.iconst 0, 1) := by decide +kernel
theorem dX12_swaps_99 : decode cX12_swaps 99 = .ok (.ireturn, 1) := by decide +kernel
theorem dX12_tip_0 : decode cX12_tip 0 = .ok (.iload_n 1, 1) := by decide +kernel
theorem dX12_tip_1 : decode cX12_tip 1 = .ok (.invokestatic 183, 3) := by decide +kernel
theorem dX12_tip_4 : decode cX12_tip 4 = .ok (.ifCond .eq 12, 3) := by decide +kernel
theorem dX12_tip_7 : decode cX12_tip 7 = .ok (.aload_n 0, 1) := by decide +kernel
theorem dX12_tip_8 : decode cX12_tip 8 = .ok (.getfield 28, 3) := by decide +kernel
theorem dX12_tip_11 : decode cX12_tip 11 = .ok (.iload_n 1, 1) := by decide +kernel
theorem dX12_tip_12 : decode cX12_tip 12 = .ok (.iaload, 1) := by decide +kernel
theorem dX12_tip_13 : decode cX12_tip 13 = .ok (.goto 4, 3) := by decide +kernel
theorem dX12_tip_16 : decode cX12_tip 16 = .ok (.iconst (-1), 1) := by decide +kernel
theorem dX12_tip_17 : decode cX12_tip 17 = .ok (.ireturn, 1) := by decide +kernel
theorem dX12_point_0 : decode cX12_point 0 = .ok (.iload_n 1, 1) := by decide +kernel
theorem dX12_point_1 : decode cX12_point 1 = .ok (.invokestatic 183, 3) := by decide +kernel
theorem dX12_point_4 : decode cX12_point 4 = .ok (.ifCond .eq 11, 3) := by decide +kernel
theorem dX12_point_7 : decode cX12_point 7 = .ok (.aload_n 0, 1) := by decide +kernel
theorem dX12_point_8 : decode cX12_point 8 = .ok (.iload_n 2, 1) := by decide +kernel
theorem dX12_point_9 : decode cX12_point 9 = .ok (.invokevirtual 171, 3) := by decide +kernel
theorem dX12_point_12 : decode cX12_point 12 = .ok (.ifCond .ne 5, 3) := by decide +kernel
theorem dX12_point_15 : decode cX12_point 15 = .ok (.iconst (-1), 1) := by decide +kernel
theorem dX12_point_16 : decode cX12_point 16 = .ok (.ireturn, 1) := by decide +kernel
theorem dX12_point_17 : decode cX12_point 17 = .ok (.aload_n 0, 1) := by decide +kernel
theorem dX12_point_18 : decode cX12_point 18 = .ok (.getfield 189, 3) := by decide +kernel
theorem dX12_point_21 : decode cX12_point 21 = .ok (.ifCond .eq 6, 3) := by decide +kernel
theorem dX12_point_24 : decode cX12_point 24 = .ok (.bipush (-3), 2) := by decide +kernel
theorem dX12_point_26 : decode cX12_point 26 = .ok (.ireturn, 1) := by decide +kernel
theorem dX12_point_27 : decode cX12_point 27 = .ok (.aload_n 0, 1) := by decide +kernel
theorem dX12_point_28 : decode cX12_point 28 = .ok (.getfield 28, 3) := by decide +kernel
theorem dX12_point_31 : decode cX12_point 31 = .ok (.iload_n 1, 1) := by decide +kernel
theorem dX12_point_32 : decode cX12_point 32 = .ok (.iaload, 1) := by decide +kernel
theorem dX12_point_33 : decode cX12_point 33 = .ok (.istore_n 3, 1) := by decide +kernel
theorem dX12_point_34 : decode cX12_point 34 = .ok (.aload_n 0, 1) := by decide +kernel
theorem dX12_point_35 : decode cX12_point 35 = .ok (.getfield 28, 3) := by decide +kernel
theorem dX12_point_38 : decode cX12_point 38 = .ok (.iload_n 1, 1) := by decide +kernel
theorem dX12_point_39 : decode cX12_point 39 = .ok (.iload_n 2, 1) := by decide +kernel
theorem dX12_point_40 : decode cX12_point 40 = .ok (.iastore, 1) := by decide +kernel
theorem dX12_point_41 : decode cX12_point 41 = .ok (.iload_n 3, 1) := by decide +kernel
theorem dX12_point_42 : decode cX12_point 42 = .ok (.ireturn, 1) := by decide +kernel
theorem dX12_anew_0 : decode cX12_anew 0 = .ok (.aload_n 0, 1) := by decide +kernel
theorem dX12_anew_1 : decode cX12_anew 1 = .ok (.getfield 189, 3) := by decide +kernel
theorem dX12_anew_4 : decode cX12_anew 4 = .ok (.ifCond .eq 6, 3) := by decide +kernel
theorem dX12_anew_7 : decode cX12_anew 7 = .ok (.bipush (-3), 2) := by decide +kernel
theorem dX12_anew_9 : decode cX12_anew 9 = .ok (.ireturn, 1) := by decide +kernel
theorem dX12_anew_10 : decode cX12_anew 10 = .ok (.aload_n 0, 1) := by decide +kernel
theorem dX12_anew_11 : decode cX12_anew 11 = .ok (.getfield 129, 3) := by decide +kernel
theorem dX12_anew_14 : decode cX12_anew 14 = .ok (.istore_n 1, 1) := by decide +kernel
theorem dX12_anew_15 : decode cX12_anew 15 = .ok (.aload_n 0, 1) := by decide +kernel
theorem dX12_anew_16 : decode cX12_anew 16 = .ok (.iconst 0, 1) := by decide +kernel
theorem dX12_anew_17 : decode cX12_anew 17 = .ok (.putfield 129, 3) := by decide +kernel
theorem dX12_anew_20 : decode cX12_anew 20 = .ok (.aload_n 0, 1) := by decide +kernel
theorem dX12_anew_21 : decode cX12_anew 21 = .ok (.iconst 0, 1) := by decide +kernel
theorem dX12_anew_22 : decode cX12_anew 22 = .ok (.bipush (-9), 2) := by decide +kernel
theorem dX12_anew_24 : decode cX12_anew 24 = .ok (.bipush (-9), 2) := by decide +kernel
theorem dX12_anew_26 : decode cX12_anew 26 = .ok (.invokevirtual 118, 3) := by decide +kernel
theorem dX12_anew_29 : decode cX12_anew 29 = .ok (.pop, 1) := by decide +kernel
theorem dX12_anew_30 : decode cX12_anew 30 = .ok (.iconst 0, 1) := by decide +kernel
theorem dX12_anew_31 : decode cX12_anew 31 = .ok (.istore_n 2, 1) := by decide +kernel
theorem dX12_anew_32 : decode cX12_anew 32 = .ok (.iload_n 2, 1) := by decide +kernel
theorem dX12_anew_33 : decode cX12_anew 33 = .ok (.iconst 4, 1) := by decide +kernel
theorem dX12_anew_34 : decode cX12_anew 34 = .ok (.if_icmp .ge 16, 3) := by decide +kernel
theorem dX12_anew_37 : decode cX12_anew 37 = .ok (.aload_n 0, 1) := by decide +kernel
theorem dX12_anew_38 : decode cX12_anew 38 = .ok (.getfield 28, 3) := by decide +kernel
theorem dX12_anew_41 : decode cX12_anew 41 = .ok (.iload_n 2, 1) := by decide +kernel
theorem dX12_anew_42 : decode cX12_anew 42 = .ok (.iconst 0, 1) := by decide +kernel
theorem dX12_anew_43 : decode cX12_anew 43 = .ok (.iastore, 1) := by decide +kernel
theorem dX12_anew_44 : decode cX12_anew 44 = .ok (.iinc 2 1, 3) := by decide +kernel
theorem dX12_anew_47 : decode cX12_anew 47 = .ok (.goto (-15), 3) := by decide +kernel
theorem dX12_anew_50 : decode cX12_anew 50 = .ok (.aload_n 0, 1) := by decide +kernel
theorem dX12_anew_51 : decode cX12_anew 51 = .ok (.iconst 0, 1) := by decide +kernel
theorem dX12_anew_52 : decode cX12_anew 52 = .ok (.putfield 219, 3) := by decide +kernel
theorem dX12_anew_55 : decode cX12_anew 55 = .ok (.iconst 0, 1) := by decide +kernel
theorem dX12_anew_56 : decode cX12_anew 56 = .ok (.istore_n 2, 1) := by decide +kernel
theorem dX12_anew_57 : decode cX12_anew 57 = .ok (.iload_n 2, 1) := by decide +kernel
theorem dX12_anew_58 : decode cX12_anew 58 = .ok (.iconst 4, 1) := by decide +kernel
theorem dX12_anew_59 : decode cX12_anew 59 = .ok (.if_icmp .ge 16, 3) := by decide +kernel
theorem dX12_anew_62 : decode cX12_anew 62 = .ok (.aload_n 0, 1) := by decide +kernel
theorem dX12_anew_63 : decode cX12_anew 63 = .ok (.getfield 94, 3) := by decide +kernel
theorem dX12_anew_66 : decode cX12_anew 66 = .ok (.iload_n 2, 1) := by decide +kernel
theorem dX12_anew_67 : decode cX12_anew 67 = .ok (.iconst 0, 1) := by decide +kernel
theorem dX12_anew_68 : decode cX12_anew 68 = .ok (.iastore, 1) := by decide +kernel
theorem dX12_anew_69 : decode cX12_anew 69 = .ok (.iinc 2 1, 3) := by decide +kernel
theorem dX12_anew_72 : decode cX12_anew 72 = .ok (.goto (-15), 3) := by decide +kernel
theorem dX12_anew_75 : decode cX12_anew 75 = .ok (.iload_n 1, 1) := by decide +kernel
theorem dX12_anew_76 : decode cX12_anew 76 = .ok (.ireturn, 1) := by decide +kernel
theorem dX12_laysResult_0 : decode cX12_laysResult 0 = .ok (.aload_n 0, 1) := by decide +kernel
theorem dX12_laysResult_1 : decode cX12_laysResult 1 = .ok (.getfield 25, 3) := by decide +kernel
theorem dX12_laysResult_4 : decode cX12_laysResult 4 = .ok (.iload_n 1, 1) := by decide +kernel
theorem dX12_laysResult_5 : decode cX12_laysResult 5 = .ok (.aload_n 0, 1) := by decide +kernel
theorem dX12_laysResult_6 : decode cX12_laysResult 6 = .ok (.getfield 210, 3) := by decide +kernel
theorem dX12_laysResult_9 : decode cX12_laysResult 9 = .ok (.iastore, 1) := by decide +kernel
theorem dX12_laysResult_10 : decode cX12_laysResult 10 = .ok (.iconst 0, 1) := by decide +kernel
theorem dX12_laysResult_11 : decode cX12_laysResult 11 = .ok (.istore_n 2, 1) := by decide +kernel
theorem dX12_laysResult_12 : decode cX12_laysResult 12 = .ok (.iload_n 2, 1) := by decide +kernel
theorem dX12_laysResult_13 : decode cX12_laysResult 13 = .ok (.aload_n 0, 1) := by decide +kernel
theorem dX12_laysResult_14 : decode cX12_laysResult 14 = .ok (.getfield 210, 3) := by decide +kernel
theorem dX12_laysResult_17 : decode cX12_laysResult 17 = .ok (.if_icmp .ge 26, 3) := by decide +kernel
theorem dX12_laysResult_20 : decode cX12_laysResult 20 = .ok (.aload_n 0, 1) := by decide +kernel
theorem dX12_laysResult_21 : decode cX12_laysResult 21 = .ok (.getfield 22, 3) := by decide +kernel
theorem dX12_laysResult_24 : decode cX12_laysResult 24 = .ok (.bipush 16, 2) := by decide +kernel
theorem dX12_laysResult_26 : decode cX12_laysResult 26 = .ok (.iload_n 1, 1) := by decide +kernel
theorem dX12_laysResult_27 : decode cX12_laysResult 27 = .ok (.imul, 1) := by decide +kernel
theorem dX12_laysResult_28 : decode cX12_laysResult 28 = .ok (.iload_n 2, 1) := by decide +kernel
theorem dX12_laysResult_29 : decode cX12_laysResult 29 = .ok (.iadd, 1) := by decide +kernel
theorem dX12_laysResult_30 : decode cX12_laysResult 30 = .ok (.aload_n 0, 1) := by decide +kernel
theorem dX12_laysResult_31 : decode cX12_laysResult 31 = .ok (.getfield 52, 3) := by decide +kernel
theorem dX12_laysResult_34 : decode cX12_laysResult 34 = .ok (.iload_n 2, 1) := by decide +kernel
theorem dX12_laysResult_35 : decode cX12_laysResult 35 = .ok (.iaload, 1) := by decide +kernel
theorem dX12_laysResult_36 : decode cX12_laysResult 36 = .ok (.iastore, 1) := by decide +kernel
theorem dX12_laysResult_37 : decode cX12_laysResult 37 = .ok (.iinc 2 1, 3) := by decide +kernel
theorem dX12_laysResult_40 : decode cX12_laysResult 40 = .ok (.goto (-28), 3) := by decide +kernel
theorem dX12_laysResult_43 : decode cX12_laysResult 43 = .ok (.return_, 1) := by decide +kernel
theorem dX12_isResult_0 : decode cX12_isResult 0 = .ok (.aload_n 0, 1) := by decide +kernel
theorem dX12_isResult_1 : decode cX12_isResult 1 = .ok (.getfield 25, 3) := by decide +kernel
theorem dX12_isResult_4 : decode cX12_isResult 4 = .ok (.iload_n 1, 1) := by decide +kernel
theorem dX12_isResult_5 : decode cX12_isResult 5 = .ok (.iaload, 1) := by decide +kernel
theorem dX12_isResult_6 : decode cX12_isResult 6 = .ok (.aload_n 0, 1) := by decide +kernel
theorem dX12_isResult_7 : decode cX12_isResult 7 = .ok (.getfield 210, 3) := by decide +kernel
theorem dX12_isResult_10 : decode cX12_isResult 10 = .ok (.if_icmp .ne 7, 3) := by decide +kernel
theorem dX12_isResult_13 : decode cX12_isResult 13 = .ok (.iconst 1, 1) := by decide +kernel
theorem dX12_isResult_14 : decode cX12_isResult 14 = .ok (.goto 4, 3) := by decide +kernel
theorem dX12_isResult_17 : decode cX12_isResult 17 = .ok (.iconst 0, 1) := by decide +kernel
theorem dX12_isResult_18 : decode cX12_isResult 18 = .ok (.istore_n 2, 1) := by decide +kernel
theorem dX12_isResult_19 : decode cX12_isResult 19 = .ok (.iconst 0, 1) := by decide +kernel
theorem dX12_isResult_20 : decode cX12_isResult 20 = .ok (.istore_n 3, 1) := by decide +kernel
theorem dX12_isResult_21 : decode cX12_isResult 21 = .ok (.iload_n 3, 1) := by decide +kernel
theorem dX12_isResult_22 : decode cX12_isResult 22 = .ok (.aload_n 0, 1) := by decide +kernel
theorem dX12_isResult_23 : decode cX12_isResult 23 = .ok (.getfield 210, 3) := by decide +kernel
theorem dX12_isResult_26 : decode cX12_isResult 26 = .ok (.if_icmp .ge 39, 3) := by decide +kernel
theorem dX12_isResult_29 : decode cX12_isResult 29 = .ok (.iload_n 2, 1) := by decide +kernel
theorem dX12_isResult_30 : decode cX12_isResult 30 = .ok (.ifCond .eq 35, 3) := by decide +kernel
theorem dX12_isResult_33 : decode cX12_isResult 33 = .ok (.aload_n 0, 1) := by decide +kernel
theorem dX12_isResult_34 : decode cX12_isResult 34 = .ok (.getfield 22, 3) := by decide +kernel
theorem dX12_isResult_37 : decode cX12_isResult 37 = .ok (.bipush 16, 2) := by decide +kernel
theorem dX12_isResult_39 : decode cX12_isResult 39 = .ok (.iload_n 1, 1) := by decide +kernel
theorem dX12_isResult_40 : decode cX12_isResult 40 = .ok (.imul, 1) := by decide +kernel
theorem dX12_isResult_41 : decode cX12_isResult 41 = .ok (.iload_n 3, 1) := by decide +kernel
theorem dX12_isResult_42 : decode cX12_isResult 42 = .ok (.iadd, 1) := by decide +kernel
theorem dX12_isResult_43 : decode cX12_isResult 43 = .ok (.iaload, 1) := by decide +kernel
theorem dX12_isResult_44 : decode cX12_isResult 44 = .ok (.aload_n 0, 1) := by decide +kernel
theorem dX12_isResult_45 : decode cX12_isResult 45 = .ok (.getfield 52, 3) := by decide +kernel
theorem dX12_isResult_48 : decode cX12_isResult 48 = .ok (.iload_n 3, 1) := by decide +kernel
theorem dX12_isResult_49 : decode cX12_isResult 49 = .ok (.iaload, 1) := by decide +kernel
theorem dX12_isResult_50 : decode cX12_isResult 50 = .ok (.if_icmp .ne 7, 3) := by decide +kernel
theorem dX12_isResult_53 : decode cX12_isResult 53 = .ok (.iconst 1, 1) := by decide +kernel
theorem dX12_isResult_54 : decode cX12_isResult 54 = .ok (.goto 4, 3) := by decide +kernel
theorem dX12_isResult_57 : decode cX12_isResult 57 = .ok (.iconst 0, 1) := by decide +kernel
theorem dX12_isResult_58 : decode cX12_isResult 58 = .ok (.istore_n 2, 1) := by decide +kernel
theorem dX12_isResult_59 : decode cX12_isResult 59 = .ok (.iinc 3 1, 3) := by decide +kernel
theorem dX12_isResult_62 : decode cX12_isResult 62 = .ok (.goto (-41), 3) := by decide +kernel
theorem dX12_isResult_65 : decode cX12_isResult 65 = .ok (.iload_n 2, 1) := by decide +kernel
theorem dX12_isResult_66 : decode cX12_isResult 66 = .ok (.ireturn, 1) := by decide +kernel
theorem dX12_isSamePart_0 : decode cX12_isSamePart 0 = .ok (.iload_n 3, 1) := by decide +kernel
theorem dX12_isSamePart_1 : decode cX12_isSamePart 1 = .ok (.iload_n 2, 1) := by decide +kernel
theorem dX12_isSamePart_2 : decode cX12_isSamePart 2 = .ok (.isub, 1) := by decide +kernel
theorem dX12_isSamePart_3 : decode cX12_isSamePart 3 = .ok (.iload 6, 2) := by decide +kernel
theorem dX12_isSamePart_5 : decode cX12_isSamePart 5 = .ok (.iload 5, 2) := by decide +kernel
theorem dX12_isSamePart_7 : decode cX12_isSamePart 7 = .ok (.isub, 1) := by decide +kernel
theorem dX12_isSamePart_8 : decode cX12_isSamePart 8 = .ok (.if_icmp .ne 7, 3) := by decide +kernel
theorem dX12_isSamePart_11 : decode cX12_isSamePart 11 = .ok (.iconst 1, 1) := by decide +kernel
theorem dX12_isSamePart_12 : decode cX12_isSamePart 12 = .ok (.goto 4, 3) := by decide +kernel
theorem dX12_isSamePart_15 : decode cX12_isSamePart 15 = .ok (.iconst 0, 1) := by decide +kernel
theorem dX12_isSamePart_16 : decode cX12_isSamePart 16 = .ok (.istore 7, 2) := by decide +kernel
theorem dX12_isSamePart_18 : decode cX12_isSamePart 18 = .ok (.iconst 0, 1) := by decide +kernel
theorem dX12_isSamePart_19 : decode cX12_isSamePart 19 = .ok (.istore 8, 2) := by decide +kernel
theorem dX12_isSamePart_21 : decode cX12_isSamePart 21 = .ok (.iload 8, 2) := by decide +kernel
theorem dX12_isSamePart_23 : decode cX12_isSamePart 23 = .ok (.iload_n 3, 1) := by decide +kernel
theorem dX12_isSamePart_24 : decode cX12_isSamePart 24 = .ok (.iload_n 2, 1) := by decide +kernel
theorem dX12_isSamePart_25 : decode cX12_isSamePart 25 = .ok (.isub, 1) := by decide +kernel
theorem dX12_isSamePart_26 : decode cX12_isSamePart 26 = .ok (.if_icmp .ge 32, 3) := by decide +kernel
theorem dX12_isSamePart_29 : decode cX12_isSamePart 29 = .ok (.iload 7, 2) := by decide +kernel
theorem dX12_isSamePart_31 : decode cX12_isSamePart 31 = .ok (.ifCond .eq 27, 3) := by decide +kernel
theorem dX12_isSamePart_34 : decode cX12_isSamePart 34 = .ok (.aload_n 0, 1) := by decide +kernel
theorem dX12_isSamePart_35 : decode cX12_isSamePart 35 = .ok (.iload_n 1, 1) := by decide +kernel
theorem dX12_isSamePart_36 : decode cX12_isSamePart 36 = .ok (.iload_n 2, 1) := by decide +kernel
theorem dX12_isSamePart_37 : decode cX12_isSamePart 37 = .ok (.iload 8, 2) := by decide +kernel
theorem dX12_isSamePart_39 : decode cX12_isSamePart 39 = .ok (.iadd, 1) := by decide +kernel
theorem dX12_isSamePart_40 : decode cX12_isSamePart 40 = .ok (.iload 4, 2) := by decide +kernel
theorem dX12_isSamePart_42 : decode cX12_isSamePart 42 = .ok (.iload 5, 2) := by decide +kernel
theorem dX12_isSamePart_44 : decode cX12_isSamePart 44 = .ok (.iload 8, 2) := by decide +kernel
theorem dX12_isSamePart_46 : decode cX12_isSamePart 46 = .ok (.iadd, 1) := by decide +kernel
theorem dX12_isSamePart_47 : decode cX12_isSamePart 47 = .ok (.invokevirtual 143, 3) := by decide +kernel
theorem dX12_isSamePart_50 : decode cX12_isSamePart 50 = .ok (.istore 7, 2) := by decide +kernel
theorem dX12_isSamePart_52 : decode cX12_isSamePart 52 = .ok (.iinc 8 1, 3) := by decide +kernel
theorem dX12_isSamePart_55 : decode cX12_isSamePart 55 = .ok (.goto (-34), 3) := by decide +kernel
theorem dX12_isSamePart_58 : decode cX12_isSamePart 58 = .ok (.iload 7, 2) := by decide +kernel
theorem dX12_isSamePart_60 : decode cX12_isSamePart 60 = .ok (.ireturn, 1) := by decide +kernel
theorem dX12_takes_0 : decode cX12_takes 0 = .ok (.iload_n 2, 1) := by decide +kernel
theorem dX12_takes_1 : decode cX12_takes 1 = .ok (.istore 4, 2) := by decide +kernel
theorem dX12_takes_3 : decode cX12_takes 3 = .ok (.iload 4, 2) := by decide +kernel
theorem dX12_takes_5 : decode cX12_takes 5 = .ok (.iload_n 3, 1) := by decide +kernel
theorem dX12_takes_6 : decode cX12_takes 6 = .ok (.if_icmp .ge 40, 3) := by decide +kernel
theorem dX12_takes_9 : decode cX12_takes 9 = .ok (.aload_n 0, 1) := by decide +kernel
theorem dX12_takes_10 : decode cX12_takes 10 = .ok (.getfield 52, 3) := by decide +kernel
theorem dX12_takes_13 : decode cX12_takes 13 = .ok (.aload_n 0, 1) := by decide +kernel
theorem dX12_takes_14 : decode cX12_takes 14 = .ok (.getfield 210, 3) := by decide +kernel
theorem dX12_takes_17 : decode cX12_takes 17 = .ok (.aload_n 0, 1) := by decide +kernel
theorem dX12_takes_18 : decode cX12_takes 18 = .ok (.getfield 22, 3) := by decide +kernel
theorem dX12_takes_21 : decode cX12_takes 21 = .ok (.bipush 16, 2) := by decide +kernel
theorem dX12_takes_23 : decode cX12_takes 23 = .ok (.iload_n 1, 1) := by decide +kernel
theorem dX12_takes_24 : decode cX12_takes 24 = .ok (.imul, 1) := by decide +kernel
theorem dX12_takes_25 : decode cX12_takes 25 = .ok (.iload 4, 2) := by decide +kernel
theorem dX12_takes_27 : decode cX12_takes 27 = .ok (.iadd, 1) := by decide +kernel
theorem dX12_takes_28 : decode cX12_takes 28 = .ok (.iaload, 1) := by decide +kernel
theorem dX12_takes_29 : decode cX12_takes 29 = .ok (.iastore, 1) := by decide +kernel
theorem dX12_takes_30 : decode cX12_takes 30 = .ok (.aload_n 0, 1) := by decide +kernel
theorem dX12_takes_31 : decode cX12_takes 31 = .ok (.dup, 1) := by decide +kernel
theorem dX12_takes_32 : decode cX12_takes 32 = .ok (.getfield 210, 3) := by decide +kernel
theorem dX12_takes_35 : decode cX12_takes 35 = .ok (.iconst 1, 1) := by decide +kernel
theorem dX12_takes_36 : decode cX12_takes 36 = .ok (.iadd, 1) := by decide +kernel
theorem dX12_takes_37 : decode cX12_takes 37 = .ok (.putfield 210, 3) := by decide +kernel
theorem dX12_takes_40 : decode cX12_takes 40 = .ok (.iinc 4 1, 3) := by decide +kernel
theorem dX12_takes_43 : decode cX12_takes 43 = .ok (.goto (-40), 3) := by decide +kernel
theorem dX12_takes_46 : decode cX12_takes 46 = .ok (.return_, 1) := by decide +kernel
theorem dX12_nameOf_0 : decode cX12_nameOf 0 = .ok (.iconst 0, 1) := by decide +kernel
theorem dX12_nameOf_1 : decode cX12_nameOf 1 = .ok (.istore_n 3, 1) := by decide +kernel
theorem dX12_nameOf_2 : decode cX12_nameOf 2 = .ok (.iload_n 3, 1) := by decide +kernel
theorem dX12_nameOf_3 : decode cX12_nameOf 3 = .ok (.aload_n 0, 1) := by decide +kernel
theorem dX12_nameOf_4 : decode cX12_nameOf 4 = .ok (.getfield 64, 3) := by decide +kernel
theorem dX12_nameOf_7 : decode cX12_nameOf 7 = .ok (.iload_n 2, 1) := by decide +kernel
theorem dX12_nameOf_8 : decode cX12_nameOf 8 = .ok (.iaload, 1) := by decide +kernel
theorem dX12_nameOf_9 : decode cX12_nameOf 9 = .ok (.if_icmp .ge 26, 3) := by decide +kernel
theorem dX12_nameOf_12 : decode cX12_nameOf 12 = .ok (.aload_n 0, 1) := by decide +kernel
theorem dX12_nameOf_13 : decode cX12_nameOf 13 = .ok (.getfield 61, 3) := by decide +kernel
theorem dX12_nameOf_16 : decode cX12_nameOf 16 = .ok (.bipush 48, 2) := by decide +kernel
theorem dX12_nameOf_18 : decode cX12_nameOf 18 = .ok (.iload_n 2, 1) := by decide +kernel
theorem dX12_nameOf_19 : decode cX12_nameOf 19 = .ok (.imul, 1) := by decide +kernel
theorem dX12_nameOf_20 : decode cX12_nameOf 20 = .ok (.iload_n 3, 1) := by decide +kernel
theorem dX12_nameOf_21 : decode cX12_nameOf 21 = .ok (.iadd, 1) := by decide +kernel
theorem dX12_nameOf_22 : decode cX12_nameOf 22 = .ok (.iaload, 1) := by decide +kernel
theorem dX12_nameOf_23 : decode cX12_nameOf 23 = .ok (.iload_n 1, 1) := by decide +kernel
theorem dX12_nameOf_24 : decode cX12_nameOf 24 = .ok (.if_icmp .ne 5, 3) := by decide +kernel
theorem dX12_nameOf_27 : decode cX12_nameOf 27 = .ok (.iload_n 3, 1) := by decide +kernel
theorem dX12_nameOf_28 : decode cX12_nameOf 28 = .ok (.ireturn, 1) := by decide +kernel
theorem dX12_nameOf_29 : decode cX12_nameOf 29 = .ok (.iinc 3 1, 3) := by decide +kernel
theorem dX12_nameOf_32 : decode cX12_nameOf 32 = .ok (.goto (-30), 3) := by decide +kernel
theorem dX12_nameOf_35 : decode cX12_nameOf 35 = .ok (.aload_n 0, 1) := by decide +kernel
theorem dX12_nameOf_36 : decode cX12_nameOf 36 = .ok (.getfield 61, 3) := by decide +kernel
theorem dX12_nameOf_39 : decode cX12_nameOf 39 = .ok (.bipush 48, 2) := by decide +kernel
theorem dX12_nameOf_41 : decode cX12_nameOf 41 = .ok (.iload_n 2, 1) := by decide +kernel
theorem dX12_nameOf_42 : decode cX12_nameOf 42 = .ok (.imul, 1) := by decide +kernel
theorem dX12_nameOf_43 : decode cX12_nameOf 43 = .ok (.aload_n 0, 1) := by decide +kernel
theorem dX12_nameOf_44 : decode cX12_nameOf 44 = .ok (.getfield 64, 3) := by decide +kernel
theorem dX12_nameOf_47 : decode cX12_nameOf 47 = .ok (.iload_n 2, 1) := by decide +kernel
theorem dX12_nameOf_48 : decode cX12_nameOf 48 = .ok (.iaload, 1) := by decide +kernel
theorem dX12_nameOf_49 : decode cX12_nameOf 49 = .ok (.iadd, 1) := by decide +kernel
theorem dX12_nameOf_50 : decode cX12_nameOf 50 = .ok (.iload_n 1, 1) := by decide +kernel
theorem dX12_nameOf_51 : decode cX12_nameOf 51 = .ok (.iastore, 1) := by decide +kernel
theorem dX12_nameOf_52 : decode cX12_nameOf 52 = .ok (.aload_n 0, 1) := by decide +kernel
theorem dX12_nameOf_53 : decode cX12_nameOf 53 = .ok (.getfield 64, 3) := by decide +kernel
theorem dX12_nameOf_56 : decode cX12_nameOf 56 = .ok (.iload_n 2, 1) := by decide +kernel
theorem dX12_nameOf_57 : decode cX12_nameOf 57 = .ok (.dup2, 1) := by decide +kernel
theorem dX12_nameOf_58 : decode cX12_nameOf 58 = .ok (.iaload, 1) := by decide +kernel
theorem dX12_nameOf_59 : decode cX12_nameOf 59 = .ok (.iconst 1, 1) := by decide +kernel
theorem dX12_nameOf_60 : decode cX12_nameOf 60 = .ok (.iadd, 1) := by decide +kernel
theorem dX12_nameOf_61 : decode cX12_nameOf 61 = .ok (.iastore, 1) := by decide +kernel
theorem dX12_nameOf_62 : decode cX12_nameOf 62 = .ok (.aload_n 0, 1) := by decide +kernel
theorem dX12_nameOf_63 : decode cX12_nameOf 63 = .ok (.getfield 64, 3) := by decide +kernel
theorem dX12_nameOf_66 : decode cX12_nameOf 66 = .ok (.iload_n 2, 1) := by decide +kernel
theorem dX12_nameOf_67 : decode cX12_nameOf 67 = .ok (.iaload, 1) := by decide +kernel
theorem dX12_nameOf_68 : decode cX12_nameOf 68 = .ok (.iconst 1, 1) := by decide +kernel
theorem dX12_nameOf_69 : decode cX12_nameOf 69 = .ok (.isub, 1) := by decide +kernel
theorem dX12_nameOf_70 : decode cX12_nameOf 70 = .ok (.ireturn, 1) := by decide +kernel
theorem dX12_shapes_0 : decode cX12_shapes 0 = .ok (.iload_n 2, 1) := by decide +kernel
theorem dX12_shapes_1 : decode cX12_shapes 1 = .ok (.istore 6, 2) := by decide +kernel
theorem dX12_shapes_3 : decode cX12_shapes 3 = .ok (.aload_n 0, 1) := by decide +kernel
theorem dX12_shapes_4 : decode cX12_shapes 4 = .ok (.getfield 58, 3) := by decide +kernel
theorem dX12_shapes_7 : decode cX12_shapes 7 = .ok (.bipush 51, 2) := by decide +kernel
theorem dX12_shapes_9 : decode cX12_shapes 9 = .ok (.iload_n 1, 1) := by decide +kernel
theorem dX12_shapes_10 : decode cX12_shapes 10 = .ok (.imul, 1) := by decide +kernel
theorem dX12_shapes_11 : decode cX12_shapes 11 = .ok (.iload 6, 2) := by decide +kernel
theorem dX12_shapes_13 : decode cX12_shapes 13 = .ok (.iadd, 1) := by decide +kernel
theorem dX12_shapes_14 : decode cX12_shapes 14 = .ok (.iload 5, 2) := by decide +kernel
theorem dX12_shapes_16 : decode cX12_shapes 16 = .ok (.iload 4, 2) := by decide +kernel
theorem dX12_shapes_18 : decode cX12_shapes 18 = .ok (.isub, 1) := by decide +kernel
theorem dX12_shapes_19 : decode cX12_shapes 19 = .ok (.iastore, 1) := by decide +kernel
theorem dX12_shapes_20 : decode cX12_shapes 20 = .ok (.iinc 6 1, 3) := by decide +kernel
theorem dX12_shapes_23 : decode cX12_shapes 23 = .ok (.iload 4, 2) := by decide +kernel
theorem dX12_shapes_25 : decode cX12_shapes 25 = .ok (.istore 7, 2) := by decide +kernel
theorem dX12_shapes_27 : decode cX12_shapes 27 = .ok (.iload 7, 2) := by decide +kernel
theorem dX12_shapes_29 : decode cX12_shapes 29 = .ok (.iload 5, 2) := by decide +kernel
theorem dX12_shapes_31 : decode cX12_shapes 31 = .ok (.if_icmp .ge 41, 3) := by decide +kernel
theorem dX12_shapes_34 : decode cX12_shapes 34 = .ok (.aload_n 0, 1) := by decide +kernel
theorem dX12_shapes_35 : decode cX12_shapes 35 = .ok (.getfield 58, 3) := by decide +kernel
theorem dX12_shapes_38 : decode cX12_shapes 38 = .ok (.bipush 51, 2) := by decide +kernel
theorem dX12_shapes_40 : decode cX12_shapes 40 = .ok (.iload_n 1, 1) := by decide +kernel
theorem dX12_shapes_41 : decode cX12_shapes 41 = .ok (.imul, 1) := by decide +kernel
theorem dX12_shapes_42 : decode cX12_shapes 42 = .ok (.iload 6, 2) := by decide +kernel
theorem dX12_shapes_44 : decode cX12_shapes 44 = .ok (.iadd, 1) := by decide +kernel
theorem dX12_shapes_45 : decode cX12_shapes 45 = .ok (.aload_n 0, 1) := by decide +kernel
theorem dX12_shapes_46 : decode cX12_shapes 46 = .ok (.aload_n 0, 1) := by decide +kernel
theorem dX12_shapes_47 : decode cX12_shapes 47 = .ok (.getfield 22, 3) := by decide +kernel
theorem dX12_shapes_50 : decode cX12_shapes 50 = .ok (.bipush 16, 2) := by decide +kernel
theorem dX12_shapes_52 : decode cX12_shapes 52 = .ok (.iload_n 3, 1) := by decide +kernel
theorem dX12_shapes_53 : decode cX12_shapes 53 = .ok (.imul, 1) := by decide +kernel
theorem dX12_shapes_54 : decode cX12_shapes 54 = .ok (.iload 7, 2) := by decide +kernel
theorem dX12_shapes_56 : decode cX12_shapes 56 = .ok (.iadd, 1) := by decide +kernel
theorem dX12_shapes_57 : decode cX12_shapes 57 = .ok (.iaload, 1) := by decide +kernel
theorem dX12_shapes_58 : decode cX12_shapes 58 = .ok (.iload_n 1, 1) := by decide +kernel
theorem dX12_shapes_59 : decode cX12_shapes 59 = .ok (.invokevirtual 222, 3) := by decide +kernel
theorem dX12_shapes_62 : decode cX12_shapes 62 = .ok (.iastore, 1) := by decide +kernel
theorem dX12_shapes_63 : decode cX12_shapes 63 = .ok (.iinc 6 1, 3) := by decide +kernel
theorem dX12_shapes_66 : decode cX12_shapes 66 = .ok (.iinc 7 1, 3) := by decide +kernel
theorem dX12_shapes_69 : decode cX12_shapes 69 = .ok (.goto (-42), 3) := by decide +kernel
theorem dX12_shapes_72 : decode cX12_shapes 72 = .ok (.iload 6, 2) := by decide +kernel
theorem dX12_shapes_74 : decode cX12_shapes 74 = .ok (.ireturn, 1) := by decide +kernel
theorem dX12_shapeOf_0 : decode cX12_shapeOf 0 = .ok (.iconst 0, 1) := by decide +kernel
theorem dX12_shapeOf_1 : decode cX12_shapeOf 1 = .ok (.istore 5, 2) := by decide +kernel
theorem dX12_shapeOf_3 : decode cX12_shapeOf 3 = .ok (.iload 5, 2) := by decide +kernel
theorem dX12_shapeOf_5 : decode cX12_shapeOf 5 = .ok (.iconst 2, 1) := by decide +kernel
theorem dX12_shapeOf_6 : decode cX12_shapeOf 6 = .ok (.if_icmp .ge 189, 3) := by decide +kernel
theorem dX12_shapeOf_9 : decode cX12_shapeOf 9 = .ok (.aload_n 0, 1) := by decide +kernel
theorem dX12_shapeOf_10 : decode cX12_shapeOf 10 = .ok (.getfield 64, 3) := by decide +kernel
theorem dX12_shapeOf_13 : decode cX12_shapeOf 13 = .ok (.iload 5, 2) := by decide +kernel
theorem dX12_shapeOf_15 : decode cX12_shapeOf 15 = .ok (.iconst 0, 1) := by decide +kernel
theorem dX12_shapeOf_16 : decode cX12_shapeOf 16 = .ok (.iastore, 1) := by decide +kernel
theorem dX12_shapeOf_17 : decode cX12_shapeOf 17 = .ok (.aload_n 0, 1) := by decide +kernel
theorem dX12_shapeOf_18 : decode cX12_shapeOf 18 = .ok (.iload 5, 2) := by decide +kernel
theorem dX12_shapeOf_20 : decode cX12_shapeOf 20 = .ok (.iconst 0, 1) := by decide +kernel
theorem dX12_shapeOf_21 : decode cX12_shapeOf 21 = .ok (.iload_n 1, 1) := by decide +kernel
theorem dX12_shapeOf_22 : decode cX12_shapeOf 22 = .ok (.aload_n 0, 1) := by decide +kernel
theorem dX12_shapeOf_23 : decode cX12_shapeOf 23 = .ok (.getfield 55, 3) := by decide +kernel
theorem dX12_shapeOf_26 : decode cX12_shapeOf 26 = .ok (.iload 4, 2) := by decide +kernel
theorem dX12_shapeOf_28 : decode cX12_shapeOf 28 = .ok (.iaload, 1) := by decide +kernel
theorem dX12_shapeOf_29 : decode cX12_shapeOf 29 = .ok (.aload_n 0, 1) := by decide +kernel
theorem dX12_shapeOf_30 : decode cX12_shapeOf 30 = .ok (.getfield 55, 3) := by decide +kernel
theorem dX12_shapeOf_33 : decode cX12_shapeOf 33 = .ok (.iload 4, 2) := by decide +kernel
theorem dX12_shapeOf_35 : decode cX12_shapeOf 35 = .ok (.iconst 1, 1) := by decide +kernel
theorem dX12_shapeOf_36 : decode cX12_shapeOf 36 = .ok (.iadd, 1) := by decide +kernel
theorem dX12_shapeOf_37 : decode cX12_shapeOf 37 = .ok (.iaload, 1) := by decide +kernel
theorem dX12_shapeOf_38 : decode cX12_shapeOf 38 = .ok (.invokevirtual 226, 3) := by decide +kernel
theorem dX12_shapeOf_41 : decode cX12_shapeOf 41 = .ok (.istore 6, 2) := by decide +kernel
theorem dX12_shapeOf_43 : decode cX12_shapeOf 43 = .ok (.iload 5, 2) := by decide +kernel
theorem dX12_shapeOf_45 : decode cX12_shapeOf 45 = .ok (.ifCond .ne 7, 3) := by decide +kernel
theorem dX12_shapeOf_48 : decode cX12_shapeOf 48 = .ok (.iconst 1, 1) := by decide +kernel
theorem dX12_shapeOf_49 : decode cX12_shapeOf 49 = .ok (.goto 4, 3) := by decide +kernel
theorem dX12_shapeOf_52 : decode cX12_shapeOf 52 = .ok (.iconst 0, 1) := by decide +kernel
theorem dX12_shapeOf_53 : decode cX12_shapeOf 53 = .ok (.istore 7, 2) := by decide +kernel
theorem dX12_shapeOf_55 : decode cX12_shapeOf 55 = .ok (.iload 7, 2) := by decide +kernel
theorem dX12_shapeOf_57 : decode cX12_shapeOf 57 = .ok (.ifCond .eq 33, 3) := by decide +kernel
theorem dX12_shapeOf_60 : decode cX12_shapeOf 60 = .ok (.aload_n 0, 1) := by decide +kernel
theorem dX12_shapeOf_61 : decode cX12_shapeOf 61 = .ok (.iload 5, 2) := by decide +kernel
theorem dX12_shapeOf_63 : decode cX12_shapeOf 63 = .ok (.iload 6, 2) := by decide +kernel
theorem dX12_shapeOf_65 : decode cX12_shapeOf 65 = .ok (.iload_n 2, 1) := by decide +kernel
theorem dX12_shapeOf_66 : decode cX12_shapeOf 66 = .ok (.aload_n 0, 1) := by decide +kernel
theorem dX12_shapeOf_67 : decode cX12_shapeOf 67 = .ok (.getfield 55, 3) := by decide +kernel
theorem dX12_shapeOf_70 : decode cX12_shapeOf 70 = .ok (.iload 4, 2) := by decide +kernel
theorem dX12_shapeOf_72 : decode cX12_shapeOf 72 = .ok (.iconst 2, 1) := by decide +kernel
theorem dX12_shapeOf_73 : decode cX12_shapeOf 73 = .ok (.iadd, 1) := by decide +kernel
theorem dX12_shapeOf_74 : decode cX12_shapeOf 74 = .ok (.iaload, 1) := by decide +kernel
theorem dX12_shapeOf_75 : decode cX12_shapeOf 75 = .ok (.aload_n 0, 1) := by decide +kernel
theorem dX12_shapeOf_76 : decode cX12_shapeOf 76 = .ok (.getfield 55, 3) := by decide +kernel
theorem dX12_shapeOf_79 : decode cX12_shapeOf 79 = .ok (.iload 4, 2) := by decide +kernel
theorem dX12_shapeOf_81 : decode cX12_shapeOf 81 = .ok (.iconst 3, 1) := by decide +kernel
theorem dX12_shapeOf_82 : decode cX12_shapeOf 82 = .ok (.iadd, 1) := by decide +kernel
theorem dX12_shapeOf_83 : decode cX12_shapeOf 83 = .ok (.iaload, 1) := by decide +kernel
theorem dX12_shapeOf_84 : decode cX12_shapeOf 84 = .ok (.invokevirtual 226, 3) := by decide +kernel
theorem dX12_shapeOf_87 : decode cX12_shapeOf 87 = .ok (.goto 30, 3) := by decide +kernel
theorem dX12_shapeOf_90 : decode cX12_shapeOf 90 = .ok (.aload_n 0, 1) := by decide +kernel
theorem dX12_shapeOf_91 : decode cX12_shapeOf 91 = .ok (.iload 5, 2) := by decide +kernel
theorem dX12_shapeOf_93 : decode cX12_shapeOf 93 = .ok (.iload 6, 2) := by decide +kernel
theorem dX12_shapeOf_95 : decode cX12_shapeOf 95 = .ok (.iload_n 3, 1) := by decide +kernel
theorem dX12_shapeOf_96 : decode cX12_shapeOf 96 = .ok (.aload_n 0, 1) := by decide +kernel
theorem dX12_shapeOf_97 : decode cX12_shapeOf 97 = .ok (.getfield 55, 3) := by decide +kernel
theorem dX12_shapeOf_100 : decode cX12_shapeOf 100 = .ok (.iload 4, 2) := by decide +kernel
theorem dX12_shapeOf_102 : decode cX12_shapeOf 102 = .ok (.iconst 4, 1) := by decide +kernel
theorem dX12_shapeOf_103 : decode cX12_shapeOf 103 = .ok (.iadd, 1) := by decide +kernel
theorem dX12_shapeOf_104 : decode cX12_shapeOf 104 = .ok (.iaload, 1) := by decide +kernel
theorem dX12_shapeOf_105 : decode cX12_shapeOf 105 = .ok (.aload_n 0, 1) := by decide +kernel
theorem dX12_shapeOf_106 : decode cX12_shapeOf 106 = .ok (.getfield 55, 3) := by decide +kernel
theorem dX12_shapeOf_109 : decode cX12_shapeOf 109 = .ok (.iload 4, 2) := by decide +kernel
theorem dX12_shapeOf_111 : decode cX12_shapeOf 111 = .ok (.iconst 5, 1) := by decide +kernel
theorem dX12_shapeOf_112 : decode cX12_shapeOf 112 = .ok (.iadd, 1) := by decide +kernel
theorem dX12_shapeOf_113 : decode cX12_shapeOf 113 = .ok (.iaload, 1) := by decide +kernel
theorem dX12_shapeOf_114 : decode cX12_shapeOf 114 = .ok (.invokevirtual 226, 3) := by decide +kernel
theorem dX12_shapeOf_117 : decode cX12_shapeOf 117 = .ok (.istore 6, 2) := by decide +kernel
theorem dX12_shapeOf_119 : decode cX12_shapeOf 119 = .ok (.iload 7, 2) := by decide +kernel
theorem dX12_shapeOf_121 : decode cX12_shapeOf 121 = .ok (.ifCond .eq 33, 3) := by decide +kernel
theorem dX12_shapeOf_124 : decode cX12_shapeOf 124 = .ok (.aload_n 0, 1) := by decide +kernel
theorem dX12_shapeOf_125 : decode cX12_shapeOf 125 = .ok (.iload 5, 2) := by decide +kernel
theorem dX12_shapeOf_127 : decode cX12_shapeOf 127 = .ok (.iload 6, 2) := by decide +kernel
theorem dX12_shapeOf_129 : decode cX12_shapeOf 129 = .ok (.iload_n 3, 1) := by decide +kernel
theorem dX12_shapeOf_130 : decode cX12_shapeOf 130 = .ok (.aload_n 0, 1) := by decide +kernel
theorem dX12_shapeOf_131 : decode cX12_shapeOf 131 = .ok (.getfield 55, 3) := by decide +kernel
theorem dX12_shapeOf_134 : decode cX12_shapeOf 134 = .ok (.iload 4, 2) := by decide +kernel
theorem dX12_shapeOf_136 : decode cX12_shapeOf 136 = .ok (.iconst 4, 1) := by decide +kernel
theorem dX12_shapeOf_137 : decode cX12_shapeOf 137 = .ok (.iadd, 1) := by decide +kernel
theorem dX12_shapeOf_138 : decode cX12_shapeOf 138 = .ok (.iaload, 1) := by decide +kernel
theorem dX12_shapeOf_139 : decode cX12_shapeOf 139 = .ok (.aload_n 0, 1) := by decide +kernel
theorem dX12_shapeOf_140 : decode cX12_shapeOf 140 = .ok (.getfield 55, 3) := by decide +kernel
theorem dX12_shapeOf_143 : decode cX12_shapeOf 143 = .ok (.iload 4, 2) := by decide +kernel
theorem dX12_shapeOf_145 : decode cX12_shapeOf 145 = .ok (.iconst 5, 1) := by decide +kernel
theorem dX12_shapeOf_146 : decode cX12_shapeOf 146 = .ok (.iadd, 1) := by decide +kernel
theorem dX12_shapeOf_147 : decode cX12_shapeOf 147 = .ok (.iaload, 1) := by decide +kernel
theorem dX12_shapeOf_148 : decode cX12_shapeOf 148 = .ok (.invokevirtual 226, 3) := by decide +kernel
theorem dX12_shapeOf_151 : decode cX12_shapeOf 151 = .ok (.goto 30, 3) := by decide +kernel
theorem dX12_shapeOf_154 : decode cX12_shapeOf 154 = .ok (.aload_n 0, 1) := by decide +kernel
theorem dX12_shapeOf_155 : decode cX12_shapeOf 155 = .ok (.iload 5, 2) := by decide +kernel
theorem dX12_shapeOf_157 : decode cX12_shapeOf 157 = .ok (.iload 6, 2) := by decide +kernel
theorem dX12_shapeOf_159 : decode cX12_shapeOf 159 = .ok (.iload_n 2, 1) := by decide +kernel
theorem dX12_shapeOf_160 : decode cX12_shapeOf 160 = .ok (.aload_n 0, 1) := by decide +kernel
theorem dX12_shapeOf_161 : decode cX12_shapeOf 161 = .ok (.getfield 55, 3) := by decide +kernel
theorem dX12_shapeOf_164 : decode cX12_shapeOf 164 = .ok (.iload 4, 2) := by decide +kernel
theorem dX12_shapeOf_166 : decode cX12_shapeOf 166 = .ok (.iconst 2, 1) := by decide +kernel
theorem dX12_shapeOf_167 : decode cX12_shapeOf 167 = .ok (.iadd, 1) := by decide +kernel
theorem dX12_shapeOf_168 : decode cX12_shapeOf 168 = .ok (.iaload, 1) := by decide +kernel
theorem dX12_shapeOf_169 : decode cX12_shapeOf 169 = .ok (.aload_n 0, 1) := by decide +kernel
theorem dX12_shapeOf_170 : decode cX12_shapeOf 170 = .ok (.getfield 55, 3) := by decide +kernel
theorem dX12_shapeOf_173 : decode cX12_shapeOf 173 = .ok (.iload 4, 2) := by decide +kernel
theorem dX12_shapeOf_175 : decode cX12_shapeOf 175 = .ok (.iconst 3, 1) := by decide +kernel
theorem dX12_shapeOf_176 : decode cX12_shapeOf 176 = .ok (.iadd, 1) := by decide +kernel
theorem dX12_shapeOf_177 : decode cX12_shapeOf 177 = .ok (.iaload, 1) := by decide +kernel
theorem dX12_shapeOf_178 : decode cX12_shapeOf 178 = .ok (.invokevirtual 226, 3) := by decide +kernel
theorem dX12_shapeOf_181 : decode cX12_shapeOf 181 = .ok (.istore 6, 2) := by decide +kernel
theorem dX12_shapeOf_183 : decode cX12_shapeOf 183 = .ok (.aload_n 0, 1) := by decide +kernel
theorem dX12_shapeOf_184 : decode cX12_shapeOf 184 = .ok (.iload 6, 2) := by decide +kernel
theorem dX12_shapeOf_186 : decode cX12_shapeOf 186 = .ok (.putfield 230, 3) := by decide +kernel
theorem dX12_shapeOf_189 : decode cX12_shapeOf 189 = .ok (.iinc 5 1, 3) := by decide +kernel
theorem dX12_shapeOf_192 : decode cX12_shapeOf 192 = .ok (.goto (-189), 3) := by decide +kernel
theorem dX12_shapeOf_195 : decode cX12_shapeOf 195 = .ok (.aload_n 0, 1) := by decide +kernel
theorem dX12_shapeOf_196 : decode cX12_shapeOf 196 = .ok (.iconst 0, 1) := by decide +kernel
theorem dX12_shapeOf_197 : decode cX12_shapeOf 197 = .ok (.putfield 233, 3) := by decide +kernel
theorem dX12_shapeOf_200 : decode cX12_shapeOf 200 = .ok (.aload_n 0, 1) := by decide +kernel
theorem dX12_shapeOf_201 : decode cX12_shapeOf 201 = .ok (.getfield 230, 3) := by decide +kernel
theorem dX12_shapeOf_204 : decode cX12_shapeOf 204 = .ok (.iconst 1, 1) := by decide +kernel
theorem dX12_shapeOf_205 : decode cX12_shapeOf 205 = .ok (.isub, 1) := by decide +kernel
theorem dX12_shapeOf_206 : decode cX12_shapeOf 206 = .ok (.istore 5, 2) := by decide +kernel
theorem dX12_shapeOf_208 : decode cX12_shapeOf 208 = .ok (.iload 5, 2) := by decide +kernel
theorem dX12_shapeOf_210 : decode cX12_shapeOf 210 = .ok (.ifCond .lt 60, 3) := by decide +kernel
theorem dX12_shapeOf_213 : decode cX12_shapeOf 213 = .ok (.aload_n 0, 1) := by decide +kernel
theorem dX12_shapeOf_214 : decode cX12_shapeOf 214 = .ok (.getfield 58, 3) := by decide +kernel
theorem dX12_shapeOf_217 : decode cX12_shapeOf 217 = .ok (.iload 5, 2) := by decide +kernel
theorem dX12_shapeOf_219 : decode cX12_shapeOf 219 = .ok (.iaload, 1) := by decide +kernel
theorem dX12_shapeOf_220 : decode cX12_shapeOf 220 = .ok (.istore 6, 2) := by decide +kernel
theorem dX12_shapeOf_222 : decode cX12_shapeOf 222 = .ok (.aload_n 0, 1) := by decide +kernel
theorem dX12_shapeOf_223 : decode cX12_shapeOf 223 = .ok (.getfield 58, 3) := by decide +kernel
theorem dX12_shapeOf_226 : decode cX12_shapeOf 226 = .ok (.bipush 51, 2) := by decide +kernel
theorem dX12_shapeOf_228 : decode cX12_shapeOf 228 = .ok (.iload 5, 2) := by decide +kernel
theorem dX12_shapeOf_230 : decode cX12_shapeOf 230 = .ok (.iadd, 1) := by decide +kernel
theorem dX12_shapeOf_231 : decode cX12_shapeOf 231 = .ok (.iaload, 1) := by decide +kernel
theorem dX12_shapeOf_232 : decode cX12_shapeOf 232 = .ok (.istore 7, 2) := by decide +kernel
theorem dX12_shapeOf_234 : decode cX12_shapeOf 234 = .ok (.aload_n 0, 1) := by decide +kernel
theorem dX12_shapeOf_235 : decode cX12_shapeOf 235 = .ok (.iload 6, 2) := by decide +kernel
theorem dX12_shapeOf_237 : decode cX12_shapeOf 237 = .ok (.iload 7, 2) := by decide +kernel
theorem dX12_shapeOf_239 : decode cX12_shapeOf 239 = .ok (.if_icmp .ne 10, 3) := by decide +kernel
theorem dX12_shapeOf_242 : decode cX12_shapeOf 242 = .ok (.aload_n 0, 1) := by decide +kernel
theorem dX12_shapeOf_243 : decode cX12_shapeOf 243 = .ok (.getfield 233, 3) := by decide +kernel
theorem dX12_shapeOf_246 : decode cX12_shapeOf 246 = .ok (.goto 15, 3) := by decide +kernel
theorem dX12_shapeOf_249 : decode cX12_shapeOf 249 = .ok (.iload 6, 2) := by decide +kernel
theorem dX12_shapeOf_251 : decode cX12_shapeOf 251 = .ok (.iload 7, 2) := by decide +kernel
theorem dX12_shapeOf_253 : decode cX12_shapeOf 253 = .ok (.if_icmp .ge 7, 3) := by decide +kernel
theorem dX12_shapeOf_256 : decode cX12_shapeOf 256 = .ok (.iconst 0, 1) := by decide +kernel
theorem dX12_shapeOf_257 : decode cX12_shapeOf 257 = .ok (.goto 4, 3) := by decide +kernel
theorem dX12_shapeOf_260 : decode cX12_shapeOf 260 = .ok (.iconst 1, 1) := by decide +kernel
theorem dX12_shapeOf_261 : decode cX12_shapeOf 261 = .ok (.putfield 233, 3) := by decide +kernel
theorem dX12_shapeOf_264 : decode cX12_shapeOf 264 = .ok (.iinc 5 (-1), 3) := by decide +kernel
theorem dX12_shapeOf_267 : decode cX12_shapeOf 267 = .ok (.goto (-59), 3) := by decide +kernel
theorem dX12_shapeOf_270 : decode cX12_shapeOf 270 = .ok (.return_, 1) := by decide +kernel
theorem dX12_resolutionOf_0 : decode cX12_resolutionOf 0 = .ok (.iconst 0, 1) := by decide +kernel
theorem dX12_resolutionOf_1 : decode cX12_resolutionOf 1 = .ok (.istore_n 1, 1) := by decide +kernel
theorem dX12_resolutionOf_2 : decode cX12_resolutionOf 2 = .ok (.iload_n 1, 1) := by decide +kernel
theorem dX12_resolutionOf_3 : decode cX12_resolutionOf 3 = .ok (.aload_n 0, 1) := by decide +kernel
theorem dX12_resolutionOf_4 : decode cX12_resolutionOf 4 = .ok (.getfield 219, 3) := by decide +kernel
theorem dX12_resolutionOf_7 : decode cX12_resolutionOf 7 = .ok (.if_icmp .ge 88, 3) := by decide +kernel
theorem dX12_resolutionOf_10 : decode cX12_resolutionOf 10 = .ok (.aload_n 0, 1) := by decide +kernel
theorem dX12_resolutionOf_11 : decode cX12_resolutionOf 11 = .ok (.getfield 70, 3) := by decide +kernel
theorem dX12_resolutionOf_14 : decode cX12_resolutionOf 14 = .ok (.iload_n 1, 1) := by decide +kernel
theorem dX12_resolutionOf_15 : decode cX12_resolutionOf 15 = .ok (.iaload, 1) := by decide +kernel
theorem dX12_resolutionOf_16 : decode cX12_resolutionOf 16 = .ok (.aload_n 0, 1) := by decide +kernel
theorem dX12_resolutionOf_17 : decode cX12_resolutionOf 17 = .ok (.getfield 230, 3) := by decide +kernel
theorem dX12_resolutionOf_20 : decode cX12_resolutionOf 20 = .ok (.if_icmp .ne 7, 3) := by decide +kernel
theorem dX12_resolutionOf_23 : decode cX12_resolutionOf 23 = .ok (.iconst 1, 1) := by decide +kernel
theorem dX12_resolutionOf_24 : decode cX12_resolutionOf 24 = .ok (.goto 4, 3) := by decide +kernel
theorem dX12_resolutionOf_27 : decode cX12_resolutionOf 27 = .ok (.iconst 0, 1) := by decide +kernel
theorem dX12_resolutionOf_28 : decode cX12_resolutionOf 28 = .ok (.istore_n 2, 1) := by decide +kernel
theorem dX12_resolutionOf_29 : decode cX12_resolutionOf 29 = .ok (.iconst 0, 1) := by decide +kernel
theorem dX12_resolutionOf_30 : decode cX12_resolutionOf 30 = .ok (.istore_n 3, 1) := by decide +kernel
theorem dX12_resolutionOf_31 : decode cX12_resolutionOf 31 = .ok (.iload_n 3, 1) := by decide +kernel
theorem dX12_resolutionOf_32 : decode cX12_resolutionOf 32 = .ok (.aload_n 0, 1) := by decide +kernel
theorem dX12_resolutionOf_33 : decode cX12_resolutionOf 33 = .ok (.getfield 230, 3) := by decide +kernel
theorem dX12_resolutionOf_36 : decode cX12_resolutionOf 36 = .ok (.if_icmp .ge 47, 3) := by decide +kernel
theorem dX12_resolutionOf_39 : decode cX12_resolutionOf 39 = .ok (.iload_n 2, 1) := by decide +kernel
theorem dX12_resolutionOf_40 : decode cX12_resolutionOf 40 = .ok (.ifCond .eq 43, 3) := by decide +kernel
theorem dX12_resolutionOf_43 : decode cX12_resolutionOf 43 = .ok (.aload_n 0, 1) := by decide +kernel
theorem dX12_resolutionOf_44 : decode cX12_resolutionOf 44 = .ok (.getfield 67, 3) := by decide +kernel
theorem dX12_resolutionOf_47 : decode cX12_resolutionOf 47 = .ok (.bipush 51, 2) := by decide +kernel
theorem dX12_resolutionOf_49 : decode cX12_resolutionOf 49 = .ok (.iload_n 1, 1) := by decide +kernel
theorem dX12_resolutionOf_50 : decode cX12_resolutionOf 50 = .ok (.imul, 1) := by decide +kernel
theorem dX12_resolutionOf_51 : decode cX12_resolutionOf 51 = .ok (.iload_n 3, 1) := by decide +kernel
theorem dX12_resolutionOf_52 : decode cX12_resolutionOf 52 = .ok (.iadd, 1) := by decide +kernel
theorem dX12_resolutionOf_53 : decode cX12_resolutionOf 53 = .ok (.iaload, 1) := by decide +kernel
theorem dX12_resolutionOf_54 : decode cX12_resolutionOf 54 = .ok (.aload_n 0, 1) := by decide +kernel
theorem dX12_resolutionOf_55 : decode cX12_resolutionOf 55 = .ok (.getfield 58, 3) := by decide +kernel
theorem dX12_resolutionOf_58 : decode cX12_resolutionOf 58 = .ok (.bipush 51, 2) := by decide +kernel
theorem dX12_resolutionOf_60 : decode cX12_resolutionOf 60 = .ok (.aload_n 0, 1) := by decide +kernel
theorem dX12_resolutionOf_61 : decode cX12_resolutionOf 61 = .ok (.getfield 233, 3) := by decide +kernel
theorem dX12_resolutionOf_64 : decode cX12_resolutionOf 64 = .ok (.imul, 1) := by decide +kernel
theorem dX12_resolutionOf_65 : decode cX12_resolutionOf 65 = .ok (.iload_n 3, 1) := by decide +kernel
theorem dX12_resolutionOf_66 : decode cX12_resolutionOf 66 = .ok (.iadd, 1) := by decide +kernel
theorem dX12_resolutionOf_67 : decode cX12_resolutionOf 67 = .ok (.iaload, 1) := by decide +kernel
theorem dX12_resolutionOf_68 : decode cX12_resolutionOf 68 = .ok (.if_icmp .ne 7, 3) := by decide +kernel
theorem dX12_resolutionOf_71 : decode cX12_resolutionOf 71 = .ok (.iconst 1, 1) := by decide +kernel
theorem dX12_resolutionOf_72 : decode cX12_resolutionOf 72 = .ok (.goto 4, 3) := by decide +kernel
theorem dX12_resolutionOf_75 : decode cX12_resolutionOf 75 = .ok (.iconst 0, 1) := by decide +kernel
theorem dX12_resolutionOf_76 : decode cX12_resolutionOf 76 = .ok (.istore_n 2, 1) := by decide +kernel
theorem dX12_resolutionOf_77 : decode cX12_resolutionOf 77 = .ok (.iinc 3 1, 3) := by decide +kernel
theorem dX12_resolutionOf_80 : decode cX12_resolutionOf 80 = .ok (.goto (-49), 3) := by decide +kernel
theorem dX12_resolutionOf_83 : decode cX12_resolutionOf 83 = .ok (.iload_n 2, 1) := by decide +kernel
theorem dX12_resolutionOf_84 : decode cX12_resolutionOf 84 = .ok (.ifCond .eq 5, 3) := by decide +kernel
theorem dX12_resolutionOf_87 : decode cX12_resolutionOf 87 = .ok (.iload_n 1, 1) := by decide +kernel
theorem dX12_resolutionOf_88 : decode cX12_resolutionOf 88 = .ok (.ireturn, 1) := by decide +kernel
theorem dX12_resolutionOf_89 : decode cX12_resolutionOf 89 = .ok (.iinc 1 1, 3) := by decide +kernel
theorem dX12_resolutionOf_92 : decode cX12_resolutionOf 92 = .ok (.goto (-90), 3) := by decide +kernel
theorem dX12_resolutionOf_95 : decode cX12_resolutionOf 95 = .ok (.bipush (-9), 2) := by decide +kernel
theorem dX12_resolutionOf_97 : decode cX12_resolutionOf 97 = .ok (.ireturn, 1) := by decide +kernel
theorem dX12_resolves_0 : decode cX12_resolves 0 = .ok (.bipush 6, 2) := by decide +kernel
theorem dX12_resolves_2 : decode cX12_resolves 2 = .ok (.aload_n 0, 1) := by decide +kernel
theorem dX12_resolves_3 : decode cX12_resolves 3 = .ok (.getfield 236, 3) := by decide +kernel
theorem dX12_resolves_6 : decode cX12_resolves 6 = .ok (.imul, 1) := by decide +kernel
theorem dX12_resolves_7 : decode cX12_resolves 7 = .ok (.istore 4, 2) := by decide +kernel
theorem dX12_resolves_9 : decode cX12_resolves 9 = .ok (.aload_n 0, 1) := by decide +kernel
theorem dX12_resolves_10 : decode cX12_resolves 10 = .ok (.dup, 1) := by decide +kernel
theorem dX12_resolves_11 : decode cX12_resolves 11 = .ok (.getfield 207, 3) := by decide +kernel
theorem dX12_resolves_14 : decode cX12_resolves 14 = .ok (.iconst 1, 1) := by decide +kernel
theorem dX12_resolves_15 : decode cX12_resolves 15 = .ok (.iadd, 1) := by decide +kernel
theorem dX12_resolves_16 : decode cX12_resolves 16 = .ok (.putfield 207, 3) := by decide +kernel
theorem dX12_resolves_19 : decode cX12_resolves 19 = .ok (.aload_n 0, 1) := by decide +kernel
theorem dX12_resolves_20 : decode cX12_resolves 20 = .ok (.iload_n 1, 1) := by decide +kernel
theorem dX12_resolves_21 : decode cX12_resolves 21 = .ok (.iload_n 2, 1) := by decide +kernel
theorem dX12_resolves_22 : decode cX12_resolves 22 = .ok (.iload_n 3, 1) := by decide +kernel
theorem dX12_resolves_23 : decode cX12_resolves 23 = .ok (.iload 4, 2) := by decide +kernel
theorem dX12_resolves_25 : decode cX12_resolves 25 = .ok (.invokevirtual 239, 3) := by decide +kernel
theorem dX12_resolves_28 : decode cX12_resolves 28 = .ok (.aload_n 0, 1) := by decide +kernel
theorem dX12_resolves_29 : decode cX12_resolves 29 = .ok (.invokevirtual 242, 3) := by decide +kernel
theorem dX12_resolves_32 : decode cX12_resolves 32 = .ok (.istore 5, 2) := by decide +kernel
theorem dX12_resolves_34 : decode cX12_resolves 34 = .ok (.iload 5, 2) := by decide +kernel
theorem dX12_resolves_36 : decode cX12_resolves 36 = .ok (.bipush (-9), 2) := by decide +kernel
theorem dX12_resolves_38 : decode cX12_resolves 38 = .ok (.if_icmp .ne 14, 3) := by decide +kernel
theorem dX12_resolves_41 : decode cX12_resolves 41 = .ok (.aload_n 0, 1) := by decide +kernel
theorem dX12_resolves_42 : decode cX12_resolves 42 = .ok (.dup, 1) := by decide +kernel
theorem dX12_resolves_43 : decode cX12_resolves 43 = .ok (.getfield 236, 3) := by decide +kernel
theorem dX12_resolves_46 : decode cX12_resolves 46 = .ok (.iconst 1, 1) := by decide +kernel
theorem dX12_resolves_47 : decode cX12_resolves 47 = .ok (.iadd, 1) := by decide +kernel
theorem dX12_resolves_48 : decode cX12_resolves 48 = .ok (.putfield 236, 3) := by decide +kernel
theorem dX12_resolves_51 : decode cX12_resolves 51 = .ok (.return_, 1) := by decide +kernel
theorem dX12_resolves_52 : decode cX12_resolves 52 = .ok (.iconst 0, 1) := by decide +kernel
theorem dX12_resolves_53 : decode cX12_resolves 53 = .ok (.istore 6, 2) := by decide +kernel
theorem dX12_resolves_55 : decode cX12_resolves 55 = .ok (.iload 6, 2) := by decide +kernel
theorem dX12_resolves_57 : decode cX12_resolves 57 = .ok (.aload_n 0, 1) := by decide +kernel
theorem dX12_resolves_58 : decode cX12_resolves 58 = .ok (.getfield 76, 3) := by decide +kernel
theorem dX12_resolves_61 : decode cX12_resolves 61 = .ok (.iload 5, 2) := by decide +kernel
theorem dX12_resolves_63 : decode cX12_resolves 63 = .ok (.iaload, 1) := by decide +kernel
theorem dX12_resolves_64 : decode cX12_resolves 64 = .ok (.if_icmp .ge 73, 3) := by decide +kernel
theorem dX12_resolves_67 : decode cX12_resolves 67 = .ok (.aload_n 0, 1) := by decide +kernel
theorem dX12_resolves_68 : decode cX12_resolves 68 = .ok (.getfield 73, 3) := by decide +kernel
theorem dX12_resolves_71 : decode cX12_resolves 71 = .ok (.bipush 6, 2) := by decide +kernel
theorem dX12_resolves_73 : decode cX12_resolves 73 = .ok (.iload 5, 2) := by decide +kernel
theorem dX12_resolves_75 : decode cX12_resolves 75 = .ok (.imul, 1) := by decide +kernel
theorem dX12_resolves_76 : decode cX12_resolves 76 = .ok (.iload 6, 2) := by decide +kernel
theorem dX12_resolves_78 : decode cX12_resolves 78 = .ok (.iadd, 1) := by decide +kernel
theorem dX12_resolves_79 : decode cX12_resolves 79 = .ok (.iaload, 1) := by decide +kernel
theorem dX12_resolves_80 : decode cX12_resolves 80 = .ok (.istore 7, 2) := by decide +kernel
theorem dX12_resolves_82 : decode cX12_resolves 82 = .ok (.aload_n 0, 1) := by decide +kernel
theorem dX12_resolves_83 : decode cX12_resolves 83 = .ok (.getfield 52, 3) := by decide +kernel
theorem dX12_resolves_86 : decode cX12_resolves 86 = .ok (.aload_n 0, 1) := by decide +kernel
theorem dX12_resolves_87 : decode cX12_resolves 87 = .ok (.getfield 210, 3) := by decide +kernel
theorem dX12_resolves_90 : decode cX12_resolves 90 = .ok (.iload 7, 2) := by decide +kernel
theorem dX12_resolves_92 : decode cX12_resolves 92 = .ok (.bipush 100, 2) := by decide +kernel
theorem dX12_resolves_94 : decode cX12_resolves 94 = .ok (.if_icmp .ge 21, 3) := by decide +kernel
theorem dX12_resolves_97 : decode cX12_resolves 97 = .ok (.aload_n 0, 1) := by decide +kernel
theorem dX12_resolves_98 : decode cX12_resolves 98 = .ok (.getfield 61, 3) := by decide +kernel
theorem dX12_resolves_101 : decode cX12_resolves 101 = .ok (.bipush 48, 2) := by decide +kernel
theorem dX12_resolves_103 : decode cX12_resolves 103 = .ok (.aload_n 0, 1) := by decide +kernel
theorem dX12_resolves_104 : decode cX12_resolves 104 = .ok (.getfield 233, 3) := by decide +kernel
theorem dX12_resolves_107 : decode cX12_resolves 107 = .ok (.imul, 1) := by decide +kernel
theorem dX12_resolves_108 : decode cX12_resolves 108 = .ok (.iload 7, 2) := by decide +kernel
theorem dX12_resolves_110 : decode cX12_resolves 110 = .ok (.iadd, 1) := by decide +kernel
theorem dX12_resolves_111 : decode cX12_resolves 111 = .ok (.iaload, 1) := by decide +kernel
theorem dX12_resolves_112 : decode cX12_resolves 112 = .ok (.goto 8, 3) := by decide +kernel
theorem dX12_resolves_115 : decode cX12_resolves 115 = .ok (.iload 7, 2) := by decide +kernel
theorem dX12_resolves_117 : decode cX12_resolves 117 = .ok (.bipush 100, 2) := by decide +kernel
theorem dX12_resolves_119 : decode cX12_resolves 119 = .ok (.isub, 1) := by decide +kernel
theorem dX12_resolves_120 : decode cX12_resolves 120 = .ok (.iastore, 1) := by decide +kernel
theorem dX12_resolves_121 : decode cX12_resolves 121 = .ok (.aload_n 0, 1) := by decide +kernel
theorem dX12_resolves_122 : decode cX12_resolves 122 = .ok (.dup, 1) := by decide +kernel
theorem dX12_resolves_123 : decode cX12_resolves 123 = .ok (.getfield 210, 3) := by decide +kernel
theorem dX12_resolves_126 : decode cX12_resolves 126 = .ok (.iconst 1, 1) := by decide +kernel
theorem dX12_resolves_127 : decode cX12_resolves 127 = .ok (.iadd, 1) := by decide +kernel
theorem dX12_resolves_128 : decode cX12_resolves 128 = .ok (.putfield 210, 3) := by decide +kernel
theorem dX12_resolves_131 : decode cX12_resolves 131 = .ok (.iinc 6 1, 3) := by decide +kernel
theorem dX12_resolves_134 : decode cX12_resolves 134 = .ok (.goto (-79), 3) := by decide +kernel
theorem dX12_resolves_137 : decode cX12_resolves 137 = .ok (.return_, 1) := by decide +kernel
theorem dX12_mergesGap_0 : decode cX12_mergesGap 0 = .ok (.bipush 6, 2) := by decide +kernel
theorem dX12_mergesGap_2 : decode cX12_mergesGap 2 = .ok (.aload_n 0, 1) := by decide +kernel
theorem dX12_mergesGap_3 : decode cX12_mergesGap 3 = .ok (.getfield 236, 3) := by decide +kernel
theorem dX12_mergesGap_6 : decode cX12_mergesGap 6 = .ok (.imul, 1) := by decide +kernel
theorem dX12_mergesGap_7 : decode cX12_mergesGap 7 = .ok (.istore 4, 2) := by decide +kernel
theorem dX12_mergesGap_9 : decode cX12_mergesGap 9 = .ok (.aload_n 0, 1) := by decide +kernel
theorem dX12_mergesGap_10 : decode cX12_mergesGap 10 = .ok (.getfield 55, 3) := by decide +kernel
theorem dX12_mergesGap_13 : decode cX12_mergesGap 13 = .ok (.iload 4, 2) := by decide +kernel
theorem dX12_mergesGap_15 : decode cX12_mergesGap 15 = .ok (.iaload, 1) := by decide +kernel
theorem dX12_mergesGap_16 : decode cX12_mergesGap 16 = .ok (.istore 5, 2) := by decide +kernel
theorem dX12_mergesGap_18 : decode cX12_mergesGap 18 = .ok (.aload_n 0, 1) := by decide +kernel
theorem dX12_mergesGap_19 : decode cX12_mergesGap 19 = .ok (.getfield 55, 3) := by decide +kernel
theorem dX12_mergesGap_22 : decode cX12_mergesGap 22 = .ok (.iload 4, 2) := by decide +kernel
theorem dX12_mergesGap_24 : decode cX12_mergesGap 24 = .ok (.iconst 1, 1) := by decide +kernel
theorem dX12_mergesGap_25 : decode cX12_mergesGap 25 = .ok (.iadd, 1) := by decide +kernel
theorem dX12_mergesGap_26 : decode cX12_mergesGap 26 = .ok (.iaload, 1) := by decide +kernel
theorem dX12_mergesGap_27 : decode cX12_mergesGap 27 = .ok (.istore 6, 2) := by decide +kernel
theorem dX12_mergesGap_29 : decode cX12_mergesGap 29 = .ok (.aload_n 0, 1) := by decide +kernel
theorem dX12_mergesGap_30 : decode cX12_mergesGap 30 = .ok (.getfield 55, 3) := by decide +kernel
theorem dX12_mergesGap_33 : decode cX12_mergesGap 33 = .ok (.iload 4, 2) := by decide +kernel
theorem dX12_mergesGap_35 : decode cX12_mergesGap 35 = .ok (.iconst 2, 1) := by decide +kernel
theorem dX12_mergesGap_36 : decode cX12_mergesGap 36 = .ok (.iadd, 1) := by decide +kernel
theorem dX12_mergesGap_37 : decode cX12_mergesGap 37 = .ok (.iaload, 1) := by decide +kernel
theorem dX12_mergesGap_38 : decode cX12_mergesGap 38 = .ok (.istore 7, 2) := by decide +kernel
theorem dX12_mergesGap_40 : decode cX12_mergesGap 40 = .ok (.aload_n 0, 1) := by decide +kernel
theorem dX12_mergesGap_41 : decode cX12_mergesGap 41 = .ok (.getfield 55, 3) := by decide +kernel
theorem dX12_mergesGap_44 : decode cX12_mergesGap 44 = .ok (.iload 4, 2) := by decide +kernel
theorem dX12_mergesGap_46 : decode cX12_mergesGap 46 = .ok (.iconst 3, 1) := by decide +kernel
theorem dX12_mergesGap_47 : decode cX12_mergesGap 47 = .ok (.iadd, 1) := by decide +kernel
theorem dX12_mergesGap_48 : decode cX12_mergesGap 48 = .ok (.iaload, 1) := by decide +kernel
theorem dX12_mergesGap_49 : decode cX12_mergesGap 49 = .ok (.istore 8, 2) := by decide +kernel
theorem dX12_mergesGap_51 : decode cX12_mergesGap 51 = .ok (.aload_n 0, 1) := by decide +kernel
theorem dX12_mergesGap_52 : decode cX12_mergesGap 52 = .ok (.getfield 55, 3) := by decide +kernel
theorem dX12_mergesGap_55 : decode cX12_mergesGap 55 = .ok (.iload 4, 2) := by decide +kernel
theorem dX12_mergesGap_57 : decode cX12_mergesGap 57 = .ok (.iconst 4, 1) := by decide +kernel
theorem dX12_mergesGap_58 : decode cX12_mergesGap 58 = .ok (.iadd, 1) := by decide +kernel
theorem dX12_mergesGap_59 : decode cX12_mergesGap 59 = .ok (.iaload, 1) := by decide +kernel
theorem dX12_mergesGap_60 : decode cX12_mergesGap 60 = .ok (.istore 9, 2) := by decide +kernel
theorem dX12_mergesGap_62 : decode cX12_mergesGap 62 = .ok (.aload_n 0, 1) := by decide +kernel
theorem dX12_mergesGap_63 : decode cX12_mergesGap 63 = .ok (.getfield 55, 3) := by decide +kernel
theorem dX12_mergesGap_66 : decode cX12_mergesGap 66 = .ok (.iload 4, 2) := by decide +kernel
theorem dX12_mergesGap_68 : decode cX12_mergesGap 68 = .ok (.iconst 5, 1) := by decide +kernel
theorem dX12_mergesGap_69 : decode cX12_mergesGap 69 = .ok (.iadd, 1) := by decide +kernel
theorem dX12_mergesGap_70 : decode cX12_mergesGap 70 = .ok (.iaload, 1) := by decide +kernel
theorem dX12_mergesGap_71 : decode cX12_mergesGap 71 = .ok (.istore 10, 2) := by decide +kernel
theorem dX12_mergesGap_73 : decode cX12_mergesGap 73 = .ok (.aload_n 0, 1) := by decide +kernel
theorem dX12_mergesGap_74 : decode cX12_mergesGap 74 = .ok (.iload_n 2, 1) := by decide +kernel
theorem dX12_mergesGap_75 : decode cX12_mergesGap 75 = .ok (.iload 7, 2) := by decide +kernel
theorem dX12_mergesGap_77 : decode cX12_mergesGap 77 = .ok (.iload 8, 2) := by decide +kernel
theorem dX12_mergesGap_79 : decode cX12_mergesGap 79 = .ok (.iload_n 1, 1) := by decide +kernel
theorem dX12_mergesGap_80 : decode cX12_mergesGap 80 = .ok (.iload 5, 2) := by decide +kernel
theorem dX12_mergesGap_82 : decode cX12_mergesGap 82 = .ok (.iload 6, 2) := by decide +kernel
theorem dX12_mergesGap_84 : decode cX12_mergesGap 84 = .ok (.invokevirtual 246, 3) := by decide +kernel
theorem dX12_mergesGap_87 : decode cX12_mergesGap 87 = .ok (.ifCond .eq 15, 3) := by decide +kernel
theorem dX12_mergesGap_90 : decode cX12_mergesGap 90 = .ok (.aload_n 0, 1) := by decide +kernel
theorem dX12_mergesGap_91 : decode cX12_mergesGap 91 = .ok (.iload_n 3, 1) := by decide +kernel
theorem dX12_mergesGap_92 : decode cX12_mergesGap 92 = .ok (.iload 9, 2) := by decide +kernel
theorem dX12_mergesGap_94 : decode cX12_mergesGap 94 = .ok (.iload 10, 2) := by decide +kernel
theorem dX12_mergesGap_96 : decode cX12_mergesGap 96 = .ok (.invokevirtual 250, 3) := by decide +kernel
theorem dX12_mergesGap_99 : decode cX12_mergesGap 99 = .ok (.goto 56, 3) := by decide +kernel
theorem dX12_mergesGap_102 : decode cX12_mergesGap 102 = .ok (.aload_n 0, 1) := by decide +kernel
theorem dX12_mergesGap_103 : decode cX12_mergesGap 103 = .ok (.iload_n 3, 1) := by decide +kernel
theorem dX12_mergesGap_104 : decode cX12_mergesGap 104 = .ok (.iload 9, 2) := by decide +kernel
theorem dX12_mergesGap_106 : decode cX12_mergesGap 106 = .ok (.iload 10, 2) := by decide +kernel
theorem dX12_mergesGap_108 : decode cX12_mergesGap 108 = .ok (.iload_n 1, 1) := by decide +kernel
theorem dX12_mergesGap_109 : decode cX12_mergesGap 109 = .ok (.iload 5, 2) := by decide +kernel
theorem dX12_mergesGap_111 : decode cX12_mergesGap 111 = .ok (.iload 6, 2) := by decide +kernel
theorem dX12_mergesGap_113 : decode cX12_mergesGap 113 = .ok (.invokevirtual 246, 3) := by decide +kernel
theorem dX12_mergesGap_116 : decode cX12_mergesGap 116 = .ok (.ifCond .ne 20, 3) := by decide +kernel
theorem dX12_mergesGap_119 : decode cX12_mergesGap 119 = .ok (.aload_n 0, 1) := by decide +kernel
theorem dX12_mergesGap_120 : decode cX12_mergesGap 120 = .ok (.iload_n 3, 1) := by decide +kernel
theorem dX12_mergesGap_121 : decode cX12_mergesGap 121 = .ok (.iload 9, 2) := by decide +kernel
theorem dX12_mergesGap_123 : decode cX12_mergesGap 123 = .ok (.iload 10, 2) := by decide +kernel
theorem dX12_mergesGap_125 : decode cX12_mergesGap 125 = .ok (.iload_n 2, 1) := by decide +kernel
theorem dX12_mergesGap_126 : decode cX12_mergesGap 126 = .ok (.iload 7, 2) := by decide +kernel
theorem dX12_mergesGap_128 : decode cX12_mergesGap 128 = .ok (.iload 8, 2) := by decide +kernel
theorem dX12_mergesGap_130 : decode cX12_mergesGap 130 = .ok (.invokevirtual 246, 3) := by decide +kernel
theorem dX12_mergesGap_133 : decode cX12_mergesGap 133 = .ok (.ifCond .eq 15, 3) := by decide +kernel
theorem dX12_mergesGap_136 : decode cX12_mergesGap 136 = .ok (.aload_n 0, 1) := by decide +kernel
theorem dX12_mergesGap_137 : decode cX12_mergesGap 137 = .ok (.iload_n 2, 1) := by decide +kernel
theorem dX12_mergesGap_138 : decode cX12_mergesGap 138 = .ok (.iload 7, 2) := by decide +kernel
theorem dX12_mergesGap_140 : decode cX12_mergesGap 140 = .ok (.iload 8, 2) := by decide +kernel
theorem dX12_mergesGap_142 : decode cX12_mergesGap 142 = .ok (.invokevirtual 250, 3) := by decide +kernel
theorem dX12_mergesGap_145 : decode cX12_mergesGap 145 = .ok (.goto 10, 3) := by decide +kernel
theorem dX12_mergesGap_148 : decode cX12_mergesGap 148 = .ok (.aload_n 0, 1) := by decide +kernel
theorem dX12_mergesGap_149 : decode cX12_mergesGap 149 = .ok (.iload_n 1, 1) := by decide +kernel
theorem dX12_mergesGap_150 : decode cX12_mergesGap 150 = .ok (.iload_n 2, 1) := by decide +kernel
theorem dX12_mergesGap_151 : decode cX12_mergesGap 151 = .ok (.iload_n 3, 1) := by decide +kernel
theorem dX12_mergesGap_152 : decode cX12_mergesGap 152 = .ok (.invokevirtual 253, 3) := by decide +kernel
theorem dX12_mergesGap_155 : decode cX12_mergesGap 155 = .ok (.return_, 1) := by decide +kernel
theorem dX12_merges_0 : decode cX12_merges 0 = .ok (.aload_n 0, 1) := by decide +kernel
theorem dX12_merges_1 : decode cX12_merges 1 = .ok (.iload_n 1, 1) := by decide +kernel
theorem dX12_merges_2 : decode cX12_merges 2 = .ok (.iload_n 2, 1) := by decide +kernel
theorem dX12_merges_3 : decode cX12_merges 3 = .ok (.iconst 0, 1) := by decide +kernel
theorem dX12_merges_4 : decode cX12_merges 4 = .ok (.invokevirtual 154, 3) := by decide +kernel
theorem dX12_merges_7 : decode cX12_merges 7 = .ok (.aload_n 0, 1) := by decide +kernel
theorem dX12_merges_8 : decode cX12_merges 8 = .ok (.iload_n 1, 1) := by decide +kernel
theorem dX12_merges_9 : decode cX12_merges 9 = .ok (.iload_n 3, 1) := by decide +kernel
theorem dX12_merges_10 : decode cX12_merges 10 = .ok (.iconst 1, 1) := by decide +kernel
theorem dX12_merges_11 : decode cX12_merges 11 = .ok (.invokevirtual 154, 3) := by decide +kernel
theorem dX12_merges_14 : decode cX12_merges 14 = .ok (.aload_n 0, 1) := by decide +kernel
theorem dX12_merges_15 : decode cX12_merges 15 = .ok (.iconst 0, 1) := by decide +kernel
theorem dX12_merges_16 : decode cX12_merges 16 = .ok (.putfield 210, 3) := by decide +kernel
theorem dX12_merges_19 : decode cX12_merges 19 = .ok (.aload_n 0, 1) := by decide +kernel
theorem dX12_merges_20 : decode cX12_merges 20 = .ok (.iconst 0, 1) := by decide +kernel
theorem dX12_merges_21 : decode cX12_merges 21 = .ok (.putfield 207, 3) := by decide +kernel
theorem dX12_merges_24 : decode cX12_merges 24 = .ok (.aload_n 0, 1) := by decide +kernel
theorem dX12_merges_25 : decode cX12_merges 25 = .ok (.iconst 0, 1) := by decide +kernel
theorem dX12_merges_26 : decode cX12_merges 26 = .ok (.putfield 236, 3) := by decide +kernel
theorem dX12_merges_29 : decode cX12_merges 29 = .ok (.iconst 0, 1) := by decide +kernel
theorem dX12_merges_30 : decode cX12_merges 30 = .ok (.istore 4, 2) := by decide +kernel
theorem dX12_merges_32 : decode cX12_merges 32 = .ok (.iconst 0, 1) := by decide +kernel
theorem dX12_merges_33 : decode cX12_merges 33 = .ok (.istore 5, 2) := by decide +kernel
theorem dX12_merges_35 : decode cX12_merges 35 = .ok (.iconst 0, 1) := by decide +kernel
theorem dX12_merges_36 : decode cX12_merges 36 = .ok (.istore 6, 2) := by decide +kernel
theorem dX12_merges_38 : decode cX12_merges 38 = .ok (.iconst 0, 1) := by decide +kernel
theorem dX12_merges_39 : decode cX12_merges 39 = .ok (.istore 7, 2) := by decide +kernel
theorem dX12_merges_41 : decode cX12_merges 41 = .ok (.iload 7, 2) := by decide +kernel
theorem dX12_merges_43 : decode cX12_merges 43 = .ok (.aload_n 0, 1) := by decide +kernel
theorem dX12_merges_44 : decode cX12_merges 44 = .ok (.getfield 25, 3) := by decide +kernel
theorem dX12_merges_47 : decode cX12_merges 47 = .ok (.iload_n 1, 1) := by decide +kernel
theorem dX12_merges_48 : decode cX12_merges 48 = .ok (.iaload, 1) := by decide +kernel
theorem dX12_merges_49 : decode cX12_merges 49 = .ok (.if_icmp .gt 252, 3) := by decide +kernel
theorem dX12_merges_52 : decode cX12_merges 52 = .ok (.iload 7, 2) := by decide +kernel
theorem dX12_merges_54 : decode cX12_merges 54 = .ok (.aload_n 0, 1) := by decide +kernel
theorem dX12_merges_55 : decode cX12_merges 55 = .ok (.getfield 25, 3) := by decide +kernel
theorem dX12_merges_58 : decode cX12_merges 58 = .ok (.iload_n 1, 1) := by decide +kernel
theorem dX12_merges_59 : decode cX12_merges 59 = .ok (.iaload, 1) := by decide +kernel
theorem dX12_merges_60 : decode cX12_merges 60 = .ok (.if_icmp .ne 7, 3) := by decide +kernel
theorem dX12_merges_63 : decode cX12_merges 63 = .ok (.iconst 1, 1) := by decide +kernel
theorem dX12_merges_64 : decode cX12_merges 64 = .ok (.goto 4, 3) := by decide +kernel
theorem dX12_merges_67 : decode cX12_merges 67 = .ok (.iconst 0, 1) := by decide +kernel
theorem dX12_merges_68 : decode cX12_merges 68 = .ok (.istore 8, 2) := by decide +kernel
theorem dX12_merges_70 : decode cX12_merges 70 = .ok (.iload 8, 2) := by decide +kernel
theorem dX12_merges_72 : decode cX12_merges 72 = .ok (.ifCond .ne 30, 3) := by decide +kernel
theorem dX12_merges_75 : decode cX12_merges 75 = .ok (.aload_n 0, 1) := by decide +kernel
theorem dX12_merges_76 : decode cX12_merges 76 = .ok (.getfield 34, 3) := by decide +kernel
theorem dX12_merges_79 : decode cX12_merges 79 = .ok (.iload 7, 2) := by decide +kernel
theorem dX12_merges_81 : decode cX12_merges 81 = .ok (.iaload, 1) := by decide +kernel
theorem dX12_merges_82 : decode cX12_merges 82 = .ok (.bipush (-9), 2) := by decide +kernel
theorem dX12_merges_84 : decode cX12_merges 84 = .ok (.if_icmp .eq 211, 3) := by decide +kernel
theorem dX12_merges_87 : decode cX12_merges 87 = .ok (.aload_n 0, 1) := by decide +kernel
theorem dX12_merges_88 : decode cX12_merges 88 = .ok (.getfield 34, 3) := by decide +kernel
theorem dX12_merges_91 : decode cX12_merges 91 = .ok (.bipush 16, 2) := by decide +kernel
theorem dX12_merges_93 : decode cX12_merges 93 = .ok (.iload 7, 2) := by decide +kernel
theorem dX12_merges_95 : decode cX12_merges 95 = .ok (.iadd, 1) := by decide +kernel
theorem dX12_merges_96 : decode cX12_merges 96 = .ok (.iaload, 1) := by decide +kernel
theorem dX12_merges_97 : decode cX12_merges 97 = .ok (.bipush (-9), 2) := by decide +kernel
theorem dX12_merges_99 : decode cX12_merges 99 = .ok (.if_icmp .eq 196, 3) := by decide +kernel
theorem dX12_merges_102 : decode cX12_merges 102 = .ok (.bipush 6, 2) := by decide +kernel
theorem dX12_merges_104 : decode cX12_merges 104 = .ok (.aload_n 0, 1) := by decide +kernel
theorem dX12_merges_105 : decode cX12_merges 105 = .ok (.getfield 236, 3) := by decide +kernel
theorem dX12_merges_108 : decode cX12_merges 108 = .ok (.imul, 1) := by decide +kernel
theorem dX12_merges_109 : decode cX12_merges 109 = .ok (.istore 9, 2) := by decide +kernel
theorem dX12_merges_111 : decode cX12_merges 111 = .ok (.aload_n 0, 1) := by decide +kernel
theorem dX12_merges_112 : decode cX12_merges 112 = .ok (.getfield 55, 3) := by decide +kernel
theorem dX12_merges_115 : decode cX12_merges 115 = .ok (.iload 9, 2) := by decide +kernel
theorem dX12_merges_117 : decode cX12_merges 117 = .ok (.iload 4, 2) := by decide +kernel
theorem dX12_merges_119 : decode cX12_merges 119 = .ok (.iastore, 1) := by decide +kernel
theorem dX12_merges_120 : decode cX12_merges 120 = .ok (.aload_n 0, 1) := by decide +kernel
theorem dX12_merges_121 : decode cX12_merges 121 = .ok (.getfield 55, 3) := by decide +kernel
theorem dX12_merges_124 : decode cX12_merges 124 = .ok (.iload 9, 2) := by decide +kernel
theorem dX12_merges_126 : decode cX12_merges 126 = .ok (.iconst 1, 1) := by decide +kernel
theorem dX12_merges_127 : decode cX12_merges 127 = .ok (.iadd, 1) := by decide +kernel
theorem dX12_merges_128 : decode cX12_merges 128 = .ok (.iload 7, 2) := by decide +kernel
theorem dX12_merges_130 : decode cX12_merges 130 = .ok (.iastore, 1) := by decide +kernel
theorem dX12_merges_131 : decode cX12_merges 131 = .ok (.aload_n 0, 1) := by decide +kernel
theorem dX12_merges_132 : decode cX12_merges 132 = .ok (.getfield 55, 3) := by decide +kernel
theorem dX12_merges_135 : decode cX12_merges 135 = .ok (.iload 9, 2) := by decide +kernel
theorem dX12_merges_137 : decode cX12_merges 137 = .ok (.iconst 2, 1) := by decide +kernel
theorem dX12_merges_138 : decode cX12_merges 138 = .ok (.iadd, 1) := by decide +kernel
theorem dX12_merges_139 : decode cX12_merges 139 = .ok (.iload 5, 2) := by decide +kernel
theorem dX12_merges_141 : decode cX12_merges 141 = .ok (.iastore, 1) := by decide +kernel
theorem dX12_merges_142 : decode cX12_merges 142 = .ok (.aload_n 0, 1) := by decide +kernel
theorem dX12_merges_143 : decode cX12_merges 143 = .ok (.getfield 55, 3) := by decide +kernel
theorem dX12_merges_146 : decode cX12_merges 146 = .ok (.iload 9, 2) := by decide +kernel
theorem dX12_merges_148 : decode cX12_merges 148 = .ok (.iconst 3, 1) := by decide +kernel
theorem dX12_merges_149 : decode cX12_merges 149 = .ok (.iadd, 1) := by decide +kernel
theorem dX12_merges_150 : decode cX12_merges 150 = .ok (.iload 8, 2) := by decide +kernel
theorem dX12_merges_152 : decode cX12_merges 152 = .ok (.ifCond .eq 12, 3) := by decide +kernel
theorem dX12_merges_155 : decode cX12_merges 155 = .ok (.aload_n 0, 1) := by decide +kernel
theorem dX12_merges_156 : decode cX12_merges 156 = .ok (.getfield 25, 3) := by decide +kernel
theorem dX12_merges_159 : decode cX12_merges 159 = .ok (.iload_n 2, 1) := by decide +kernel
theorem dX12_merges_160 : decode cX12_merges 160 = .ok (.iaload, 1) := by decide +kernel
theorem dX12_merges_161 : decode cX12_merges 161 = .ok (.goto 10, 3) := by decide +kernel
theorem dX12_merges_164 : decode cX12_merges 164 = .ok (.aload_n 0, 1) := by decide +kernel
theorem dX12_merges_165 : decode cX12_merges 165 = .ok (.getfield 34, 3) := by decide +kernel
theorem dX12_merges_168 : decode cX12_merges 168 = .ok (.iload 7, 2) := by decide +kernel
theorem dX12_merges_170 : decode cX12_merges 170 = .ok (.iaload, 1) := by decide +kernel
theorem dX12_merges_171 : decode cX12_merges 171 = .ok (.iastore, 1) := by decide +kernel
theorem dX12_merges_172 : decode cX12_merges 172 = .ok (.aload_n 0, 1) := by decide +kernel
theorem dX12_merges_173 : decode cX12_merges 173 = .ok (.getfield 55, 3) := by decide +kernel
theorem dX12_merges_176 : decode cX12_merges 176 = .ok (.iload 9, 2) := by decide +kernel
theorem dX12_merges_178 : decode cX12_merges 178 = .ok (.iconst 4, 1) := by decide +kernel
theorem dX12_merges_179 : decode cX12_merges 179 = .ok (.iadd, 1) := by decide +kernel
theorem dX12_merges_180 : decode cX12_merges 180 = .ok (.iload 6, 2) := by decide +kernel
theorem dX12_merges_182 : decode cX12_merges 182 = .ok (.iastore, 1) := by decide +kernel
theorem dX12_merges_183 : decode cX12_merges 183 = .ok (.aload_n 0, 1) := by decide +kernel
theorem dX12_merges_184 : decode cX12_merges 184 = .ok (.getfield 55, 3) := by decide +kernel
theorem dX12_merges_187 : decode cX12_merges 187 = .ok (.iload 9, 2) := by decide +kernel
theorem dX12_merges_189 : decode cX12_merges 189 = .ok (.iconst 5, 1) := by decide +kernel
theorem dX12_merges_190 : decode cX12_merges 190 = .ok (.iadd, 1) := by decide +kernel
theorem dX12_merges_191 : decode cX12_merges 191 = .ok (.iload 8, 2) := by decide +kernel
theorem dX12_merges_193 : decode cX12_merges 193 = .ok (.ifCond .eq 12, 3) := by decide +kernel
theorem dX12_merges_196 : decode cX12_merges 196 = .ok (.aload_n 0, 1) := by decide +kernel
theorem dX12_merges_197 : decode cX12_merges 197 = .ok (.getfield 25, 3) := by decide +kernel
theorem dX12_merges_200 : decode cX12_merges 200 = .ok (.iload_n 3, 1) := by decide +kernel
theorem dX12_merges_201 : decode cX12_merges 201 = .ok (.iaload, 1) := by decide +kernel
theorem dX12_merges_202 : decode cX12_merges 202 = .ok (.goto 13, 3) := by decide +kernel
theorem dX12_merges_205 : decode cX12_merges 205 = .ok (.aload_n 0, 1) := by decide +kernel
theorem dX12_merges_206 : decode cX12_merges 206 = .ok (.getfield 34, 3) := by decide +kernel
theorem dX12_merges_209 : decode cX12_merges 209 = .ok (.bipush 16, 2) := by decide +kernel
theorem dX12_merges_211 : decode cX12_merges 211 = .ok (.iload 7, 2) := by decide +kernel
theorem dX12_merges_213 : decode cX12_merges 213 = .ok (.iadd, 1) := by decide +kernel
theorem dX12_merges_214 : decode cX12_merges 214 = .ok (.iaload, 1) := by decide +kernel
theorem dX12_merges_215 : decode cX12_merges 215 = .ok (.iastore, 1) := by decide +kernel
theorem dX12_merges_216 : decode cX12_merges 216 = .ok (.aload_n 0, 1) := by decide +kernel
theorem dX12_merges_217 : decode cX12_merges 217 = .ok (.iload_n 1, 1) := by decide +kernel
theorem dX12_merges_218 : decode cX12_merges 218 = .ok (.iload_n 2, 1) := by decide +kernel
theorem dX12_merges_219 : decode cX12_merges 219 = .ok (.iload_n 3, 1) := by decide +kernel
theorem dX12_merges_220 : decode cX12_merges 220 = .ok (.invokevirtual 256, 3) := by decide +kernel
theorem dX12_merges_223 : decode cX12_merges 223 = .ok (.aload_n 0, 1) := by decide +kernel
theorem dX12_merges_224 : decode cX12_merges 224 = .ok (.iload_n 1, 1) := by decide +kernel
theorem dX12_merges_225 : decode cX12_merges 225 = .ok (.iload 7, 2) := by decide +kernel
theorem dX12_merges_227 : decode cX12_merges 227 = .ok (.iload 8, 2) := by decide +kernel
theorem dX12_merges_229 : decode cX12_merges 229 = .ok (.ifCond .eq 8, 3) := by decide +kernel
theorem dX12_merges_232 : decode cX12_merges 232 = .ok (.iload 7, 2) := by decide +kernel
theorem dX12_merges_234 : decode cX12_merges 234 = .ok (.goto 7, 3) := by decide +kernel
theorem dX12_merges_237 : decode cX12_merges 237 = .ok (.iload 7, 2) := by decide +kernel
theorem dX12_merges_239 : decode cX12_merges 239 = .ok (.iconst 1, 1) := by decide +kernel
theorem dX12_merges_240 : decode cX12_merges 240 = .ok (.iadd, 1) := by decide +kernel
theorem dX12_merges_241 : decode cX12_merges 241 = .ok (.invokevirtual 250, 3) := by decide +kernel
theorem dX12_merges_244 : decode cX12_merges 244 = .ok (.iload 7, 2) := by decide +kernel
theorem dX12_merges_246 : decode cX12_merges 246 = .ok (.iconst 1, 1) := by decide +kernel
theorem dX12_merges_247 : decode cX12_merges 247 = .ok (.iadd, 1) := by decide +kernel
theorem dX12_merges_248 : decode cX12_merges 248 = .ok (.istore 4, 2) := by decide +kernel
theorem dX12_merges_250 : decode cX12_merges 250 = .ok (.iload 8, 2) := by decide +kernel
theorem dX12_merges_252 : decode cX12_merges 252 = .ok (.ifCond .eq 8, 3) := by decide +kernel
theorem dX12_merges_255 : decode cX12_merges 255 = .ok (.iload 5, 2) := by decide +kernel
theorem dX12_merges_257 : decode cX12_merges 257 = .ok (.goto 12, 3) := by decide +kernel
theorem dX12_merges_260 : decode cX12_merges 260 = .ok (.aload_n 0, 1) := by decide +kernel
theorem dX12_merges_261 : decode cX12_merges 261 = .ok (.getfield 34, 3) := by decide +kernel
theorem dX12_merges_264 : decode cX12_merges 264 = .ok (.iload 7, 2) := by decide +kernel
theorem dX12_merges_266 : decode cX12_merges 266 = .ok (.iaload, 1) := by decide +kernel
theorem dX12_merges_267 : decode cX12_merges 267 = .ok (.iconst 1, 1) := by decide +kernel
theorem dX12_merges_268 : decode cX12_merges 268 = .ok (.iadd, 1) := by decide +kernel
theorem dX12_merges_269 : decode cX12_merges 269 = .ok (.istore 5, 2) := by decide +kernel
theorem dX12_merges_271 : decode cX12_merges 271 = .ok (.iload 8, 2) := by decide +kernel
theorem dX12_merges_273 : decode cX12_merges 273 = .ok (.ifCond .eq 8, 3) := by decide +kernel
theorem dX12_merges_276 : decode cX12_merges 276 = .ok (.iload 6, 2) := by decide +kernel
theorem dX12_merges_278 : decode cX12_merges 278 = .ok (.goto 15, 3) := by decide +kernel
theorem dX12_merges_281 : decode cX12_merges 281 = .ok (.aload_n 0, 1) := by decide +kernel
theorem dX12_merges_282 : decode cX12_merges 282 = .ok (.getfield 34, 3) := by decide +kernel
theorem dX12_merges_285 : decode cX12_merges 285 = .ok (.bipush 16, 2) := by decide +kernel
theorem dX12_merges_287 : decode cX12_merges 287 = .ok (.iload 7, 2) := by decide +kernel
theorem dX12_merges_289 : decode cX12_merges 289 = .ok (.iadd, 1) := by decide +kernel
theorem dX12_merges_290 : decode cX12_merges 290 = .ok (.iaload, 1) := by decide +kernel
theorem dX12_merges_291 : decode cX12_merges 291 = .ok (.iconst 1, 1) := by decide +kernel
theorem dX12_merges_292 : decode cX12_merges 292 = .ok (.iadd, 1) := by decide +kernel
theorem dX12_merges_293 : decode cX12_merges 293 = .ok (.istore 6, 2) := by decide +kernel
theorem dX12_merges_295 : decode cX12_merges 295 = .ok (.iinc 7 1, 3) := by decide +kernel
theorem dX12_merges_298 : decode cX12_merges 298 = .ok (.goto (-257), 3) := by decide +kernel
theorem dX12_merges_301 : decode cX12_merges 301 = .ok (.return_, 1) := by decide +kernel
theorem dX12_merge_0 : decode cX12_merge 0 = .ok (.aload_n 0, 1) := by decide +kernel
theorem dX12_merge_1 : decode cX12_merge 1 = .ok (.iload_n 1, 1) := by decide +kernel
theorem dX12_merge_2 : decode cX12_merge 2 = .ok (.invokevirtual 171, 3) := by decide +kernel
theorem dX12_merge_5 : decode cX12_merge 5 = .ok (.ifCond .eq 19, 3) := by decide +kernel
theorem dX12_merge_8 : decode cX12_merge 8 = .ok (.aload_n 0, 1) := by decide +kernel
theorem dX12_merge_9 : decode cX12_merge 9 = .ok (.iload_n 2, 1) := by decide +kernel
theorem dX12_merge_10 : decode cX12_merge 10 = .ok (.invokevirtual 171, 3) := by decide +kernel
theorem dX12_merge_13 : decode cX12_merge 13 = .ok (.ifCond .eq 11, 3) := by decide +kernel
theorem dX12_merge_16 : decode cX12_merge 16 = .ok (.aload_n 0, 1) := by decide +kernel
theorem dX12_merge_17 : decode cX12_merge 17 = .ok (.iload_n 3, 1) := by decide +kernel
theorem dX12_merge_18 : decode cX12_merge 18 = .ok (.invokevirtual 171, 3) := by decide +kernel
theorem dX12_merge_21 : decode cX12_merge 21 = .ok (.ifCond .ne 5, 3) := by decide +kernel
theorem dX12_merge_24 : decode cX12_merge 24 = .ok (.iconst (-1), 1) := by decide +kernel
theorem dX12_merge_25 : decode cX12_merge 25 = .ok (.ireturn, 1) := by decide +kernel
theorem dX12_merge_26 : decode cX12_merge 26 = .ok (.iload 4, 2) := by decide +kernel
theorem dX12_merge_28 : decode cX12_merge 28 = .ok (.iconst 0, 1) := by decide +kernel
theorem dX12_merge_29 : decode cX12_merge 29 = .ok (.iconst 2, 1) := by decide +kernel
theorem dX12_merge_30 : decode cX12_merge 30 = .ok (.invokestatic 139, 3) := by decide +kernel
theorem dX12_merge_33 : decode cX12_merge 33 = .ok (.ifCond .ne 18, 3) := by decide +kernel
theorem dX12_merge_36 : decode cX12_merge 36 = .ok (.iload 4, 2) := by decide +kernel
theorem dX12_merge_38 : decode cX12_merge 38 = .ok (.bipush 10, 2) := by decide +kernel
theorem dX12_merge_40 : decode cX12_merge 40 = .ok (.bipush 25, 2) := by decide +kernel
theorem dX12_merge_42 : decode cX12_merge 42 = .ok (.invokestatic 139, 3) := by decide +kernel
theorem dX12_merge_45 : decode cX12_merge 45 = .ok (.ifCond .ne 6, 3) := by decide +kernel
theorem dX12_merge_48 : decode cX12_merge 48 = .ok (.bipush (-2), 2) := by decide +kernel
theorem dX12_merge_50 : decode cX12_merge 50 = .ok (.ireturn, 1) := by decide +kernel
theorem dX12_merge_51 : decode cX12_merge 51 = .ok (.aload_n 0, 1) := by decide +kernel
theorem dX12_merge_52 : decode cX12_merge 52 = .ok (.iload_n 1, 1) := by decide +kernel
theorem dX12_merge_53 : decode cX12_merge 53 = .ok (.iload_n 2, 1) := by decide +kernel
theorem dX12_merge_54 : decode cX12_merge 54 = .ok (.iload_n 3, 1) := by decide +kernel
theorem dX12_merge_55 : decode cX12_merge 55 = .ok (.invokevirtual 204, 3) := by decide +kernel
theorem dX12_merge_58 : decode cX12_merge 58 = .ok (.iload 4, 2) := by decide +kernel
theorem dX12_merge_60 : decode cX12_merge 60 = .ok (.iconst 2, 1) := by decide +kernel
theorem dX12_merge_61 : decode cX12_merge 61 = .ok (.if_icmp .ge 20, 3) := by decide +kernel
theorem dX12_merge_64 : decode cX12_merge 64 = .ok (.iload 4, 2) := by decide +kernel
theorem dX12_merge_66 : decode cX12_merge 66 = .ok (.ifCond .ne 10, 3) := by decide +kernel
theorem dX12_merge_69 : decode cX12_merge 69 = .ok (.aload_n 0, 1) := by decide +kernel
theorem dX12_merge_70 : decode cX12_merge 70 = .ok (.getfield 207, 3) := by decide +kernel
theorem dX12_merge_73 : decode cX12_merge 73 = .ok (.goto 7, 3) := by decide +kernel
theorem dX12_merge_76 : decode cX12_merge 76 = .ok (.aload_n 0, 1) := by decide +kernel
theorem dX12_merge_77 : decode cX12_merge 77 = .ok (.getfield 236, 3) := by decide +kernel
theorem dX12_merge_80 : decode cX12_merge 80 = .ok (.ireturn, 1) := by decide +kernel
theorem dX12_merge_81 : decode cX12_merge 81 = .ok (.aload_n 0, 1) := by decide +kernel
theorem dX12_merge_82 : decode cX12_merge 82 = .ok (.getfield 236, 3) := by decide +kernel
theorem dX12_merge_85 : decode cX12_merge 85 = .ok (.ifCond .le 6, 3) := by decide +kernel
theorem dX12_merge_88 : decode cX12_merge 88 = .ok (.bipush (-9), 2) := by decide +kernel
theorem dX12_merge_90 : decode cX12_merge 90 = .ok (.ireturn, 1) := by decide +kernel
theorem dX12_merge_91 : decode cX12_merge 91 = .ok (.iload 4, 2) := by decide +kernel
theorem dX12_merge_93 : decode cX12_merge 93 = .ok (.iconst 2, 1) := by decide +kernel
theorem dX12_merge_94 : decode cX12_merge 94 = .ok (.if_icmp .ne 10, 3) := by decide +kernel
theorem dX12_merge_97 : decode cX12_merge 97 = .ok (.aload_n 0, 1) := by decide +kernel
theorem dX12_merge_98 : decode cX12_merge 98 = .ok (.getfield 210, 3) := by decide +kernel
theorem dX12_merge_101 : decode cX12_merge 101 = .ok (.goto 30, 3) := by decide +kernel
theorem dX12_merge_104 : decode cX12_merge 104 = .ok (.iload 4, 2) := by decide +kernel
theorem dX12_merge_106 : decode cX12_merge 106 = .ok (.bipush 10, 2) := by decide +kernel
theorem dX12_merge_108 : decode cX12_merge 108 = .ok (.isub, 1) := by decide +kernel
theorem dX12_merge_109 : decode cX12_merge 109 = .ok (.aload_n 0, 1) := by decide +kernel
theorem dX12_merge_110 : decode cX12_merge 110 = .ok (.getfield 210, 3) := by decide +kernel
theorem dX12_merge_113 : decode cX12_merge 113 = .ok (.if_icmp .ge 16, 3) := by decide +kernel
theorem dX12_merge_116 : decode cX12_merge 116 = .ok (.aload_n 0, 1) := by decide +kernel
theorem dX12_merge_117 : decode cX12_merge 117 = .ok (.getfield 52, 3) := by decide +kernel
theorem dX12_merge_120 : decode cX12_merge 120 = .ok (.iload 4, 2) := by decide +kernel
theorem dX12_merge_122 : decode cX12_merge 122 = .ok (.bipush 10, 2) := by decide +kernel
theorem dX12_merge_124 : decode cX12_merge 124 = .ok (.isub, 1) := by decide +kernel
theorem dX12_merge_125 : decode cX12_merge 125 = .ok (.iaload, 1) := by decide +kernel
theorem dX12_merge_126 : decode cX12_merge 126 = .ok (.goto 5, 3) := by decide +kernel
theorem dX12_merge_129 : decode cX12_merge 129 = .ok (.bipush (-9), 2) := by decide +kernel
theorem dX12_merge_131 : decode cX12_merge 131 = .ok (.ireturn, 1) := by decide +kernel
theorem dX12_resolution_0 : decode cX12_resolution 0 = .ok (.iload_n 1, 1) := by decide +kernel
theorem dX12_resolution_1 : decode cX12_resolution 1 = .ok (.iconst 0, 1) := by decide +kernel
theorem dX12_resolution_2 : decode cX12_resolution 2 = .ok (.aload_n 0, 1) := by decide +kernel
theorem dX12_resolution_3 : decode cX12_resolution 3 = .ok (.getfield 219, 3) := by decide +kernel
theorem dX12_resolution_6 : decode cX12_resolution 6 = .ok (.iconst 1, 1) := by decide +kernel
theorem dX12_resolution_7 : decode cX12_resolution 7 = .ok (.isub, 1) := by decide +kernel
theorem dX12_resolution_8 : decode cX12_resolution 8 = .ok (.invokestatic 139, 3) := by decide +kernel
theorem dX12_resolution_11 : decode cX12_resolution 11 = .ok (.ifCond .ne 5, 3) := by decide +kernel
theorem dX12_resolution_14 : decode cX12_resolution 14 = .ok (.iconst (-1), 1) := by decide +kernel
theorem dX12_resolution_15 : decode cX12_resolution 15 = .ok (.ireturn, 1) := by decide +kernel
theorem dX12_resolution_16 : decode cX12_resolution 16 = .ok (.iload_n 2, 1) := by decide +kernel
theorem dX12_resolution_17 : decode cX12_resolution 17 = .ok (.bipush 10, 2) := by decide +kernel
theorem dX12_resolution_19 : decode cX12_resolution 19 = .ok (.bipush 60, 2) := by decide +kernel
theorem dX12_resolution_21 : decode cX12_resolution 21 = .ok (.invokestatic 139, 3) := by decide +kernel
theorem dX12_resolution_24 : decode cX12_resolution 24 = .ok (.ifCond .eq 36, 3) := by decide +kernel
theorem dX12_resolution_27 : decode cX12_resolution 27 = .ok (.iload_n 2, 1) := by decide +kernel
theorem dX12_resolution_28 : decode cX12_resolution 28 = .ok (.bipush 10, 2) := by decide +kernel
theorem dX12_resolution_30 : decode cX12_resolution 30 = .ok (.isub, 1) := by decide +kernel
theorem dX12_resolution_31 : decode cX12_resolution 31 = .ok (.aload_n 0, 1) := by decide +kernel
theorem dX12_resolution_32 : decode cX12_resolution 32 = .ok (.getfield 70, 3) := by decide +kernel
theorem dX12_resolution_35 : decode cX12_resolution 35 = .ok (.iload_n 1, 1) := by decide +kernel
theorem dX12_resolution_36 : decode cX12_resolution 36 = .ok (.iaload, 1) := by decide +kernel
theorem dX12_resolution_37 : decode cX12_resolution 37 = .ok (.if_icmp .ge 20, 3) := by decide +kernel
theorem dX12_resolution_40 : decode cX12_resolution 40 = .ok (.aload_n 0, 1) := by decide +kernel
theorem dX12_resolution_41 : decode cX12_resolution 41 = .ok (.getfield 67, 3) := by decide +kernel
theorem dX12_resolution_44 : decode cX12_resolution 44 = .ok (.bipush 51, 2) := by decide +kernel
theorem dX12_resolution_46 : decode cX12_resolution 46 = .ok (.iload_n 1, 1) := by decide +kernel
theorem dX12_resolution_47 : decode cX12_resolution 47 = .ok (.imul, 1) := by decide +kernel
theorem dX12_resolution_48 : decode cX12_resolution 48 = .ok (.iload_n 2, 1) := by decide +kernel
theorem dX12_resolution_49 : decode cX12_resolution 49 = .ok (.iadd, 1) := by decide +kernel
theorem dX12_resolution_50 : decode cX12_resolution 50 = .ok (.bipush 10, 2) := by decide +kernel
theorem dX12_resolution_52 : decode cX12_resolution 52 = .ok (.isub, 1) := by decide +kernel
theorem dX12_resolution_53 : decode cX12_resolution 53 = .ok (.iaload, 1) := by decide +kernel
theorem dX12_resolution_54 : decode cX12_resolution 54 = .ok (.goto 5, 3) := by decide +kernel
theorem dX12_resolution_57 : decode cX12_resolution 57 = .ok (.bipush (-9), 2) := by decide +kernel
theorem dX12_resolution_59 : decode cX12_resolution 59 = .ok (.ireturn, 1) := by decide +kernel
theorem dX12_resolution_60 : decode cX12_resolution 60 = .ok (.iload_n 2, 1) := by decide +kernel
theorem dX12_resolution_61 : decode cX12_resolution 61 = .ok (.bipush 70, 2) := by decide +kernel
theorem dX12_resolution_63 : decode cX12_resolution 63 = .ok (.bipush 75, 2) := by decide +kernel
theorem dX12_resolution_65 : decode cX12_resolution 65 = .ok (.invokestatic 139, 3) := by decide +kernel
theorem dX12_resolution_68 : decode cX12_resolution 68 = .ok (.ifCond .eq 36, 3) := by decide +kernel
theorem dX12_resolution_71 : decode cX12_resolution 71 = .ok (.iload_n 2, 1) := by decide +kernel
theorem dX12_resolution_72 : decode cX12_resolution 72 = .ok (.bipush 70, 2) := by decide +kernel
theorem dX12_resolution_74 : decode cX12_resolution 74 = .ok (.isub, 1) := by decide +kernel
theorem dX12_resolution_75 : decode cX12_resolution 75 = .ok (.aload_n 0, 1) := by decide +kernel
theorem dX12_resolution_76 : decode cX12_resolution 76 = .ok (.getfield 76, 3) := by decide +kernel
theorem dX12_resolution_79 : decode cX12_resolution 79 = .ok (.iload_n 1, 1) := by decide +kernel
theorem dX12_resolution_80 : decode cX12_resolution 80 = .ok (.iaload, 1) := by decide +kernel
theorem dX12_resolution_81 : decode cX12_resolution 81 = .ok (.if_icmp .ge 20, 3) := by decide +kernel
theorem dX12_resolution_84 : decode cX12_resolution 84 = .ok (.aload_n 0, 1) := by decide +kernel
theorem dX12_resolution_85 : decode cX12_resolution 85 = .ok (.getfield 73, 3) := by decide +kernel
theorem dX12_resolution_88 : decode cX12_resolution 88 = .ok (.bipush 6, 2) := by decide +kernel
theorem dX12_resolution_90 : decode cX12_resolution 90 = .ok (.iload_n 1, 1) := by decide +kernel
theorem dX12_resolution_91 : decode cX12_resolution 91 = .ok (.imul, 1) := by decide +kernel
theorem dX12_resolution_92 : decode cX12_resolution 92 = .ok (.iload_n 2, 1) := by decide +kernel
theorem dX12_resolution_93 : decode cX12_resolution 93 = .ok (.iadd, 1) := by decide +kernel
theorem dX12_resolution_94 : decode cX12_resolution 94 = .ok (.bipush 70, 2) := by decide +kernel
theorem dX12_resolution_96 : decode cX12_resolution 96 = .ok (.isub, 1) := by decide +kernel
theorem dX12_resolution_97 : decode cX12_resolution 97 = .ok (.iaload, 1) := by decide +kernel
theorem dX12_resolution_98 : decode cX12_resolution 98 = .ok (.goto 5, 3) := by decide +kernel
theorem dX12_resolution_101 : decode cX12_resolution 101 = .ok (.bipush (-9), 2) := by decide +kernel
theorem dX12_resolution_103 : decode cX12_resolution 103 = .ok (.ireturn, 1) := by decide +kernel
theorem dX12_resolution_104 : decode cX12_resolution 104 = .ok (.iload_n 2, 1) := by decide +kernel
theorem dX12_resolution_105 : decode cX12_resolution 105 = .ok (.ifCond .ne 12, 3) := by decide +kernel
theorem dX12_resolution_108 : decode cX12_resolution 108 = .ok (.aload_n 0, 1) := by decide +kernel
theorem dX12_resolution_109 : decode cX12_resolution 109 = .ok (.getfield 70, 3) := by decide +kernel
theorem dX12_resolution_112 : decode cX12_resolution 112 = .ok (.iload_n 1, 1) := by decide +kernel
theorem dX12_resolution_113 : decode cX12_resolution 113 = .ok (.iaload, 1) := by decide +kernel
theorem dX12_resolution_114 : decode cX12_resolution 114 = .ok (.goto 19, 3) := by decide +kernel
theorem dX12_resolution_117 : decode cX12_resolution 117 = .ok (.iload_n 2, 1) := by decide +kernel
theorem dX12_resolution_118 : decode cX12_resolution 118 = .ok (.iconst 1, 1) := by decide +kernel
theorem dX12_resolution_119 : decode cX12_resolution 119 = .ok (.if_icmp .ne 12, 3) := by decide +kernel
theorem dX12_resolution_122 : decode cX12_resolution 122 = .ok (.aload_n 0, 1) := by decide +kernel
theorem dX12_resolution_123 : decode cX12_resolution 123 = .ok (.getfield 76, 3) := by decide +kernel
theorem dX12_resolution_126 : decode cX12_resolution 126 = .ok (.iload_n 1, 1) := by decide +kernel
theorem dX12_resolution_127 : decode cX12_resolution 127 = .ok (.iaload, 1) := by decide +kernel
theorem dX12_resolution_128 : decode cX12_resolution 128 = .ok (.goto 5, 3) := by decide +kernel
theorem dX12_resolution_131 : decode cX12_resolution 131 = .ok (.bipush (-2), 2) := by decide +kernel
theorem dX12_resolution_133 : decode cX12_resolution 133 = .ok (.ireturn, 1) := by decide +kernel
theorem dX12_forget_0 : decode cX12_forget 0 = .ok (.iload_n 1, 1) := by decide +kernel
theorem dX12_forget_1 : decode cX12_forget 1 = .ok (.iconst 0, 1) := by decide +kernel
theorem dX12_forget_2 : decode cX12_forget 2 = .ok (.aload_n 0, 1) := by decide +kernel
theorem dX12_forget_3 : decode cX12_forget 3 = .ok (.getfield 219, 3) := by decide +kernel
theorem dX12_forget_6 : decode cX12_forget 6 = .ok (.iconst 1, 1) := by decide +kernel
theorem dX12_forget_7 : decode cX12_forget 7 = .ok (.isub, 1) := by decide +kernel
theorem dX12_forget_8 : decode cX12_forget 8 = .ok (.invokestatic 139, 3) := by decide +kernel
theorem dX12_forget_11 : decode cX12_forget 11 = .ok (.ifCond .ne 5, 3) := by decide +kernel
theorem dX12_forget_14 : decode cX12_forget 14 = .ok (.iconst (-1), 1) := by decide +kernel
theorem dX12_forget_15 : decode cX12_forget 15 = .ok (.ireturn, 1) := by decide +kernel
theorem dX12_forget_16 : decode cX12_forget 16 = .ok (.aload_n 0, 1) := by decide +kernel
theorem dX12_forget_17 : decode cX12_forget 17 = .ok (.dup, 1) := by decide +kernel
theorem dX12_forget_18 : decode cX12_forget 18 = .ok (.getfield 219, 3) := by decide +kernel
theorem dX12_forget_21 : decode cX12_forget 21 = .ok (.iconst 1, 1) := by decide +kernel
theorem dX12_forget_22 : decode cX12_forget 22 = .ok (.isub, 1) := by decide +kernel
theorem dX12_forget_23 : decode cX12_forget 23 = .ok (.putfield 219, 3) := by decide +kernel
theorem dX12_forget_26 : decode cX12_forget 26 = .ok (.iload_n 1, 1) := by decide +kernel
theorem dX12_forget_27 : decode cX12_forget 27 = .ok (.istore_n 2, 1) := by decide +kernel
theorem dX12_forget_28 : decode cX12_forget 28 = .ok (.iload_n 2, 1) := by decide +kernel
theorem dX12_forget_29 : decode cX12_forget 29 = .ok (.aload_n 0, 1) := by decide +kernel
theorem dX12_forget_30 : decode cX12_forget 30 = .ok (.getfield 219, 3) := by decide +kernel
theorem dX12_forget_33 : decode cX12_forget 33 = .ok (.if_icmp .ge 113, 3) := by decide +kernel
theorem dX12_forget_36 : decode cX12_forget 36 = .ok (.aload_n 0, 1) := by decide +kernel
theorem dX12_forget_37 : decode cX12_forget 37 = .ok (.getfield 70, 3) := by decide +kernel
theorem dX12_forget_40 : decode cX12_forget 40 = .ok (.iload_n 2, 1) := by decide +kernel
theorem dX12_forget_41 : decode cX12_forget 41 = .ok (.aload_n 0, 1) := by decide +kernel
theorem dX12_forget_42 : decode cX12_forget 42 = .ok (.getfield 70, 3) := by decide +kernel
theorem dX12_forget_45 : decode cX12_forget 45 = .ok (.iload_n 2, 1) := by decide +kernel
theorem dX12_forget_46 : decode cX12_forget 46 = .ok (.iconst 1, 1) := by decide +kernel
theorem dX12_forget_47 : decode cX12_forget 47 = .ok (.iadd, 1) := by decide +kernel
theorem dX12_forget_48 : decode cX12_forget 48 = .ok (.iaload, 1) := by decide +kernel
theorem dX12_forget_49 : decode cX12_forget 49 = .ok (.iastore, 1) := by decide +kernel
theorem dX12_forget_50 : decode cX12_forget 50 = .ok (.aload_n 0, 1) := by decide +kernel
theorem dX12_forget_51 : decode cX12_forget 51 = .ok (.getfield 76, 3) := by decide +kernel
theorem dX12_forget_54 : decode cX12_forget 54 = .ok (.iload_n 2, 1) := by decide +kernel
theorem dX12_forget_55 : decode cX12_forget 55 = .ok (.aload_n 0, 1) := by decide +kernel
theorem dX12_forget_56 : decode cX12_forget 56 = .ok (.getfield 76, 3) := by decide +kernel
theorem dX12_forget_59 : decode cX12_forget 59 = .ok (.iload_n 2, 1) := by decide +kernel
theorem dX12_forget_60 : decode cX12_forget 60 = .ok (.iconst 1, 1) := by decide +kernel
theorem dX12_forget_61 : decode cX12_forget 61 = .ok (.iadd, 1) := by decide +kernel
theorem dX12_forget_62 : decode cX12_forget 62 = .ok (.iaload, 1) := by decide +kernel
theorem dX12_forget_63 : decode cX12_forget 63 = .ok (.iastore, 1) := by decide +kernel
theorem dX12_forget_64 : decode cX12_forget 64 = .ok (.iconst 0, 1) := by decide +kernel
theorem dX12_forget_65 : decode cX12_forget 65 = .ok (.istore_n 3, 1) := by decide +kernel
theorem dX12_forget_66 : decode cX12_forget 66 = .ok (.iload_n 3, 1) := by decide +kernel
theorem dX12_forget_67 : decode cX12_forget 67 = .ok (.bipush 51, 2) := by decide +kernel
theorem dX12_forget_69 : decode cX12_forget 69 = .ok (.if_icmp .ge 33, 3) := by decide +kernel
theorem dX12_forget_72 : decode cX12_forget 72 = .ok (.aload_n 0, 1) := by decide +kernel
theorem dX12_forget_73 : decode cX12_forget 73 = .ok (.getfield 67, 3) := by decide +kernel
theorem dX12_forget_76 : decode cX12_forget 76 = .ok (.bipush 51, 2) := by decide +kernel
theorem dX12_forget_78 : decode cX12_forget 78 = .ok (.iload_n 2, 1) := by decide +kernel
theorem dX12_forget_79 : decode cX12_forget 79 = .ok (.imul, 1) := by decide +kernel
theorem dX12_forget_80 : decode cX12_forget 80 = .ok (.iload_n 3, 1) := by decide +kernel
theorem dX12_forget_81 : decode cX12_forget 81 = .ok (.iadd, 1) := by decide +kernel
theorem dX12_forget_82 : decode cX12_forget 82 = .ok (.aload_n 0, 1) := by decide +kernel
theorem dX12_forget_83 : decode cX12_forget 83 = .ok (.getfield 67, 3) := by decide +kernel
theorem dX12_forget_86 : decode cX12_forget 86 = .ok (.bipush 51, 2) := by decide +kernel
theorem dX12_forget_88 : decode cX12_forget 88 = .ok (.iload_n 2, 1) := by decide +kernel
theorem dX12_forget_89 : decode cX12_forget 89 = .ok (.iconst 1, 1) := by decide +kernel
theorem dX12_forget_90 : decode cX12_forget 90 = .ok (.iadd, 1) := by decide +kernel
theorem dX12_forget_91 : decode cX12_forget 91 = .ok (.imul, 1) := by decide +kernel
theorem dX12_forget_92 : decode cX12_forget 92 = .ok (.iload_n 3, 1) := by decide +kernel
theorem dX12_forget_93 : decode cX12_forget 93 = .ok (.iadd, 1) := by decide +kernel
theorem dX12_forget_94 : decode cX12_forget 94 = .ok (.iaload, 1) := by decide +kernel
theorem dX12_forget_95 : decode cX12_forget 95 = .ok (.iastore, 1) := by decide +kernel
theorem dX12_forget_96 : decode cX12_forget 96 = .ok (.iinc 3 1, 3) := by decide +kernel
theorem dX12_forget_99 : decode cX12_forget 99 = .ok (.goto (-33), 3) := by decide +kernel
theorem dX12_forget_102 : decode cX12_forget 102 = .ok (.iconst 0, 1) := by decide +kernel
theorem dX12_forget_103 : decode cX12_forget 103 = .ok (.istore_n 3, 1) := by decide +kernel
theorem dX12_forget_104 : decode cX12_forget 104 = .ok (.iload_n 3, 1) := by decide +kernel
theorem dX12_forget_105 : decode cX12_forget 105 = .ok (.bipush 6, 2) := by decide +kernel
theorem dX12_forget_107 : decode cX12_forget 107 = .ok (.if_icmp .ge 33, 3) := by decide +kernel
theorem dX12_forget_110 : decode cX12_forget 110 = .ok (.aload_n 0, 1) := by decide +kernel
theorem dX12_forget_111 : decode cX12_forget 111 = .ok (.getfield 73, 3) := by decide +kernel
theorem dX12_forget_114 : decode cX12_forget 114 = .ok (.bipush 6, 2) := by decide +kernel
theorem dX12_forget_116 : decode cX12_forget 116 = .ok (.iload_n 2, 1) := by decide +kernel
theorem dX12_forget_117 : decode cX12_forget 117 = .ok (.imul, 1) := by decide +kernel
theorem dX12_forget_118 : decode cX12_forget 118 = .ok (.iload_n 3, 1) := by decide +kernel
theorem dX12_forget_119 : decode cX12_forget 119 = .ok (.iadd, 1) := by decide +kernel
theorem dX12_forget_120 : decode cX12_forget 120 = .ok (.aload_n 0, 1) := by decide +kernel
theorem dX12_forget_121 : decode cX12_forget 121 = .ok (.getfield 73, 3) := by decide +kernel
theorem dX12_forget_124 : decode cX12_forget 124 = .ok (.bipush 6, 2) := by decide +kernel
theorem dX12_forget_126 : decode cX12_forget 126 = .ok (.iload_n 2, 1) := by decide +kernel
theorem dX12_forget_127 : decode cX12_forget 127 = .ok (.iconst 1, 1) := by decide +kernel
theorem dX12_forget_128 : decode cX12_forget 128 = .ok (.iadd, 1) := by decide +kernel
theorem dX12_forget_129 : decode cX12_forget 129 = .ok (.imul, 1) := by decide +kernel
theorem dX12_forget_130 : decode cX12_forget 130 = .ok (.iload_n 3, 1) := by decide +kernel
theorem dX12_forget_131 : decode cX12_forget 131 = .ok (.iadd, 1) := by decide +kernel
theorem dX12_forget_132 : decode cX12_forget 132 = .ok (.iaload, 1) := by decide +kernel
theorem dX12_forget_133 : decode cX12_forget 133 = .ok (.iastore, 1) := by decide +kernel
theorem dX12_forget_134 : decode cX12_forget 134 = .ok (.iinc 3 1, 3) := by decide +kernel
theorem dX12_forget_137 : decode cX12_forget 137 = .ok (.goto (-33), 3) := by decide +kernel
theorem dX12_forget_140 : decode cX12_forget 140 = .ok (.iinc 2 1, 3) := by decide +kernel
theorem dX12_forget_143 : decode cX12_forget 143 = .ok (.goto (-115), 3) := by decide +kernel
theorem dX12_forget_146 : decode cX12_forget 146 = .ok (.aload_n 0, 1) := by decide +kernel
theorem dX12_forget_147 : decode cX12_forget 147 = .ok (.getfield 219, 3) := by decide +kernel
theorem dX12_forget_150 : decode cX12_forget 150 = .ok (.ireturn, 1) := by decide +kernel
theorem dX12_keeps_0 : decode cX12_keeps 0 = .ok (.iconst 0, 1) := by decide +kernel
theorem dX12_keeps_1 : decode cX12_keeps 1 = .ok (.istore_n 2, 1) := by decide +kernel
theorem dX12_keeps_2 : decode cX12_keeps 2 = .ok (.iload_n 2, 1) := by decide +kernel
theorem dX12_keeps_3 : decode cX12_keeps 3 = .ok (.sipush 408, 3) := by decide +kernel
theorem dX12_keeps_6 : decode cX12_keeps 6 = .ok (.if_icmp .ge 46, 3) := by decide +kernel
theorem dX12_keeps_9 : decode cX12_keeps 9 = .ok (.aload_n 0, 1) := by decide +kernel
theorem dX12_keeps_10 : decode cX12_keeps 10 = .ok (.getfield 67, 3) := by decide +kernel
theorem dX12_keeps_13 : decode cX12_keeps 13 = .ok (.iload_n 2, 1) := by decide +kernel
theorem dX12_keeps_14 : decode cX12_keeps 14 = .ok (.iload_n 1, 1) := by decide +kernel
theorem dX12_keeps_15 : decode cX12_keeps 15 = .ok (.ifCond .eq 12, 3) := by decide +kernel
theorem dX12_keeps_18 : decode cX12_keeps 18 = .ok (.aload_n 0, 1) := by decide +kernel
theorem dX12_keeps_19 : decode cX12_keeps 19 = .ok (.getfield 79, 3) := by decide +kernel
theorem dX12_keeps_22 : decode cX12_keeps 22 = .ok (.iload_n 2, 1) := by decide +kernel
theorem dX12_keeps_23 : decode cX12_keeps 23 = .ok (.iaload, 1) := by decide +kernel
theorem dX12_keeps_24 : decode cX12_keeps 24 = .ok (.goto 9, 3) := by decide +kernel
theorem dX12_keeps_27 : decode cX12_keeps 27 = .ok (.aload_n 0, 1) := by decide +kernel
theorem dX12_keeps_28 : decode cX12_keeps 28 = .ok (.getfield 67, 3) := by decide +kernel
theorem dX12_keeps_31 : decode cX12_keeps 31 = .ok (.iload_n 2, 1) := by decide +kernel
theorem dX12_keeps_32 : decode cX12_keeps 32 = .ok (.iaload, 1) := by decide +kernel
theorem dX12_keeps_33 : decode cX12_keeps 33 = .ok (.iastore, 1) := by decide +kernel
theorem dX12_keeps_34 : decode cX12_keeps 34 = .ok (.aload_n 0, 1) := by decide +kernel
theorem dX12_keeps_35 : decode cX12_keeps 35 = .ok (.getfield 79, 3) := by decide +kernel
theorem dX12_keeps_38 : decode cX12_keeps 38 = .ok (.iload_n 2, 1) := by decide +kernel
theorem dX12_keeps_39 : decode cX12_keeps 39 = .ok (.aload_n 0, 1) := by decide +kernel
theorem dX12_keeps_40 : decode cX12_keeps 40 = .ok (.getfield 67, 3) := by decide +kernel
theorem dX12_keeps_43 : decode cX12_keeps 43 = .ok (.iload_n 2, 1) := by decide +kernel
theorem dX12_keeps_44 : decode cX12_keeps 44 = .ok (.iaload, 1) := by decide +kernel
theorem dX12_keeps_45 : decode cX12_keeps 45 = .ok (.iastore, 1) := by decide +kernel
theorem dX12_keeps_46 : decode cX12_keeps 46 = .ok (.iinc 2 1, 3) := by decide +kernel
theorem dX12_keeps_49 : decode cX12_keeps 49 = .ok (.goto (-47), 3) := by decide +kernel
theorem dX12_keeps_52 : decode cX12_keeps 52 = .ok (.iconst 0, 1) := by decide +kernel
theorem dX12_keeps_53 : decode cX12_keeps 53 = .ok (.istore_n 2, 1) := by decide +kernel
theorem dX12_keeps_54 : decode cX12_keeps 54 = .ok (.iload_n 2, 1) := by decide +kernel
theorem dX12_keeps_55 : decode cX12_keeps 55 = .ok (.bipush 48, 2) := by decide +kernel
theorem dX12_keeps_57 : decode cX12_keeps 57 = .ok (.if_icmp .ge 46, 3) := by decide +kernel
theorem dX12_keeps_60 : decode cX12_keeps 60 = .ok (.aload_n 0, 1) := by decide +kernel
theorem dX12_keeps_61 : decode cX12_keeps 61 = .ok (.getfield 73, 3) := by decide +kernel
theorem dX12_keeps_64 : decode cX12_keeps 64 = .ok (.iload_n 2, 1) := by decide +kernel
theorem dX12_keeps_65 : decode cX12_keeps 65 = .ok (.iload_n 1, 1) := by decide +kernel
theorem dX12_keeps_66 : decode cX12_keeps 66 = .ok (.ifCond .eq 12, 3) := by decide +kernel
theorem dX12_keeps_69 : decode cX12_keeps 69 = .ok (.aload_n 0, 1) := by decide +kernel
theorem dX12_keeps_70 : decode cX12_keeps 70 = .ok (.getfield 85, 3) := by decide +kernel
theorem dX12_keeps_73 : decode cX12_keeps 73 = .ok (.iload_n 2, 1) := by decide +kernel
theorem dX12_keeps_74 : decode cX12_keeps 74 = .ok (.iaload, 1) := by decide +kernel
theorem dX12_keeps_75 : decode cX12_keeps 75 = .ok (.goto 9, 3) := by decide +kernel
theorem dX12_keeps_78 : decode cX12_keeps 78 = .ok (.aload_n 0, 1) := by decide +kernel
theorem dX12_keeps_79 : decode cX12_keeps 79 = .ok (.getfield 73, 3) := by decide +kernel
theorem dX12_keeps_82 : decode cX12_keeps 82 = .ok (.iload_n 2, 1) := by decide +kernel
theorem dX12_keeps_83 : decode cX12_keeps 83 = .ok (.iaload, 1) := by decide +kernel
theorem dX12_keeps_84 : decode cX12_keeps 84 = .ok (.iastore, 1) := by decide +kernel
theorem dX12_keeps_85 : decode cX12_keeps 85 = .ok (.aload_n 0, 1) := by decide +kernel
theorem dX12_keeps_86 : decode cX12_keeps 86 = .ok (.getfield 85, 3) := by decide +kernel
theorem dX12_keeps_89 : decode cX12_keeps 89 = .ok (.iload_n 2, 1) := by decide +kernel
theorem dX12_keeps_90 : decode cX12_keeps 90 = .ok (.aload_n 0, 1) := by decide +kernel
theorem dX12_keeps_91 : decode cX12_keeps 91 = .ok (.getfield 73, 3) := by decide +kernel
theorem dX12_keeps_94 : decode cX12_keeps 94 = .ok (.iload_n 2, 1) := by decide +kernel
theorem dX12_keeps_95 : decode cX12_keeps 95 = .ok (.iaload, 1) := by decide +kernel
theorem dX12_keeps_96 : decode cX12_keeps 96 = .ok (.iastore, 1) := by decide +kernel
theorem dX12_keeps_97 : decode cX12_keeps 97 = .ok (.iinc 2 1, 3) := by decide +kernel
theorem dX12_keeps_100 : decode cX12_keeps 100 = .ok (.goto (-46), 3) := by decide +kernel
theorem dX12_keeps_103 : decode cX12_keeps 103 = .ok (.iconst 0, 1) := by decide +kernel
theorem dX12_keeps_104 : decode cX12_keeps 104 = .ok (.istore_n 2, 1) := by decide +kernel
theorem dX12_keeps_105 : decode cX12_keeps 105 = .ok (.iload_n 2, 1) := by decide +kernel
theorem dX12_keeps_106 : decode cX12_keeps 106 = .ok (.bipush 8, 2) := by decide +kernel
theorem dX12_keeps_108 : decode cX12_keeps 108 = .ok (.if_icmp .ge 83, 3) := by decide +kernel
theorem dX12_keeps_111 : decode cX12_keeps 111 = .ok (.aload_n 0, 1) := by decide +kernel
theorem dX12_keeps_112 : decode cX12_keeps 112 = .ok (.getfield 70, 3) := by decide +kernel
theorem dX12_keeps_115 : decode cX12_keeps 115 = .ok (.iload_n 2, 1) := by decide +kernel
theorem dX12_keeps_116 : decode cX12_keeps 116 = .ok (.iload_n 1, 1) := by decide +kernel
theorem dX12_keeps_117 : decode cX12_keeps 117 = .ok (.ifCond .eq 12, 3) := by decide +kernel
theorem dX12_keeps_120 : decode cX12_keeps 120 = .ok (.aload_n 0, 1) := by decide +kernel
theorem dX12_keeps_121 : decode cX12_keeps 121 = .ok (.getfield 82, 3) := by decide +kernel
theorem dX12_keeps_124 : decode cX12_keeps 124 = .ok (.iload_n 2, 1) := by decide +kernel
theorem dX12_keeps_125 : decode cX12_keeps 125 = .ok (.iaload, 1) := by decide +kernel
theorem dX12_keeps_126 : decode cX12_keeps 126 = .ok (.goto 9, 3) := by decide +kernel
theorem dX12_keeps_129 : decode cX12_keeps 129 = .ok (.aload_n 0, 1) := by decide +kernel
theorem dX12_keeps_130 : decode cX12_keeps 130 = .ok (.getfield 70, 3) := by decide +kernel
theorem dX12_keeps_133 : decode cX12_keeps 133 = .ok (.iload_n 2, 1) := by decide +kernel
theorem dX12_keeps_134 : decode cX12_keeps 134 = .ok (.iaload, 1) := by decide +kernel
theorem dX12_keeps_135 : decode cX12_keeps 135 = .ok (.iastore, 1) := by decide +kernel
theorem dX12_keeps_136 : decode cX12_keeps 136 = .ok (.aload_n 0, 1) := by decide +kernel
theorem dX12_keeps_137 : decode cX12_keeps 137 = .ok (.getfield 82, 3) := by decide +kernel
theorem dX12_keeps_140 : decode cX12_keeps 140 = .ok (.iload_n 2, 1) := by decide +kernel
theorem dX12_keeps_141 : decode cX12_keeps 141 = .ok (.aload_n 0, 1) := by decide +kernel
theorem dX12_keeps_142 : decode cX12_keeps 142 = .ok (.getfield 70, 3) := by decide +kernel
theorem dX12_keeps_145 : decode cX12_keeps 145 = .ok (.iload_n 2, 1) := by decide +kernel
theorem dX12_keeps_146 : decode cX12_keeps 146 = .ok (.iaload, 1) := by decide +kernel
theorem dX12_keeps_147 : decode cX12_keeps 147 = .ok (.iastore, 1) := by decide +kernel
theorem dX12_keeps_148 : decode cX12_keeps 148 = .ok (.aload_n 0, 1) := by decide +kernel
theorem dX12_keeps_149 : decode cX12_keeps 149 = .ok (.getfield 76, 3) := by decide +kernel
theorem dX12_keeps_152 : decode cX12_keeps 152 = .ok (.iload_n 2, 1) := by decide +kernel
theorem dX12_keeps_153 : decode cX12_keeps 153 = .ok (.iload_n 1, 1) := by decide +kernel
theorem dX12_keeps_154 : decode cX12_keeps 154 = .ok (.ifCond .eq 12, 3) := by decide +kernel
theorem dX12_keeps_157 : decode cX12_keeps 157 = .ok (.aload_n 0, 1) := by decide +kernel
theorem dX12_keeps_158 : decode cX12_keeps 158 = .ok (.getfield 88, 3) := by decide +kernel
theorem dX12_keeps_161 : decode cX12_keeps 161 = .ok (.iload_n 2, 1) := by decide +kernel
theorem dX12_keeps_162 : decode cX12_keeps 162 = .ok (.iaload, 1) := by decide +kernel
theorem dX12_keeps_163 : decode cX12_keeps 163 = .ok (.goto 9, 3) := by decide +kernel
theorem dX12_keeps_166 : decode cX12_keeps 166 = .ok (.aload_n 0, 1) := by decide +kernel
theorem dX12_keeps_167 : decode cX12_keeps 167 = .ok (.getfield 76, 3) := by decide +kernel
theorem dX12_keeps_170 : decode cX12_keeps 170 = .ok (.iload_n 2, 1) := by decide +kernel
theorem dX12_keeps_171 : decode cX12_keeps 171 = .ok (.iaload, 1) := by decide +kernel
theorem dX12_keeps_172 : decode cX12_keeps 172 = .ok (.iastore, 1) := by decide +kernel
theorem dX12_keeps_173 : decode cX12_keeps 173 = .ok (.aload_n 0, 1) := by decide +kernel
theorem dX12_keeps_174 : decode cX12_keeps 174 = .ok (.getfield 88, 3) := by decide +kernel
theorem dX12_keeps_177 : decode cX12_keeps 177 = .ok (.iload_n 2, 1) := by decide +kernel
theorem dX12_keeps_178 : decode cX12_keeps 178 = .ok (.aload_n 0, 1) := by decide +kernel
theorem dX12_keeps_179 : decode cX12_keeps 179 = .ok (.getfield 76, 3) := by decide +kernel
theorem dX12_keeps_182 : decode cX12_keeps 182 = .ok (.iload_n 2, 1) := by decide +kernel
theorem dX12_keeps_183 : decode cX12_keeps 183 = .ok (.iaload, 1) := by decide +kernel
theorem dX12_keeps_184 : decode cX12_keeps 184 = .ok (.iastore, 1) := by decide +kernel
theorem dX12_keeps_185 : decode cX12_keeps 185 = .ok (.iinc 2 1, 3) := by decide +kernel
theorem dX12_keeps_188 : decode cX12_keeps 188 = .ok (.goto (-83), 3) := by decide +kernel
theorem dX12_keeps_191 : decode cX12_keeps 191 = .ok (.aload_n 0, 1) := by decide +kernel
theorem dX12_keeps_192 : decode cX12_keeps 192 = .ok (.iload_n 1, 1) := by decide +kernel
theorem dX12_keeps_193 : decode cX12_keeps 193 = .ok (.ifCond .eq 10, 3) := by decide +kernel
theorem dX12_keeps_196 : decode cX12_keeps 196 = .ok (.aload_n 0, 1) := by decide +kernel
theorem dX12_keeps_197 : decode cX12_keeps 197 = .ok (.getfield 259, 3) := by decide +kernel
theorem dX12_keeps_200 : decode cX12_keeps 200 = .ok (.goto 7, 3) := by decide +kernel
theorem dX12_keeps_203 : decode cX12_keeps 203 = .ok (.aload_n 0, 1) := by decide +kernel
theorem dX12_keeps_204 : decode cX12_keeps 204 = .ok (.getfield 219, 3) := by decide +kernel
theorem dX12_keeps_207 : decode cX12_keeps 207 = .ok (.putfield 219, 3) := by decide +kernel
theorem dX12_keeps_210 : decode cX12_keeps 210 = .ok (.aload_n 0, 1) := by decide +kernel
theorem dX12_keeps_211 : decode cX12_keeps 211 = .ok (.aload_n 0, 1) := by decide +kernel
theorem dX12_keeps_212 : decode cX12_keeps 212 = .ok (.getfield 219, 3) := by decide +kernel
theorem dX12_keeps_215 : decode cX12_keeps 215 = .ok (.putfield 259, 3) := by decide +kernel
theorem dX12_keeps_218 : decode cX12_keeps 218 = .ok (.iconst 0, 1) := by decide +kernel
theorem dX12_keeps_219 : decode cX12_keeps 219 = .ok (.istore_n 2, 1) := by decide +kernel
theorem dX12_keeps_220 : decode cX12_keeps 220 = .ok (.iload_n 2, 1) := by decide +kernel
theorem dX12_keeps_221 : decode cX12_keeps 221 = .ok (.iconst 4, 1) := by decide +kernel
theorem dX12_keeps_222 : decode cX12_keeps 222 = .ok (.if_icmp .ge 46, 3) := by decide +kernel
theorem dX12_keeps_225 : decode cX12_keeps 225 = .ok (.aload_n 0, 1) := by decide +kernel
theorem dX12_keeps_226 : decode cX12_keeps 226 = .ok (.getfield 94, 3) := by decide +kernel
theorem dX12_keeps_229 : decode cX12_keeps 229 = .ok (.iload_n 2, 1) := by decide +kernel
theorem dX12_keeps_230 : decode cX12_keeps 230 = .ok (.iload_n 1, 1) := by decide +kernel
theorem dX12_keeps_231 : decode cX12_keeps 231 = .ok (.ifCond .eq 12, 3) := by decide +kernel
theorem dX12_keeps_234 : decode cX12_keeps 234 = .ok (.aload_n 0, 1) := by decide +kernel
theorem dX12_keeps_235 : decode cX12_keeps 235 = .ok (.getfield 97, 3) := by decide +kernel
theorem dX12_keeps_238 : decode cX12_keeps 238 = .ok (.iload_n 2, 1) := by decide +kernel
theorem dX12_keeps_239 : decode cX12_keeps 239 = .ok (.iaload, 1) := by decide +kernel
theorem dX12_keeps_240 : decode cX12_keeps 240 = .ok (.goto 9, 3) := by decide +kernel
theorem dX12_keeps_243 : decode cX12_keeps 243 = .ok (.aload_n 0, 1) := by decide +kernel
theorem dX12_keeps_244 : decode cX12_keeps 244 = .ok (.getfield 94, 3) := by decide +kernel
theorem dX12_keeps_247 : decode cX12_keeps 247 = .ok (.iload_n 2, 1) := by decide +kernel
theorem dX12_keeps_248 : decode cX12_keeps 248 = .ok (.iaload, 1) := by decide +kernel
theorem dX12_keeps_249 : decode cX12_keeps 249 = .ok (.iastore, 1) := by decide +kernel
theorem dX12_keeps_250 : decode cX12_keeps 250 = .ok (.aload_n 0, 1) := by decide +kernel
theorem dX12_keeps_251 : decode cX12_keeps 251 = .ok (.getfield 97, 3) := by decide +kernel
theorem dX12_keeps_254 : decode cX12_keeps 254 = .ok (.iload_n 2, 1) := by decide +kernel
theorem dX12_keeps_255 : decode cX12_keeps 255 = .ok (.aload_n 0, 1) := by decide +kernel
theorem dX12_keeps_256 : decode cX12_keeps 256 = .ok (.getfield 94, 3) := by decide +kernel
theorem dX12_keeps_259 : decode cX12_keeps 259 = .ok (.iload_n 2, 1) := by decide +kernel
theorem dX12_keeps_260 : decode cX12_keeps 260 = .ok (.iaload, 1) := by decide +kernel
theorem dX12_keeps_261 : decode cX12_keeps 261 = .ok (.iastore, 1) := by decide +kernel
theorem dX12_keeps_262 : decode cX12_keeps 262 = .ok (.iinc 2 1, 3) := by decide +kernel
theorem dX12_keeps_265 : decode cX12_keeps 265 = .ok (.goto (-45), 3) := by decide +kernel
theorem dX12_keeps_268 : decode cX12_keeps 268 = .ok (.return_, 1) := by decide +kernel
theorem dX12_plans_0 : decode cX12_plans 0 = .ok (.aload_n 0, 1) := by decide +kernel
theorem dX12_plans_1 : decode cX12_plans 1 = .ok (.iconst 0, 1) := by decide +kernel
theorem dX12_plans_2 : decode cX12_plans 2 = .ok (.putfield 262, 3) := by decide +kernel
theorem dX12_plans_5 : decode cX12_plans 5 = .ok (.iconst 0, 1) := by decide +kernel
theorem dX12_plans_6 : decode cX12_plans 6 = .ok (.istore_n 3, 1) := by decide +kernel
theorem dX12_plans_7 : decode cX12_plans 7 = .ok (.iload_n 3, 1) := by decide +kernel
theorem dX12_plans_8 : decode cX12_plans 8 = .ok (.aload_n 0, 1) := by decide +kernel
theorem dX12_plans_9 : decode cX12_plans 9 = .ok (.getfield 129, 3) := by decide +kernel
theorem dX12_plans_12 : decode cX12_plans 12 = .ok (.if_icmp .ge 52, 3) := by decide +kernel
theorem dX12_plans_15 : decode cX12_plans 15 = .ok (.aload_n 0, 1) := by decide +kernel
theorem dX12_plans_16 : decode cX12_plans 16 = .ok (.iload_n 3, 1) := by decide +kernel
theorem dX12_plans_17 : decode cX12_plans 17 = .ok (.aload_n 0, 1) := by decide +kernel
theorem dX12_plans_18 : decode cX12_plans 18 = .ok (.getfield 28, 3) := by decide +kernel
theorem dX12_plans_21 : decode cX12_plans 21 = .ok (.iload_n 1, 1) := by decide +kernel
theorem dX12_plans_22 : decode cX12_plans 22 = .ok (.iaload, 1) := by decide +kernel
theorem dX12_plans_23 : decode cX12_plans 23 = .ok (.invokevirtual 201, 3) := by decide +kernel
theorem dX12_plans_26 : decode cX12_plans 26 = .ok (.ifCond .eq 32, 3) := by decide +kernel
theorem dX12_plans_29 : decode cX12_plans 29 = .ok (.aload_n 0, 1) := by decide +kernel
theorem dX12_plans_30 : decode cX12_plans 30 = .ok (.iload_n 3, 1) := by decide +kernel
theorem dX12_plans_31 : decode cX12_plans 31 = .ok (.iload_n 2, 1) := by decide +kernel
theorem dX12_plans_32 : decode cX12_plans 32 = .ok (.invokevirtual 201, 3) := by decide +kernel
theorem dX12_plans_35 : decode cX12_plans 35 = .ok (.ifCond .ne 23, 3) := by decide +kernel
theorem dX12_plans_38 : decode cX12_plans 38 = .ok (.aload_n 0, 1) := by decide +kernel
theorem dX12_plans_39 : decode cX12_plans 39 = .ok (.getfield 91, 3) := by decide +kernel
theorem dX12_plans_42 : decode cX12_plans 42 = .ok (.aload_n 0, 1) := by decide +kernel
theorem dX12_plans_43 : decode cX12_plans 43 = .ok (.getfield 262, 3) := by decide +kernel
theorem dX12_plans_46 : decode cX12_plans 46 = .ok (.iload_n 3, 1) := by decide +kernel
theorem dX12_plans_47 : decode cX12_plans 47 = .ok (.iastore, 1) := by decide +kernel
theorem dX12_plans_48 : decode cX12_plans 48 = .ok (.aload_n 0, 1) := by decide +kernel
theorem dX12_plans_49 : decode cX12_plans 49 = .ok (.dup, 1) := by decide +kernel
theorem dX12_plans_50 : decode cX12_plans 50 = .ok (.getfield 262, 3) := by decide +kernel
theorem dX12_plans_53 : decode cX12_plans 53 = .ok (.iconst 1, 1) := by decide +kernel
theorem dX12_plans_54 : decode cX12_plans 54 = .ok (.iadd, 1) := by decide +kernel
theorem dX12_plans_55 : decode cX12_plans 55 = .ok (.putfield 262, 3) := by decide +kernel
theorem dX12_plans_58 : decode cX12_plans 58 = .ok (.iinc 3 1, 3) := by decide +kernel
theorem dX12_plans_61 : decode cX12_plans 61 = .ok (.goto (-54), 3) := by decide +kernel
theorem dX12_plans_64 : decode cX12_plans 64 = .ok (.return_, 1) := by decide +kernel
theorem dX12_isThere_0 : decode cX12_isThere 0 = .ok (.iconst 0, 1) := by decide +kernel
theorem dX12_isThere_1 : decode cX12_isThere 1 = .ok (.istore 4, 2) := by decide +kernel
theorem dX12_isThere_3 : decode cX12_isThere 3 = .ok (.iconst 0, 1) := by decide +kernel
theorem dX12_isThere_4 : decode cX12_isThere 4 = .ok (.istore 5, 2) := by decide +kernel
theorem dX12_isThere_6 : decode cX12_isThere 6 = .ok (.iload 5, 2) := by decide +kernel
theorem dX12_isThere_8 : decode cX12_isThere 8 = .ok (.aload_n 0, 1) := by decide +kernel
theorem dX12_isThere_9 : decode cX12_isThere 9 = .ok (.getfield 129, 3) := by decide +kernel
theorem dX12_isThere_12 : decode cX12_isThere 12 = .ok (.if_icmp .ge 65, 3) := by decide +kernel
theorem dX12_isThere_15 : decode cX12_isThere 15 = .ok (.iload 4, 2) := by decide +kernel
theorem dX12_isThere_17 : decode cX12_isThere 17 = .ok (.ifCond .ne 60, 3) := by decide +kernel
theorem dX12_isThere_20 : decode cX12_isThere 20 = .ok (.aload_n 0, 1) := by decide +kernel
theorem dX12_isThere_21 : decode cX12_isThere 21 = .ok (.getfield 7, 3) := by decide +kernel
theorem dX12_isThere_24 : decode cX12_isThere 24 = .ok (.iload_n 1, 1) := by decide +kernel
theorem dX12_isThere_25 : decode cX12_isThere 25 = .ok (.iaload, 1) := by decide +kernel
theorem dX12_isThere_26 : decode cX12_isThere 26 = .ok (.ifCond .ne 51, 3) := by decide +kernel
theorem dX12_isThere_29 : decode cX12_isThere 29 = .ok (.aload_n 0, 1) := by decide +kernel
theorem dX12_isThere_30 : decode cX12_isThere 30 = .ok (.iload 5, 2) := by decide +kernel
theorem dX12_isThere_32 : decode cX12_isThere 32 = .ok (.iload_n 3, 1) := by decide +kernel
theorem dX12_isThere_33 : decode cX12_isThere 33 = .ok (.invokevirtual 201, 3) := by decide +kernel
theorem dX12_isThere_36 : decode cX12_isThere 36 = .ok (.ifCond .eq 32, 3) := by decide +kernel
theorem dX12_isThere_39 : decode cX12_isThere 39 = .ok (.aload_n 0, 1) := by decide +kernel
theorem dX12_isThere_40 : decode cX12_isThere 40 = .ok (.iload 5, 2) := by decide +kernel
theorem dX12_isThere_42 : decode cX12_isThere 42 = .ok (.aload_n 0, 1) := by decide +kernel
theorem dX12_isThere_43 : decode cX12_isThere 43 = .ok (.getfield 28, 3) := by decide +kernel
theorem dX12_isThere_46 : decode cX12_isThere 46 = .ok (.iload_n 2, 1) := by decide +kernel
theorem dX12_isThere_47 : decode cX12_isThere 47 = .ok (.iaload, 1) := by decide +kernel
theorem dX12_isThere_48 : decode cX12_isThere 48 = .ok (.invokevirtual 201, 3) := by decide +kernel
theorem dX12_isThere_51 : decode cX12_isThere 51 = .ok (.ifCond .ne 17, 3) := by decide +kernel
theorem dX12_isThere_54 : decode cX12_isThere 54 = .ok (.aload_n 0, 1) := by decide +kernel
theorem dX12_isThere_55 : decode cX12_isThere 55 = .ok (.iload_n 1, 1) := by decide +kernel
theorem dX12_isThere_56 : decode cX12_isThere 56 = .ok (.iload 5, 2) := by decide +kernel
theorem dX12_isThere_58 : decode cX12_isThere 58 = .ok (.invokevirtual 179, 3) := by decide +kernel
theorem dX12_isThere_61 : decode cX12_isThere 61 = .ok (.ifCond .eq 7, 3) := by decide +kernel
theorem dX12_isThere_64 : decode cX12_isThere 64 = .ok (.iconst 1, 1) := by decide +kernel
theorem dX12_isThere_65 : decode cX12_isThere 65 = .ok (.goto 4, 3) := by decide +kernel
theorem dX12_isThere_68 : decode cX12_isThere 68 = .ok (.iconst 0, 1) := by decide +kernel
theorem dX12_isThere_69 : decode cX12_isThere 69 = .ok (.istore 4, 2) := by decide +kernel
theorem dX12_isThere_71 : decode cX12_isThere 71 = .ok (.iinc 5 1, 3) := by decide +kernel
theorem dX12_isThere_74 : decode cX12_isThere 74 = .ok (.goto (-68), 3) := by decide +kernel
theorem dX12_isThere_77 : decode cX12_isThere 77 = .ok (.iload 4, 2) := by decide +kernel
theorem dX12_isThere_79 : decode cX12_isThere 79 = .ok (.ireturn, 1) := by decide +kernel
theorem dX12_against_0 : decode cX12_against 0 = .ok (.aload_n 0, 1) := by decide +kernel
theorem dX12_against_1 : decode cX12_against 1 = .ok (.aload_n 0, 1) := by decide +kernel
theorem dX12_against_2 : decode cX12_against 2 = .ok (.getfield 13, 3) := by decide +kernel
theorem dX12_against_5 : decode cX12_against 5 = .ok (.iload_n 1, 1) := by decide +kernel
theorem dX12_against_6 : decode cX12_against 6 = .ok (.iaload, 1) := by decide +kernel
theorem dX12_against_7 : decode cX12_against 7 = .ok (.iload_n 2, 1) := by decide +kernel
theorem dX12_against_8 : decode cX12_against 8 = .ok (.iload_n 1, 1) := by decide +kernel
theorem dX12_against_9 : decode cX12_against 9 = .ok (.invokevirtual 204, 3) := by decide +kernel
theorem dX12_against_12 : decode cX12_against 12 = .ok (.aload_n 0, 1) := by decide +kernel
theorem dX12_against_13 : decode cX12_against 13 = .ok (.getfield 236, 3) := by decide +kernel
theorem dX12_against_16 : decode cX12_against 16 = .ok (.ifCond .le 7, 3) := by decide +kernel
theorem dX12_against_19 : decode cX12_against 19 = .ok (.iconst 1, 1) := by decide +kernel
theorem dX12_against_20 : decode cX12_against 20 = .ok (.goto 17, 3) := by decide +kernel
theorem dX12_against_23 : decode cX12_against 23 = .ok (.aload_n 0, 1) := by decide +kernel
theorem dX12_against_24 : decode cX12_against 24 = .ok (.getfield 210, 3) := by decide +kernel
theorem dX12_against_27 : decode cX12_against 27 = .ok (.bipush 16, 2) := by decide +kernel
theorem dX12_against_29 : decode cX12_against 29 = .ok (.if_icmp .le 7, 3) := by decide +kernel
theorem dX12_against_32 : decode cX12_against 32 = .ok (.iconst 2, 1) := by decide +kernel
theorem dX12_against_33 : decode cX12_against 33 = .ok (.goto 4, 3) := by decide +kernel
theorem dX12_against_36 : decode cX12_against 36 = .ok (.iconst 0, 1) := by decide +kernel
theorem dX12_against_37 : decode cX12_against 37 = .ok (.ireturn, 1) := by decide +kernel
theorem dX12_puts_0 : decode cX12_puts 0 = .ok (.aload_n 0, 1) := by decide +kernel
theorem dX12_puts_1 : decode cX12_puts 1 = .ok (.getfield 94, 3) := by decide +kernel
theorem dX12_puts_4 : decode cX12_puts 4 = .ok (.iconst 3, 1) := by decide +kernel
theorem dX12_puts_5 : decode cX12_puts 5 = .ok (.dup2, 1) := by decide +kernel
theorem dX12_puts_6 : decode cX12_puts 6 = .ok (.iaload, 1) := by decide +kernel
theorem dX12_puts_7 : decode cX12_puts 7 = .ok (.aload_n 0, 1) := by decide +kernel
theorem dX12_puts_8 : decode cX12_puts 8 = .ok (.getfield 207, 3) := by decide +kernel
theorem dX12_puts_11 : decode cX12_puts 11 = .ok (.iadd, 1) := by decide +kernel
theorem dX12_puts_12 : decode cX12_puts 12 = .ok (.iastore, 1) := by decide +kernel
theorem dX12_puts_13 : decode cX12_puts 13 = .ok (.aload_n 0, 1) := by decide +kernel
theorem dX12_puts_14 : decode cX12_puts 14 = .ok (.getfield 7, 3) := by decide +kernel
theorem dX12_puts_17 : decode cX12_puts 17 = .ok (.iload_n 1, 1) := by decide +kernel
theorem dX12_puts_18 : decode cX12_puts 18 = .ok (.iaload, 1) := by decide +kernel
theorem dX12_puts_19 : decode cX12_puts 19 = .ok (.ifCond .ne 27, 3) := by decide +kernel
theorem dX12_puts_22 : decode cX12_puts 22 = .ok (.aload_n 0, 1) := by decide +kernel
theorem dX12_puts_23 : decode cX12_puts 23 = .ok (.aload_n 0, 1) := by decide +kernel
theorem dX12_puts_24 : decode cX12_puts 24 = .ok (.getfield 265, 3) := by decide +kernel
theorem dX12_puts_27 : decode cX12_puts 27 = .ok (.invokevirtual 216, 3) := by decide +kernel
theorem dX12_puts_30 : decode cX12_puts 30 = .ok (.ifCond .eq 16, 3) := by decide +kernel
theorem dX12_puts_33 : decode cX12_puts 33 = .ok (.aload_n 0, 1) := by decide +kernel
theorem dX12_puts_34 : decode cX12_puts 34 = .ok (.getfield 94, 3) := by decide +kernel
theorem dX12_puts_37 : decode cX12_puts 37 = .ok (.iconst 1, 1) := by decide +kernel
theorem dX12_puts_38 : decode cX12_puts 38 = .ok (.dup2, 1) := by decide +kernel
theorem dX12_puts_39 : decode cX12_puts 39 = .ok (.iaload, 1) := by decide +kernel
theorem dX12_puts_40 : decode cX12_puts 40 = .ok (.iconst 1, 1) := by decide +kernel
theorem dX12_puts_41 : decode cX12_puts 41 = .ok (.iadd, 1) := by decide +kernel
theorem dX12_puts_42 : decode cX12_puts 42 = .ok (.iastore, 1) := by decide +kernel
theorem dX12_puts_43 : decode cX12_puts 43 = .ok (.goto 82, 3) := by decide +kernel
theorem dX12_puts_46 : decode cX12_puts 46 = .ok (.aload_n 0, 1) := by decide +kernel
theorem dX12_puts_47 : decode cX12_puts 47 = .ok (.getfield 7, 3) := by decide +kernel
theorem dX12_puts_50 : decode cX12_puts 50 = .ok (.iload_n 1, 1) := by decide +kernel
theorem dX12_puts_51 : decode cX12_puts 51 = .ok (.iaload, 1) := by decide +kernel
theorem dX12_puts_52 : decode cX12_puts 52 = .ok (.iconst 2, 1) := by decide +kernel
theorem dX12_puts_53 : decode cX12_puts 53 = .ok (.if_icmp .ne 35, 3) := by decide +kernel
theorem dX12_puts_56 : decode cX12_puts 56 = .ok (.aload_n 0, 1) := by decide +kernel
theorem dX12_puts_57 : decode cX12_puts 57 = .ok (.getfield 265, 3) := by decide +kernel
theorem dX12_puts_60 : decode cX12_puts 60 = .ok (.aload_n 0, 1) := by decide +kernel
theorem dX12_puts_61 : decode cX12_puts 61 = .ok (.getfield 268, 3) := by decide +kernel
theorem dX12_puts_64 : decode cX12_puts 64 = .ok (.if_icmp .lt 24, 3) := by decide +kernel
theorem dX12_puts_67 : decode cX12_puts 67 = .ok (.aload_n 0, 1) := by decide +kernel
theorem dX12_puts_68 : decode cX12_puts 68 = .ok (.aload_n 0, 1) := by decide +kernel
theorem dX12_puts_69 : decode cX12_puts 69 = .ok (.getfield 265, 3) := by decide +kernel
theorem dX12_puts_72 : decode cX12_puts 72 = .ok (.invokevirtual 213, 3) := by decide +kernel
theorem dX12_puts_75 : decode cX12_puts 75 = .ok (.aload_n 0, 1) := by decide +kernel
theorem dX12_puts_76 : decode cX12_puts 76 = .ok (.getfield 94, 3) := by decide +kernel
theorem dX12_puts_79 : decode cX12_puts 79 = .ok (.iconst 2, 1) := by decide +kernel
theorem dX12_puts_80 : decode cX12_puts 80 = .ok (.dup2, 1) := by decide +kernel
theorem dX12_puts_81 : decode cX12_puts 81 = .ok (.iaload, 1) := by decide +kernel
theorem dX12_puts_82 : decode cX12_puts 82 = .ok (.iconst 1, 1) := by decide +kernel
theorem dX12_puts_83 : decode cX12_puts 83 = .ok (.iadd, 1) := by decide +kernel
theorem dX12_puts_84 : decode cX12_puts 84 = .ok (.iastore, 1) := by decide +kernel
theorem dX12_puts_85 : decode cX12_puts 85 = .ok (.goto 40, 3) := by decide +kernel
theorem dX12_puts_88 : decode cX12_puts 88 = .ok (.aload_n 0, 1) := by decide +kernel
theorem dX12_puts_89 : decode cX12_puts 89 = .ok (.aload_n 0, 1) := by decide +kernel
theorem dX12_puts_90 : decode cX12_puts 90 = .ok (.aload_n 0, 1) := by decide +kernel
theorem dX12_puts_91 : decode cX12_puts 91 = .ok (.getfield 7, 3) := by decide +kernel
theorem dX12_puts_94 : decode cX12_puts 94 = .ok (.iload_n 1, 1) := by decide +kernel
theorem dX12_puts_95 : decode cX12_puts 95 = .ok (.iaload, 1) := by decide +kernel
theorem dX12_puts_96 : decode cX12_puts 96 = .ok (.aload_n 0, 1) := by decide +kernel
theorem dX12_puts_97 : decode cX12_puts 97 = .ok (.getfield 265, 3) := by decide +kernel
theorem dX12_puts_100 : decode cX12_puts 100 = .ok (.iload_n 1, 1) := by decide +kernel
theorem dX12_puts_101 : decode cX12_puts 101 = .ok (.invokevirtual 118, 3) := by decide +kernel
theorem dX12_puts_104 : decode cX12_puts 104 = .ok (.putfield 265, 3) := by decide +kernel
theorem dX12_puts_107 : decode cX12_puts 107 = .ok (.aload_n 0, 1) := by decide +kernel
theorem dX12_puts_108 : decode cX12_puts 108 = .ok (.aload_n 0, 1) := by decide +kernel
theorem dX12_puts_109 : decode cX12_puts 109 = .ok (.getfield 265, 3) := by decide +kernel
theorem dX12_puts_112 : decode cX12_puts 112 = .ok (.invokevirtual 213, 3) := by decide +kernel
theorem dX12_puts_115 : decode cX12_puts 115 = .ok (.aload_n 0, 1) := by decide +kernel
theorem dX12_puts_116 : decode cX12_puts 116 = .ok (.getfield 94, 3) := by decide +kernel
theorem dX12_puts_119 : decode cX12_puts 119 = .ok (.iconst 0, 1) := by decide +kernel
theorem dX12_puts_120 : decode cX12_puts 120 = .ok (.dup2, 1) := by decide +kernel
theorem dX12_puts_121 : decode cX12_puts 121 = .ok (.iaload, 1) := by decide +kernel
theorem dX12_puts_122 : decode cX12_puts 122 = .ok (.iconst 1, 1) := by decide +kernel
theorem dX12_puts_123 : decode cX12_puts 123 = .ok (.iadd, 1) := by decide +kernel
theorem dX12_puts_124 : decode cX12_puts 124 = .ok (.iastore, 1) := by decide +kernel
theorem dX12_puts_125 : decode cX12_puts 125 = .ok (.return_, 1) := by decide +kernel
theorem dX12_goesOn_0 : decode cX12_goesOn 0 = .ok (.iload_n 1, 1) := by decide +kernel
theorem dX12_goesOn_1 : decode cX12_goesOn 1 = .ok (.ifCond .ne 7, 3) := by decide +kernel
theorem dX12_goesOn_4 : decode cX12_goesOn 4 = .ok (.iconst 1, 1) := by decide +kernel
theorem dX12_goesOn_5 : decode cX12_goesOn 5 = .ok (.goto 4, 3) := by decide +kernel
theorem dX12_goesOn_8 : decode cX12_goesOn 8 = .ok (.iconst 0, 1) := by decide +kernel
theorem dX12_goesOn_9 : decode cX12_goesOn 9 = .ok (.istore_n 2, 1) := by decide +kernel
theorem dX12_goesOn_10 : decode cX12_goesOn 10 = .ok (.aload_n 0, 1) := by decide +kernel
theorem dX12_goesOn_11 : decode cX12_goesOn 11 = .ok (.iconst 0, 1) := by decide +kernel
theorem dX12_goesOn_12 : decode cX12_goesOn 12 = .ok (.putfield 189, 3) := by decide +kernel
theorem dX12_goesOn_15 : decode cX12_goesOn 15 = .ok (.aload_n 0, 1) := by decide +kernel
theorem dX12_goesOn_16 : decode cX12_goesOn 16 = .ok (.getfield 271, 3) := by decide +kernel
theorem dX12_goesOn_19 : decode cX12_goesOn 19 = .ok (.aload_n 0, 1) := by decide +kernel
theorem dX12_goesOn_20 : decode cX12_goesOn 20 = .ok (.getfield 262, 3) := by decide +kernel
theorem dX12_goesOn_23 : decode cX12_goesOn 23 = .ok (.if_icmp .ge 91, 3) := by decide +kernel
theorem dX12_goesOn_26 : decode cX12_goesOn 26 = .ok (.aload_n 0, 1) := by decide +kernel
theorem dX12_goesOn_27 : decode cX12_goesOn 27 = .ok (.getfield 91, 3) := by decide +kernel
theorem dX12_goesOn_30 : decode cX12_goesOn 30 = .ok (.aload_n 0, 1) := by decide +kernel
theorem dX12_goesOn_31 : decode cX12_goesOn 31 = .ok (.getfield 271, 3) := by decide +kernel
theorem dX12_goesOn_34 : decode cX12_goesOn 34 = .ok (.iaload, 1) := by decide +kernel
theorem dX12_goesOn_35 : decode cX12_goesOn 35 = .ok (.istore_n 3, 1) := by decide +kernel
theorem dX12_goesOn_36 : decode cX12_goesOn 36 = .ok (.iload_n 2, 1) := by decide +kernel
theorem dX12_goesOn_37 : decode cX12_goesOn 37 = .ok (.ifCond .eq 32, 3) := by decide +kernel
theorem dX12_goesOn_40 : decode cX12_goesOn 40 = .ok (.aload_n 0, 1) := by decide +kernel
theorem dX12_goesOn_41 : decode cX12_goesOn 41 = .ok (.iload_n 3, 1) := by decide +kernel
theorem dX12_goesOn_42 : decode cX12_goesOn 42 = .ok (.aload_n 0, 1) := by decide +kernel
theorem dX12_goesOn_43 : decode cX12_goesOn 43 = .ok (.getfield 274, 3) := by decide +kernel
theorem dX12_goesOn_46 : decode cX12_goesOn 46 = .ok (.aload_n 0, 1) := by decide +kernel
theorem dX12_goesOn_47 : decode cX12_goesOn 47 = .ok (.getfield 277, 3) := by decide +kernel
theorem dX12_goesOn_50 : decode cX12_goesOn 50 = .ok (.invokevirtual 280, 3) := by decide +kernel
theorem dX12_goesOn_53 : decode cX12_goesOn 53 = .ok (.ifCond .eq 16, 3) := by decide +kernel
theorem dX12_goesOn_56 : decode cX12_goesOn 56 = .ok (.aload_n 0, 1) := by decide +kernel
theorem dX12_goesOn_57 : decode cX12_goesOn 57 = .ok (.getfield 94, 3) := by decide +kernel
theorem dX12_goesOn_60 : decode cX12_goesOn 60 = .ok (.iconst 1, 1) := by decide +kernel
theorem dX12_goesOn_61 : decode cX12_goesOn 61 = .ok (.dup2, 1) := by decide +kernel
theorem dX12_goesOn_62 : decode cX12_goesOn 62 = .ok (.iaload, 1) := by decide +kernel
theorem dX12_goesOn_63 : decode cX12_goesOn 63 = .ok (.iconst 1, 1) := by decide +kernel
theorem dX12_goesOn_64 : decode cX12_goesOn 64 = .ok (.iadd, 1) := by decide +kernel
theorem dX12_goesOn_65 : decode cX12_goesOn 65 = .ok (.iastore, 1) := by decide +kernel
theorem dX12_goesOn_66 : decode cX12_goesOn 66 = .ok (.goto 33, 3) := by decide +kernel
theorem dX12_goesOn_69 : decode cX12_goesOn 69 = .ok (.aload_n 0, 1) := by decide +kernel
theorem dX12_goesOn_70 : decode cX12_goesOn 70 = .ok (.aload_n 0, 1) := by decide +kernel
theorem dX12_goesOn_71 : decode cX12_goesOn 71 = .ok (.iload_n 3, 1) := by decide +kernel
theorem dX12_goesOn_72 : decode cX12_goesOn 72 = .ok (.aload_n 0, 1) := by decide +kernel
theorem dX12_goesOn_73 : decode cX12_goesOn 73 = .ok (.getfield 265, 3) := by decide +kernel
theorem dX12_goesOn_76 : decode cX12_goesOn 76 = .ok (.invokevirtual 283, 3) := by decide +kernel
theorem dX12_goesOn_79 : decode cX12_goesOn 79 = .ok (.putfield 189, 3) := by decide +kernel
theorem dX12_goesOn_82 : decode cX12_goesOn 82 = .ok (.aload_n 0, 1) := by decide +kernel
theorem dX12_goesOn_83 : decode cX12_goesOn 83 = .ok (.getfield 189, 3) := by decide +kernel
theorem dX12_goesOn_86 : decode cX12_goesOn 86 = .ok (.ifCond .eq 8, 3) := by decide +kernel
theorem dX12_goesOn_89 : decode cX12_goesOn 89 = .ok (.aload_n 0, 1) := by decide +kernel
theorem dX12_goesOn_90 : decode cX12_goesOn 90 = .ok (.getfield 189, 3) := by decide +kernel
theorem dX12_goesOn_93 : decode cX12_goesOn 93 = .ok (.ireturn, 1) := by decide +kernel
theorem dX12_goesOn_94 : decode cX12_goesOn 94 = .ok (.aload_n 0, 1) := by decide +kernel
theorem dX12_goesOn_95 : decode cX12_goesOn 95 = .ok (.iload_n 3, 1) := by decide +kernel
theorem dX12_goesOn_96 : decode cX12_goesOn 96 = .ok (.invokevirtual 286, 3) := by decide +kernel
theorem dX12_goesOn_99 : decode cX12_goesOn 99 = .ok (.iconst 1, 1) := by decide +kernel
theorem dX12_goesOn_100 : decode cX12_goesOn 100 = .ok (.istore_n 2, 1) := by decide +kernel
theorem dX12_goesOn_101 : decode cX12_goesOn 101 = .ok (.aload_n 0, 1) := by decide +kernel
theorem dX12_goesOn_102 : decode cX12_goesOn 102 = .ok (.dup, 1) := by decide +kernel
theorem dX12_goesOn_103 : decode cX12_goesOn 103 = .ok (.getfield 271, 3) := by decide +kernel
theorem dX12_goesOn_106 : decode cX12_goesOn 106 = .ok (.iconst 1, 1) := by decide +kernel
theorem dX12_goesOn_107 : decode cX12_goesOn 107 = .ok (.iadd, 1) := by decide +kernel
theorem dX12_goesOn_108 : decode cX12_goesOn 108 = .ok (.putfield 271, 3) := by decide +kernel
theorem dX12_goesOn_111 : decode cX12_goesOn 111 = .ok (.goto (-96), 3) := by decide +kernel
theorem dX12_goesOn_114 : decode cX12_goesOn 114 = .ok (.aload_n 0, 1) := by decide +kernel
theorem dX12_goesOn_115 : decode cX12_goesOn 115 = .ok (.getfield 28, 3) := by decide +kernel
theorem dX12_goesOn_118 : decode cX12_goesOn 118 = .ok (.aload_n 0, 1) := by decide +kernel
theorem dX12_goesOn_119 : decode cX12_goesOn 119 = .ok (.getfield 274, 3) := by decide +kernel
theorem dX12_goesOn_122 : decode cX12_goesOn 122 = .ok (.aload_n 0, 1) := by decide +kernel
theorem dX12_goesOn_123 : decode cX12_goesOn 123 = .ok (.getfield 265, 3) := by decide +kernel
theorem dX12_goesOn_126 : decode cX12_goesOn 126 = .ok (.iastore, 1) := by decide +kernel
theorem dX12_goesOn_127 : decode cX12_goesOn 127 = .ok (.iconst 0, 1) := by decide +kernel
theorem dX12_goesOn_128 : decode cX12_goesOn 128 = .ok (.ireturn, 1) := by decide +kernel
theorem dX12_replay_0 : decode cX12_replay 0 = .ok (.iload_n 1, 1) := by decide +kernel
theorem dX12_replay_1 : decode cX12_replay 1 = .ok (.invokestatic 183, 3) := by decide +kernel
theorem dX12_replay_4 : decode cX12_replay 4 = .ok (.ifCond .eq 11, 3) := by decide +kernel
theorem dX12_replay_7 : decode cX12_replay 7 = .ok (.aload_n 0, 1) := by decide +kernel
theorem dX12_replay_8 : decode cX12_replay 8 = .ok (.iload_n 2, 1) := by decide +kernel
theorem dX12_replay_9 : decode cX12_replay 9 = .ok (.invokevirtual 171, 3) := by decide +kernel
theorem dX12_replay_12 : decode cX12_replay 12 = .ok (.ifCond .ne 5, 3) := by decide +kernel
theorem dX12_replay_15 : decode cX12_replay 15 = .ok (.iconst (-1), 1) := by decide +kernel
theorem dX12_replay_16 : decode cX12_replay 16 = .ok (.ireturn, 1) := by decide +kernel
theorem dX12_replay_17 : decode cX12_replay 17 = .ok (.aload_n 0, 1) := by decide +kernel
theorem dX12_replay_18 : decode cX12_replay 18 = .ok (.getfield 189, 3) := by decide +kernel
theorem dX12_replay_21 : decode cX12_replay 21 = .ok (.ifCond .eq 6, 3) := by decide +kernel
theorem dX12_replay_24 : decode cX12_replay 24 = .ok (.bipush (-3), 2) := by decide +kernel
theorem dX12_replay_26 : decode cX12_replay 26 = .ok (.ireturn, 1) := by decide +kernel
theorem dX12_replay_27 : decode cX12_replay 27 = .ok (.aload_n 0, 1) := by decide +kernel
theorem dX12_replay_28 : decode cX12_replay 28 = .ok (.iload_n 1, 1) := by decide +kernel
theorem dX12_replay_29 : decode cX12_replay 29 = .ok (.iload_n 2, 1) := by decide +kernel
theorem dX12_replay_30 : decode cX12_replay 30 = .ok (.invokevirtual 289, 3) := by decide +kernel
theorem dX12_replay_33 : decode cX12_replay 33 = .ok (.aload_n 0, 1) := by decide +kernel
theorem dX12_replay_34 : decode cX12_replay 34 = .ok (.getfield 129, 3) := by decide +kernel
theorem dX12_replay_37 : decode cX12_replay 37 = .ok (.aload_n 0, 1) := by decide +kernel
theorem dX12_replay_38 : decode cX12_replay 38 = .ok (.getfield 262, 3) := by decide +kernel
theorem dX12_replay_41 : decode cX12_replay 41 = .ok (.iadd, 1) := by decide +kernel
theorem dX12_replay_42 : decode cX12_replay 42 = .ok (.bipush 24, 2) := by decide +kernel
theorem dX12_replay_44 : decode cX12_replay 44 = .ok (.if_icmp .le 6, 3) := by decide +kernel
theorem dX12_replay_47 : decode cX12_replay 47 = .ok (.bipush (-4), 2) := by decide +kernel
theorem dX12_replay_49 : decode cX12_replay 49 = .ok (.ireturn, 1) := by decide +kernel
theorem dX12_replay_50 : decode cX12_replay 50 = .ok (.aload_n 0, 1) := by decide +kernel
theorem dX12_replay_51 : decode cX12_replay 51 = .ok (.iconst 0, 1) := by decide +kernel
theorem dX12_replay_52 : decode cX12_replay 52 = .ok (.invokevirtual 292, 3) := by decide +kernel
theorem dX12_replay_55 : decode cX12_replay 55 = .ok (.iconst 0, 1) := by decide +kernel
theorem dX12_replay_56 : decode cX12_replay 56 = .ok (.istore_n 3, 1) := by decide +kernel
theorem dX12_replay_57 : decode cX12_replay 57 = .ok (.iload_n 3, 1) := by decide +kernel
theorem dX12_replay_58 : decode cX12_replay 58 = .ok (.iconst 4, 1) := by decide +kernel
theorem dX12_replay_59 : decode cX12_replay 59 = .ok (.if_icmp .ge 16, 3) := by decide +kernel
theorem dX12_replay_62 : decode cX12_replay 62 = .ok (.aload_n 0, 1) := by decide +kernel
theorem dX12_replay_63 : decode cX12_replay 63 = .ok (.getfield 94, 3) := by decide +kernel
theorem dX12_replay_66 : decode cX12_replay 66 = .ok (.iload_n 3, 1) := by decide +kernel
theorem dX12_replay_67 : decode cX12_replay 67 = .ok (.iconst 0, 1) := by decide +kernel
theorem dX12_replay_68 : decode cX12_replay 68 = .ok (.iastore, 1) := by decide +kernel
theorem dX12_replay_69 : decode cX12_replay 69 = .ok (.iinc 3 1, 3) := by decide +kernel
theorem dX12_replay_72 : decode cX12_replay 72 = .ok (.goto (-15), 3) := by decide +kernel
theorem dX12_replay_75 : decode cX12_replay 75 = .ok (.aload_n 0, 1) := by decide +kernel
theorem dX12_replay_76 : decode cX12_replay 76 = .ok (.iload_n 1, 1) := by decide +kernel
theorem dX12_replay_77 : decode cX12_replay 77 = .ok (.putfield 274, 3) := by decide +kernel
theorem dX12_replay_80 : decode cX12_replay 80 = .ok (.aload_n 0, 1) := by decide +kernel
theorem dX12_replay_81 : decode cX12_replay 81 = .ok (.iload_n 2, 1) := by decide +kernel
theorem dX12_replay_82 : decode cX12_replay 82 = .ok (.putfield 277, 3) := by decide +kernel
theorem dX12_replay_85 : decode cX12_replay 85 = .ok (.aload_n 0, 1) := by decide +kernel
theorem dX12_replay_86 : decode cX12_replay 86 = .ok (.iload_n 2, 1) := by decide +kernel
theorem dX12_replay_87 : decode cX12_replay 87 = .ok (.putfield 265, 3) := by decide +kernel
theorem dX12_replay_90 : decode cX12_replay 90 = .ok (.aload_n 0, 1) := by decide +kernel
theorem dX12_replay_91 : decode cX12_replay 91 = .ok (.aload_n 0, 1) := by decide +kernel
theorem dX12_replay_92 : decode cX12_replay 92 = .ok (.getfield 129, 3) := by decide +kernel
theorem dX12_replay_95 : decode cX12_replay 95 = .ok (.putfield 268, 3) := by decide +kernel
theorem dX12_replay_98 : decode cX12_replay 98 = .ok (.aload_n 0, 1) := by decide +kernel
theorem dX12_replay_99 : decode cX12_replay 99 = .ok (.iconst 0, 1) := by decide +kernel
theorem dX12_replay_100 : decode cX12_replay 100 = .ok (.putfield 271, 3) := by decide +kernel
theorem dX12_replay_103 : decode cX12_replay 103 = .ok (.aload_n 0, 1) := by decide +kernel
theorem dX12_replay_104 : decode cX12_replay 104 = .ok (.iconst 0, 1) := by decide +kernel
theorem dX12_replay_105 : decode cX12_replay 105 = .ok (.invokevirtual 296, 3) := by decide +kernel
theorem dX12_replay_108 : decode cX12_replay 108 = .ok (.ireturn, 1) := by decide +kernel
theorem dX12_go_0 : decode cX12_go 0 = .ok (.aload_n 0, 1) := by decide +kernel
theorem dX12_go_1 : decode cX12_go 1 = .ok (.getfield 189, 3) := by decide +kernel
theorem dX12_go_4 : decode cX12_go 4 = .ok (.ifCond .ne 8, 3) := by decide +kernel
theorem dX12_go_7 : decode cX12_go 7 = .ok (.bipush (-3), 2) := by decide +kernel
theorem dX12_go_9 : decode cX12_go 9 = .ok (.goto 8, 3) := by decide +kernel
theorem dX12_go_12 : decode cX12_go 12 = .ok (.aload_n 0, 1) := by decide +kernel
theorem dX12_go_13 : decode cX12_go 13 = .ok (.iconst 1, 1) := by decide +kernel
theorem dX12_go_14 : decode cX12_go 14 = .ok (.invokevirtual 296, 3) := by decide +kernel
theorem dX12_go_17 : decode cX12_go 17 = .ok (.ireturn, 1) := by decide +kernel
theorem dX12_skip_0 : decode cX12_skip 0 = .ok (.aload_n 0, 1) := by decide +kernel
theorem dX12_skip_1 : decode cX12_skip 1 = .ok (.getfield 189, 3) := by decide +kernel
theorem dX12_skip_4 : decode cX12_skip 4 = .ok (.ifCond .ne 6, 3) := by decide +kernel
theorem dX12_skip_7 : decode cX12_skip 7 = .ok (.bipush (-3), 2) := by decide +kernel
theorem dX12_skip_9 : decode cX12_skip 9 = .ok (.ireturn, 1) := by decide +kernel
theorem dX12_skip_10 : decode cX12_skip 10 = .ok (.aload_n 0, 1) := by decide +kernel
theorem dX12_skip_11 : decode cX12_skip 11 = .ok (.getfield 94, 3) := by decide +kernel
theorem dX12_skip_14 : decode cX12_skip 14 = .ok (.iconst 1, 1) := by decide +kernel
theorem dX12_skip_15 : decode cX12_skip 15 = .ok (.dup2, 1) := by decide +kernel
theorem dX12_skip_16 : decode cX12_skip 16 = .ok (.iaload, 1) := by decide +kernel
theorem dX12_skip_17 : decode cX12_skip 17 = .ok (.iconst 1, 1) := by decide +kernel
theorem dX12_skip_18 : decode cX12_skip 18 = .ok (.iadd, 1) := by decide +kernel
theorem dX12_skip_19 : decode cX12_skip 19 = .ok (.iastore, 1) := by decide +kernel
theorem dX12_skip_20 : decode cX12_skip 20 = .ok (.aload_n 0, 1) := by decide +kernel
theorem dX12_skip_21 : decode cX12_skip 21 = .ok (.dup, 1) := by decide +kernel
theorem dX12_skip_22 : decode cX12_skip 22 = .ok (.getfield 271, 3) := by decide +kernel
theorem dX12_skip_25 : decode cX12_skip 25 = .ok (.iconst 1, 1) := by decide +kernel
theorem dX12_skip_26 : decode cX12_skip 26 = .ok (.iadd, 1) := by decide +kernel
theorem dX12_skip_27 : decode cX12_skip 27 = .ok (.putfield 271, 3) := by decide +kernel
theorem dX12_skip_30 : decode cX12_skip 30 = .ok (.aload_n 0, 1) := by decide +kernel
theorem dX12_skip_31 : decode cX12_skip 31 = .ok (.iconst 0, 1) := by decide +kernel
theorem dX12_skip_32 : decode cX12_skip 32 = .ok (.invokevirtual 296, 3) := by decide +kernel
theorem dX12_skip_35 : decode cX12_skip 35 = .ok (.ireturn, 1) := by decide +kernel
theorem dX12_abort_0 : decode cX12_abort 0 = .ok (.aload_n 0, 1) := by decide +kernel
theorem dX12_abort_1 : decode cX12_abort 1 = .ok (.getfield 189, 3) := by decide +kernel
theorem dX12_abort_4 : decode cX12_abort 4 = .ok (.ifCond .ne 6, 3) := by decide +kernel
theorem dX12_abort_7 : decode cX12_abort 7 = .ok (.bipush (-3), 2) := by decide +kernel
theorem dX12_abort_9 : decode cX12_abort 9 = .ok (.ireturn, 1) := by decide +kernel
theorem dX12_abort_10 : decode cX12_abort 10 = .ok (.aload_n 0, 1) := by decide +kernel
theorem dX12_abort_11 : decode cX12_abort 11 = .ok (.getfield 129, 3) := by decide +kernel
theorem dX12_abort_14 : decode cX12_abort 14 = .ok (.aload_n 0, 1) := by decide +kernel
theorem dX12_abort_15 : decode cX12_abort 15 = .ok (.getfield 268, 3) := by decide +kernel
theorem dX12_abort_18 : decode cX12_abort 18 = .ok (.isub, 1) := by decide +kernel
theorem dX12_abort_19 : decode cX12_abort 19 = .ok (.istore_n 1, 1) := by decide +kernel
theorem dX12_abort_20 : decode cX12_abort 20 = .ok (.aload_n 0, 1) := by decide +kernel
theorem dX12_abort_21 : decode cX12_abort 21 = .ok (.aload_n 0, 1) := by decide +kernel
theorem dX12_abort_22 : decode cX12_abort 22 = .ok (.getfield 268, 3) := by decide +kernel
theorem dX12_abort_25 : decode cX12_abort 25 = .ok (.putfield 129, 3) := by decide +kernel
theorem dX12_abort_28 : decode cX12_abort 28 = .ok (.aload_n 0, 1) := by decide +kernel
theorem dX12_abort_29 : decode cX12_abort 29 = .ok (.iconst 0, 1) := by decide +kernel
theorem dX12_abort_30 : decode cX12_abort 30 = .ok (.putfield 189, 3) := by decide +kernel
theorem dX12_abort_33 : decode cX12_abort 33 = .ok (.aload_n 0, 1) := by decide +kernel
theorem dX12_abort_34 : decode cX12_abort 34 = .ok (.iconst 1, 1) := by decide +kernel
theorem dX12_abort_35 : decode cX12_abort 35 = .ok (.invokevirtual 292, 3) := by decide +kernel
theorem dX12_abort_38 : decode cX12_abort 38 = .ok (.iload_n 1, 1) := by decide +kernel
theorem dX12_abort_39 : decode cX12_abort 39 = .ok (.ireturn, 1) := by decide +kernel
theorem dX12_status_0 : decode cX12_status 0 = .ok (.iload_n 1, 1) := by decide +kernel
theorem dX12_status_1 : decode cX12_status 1 = .ok (.iconst 0, 1) := by decide +kernel
theorem dX12_status_2 : decode cX12_status 2 = .ok (.bipush 8, 2) := by decide +kernel
theorem dX12_status_4 : decode cX12_status 4 = .ok (.invokestatic 139, 3) := by decide +kernel
theorem dX12_status_7 : decode cX12_status 7 = .ok (.ifCond .ne 6, 3) := by decide +kernel
theorem dX12_status_10 : decode cX12_status 10 = .ok (.bipush (-2), 2) := by decide +kernel
theorem dX12_status_12 : decode cX12_status 12 = .ok (.ireturn, 1) := by decide +kernel
theorem dX12_status_13 : decode cX12_status 13 = .ok (.iload_n 1, 1) := by decide +kernel
theorem dX12_status_14 : decode cX12_status 14 = .ok (.iconst 2, 1) := by decide +kernel
theorem dX12_status_15 : decode cX12_status 15 = .ok (.iconst 5, 1) := by decide +kernel
theorem dX12_status_16 : decode cX12_status 16 = .ok (.invokestatic 139, 3) := by decide +kernel
theorem dX12_status_19 : decode cX12_status 19 = .ok (.ifCond .eq 12, 3) := by decide +kernel
theorem dX12_status_22 : decode cX12_status 22 = .ok (.aload_n 0, 1) := by decide +kernel
theorem dX12_status_23 : decode cX12_status 23 = .ok (.getfield 94, 3) := by decide +kernel
theorem dX12_status_26 : decode cX12_status 26 = .ok (.iload_n 1, 1) := by decide +kernel
theorem dX12_status_27 : decode cX12_status 27 = .ok (.iconst 2, 1) := by decide +kernel
theorem dX12_status_28 : decode cX12_status 28 = .ok (.isub, 1) := by decide +kernel
theorem dX12_status_29 : decode cX12_status 29 = .ok (.iaload, 1) := by decide +kernel
theorem dX12_status_30 : decode cX12_status 30 = .ok (.ireturn, 1) := by decide +kernel
theorem dX12_status_31 : decode cX12_status 31 = .ok (.aload_n 0, 1) := by decide +kernel
theorem dX12_status_32 : decode cX12_status 32 = .ok (.getfield 189, 3) := by decide +kernel
theorem dX12_status_35 : decode cX12_status 35 = .ok (.ifCond .ne 26, 3) := by decide +kernel
theorem dX12_status_38 : decode cX12_status 38 = .ok (.iload_n 1, 1) := by decide +kernel
theorem dX12_status_39 : decode cX12_status 39 = .ok (.ifCond .eq 15, 3) := by decide +kernel
theorem dX12_status_42 : decode cX12_status 42 = .ok (.iload_n 1, 1) := by decide +kernel
theorem dX12_status_43 : decode cX12_status 43 = .ok (.bipush 6, 2) := by decide +kernel
theorem dX12_status_45 : decode cX12_status 45 = .ok (.if_icmp .eq 9, 3) := by decide +kernel
theorem dX12_status_48 : decode cX12_status 48 = .ok (.iload_n 1, 1) := by decide +kernel
theorem dX12_status_49 : decode cX12_status 49 = .ok (.bipush 7, 2) := by decide +kernel
theorem dX12_status_51 : decode cX12_status 51 = .ok (.if_icmp .ne 7, 3) := by decide +kernel
theorem dX12_status_54 : decode cX12_status 54 = .ok (.iconst 0, 1) := by decide +kernel
theorem dX12_status_55 : decode cX12_status 55 = .ok (.goto 5, 3) := by decide +kernel
theorem dX12_status_58 : decode cX12_status 58 = .ok (.bipush (-9), 2) := by decide +kernel
theorem dX12_status_60 : decode cX12_status 60 = .ok (.ireturn, 1) := by decide +kernel
theorem dX12_status_61 : decode cX12_status 61 = .ok (.iload_n 1, 1) := by decide +kernel
theorem dX12_status_62 : decode cX12_status 62 = .ok (.tableswitch 96 0 7 #[46, 51, 96, 96, 96, 96, 61, 73], 46) := by decide +kernel
theorem dX12_status_108 : decode cX12_status 108 = .ok (.aload_n 0, 1) := by decide +kernel
theorem dX12_status_109 : decode cX12_status 109 = .ok (.getfield 189, 3) := by decide +kernel
theorem dX12_status_112 : decode cX12_status 112 = .ok (.ireturn, 1) := by decide +kernel
theorem dX12_status_113 : decode cX12_status 113 = .ok (.aload_n 0, 1) := by decide +kernel
theorem dX12_status_114 : decode cX12_status 114 = .ok (.getfield 91, 3) := by decide +kernel
theorem dX12_status_117 : decode cX12_status 117 = .ok (.aload_n 0, 1) := by decide +kernel
theorem dX12_status_118 : decode cX12_status 118 = .ok (.getfield 271, 3) := by decide +kernel
theorem dX12_status_121 : decode cX12_status 121 = .ok (.iaload, 1) := by decide +kernel
theorem dX12_status_122 : decode cX12_status 122 = .ok (.ireturn, 1) := by decide +kernel
theorem dX12_status_123 : decode cX12_status 123 = .ok (.aload_n 0, 1) := by decide +kernel
theorem dX12_status_124 : decode cX12_status 124 = .ok (.getfield 262, 3) := by decide +kernel
theorem dX12_status_127 : decode cX12_status 127 = .ok (.aload_n 0, 1) := by decide +kernel
theorem dX12_status_128 : decode cX12_status 128 = .ok (.getfield 271, 3) := by decide +kernel
theorem dX12_status_131 : decode cX12_status 131 = .ok (.isub, 1) := by decide +kernel
theorem dX12_status_132 : decode cX12_status 132 = .ok (.iconst 1, 1) := by decide +kernel
theorem dX12_status_133 : decode cX12_status 133 = .ok (.isub, 1) := by decide +kernel
theorem dX12_status_134 : decode cX12_status 134 = .ok (.ireturn, 1) := by decide +kernel
theorem dX12_status_135 : decode cX12_status 135 = .ok (.aload_n 0, 1) := by decide +kernel
theorem dX12_status_136 : decode cX12_status 136 = .ok (.aload_n 0, 1) := by decide +kernel
theorem dX12_status_137 : decode cX12_status 137 = .ok (.getfield 91, 3) := by decide +kernel
theorem dX12_status_140 : decode cX12_status 140 = .ok (.aload_n 0, 1) := by decide +kernel
theorem dX12_status_141 : decode cX12_status 141 = .ok (.getfield 271, 3) := by decide +kernel
theorem dX12_status_144 : decode cX12_status 144 = .ok (.iaload, 1) := by decide +kernel
theorem dX12_status_145 : decode cX12_status 145 = .ok (.aload_n 0, 1) := by decide +kernel
theorem dX12_status_146 : decode cX12_status 146 = .ok (.getfield 265, 3) := by decide +kernel
theorem dX12_status_149 : decode cX12_status 149 = .ok (.invokevirtual 283, 3) := by decide +kernel
theorem dX12_status_152 : decode cX12_status 152 = .ok (.pop, 1) := by decide +kernel
theorem dX12_status_153 : decode cX12_status 153 = .ok (.aload_n 0, 1) := by decide +kernel
theorem dX12_status_154 : decode cX12_status 154 = .ok (.getfield 236, 3) := by decide +kernel
theorem dX12_status_157 : decode cX12_status 157 = .ok (.ireturn, 1) := by decide +kernel
theorem dX12_status_158 : decode cX12_status 158 = .ok (.aload_n 0, 1) := by decide +kernel
theorem dX12_status_159 : decode cX12_status 159 = .ok (.getfield 265, 3) := by decide +kernel
theorem dX12_status_162 : decode cX12_status 162 = .ok (.ireturn, 1) := by decide +kernel
theorem dX12_isOpen_0 : decode cX12_isOpen 0 = .ok (.aload_n 0, 1) := by decide +kernel
theorem dX12_isOpen_1 : decode cX12_isOpen 1 = .ok (.getfield 189, 3) := by decide +kernel
theorem dX12_isOpen_4 : decode cX12_isOpen 4 = .ok (.ifCond .ne 5, 3) := by decide +kernel
theorem dX12_isOpen_7 : decode cX12_isOpen 7 = .ok (.iconst 0, 1) := by decide +kernel
theorem dX12_isOpen_8 : decode cX12_isOpen 8 = .ok (.ireturn, 1) := by decide +kernel
theorem dX12_isOpen_9 : decode cX12_isOpen 9 = .ok (.aload_n 0, 1) := by decide +kernel
theorem dX12_isOpen_10 : decode cX12_isOpen 10 = .ok (.aload_n 0, 1) := by decide +kernel
theorem dX12_isOpen_11 : decode cX12_isOpen 11 = .ok (.getfield 91, 3) := by decide +kernel
theorem dX12_isOpen_14 : decode cX12_isOpen 14 = .ok (.aload_n 0, 1) := by decide +kernel
theorem dX12_isOpen_15 : decode cX12_isOpen 15 = .ok (.getfield 271, 3) := by decide +kernel
theorem dX12_isOpen_18 : decode cX12_isOpen 18 = .ok (.iaload, 1) := by decide +kernel
theorem dX12_isOpen_19 : decode cX12_isOpen 19 = .ok (.aload_n 0, 1) := by decide +kernel
theorem dX12_isOpen_20 : decode cX12_isOpen 20 = .ok (.getfield 265, 3) := by decide +kernel
theorem dX12_isOpen_23 : decode cX12_isOpen 23 = .ok (.invokevirtual 283, 3) := by decide +kernel
theorem dX12_isOpen_26 : decode cX12_isOpen 26 = .ok (.pop, 1) := by decide +kernel
theorem dX12_isOpen_27 : decode cX12_isOpen 27 = .ok (.iload_n 1, 1) := by decide +kernel
theorem dX12_isOpen_28 : decode cX12_isOpen 28 = .ok (.iconst 0, 1) := by decide +kernel
theorem dX12_isOpen_29 : decode cX12_isOpen 29 = .ok (.aload_n 0, 1) := by decide +kernel
theorem dX12_isOpen_30 : decode cX12_isOpen 30 = .ok (.getfield 236, 3) := by decide +kernel
theorem dX12_isOpen_33 : decode cX12_isOpen 33 = .ok (.iconst 1, 1) := by decide +kernel
theorem dX12_isOpen_34 : decode cX12_isOpen 34 = .ok (.isub, 1) := by decide +kernel
theorem dX12_isOpen_35 : decode cX12_isOpen 35 = .ok (.invokestatic 139, 3) := by decide +kernel
theorem dX12_isOpen_38 : decode cX12_isOpen 38 = .ok (.ireturn, 1) := by decide +kernel
theorem dX12_partOf_0 : decode cX12_partOf 0 = .ok (.iload_n 2, 1) := by decide +kernel
theorem dX12_partOf_1 : decode cX12_partOf 1 = .ok (.iload 4, 2) := by decide +kernel
theorem dX12_partOf_3 : decode cX12_partOf 3 = .ok (.iadd, 1) := by decide +kernel
theorem dX12_partOf_4 : decode cX12_partOf 4 = .ok (.iload_n 3, 1) := by decide +kernel
theorem dX12_partOf_5 : decode cX12_partOf 5 = .ok (.if_icmp .ge 20, 3) := by decide +kernel
theorem dX12_partOf_8 : decode cX12_partOf 8 = .ok (.aload_n 0, 1) := by decide +kernel
theorem dX12_partOf_9 : decode cX12_partOf 9 = .ok (.getfield 22, 3) := by decide +kernel
theorem dX12_partOf_12 : decode cX12_partOf 12 = .ok (.bipush 16, 2) := by decide +kernel
theorem dX12_partOf_14 : decode cX12_partOf 14 = .ok (.iload_n 1, 1) := by decide +kernel
theorem dX12_partOf_15 : decode cX12_partOf 15 = .ok (.imul, 1) := by decide +kernel
theorem dX12_partOf_16 : decode cX12_partOf 16 = .ok (.iload_n 2, 1) := by decide +kernel
theorem dX12_partOf_17 : decode cX12_partOf 17 = .ok (.iadd, 1) := by decide +kernel
theorem dX12_partOf_18 : decode cX12_partOf 18 = .ok (.iload 4, 2) := by decide +kernel
theorem dX12_partOf_20 : decode cX12_partOf 20 = .ok (.iadd, 1) := by decide +kernel
theorem dX12_partOf_21 : decode cX12_partOf 21 = .ok (.iaload, 1) := by decide +kernel
theorem dX12_partOf_22 : decode cX12_partOf 22 = .ok (.goto 5, 3) := by decide +kernel
theorem dX12_partOf_25 : decode cX12_partOf 25 = .ok (.bipush (-9), 2) := by decide +kernel
theorem dX12_partOf_27 : decode cX12_partOf 27 = .ok (.ireturn, 1) := by decide +kernel
theorem dX12_conflict_0 : decode cX12_conflict 0 = .ok (.aload_n 0, 1) := by decide +kernel
theorem dX12_conflict_1 : decode cX12_conflict 1 = .ok (.iload_n 1, 1) := by decide +kernel
theorem dX12_conflict_2 : decode cX12_conflict 2 = .ok (.invokevirtual 300, 3) := by decide +kernel
theorem dX12_conflict_5 : decode cX12_conflict 5 = .ok (.ifCond .ne 5, 3) := by decide +kernel
theorem dX12_conflict_8 : decode cX12_conflict 8 = .ok (.iconst (-1), 1) := by decide +kernel
theorem dX12_conflict_9 : decode cX12_conflict 9 = .ok (.ireturn, 1) := by decide +kernel
theorem dX12_conflict_10 : decode cX12_conflict 10 = .ok (.aload_n 0, 1) := by decide +kernel
theorem dX12_conflict_11 : decode cX12_conflict 11 = .ok (.getfield 91, 3) := by decide +kernel
theorem dX12_conflict_14 : decode cX12_conflict 14 = .ok (.aload_n 0, 1) := by decide +kernel
theorem dX12_conflict_15 : decode cX12_conflict 15 = .ok (.getfield 271, 3) := by decide +kernel
theorem dX12_conflict_18 : decode cX12_conflict 18 = .ok (.iaload, 1) := by decide +kernel
theorem dX12_conflict_19 : decode cX12_conflict 19 = .ok (.istore_n 3, 1) := by decide +kernel
theorem dX12_conflict_20 : decode cX12_conflict 20 = .ok (.bipush 6, 2) := by decide +kernel
theorem dX12_conflict_22 : decode cX12_conflict 22 = .ok (.iload_n 1, 1) := by decide +kernel
theorem dX12_conflict_23 : decode cX12_conflict 23 = .ok (.imul, 1) := by decide +kernel
theorem dX12_conflict_24 : decode cX12_conflict 24 = .ok (.istore 4, 2) := by decide +kernel
theorem dX12_conflict_26 : decode cX12_conflict 26 = .ok (.aload_n 0, 1) := by decide +kernel
theorem dX12_conflict_27 : decode cX12_conflict 27 = .ok (.aload_n 0, 1) := by decide +kernel
theorem dX12_conflict_28 : decode cX12_conflict 28 = .ok (.getfield 13, 3) := by decide +kernel
theorem dX12_conflict_31 : decode cX12_conflict 31 = .ok (.iload_n 3, 1) := by decide +kernel
theorem dX12_conflict_32 : decode cX12_conflict 32 = .ok (.iaload, 1) := by decide +kernel
theorem dX12_conflict_33 : decode cX12_conflict 33 = .ok (.aload_n 0, 1) := by decide +kernel
theorem dX12_conflict_34 : decode cX12_conflict 34 = .ok (.getfield 265, 3) := by decide +kernel
theorem dX12_conflict_37 : decode cX12_conflict 37 = .ok (.iload_n 3, 1) := by decide +kernel
theorem dX12_conflict_38 : decode cX12_conflict 38 = .ok (.iload 4, 2) := by decide +kernel
theorem dX12_conflict_40 : decode cX12_conflict 40 = .ok (.invokevirtual 239, 3) := by decide +kernel
theorem dX12_conflict_43 : decode cX12_conflict 43 = .ok (.iload_n 2, 1) := by decide +kernel
theorem dX12_conflict_44 : decode cX12_conflict 44 = .ok (.iconst 0, 1) := by decide +kernel
theorem dX12_conflict_45 : decode cX12_conflict 45 = .ok (.iconst 2, 1) := by decide +kernel
theorem dX12_conflict_46 : decode cX12_conflict 46 = .ok (.invokestatic 139, 3) := by decide +kernel
theorem dX12_conflict_49 : decode cX12_conflict 49 = .ok (.ifCond .eq 29, 3) := by decide +kernel
theorem dX12_conflict_52 : decode cX12_conflict 52 = .ok (.aload_n 0, 1) := by decide +kernel
theorem dX12_conflict_53 : decode cX12_conflict 53 = .ok (.getfield 55, 3) := by decide +kernel
theorem dX12_conflict_56 : decode cX12_conflict 56 = .ok (.iload 4, 2) := by decide +kernel
theorem dX12_conflict_58 : decode cX12_conflict 58 = .ok (.iconst 2, 1) := by decide +kernel
theorem dX12_conflict_59 : decode cX12_conflict 59 = .ok (.iload_n 2, 1) := by decide +kernel
theorem dX12_conflict_60 : decode cX12_conflict 60 = .ok (.imul, 1) := by decide +kernel
theorem dX12_conflict_61 : decode cX12_conflict 61 = .ok (.iadd, 1) := by decide +kernel
theorem dX12_conflict_62 : decode cX12_conflict 62 = .ok (.iconst 1, 1) := by decide +kernel
theorem dX12_conflict_63 : decode cX12_conflict 63 = .ok (.iadd, 1) := by decide +kernel
theorem dX12_conflict_64 : decode cX12_conflict 64 = .ok (.iaload, 1) := by decide +kernel
theorem dX12_conflict_65 : decode cX12_conflict 65 = .ok (.aload_n 0, 1) := by decide +kernel
theorem dX12_conflict_66 : decode cX12_conflict 66 = .ok (.getfield 55, 3) := by decide +kernel
theorem dX12_conflict_69 : decode cX12_conflict 69 = .ok (.iload 4, 2) := by decide +kernel
theorem dX12_conflict_71 : decode cX12_conflict 71 = .ok (.iconst 2, 1) := by decide +kernel
theorem dX12_conflict_72 : decode cX12_conflict 72 = .ok (.iload_n 2, 1) := by decide +kernel
theorem dX12_conflict_73 : decode cX12_conflict 73 = .ok (.imul, 1) := by decide +kernel
theorem dX12_conflict_74 : decode cX12_conflict 74 = .ok (.iadd, 1) := by decide +kernel
theorem dX12_conflict_75 : decode cX12_conflict 75 = .ok (.iaload, 1) := by decide +kernel
theorem dX12_conflict_76 : decode cX12_conflict 76 = .ok (.isub, 1) := by decide +kernel
theorem dX12_conflict_77 : decode cX12_conflict 77 = .ok (.ireturn, 1) := by decide +kernel
theorem dX12_conflict_78 : decode cX12_conflict 78 = .ok (.iload_n 2, 1) := by decide +kernel
theorem dX12_conflict_79 : decode cX12_conflict 79 = .ok (.bipush 10, 2) := by decide +kernel
theorem dX12_conflict_81 : decode cX12_conflict 81 = .ok (.bipush 25, 2) := by decide +kernel
theorem dX12_conflict_83 : decode cX12_conflict 83 = .ok (.invokestatic 139, 3) := by decide +kernel
theorem dX12_conflict_86 : decode cX12_conflict 86 = .ok (.ifCond .eq 34, 3) := by decide +kernel
theorem dX12_conflict_89 : decode cX12_conflict 89 = .ok (.aload_n 0, 1) := by decide +kernel
theorem dX12_conflict_90 : decode cX12_conflict 90 = .ok (.aload_n 0, 1) := by decide +kernel
theorem dX12_conflict_91 : decode cX12_conflict 91 = .ok (.getfield 13, 3) := by decide +kernel
theorem dX12_conflict_94 : decode cX12_conflict 94 = .ok (.iload_n 3, 1) := by decide +kernel
theorem dX12_conflict_95 : decode cX12_conflict 95 = .ok (.iaload, 1) := by decide +kernel
theorem dX12_conflict_96 : decode cX12_conflict 96 = .ok (.aload_n 0, 1) := by decide +kernel
theorem dX12_conflict_97 : decode cX12_conflict 97 = .ok (.getfield 55, 3) := by decide +kernel
theorem dX12_conflict_100 : decode cX12_conflict 100 = .ok (.iload 4, 2) := by decide +kernel
theorem dX12_conflict_102 : decode cX12_conflict 102 = .ok (.iaload, 1) := by decide +kernel
theorem dX12_conflict_103 : decode cX12_conflict 103 = .ok (.aload_n 0, 1) := by decide +kernel
theorem dX12_conflict_104 : decode cX12_conflict 104 = .ok (.getfield 55, 3) := by decide +kernel
theorem dX12_conflict_107 : decode cX12_conflict 107 = .ok (.iload 4, 2) := by decide +kernel
theorem dX12_conflict_109 : decode cX12_conflict 109 = .ok (.iconst 1, 1) := by decide +kernel
theorem dX12_conflict_110 : decode cX12_conflict 110 = .ok (.iadd, 1) := by decide +kernel
theorem dX12_conflict_111 : decode cX12_conflict 111 = .ok (.iaload, 1) := by decide +kernel
theorem dX12_conflict_112 : decode cX12_conflict 112 = .ok (.iload_n 2, 1) := by decide +kernel
theorem dX12_conflict_113 : decode cX12_conflict 113 = .ok (.bipush 10, 2) := by decide +kernel
theorem dX12_conflict_115 : decode cX12_conflict 115 = .ok (.isub, 1) := by decide +kernel
theorem dX12_conflict_116 : decode cX12_conflict 116 = .ok (.invokevirtual 303, 3) := by decide +kernel
theorem dX12_conflict_119 : decode cX12_conflict 119 = .ok (.ireturn, 1) := by decide +kernel
theorem dX12_conflict_120 : decode cX12_conflict 120 = .ok (.iload_n 2, 1) := by decide +kernel
theorem dX12_conflict_121 : decode cX12_conflict 121 = .ok (.bipush 30, 2) := by decide +kernel
theorem dX12_conflict_123 : decode cX12_conflict 123 = .ok (.bipush 45, 2) := by decide +kernel
theorem dX12_conflict_125 : decode cX12_conflict 125 = .ok (.invokestatic 139, 3) := by decide +kernel
theorem dX12_conflict_128 : decode cX12_conflict 128 = .ok (.ifCond .eq 34, 3) := by decide +kernel
theorem dX12_conflict_131 : decode cX12_conflict 131 = .ok (.aload_n 0, 1) := by decide +kernel
theorem dX12_conflict_132 : decode cX12_conflict 132 = .ok (.aload_n 0, 1) := by decide +kernel
theorem dX12_conflict_133 : decode cX12_conflict 133 = .ok (.getfield 265, 3) := by decide +kernel
theorem dX12_conflict_136 : decode cX12_conflict 136 = .ok (.aload_n 0, 1) := by decide +kernel
theorem dX12_conflict_137 : decode cX12_conflict 137 = .ok (.getfield 55, 3) := by decide +kernel
theorem dX12_conflict_140 : decode cX12_conflict 140 = .ok (.iload 4, 2) := by decide +kernel
theorem dX12_conflict_142 : decode cX12_conflict 142 = .ok (.iconst 2, 1) := by decide +kernel
theorem dX12_conflict_143 : decode cX12_conflict 143 = .ok (.iadd, 1) := by decide +kernel
theorem dX12_conflict_144 : decode cX12_conflict 144 = .ok (.iaload, 1) := by decide +kernel
theorem dX12_conflict_145 : decode cX12_conflict 145 = .ok (.aload_n 0, 1) := by decide +kernel
theorem dX12_conflict_146 : decode cX12_conflict 146 = .ok (.getfield 55, 3) := by decide +kernel
theorem dX12_conflict_149 : decode cX12_conflict 149 = .ok (.iload 4, 2) := by decide +kernel
theorem dX12_conflict_151 : decode cX12_conflict 151 = .ok (.iconst 3, 1) := by decide +kernel
theorem dX12_conflict_152 : decode cX12_conflict 152 = .ok (.iadd, 1) := by decide +kernel
theorem dX12_conflict_153 : decode cX12_conflict 153 = .ok (.iaload, 1) := by decide +kernel
theorem dX12_conflict_154 : decode cX12_conflict 154 = .ok (.iload_n 2, 1) := by decide +kernel
theorem dX12_conflict_155 : decode cX12_conflict 155 = .ok (.bipush 30, 2) := by decide +kernel
theorem dX12_conflict_157 : decode cX12_conflict 157 = .ok (.isub, 1) := by decide +kernel
theorem dX12_conflict_158 : decode cX12_conflict 158 = .ok (.invokevirtual 303, 3) := by decide +kernel
theorem dX12_conflict_161 : decode cX12_conflict 161 = .ok (.ireturn, 1) := by decide +kernel
theorem dX12_conflict_162 : decode cX12_conflict 162 = .ok (.iload_n 2, 1) := by decide +kernel
theorem dX12_conflict_163 : decode cX12_conflict 163 = .ok (.bipush 50, 2) := by decide +kernel
theorem dX12_conflict_165 : decode cX12_conflict 165 = .ok (.bipush 65, 2) := by decide +kernel
theorem dX12_conflict_167 : decode cX12_conflict 167 = .ok (.invokestatic 139, 3) := by decide +kernel
theorem dX12_conflict_170 : decode cX12_conflict 170 = .ok (.ifCond .eq 31, 3) := by decide +kernel
theorem dX12_conflict_173 : decode cX12_conflict 173 = .ok (.aload_n 0, 1) := by decide +kernel
theorem dX12_conflict_174 : decode cX12_conflict 174 = .ok (.iload_n 3, 1) := by decide +kernel
theorem dX12_conflict_175 : decode cX12_conflict 175 = .ok (.aload_n 0, 1) := by decide +kernel
theorem dX12_conflict_176 : decode cX12_conflict 176 = .ok (.getfield 55, 3) := by decide +kernel
theorem dX12_conflict_179 : decode cX12_conflict 179 = .ok (.iload 4, 2) := by decide +kernel
theorem dX12_conflict_181 : decode cX12_conflict 181 = .ok (.iconst 4, 1) := by decide +kernel
theorem dX12_conflict_182 : decode cX12_conflict 182 = .ok (.iadd, 1) := by decide +kernel
theorem dX12_conflict_183 : decode cX12_conflict 183 = .ok (.iaload, 1) := by decide +kernel
theorem dX12_conflict_184 : decode cX12_conflict 184 = .ok (.aload_n 0, 1) := by decide +kernel
theorem dX12_conflict_185 : decode cX12_conflict 185 = .ok (.getfield 55, 3) := by decide +kernel
theorem dX12_conflict_188 : decode cX12_conflict 188 = .ok (.iload 4, 2) := by decide +kernel
theorem dX12_conflict_190 : decode cX12_conflict 190 = .ok (.iconst 5, 1) := by decide +kernel
theorem dX12_conflict_191 : decode cX12_conflict 191 = .ok (.iadd, 1) := by decide +kernel
theorem dX12_conflict_192 : decode cX12_conflict 192 = .ok (.iaload, 1) := by decide +kernel
theorem dX12_conflict_193 : decode cX12_conflict 193 = .ok (.iload_n 2, 1) := by decide +kernel
theorem dX12_conflict_194 : decode cX12_conflict 194 = .ok (.bipush 50, 2) := by decide +kernel
theorem dX12_conflict_196 : decode cX12_conflict 196 = .ok (.isub, 1) := by decide +kernel
theorem dX12_conflict_197 : decode cX12_conflict 197 = .ok (.invokevirtual 303, 3) := by decide +kernel
theorem dX12_conflict_200 : decode cX12_conflict 200 = .ok (.ireturn, 1) := by decide +kernel
theorem dX12_conflict_201 : decode cX12_conflict 201 = .ok (.iload_n 2, 1) := by decide +kernel
theorem dX12_conflict_202 : decode cX12_conflict 202 = .ok (.bipush 70, 2) := by decide +kernel
theorem dX12_conflict_204 : decode cX12_conflict 204 = .ok (.bipush 120, 2) := by decide +kernel
theorem dX12_conflict_206 : decode cX12_conflict 206 = .ok (.invokestatic 139, 3) := by decide +kernel
theorem dX12_conflict_209 : decode cX12_conflict 209 = .ok (.ifCond .eq 37, 3) := by decide +kernel
theorem dX12_conflict_212 : decode cX12_conflict 212 = .ok (.iload_n 2, 1) := by decide +kernel
theorem dX12_conflict_213 : decode cX12_conflict 213 = .ok (.bipush 70, 2) := by decide +kernel
theorem dX12_conflict_215 : decode cX12_conflict 215 = .ok (.isub, 1) := by decide +kernel
theorem dX12_conflict_216 : decode cX12_conflict 216 = .ok (.aload_n 0, 1) := by decide +kernel
theorem dX12_conflict_217 : decode cX12_conflict 217 = .ok (.getfield 230, 3) := by decide +kernel
theorem dX12_conflict_220 : decode cX12_conflict 220 = .ok (.if_icmp .ge 23, 3) := by decide +kernel
theorem dX12_conflict_223 : decode cX12_conflict 223 = .ok (.aload_n 0, 1) := by decide +kernel
theorem dX12_conflict_224 : decode cX12_conflict 224 = .ok (.getfield 58, 3) := by decide +kernel
theorem dX12_conflict_227 : decode cX12_conflict 227 = .ok (.bipush 51, 2) := by decide +kernel
theorem dX12_conflict_229 : decode cX12_conflict 229 = .ok (.aload_n 0, 1) := by decide +kernel
theorem dX12_conflict_230 : decode cX12_conflict 230 = .ok (.getfield 233, 3) := by decide +kernel
theorem dX12_conflict_233 : decode cX12_conflict 233 = .ok (.imul, 1) := by decide +kernel
theorem dX12_conflict_234 : decode cX12_conflict 234 = .ok (.iload_n 2, 1) := by decide +kernel
theorem dX12_conflict_235 : decode cX12_conflict 235 = .ok (.iadd, 1) := by decide +kernel
theorem dX12_conflict_236 : decode cX12_conflict 236 = .ok (.bipush 70, 2) := by decide +kernel
theorem dX12_conflict_238 : decode cX12_conflict 238 = .ok (.isub, 1) := by decide +kernel
theorem dX12_conflict_239 : decode cX12_conflict 239 = .ok (.iaload, 1) := by decide +kernel
theorem dX12_conflict_240 : decode cX12_conflict 240 = .ok (.goto 5, 3) := by decide +kernel
theorem dX12_conflict_243 : decode cX12_conflict 243 = .ok (.bipush (-9), 2) := by decide +kernel
theorem dX12_conflict_245 : decode cX12_conflict 245 = .ok (.ireturn, 1) := by decide +kernel
theorem dX12_conflict_246 : decode cX12_conflict 246 = .ok (.iload_n 2, 1) := by decide +kernel
theorem dX12_conflict_247 : decode cX12_conflict 247 = .ok (.iconst 3, 1) := by decide +kernel
theorem dX12_conflict_248 : decode cX12_conflict 248 = .ok (.if_icmp .ne 10, 3) := by decide +kernel
theorem dX12_conflict_251 : decode cX12_conflict 251 = .ok (.aload_n 0, 1) := by decide +kernel
theorem dX12_conflict_252 : decode cX12_conflict 252 = .ok (.getfield 230, 3) := by decide +kernel
theorem dX12_conflict_255 : decode cX12_conflict 255 = .ok (.goto 17, 3) := by decide +kernel
theorem dX12_conflict_258 : decode cX12_conflict 258 = .ok (.iload_n 2, 1) := by decide +kernel
theorem dX12_conflict_259 : decode cX12_conflict 259 = .ok (.iconst 4, 1) := by decide +kernel
theorem dX12_conflict_260 : decode cX12_conflict 260 = .ok (.if_icmp .ne 10, 3) := by decide +kernel
theorem dX12_conflict_263 : decode cX12_conflict 263 = .ok (.aload_n 0, 1) := by decide +kernel
theorem dX12_conflict_264 : decode cX12_conflict 264 = .ok (.getfield 233, 3) := by decide +kernel
theorem dX12_conflict_267 : decode cX12_conflict 267 = .ok (.goto 5, 3) := by decide +kernel
theorem dX12_conflict_270 : decode cX12_conflict 270 = .ok (.bipush (-2), 2) := by decide +kernel
theorem dX12_conflict_272 : decode cX12_conflict 272 = .ok (.ireturn, 1) := by decide +kernel
theorem dX12_settle_0 : decode cX12_settle 0 = .ok (.aload_n 0, 1) := by decide +kernel
theorem dX12_settle_1 : decode cX12_settle 1 = .ok (.iconst 0, 1) := by decide +kernel
theorem dX12_settle_2 : decode cX12_settle 2 = .ok (.putfield 122, 3) := by decide +kernel
theorem dX12_settle_5 : decode cX12_settle 5 = .ok (.aload_n 0, 1) := by decide +kernel
theorem dX12_settle_6 : decode cX12_settle 6 = .ok (.iload_n 1, 1) := by decide +kernel
theorem dX12_settle_7 : decode cX12_settle 7 = .ok (.invokevirtual 300, 3) := by decide +kernel
theorem dX12_settle_10 : decode cX12_settle 10 = .ok (.ifCond .eq 10, 3) := by decide +kernel
theorem dX12_settle_13 : decode cX12_settle 13 = .ok (.iload_n 2, 1) := by decide +kernel
theorem dX12_settle_14 : decode cX12_settle 14 = .ok (.invokestatic 186, 3) := by decide +kernel
theorem dX12_settle_17 : decode cX12_settle 17 = .ok (.ifCond .ne 5, 3) := by decide +kernel
theorem dX12_settle_20 : decode cX12_settle 20 = .ok (.iconst (-1), 1) := by decide +kernel
theorem dX12_settle_21 : decode cX12_settle 21 = .ok (.ireturn, 1) := by decide +kernel
theorem dX12_settle_22 : decode cX12_settle 22 = .ok (.aload_n 0, 1) := by decide +kernel
theorem dX12_settle_23 : decode cX12_settle 23 = .ok (.getfield 100, 3) := by decide +kernel
theorem dX12_settle_26 : decode cX12_settle 26 = .ok (.iload_n 2, 1) := by decide +kernel
theorem dX12_settle_27 : decode cX12_settle 27 = .ok (.iaload, 1) := by decide +kernel
theorem dX12_settle_28 : decode cX12_settle 28 = .ok (.ifCond .le 9, 3) := by decide +kernel
theorem dX12_settle_31 : decode cX12_settle 31 = .ok (.aload_n 0, 1) := by decide +kernel
theorem dX12_settle_32 : decode cX12_settle 32 = .ok (.iconst 2, 1) := by decide +kernel
theorem dX12_settle_33 : decode cX12_settle 33 = .ok (.invokevirtual 192, 3) := by decide +kernel
theorem dX12_settle_36 : decode cX12_settle 36 = .ok (.ireturn, 1) := by decide +kernel
theorem dX12_settle_37 : decode cX12_settle 37 = .ok (.aload_n 0, 1) := by decide +kernel
theorem dX12_settle_38 : decode cX12_settle 38 = .ok (.getfield 100, 3) := by decide +kernel
theorem dX12_settle_41 : decode cX12_settle 41 = .ok (.iload_n 2, 1) := by decide +kernel
theorem dX12_settle_42 : decode cX12_settle 42 = .ok (.iaload, 1) := by decide +kernel
theorem dX12_settle_43 : decode cX12_settle 43 = .ok (.bipush (-9), 2) := by decide +kernel
theorem dX12_settle_45 : decode cX12_settle 45 = .ok (.if_icmp .ne 9, 3) := by decide +kernel
theorem dX12_settle_48 : decode cX12_settle 48 = .ok (.aload_n 0, 1) := by decide +kernel
theorem dX12_settle_49 : decode cX12_settle 49 = .ok (.iconst 1, 1) := by decide +kernel
theorem dX12_settle_50 : decode cX12_settle 50 = .ok (.invokevirtual 192, 3) := by decide +kernel
theorem dX12_settle_53 : decode cX12_settle 53 = .ok (.ireturn, 1) := by decide +kernel
theorem dX12_settle_54 : decode cX12_settle 54 = .ok (.aload_n 0, 1) := by decide +kernel
theorem dX12_settle_55 : decode cX12_settle 55 = .ok (.iload_n 2, 1) := by decide +kernel
theorem dX12_settle_56 : decode cX12_settle 56 = .ok (.bipush 6, 2) := by decide +kernel
theorem dX12_settle_58 : decode cX12_settle 58 = .ok (.invokevirtual 195, 3) := by decide +kernel
theorem dX12_settle_61 : decode cX12_settle 61 = .ok (.ifCond .ne 6, 3) := by decide +kernel
theorem dX12_settle_64 : decode cX12_settle 64 = .ok (.bipush (-2), 2) := by decide +kernel
theorem dX12_settle_66 : decode cX12_settle 66 = .ok (.ireturn, 1) := by decide +kernel
theorem dX12_settle_67 : decode cX12_settle 67 = .ok (.aload_n 0, 1) := by decide +kernel
theorem dX12_settle_68 : decode cX12_settle 68 = .ok (.getfield 219, 3) := by decide +kernel
theorem dX12_settle_71 : decode cX12_settle 71 = .ok (.bipush 8, 2) := by decide +kernel
theorem dX12_settle_73 : decode cX12_settle 73 = .ok (.if_icmp .ne 6, 3) := by decide +kernel
theorem dX12_settle_76 : decode cX12_settle 76 = .ok (.bipush (-4), 2) := by decide +kernel
theorem dX12_settle_78 : decode cX12_settle 78 = .ok (.ireturn, 1) := by decide +kernel
theorem dX12_settle_79 : decode cX12_settle 79 = .ok (.aload_n 0, 1) := by decide +kernel
theorem dX12_settle_80 : decode cX12_settle 80 = .ok (.getfield 91, 3) := by decide +kernel
theorem dX12_settle_83 : decode cX12_settle 83 = .ok (.aload_n 0, 1) := by decide +kernel
theorem dX12_settle_84 : decode cX12_settle 84 = .ok (.getfield 271, 3) := by decide +kernel
theorem dX12_settle_87 : decode cX12_settle 87 = .ok (.iaload, 1) := by decide +kernel
theorem dX12_settle_88 : decode cX12_settle 88 = .ok (.istore_n 3, 1) := by decide +kernel
theorem dX12_settle_89 : decode cX12_settle 89 = .ok (.aload_n 0, 1) := by decide +kernel
theorem dX12_settle_90 : decode cX12_settle 90 = .ok (.aload_n 0, 1) := by decide +kernel
theorem dX12_settle_91 : decode cX12_settle 91 = .ok (.getfield 13, 3) := by decide +kernel
theorem dX12_settle_94 : decode cX12_settle 94 = .ok (.iload_n 3, 1) := by decide +kernel
theorem dX12_settle_95 : decode cX12_settle 95 = .ok (.iaload, 1) := by decide +kernel
theorem dX12_settle_96 : decode cX12_settle 96 = .ok (.aload_n 0, 1) := by decide +kernel
theorem dX12_settle_97 : decode cX12_settle 97 = .ok (.getfield 265, 3) := by decide +kernel
theorem dX12_settle_100 : decode cX12_settle 100 = .ok (.iload_n 3, 1) := by decide +kernel
theorem dX12_settle_101 : decode cX12_settle 101 = .ok (.bipush 6, 2) := by decide +kernel
theorem dX12_settle_103 : decode cX12_settle 103 = .ok (.iload_n 1, 1) := by decide +kernel
theorem dX12_settle_104 : decode cX12_settle 104 = .ok (.imul, 1) := by decide +kernel
theorem dX12_settle_105 : decode cX12_settle 105 = .ok (.invokevirtual 239, 3) := by decide +kernel
theorem dX12_settle_108 : decode cX12_settle 108 = .ok (.aload_n 0, 1) := by decide +kernel
theorem dX12_settle_109 : decode cX12_settle 109 = .ok (.getfield 70, 3) := by decide +kernel
theorem dX12_settle_112 : decode cX12_settle 112 = .ok (.aload_n 0, 1) := by decide +kernel
theorem dX12_settle_113 : decode cX12_settle 113 = .ok (.getfield 219, 3) := by decide +kernel
theorem dX12_settle_116 : decode cX12_settle 116 = .ok (.aload_n 0, 1) := by decide +kernel
theorem dX12_settle_117 : decode cX12_settle 117 = .ok (.getfield 230, 3) := by decide +kernel
theorem dX12_settle_120 : decode cX12_settle 120 = .ok (.iastore, 1) := by decide +kernel
theorem dX12_settle_121 : decode cX12_settle 121 = .ok (.iconst 0, 1) := by decide +kernel
theorem dX12_settle_122 : decode cX12_settle 122 = .ok (.istore 4, 2) := by decide +kernel
theorem dX12_settle_124 : decode cX12_settle 124 = .ok (.iload 4, 2) := by decide +kernel
theorem dX12_settle_126 : decode cX12_settle 126 = .ok (.aload_n 0, 1) := by decide +kernel
theorem dX12_settle_127 : decode cX12_settle 127 = .ok (.getfield 230, 3) := by decide +kernel
theorem dX12_settle_130 : decode cX12_settle 130 = .ok (.if_icmp .ge 39, 3) := by decide +kernel
theorem dX12_settle_133 : decode cX12_settle 133 = .ok (.aload_n 0, 1) := by decide +kernel
theorem dX12_settle_134 : decode cX12_settle 134 = .ok (.getfield 67, 3) := by decide +kernel
theorem dX12_settle_137 : decode cX12_settle 137 = .ok (.bipush 51, 2) := by decide +kernel
theorem dX12_settle_139 : decode cX12_settle 139 = .ok (.aload_n 0, 1) := by decide +kernel
theorem dX12_settle_140 : decode cX12_settle 140 = .ok (.getfield 219, 3) := by decide +kernel
theorem dX12_settle_143 : decode cX12_settle 143 = .ok (.imul, 1) := by decide +kernel
theorem dX12_settle_144 : decode cX12_settle 144 = .ok (.iload 4, 2) := by decide +kernel
theorem dX12_settle_146 : decode cX12_settle 146 = .ok (.iadd, 1) := by decide +kernel
theorem dX12_settle_147 : decode cX12_settle 147 = .ok (.aload_n 0, 1) := by decide +kernel
theorem dX12_settle_148 : decode cX12_settle 148 = .ok (.getfield 58, 3) := by decide +kernel
theorem dX12_settle_151 : decode cX12_settle 151 = .ok (.bipush 51, 2) := by decide +kernel
theorem dX12_settle_153 : decode cX12_settle 153 = .ok (.aload_n 0, 1) := by decide +kernel
theorem dX12_settle_154 : decode cX12_settle 154 = .ok (.getfield 233, 3) := by decide +kernel
theorem dX12_settle_157 : decode cX12_settle 157 = .ok (.imul, 1) := by decide +kernel
theorem dX12_settle_158 : decode cX12_settle 158 = .ok (.iload 4, 2) := by decide +kernel
theorem dX12_settle_160 : decode cX12_settle 160 = .ok (.iadd, 1) := by decide +kernel
theorem dX12_settle_161 : decode cX12_settle 161 = .ok (.iaload, 1) := by decide +kernel
theorem dX12_settle_162 : decode cX12_settle 162 = .ok (.iastore, 1) := by decide +kernel
theorem dX12_settle_163 : decode cX12_settle 163 = .ok (.iinc 4 1, 3) := by decide +kernel
theorem dX12_settle_166 : decode cX12_settle 166 = .ok (.goto (-42), 3) := by decide +kernel
theorem dX12_settle_169 : decode cX12_settle 169 = .ok (.aload_n 0, 1) := by decide +kernel
theorem dX12_settle_170 : decode cX12_settle 170 = .ok (.getfield 76, 3) := by decide +kernel
theorem dX12_settle_173 : decode cX12_settle 173 = .ok (.aload_n 0, 1) := by decide +kernel
theorem dX12_settle_174 : decode cX12_settle 174 = .ok (.getfield 219, 3) := by decide +kernel
theorem dX12_settle_177 : decode cX12_settle 177 = .ok (.aload_n 0, 1) := by decide +kernel
theorem dX12_settle_178 : decode cX12_settle 178 = .ok (.getfield 103, 3) := by decide +kernel
theorem dX12_settle_181 : decode cX12_settle 181 = .ok (.iload_n 2, 1) := by decide +kernel
theorem dX12_settle_182 : decode cX12_settle 182 = .ok (.iaload, 1) := by decide +kernel
theorem dX12_settle_183 : decode cX12_settle 183 = .ok (.iastore, 1) := by decide +kernel
theorem dX12_settle_184 : decode cX12_settle 184 = .ok (.iconst 0, 1) := by decide +kernel
theorem dX12_settle_185 : decode cX12_settle 185 = .ok (.istore 4, 2) := by decide +kernel
theorem dX12_settle_187 : decode cX12_settle 187 = .ok (.iload 4, 2) := by decide +kernel
theorem dX12_settle_189 : decode cX12_settle 189 = .ok (.aload_n 0, 1) := by decide +kernel
theorem dX12_settle_190 : decode cX12_settle 190 = .ok (.getfield 103, 3) := by decide +kernel
theorem dX12_settle_193 : decode cX12_settle 193 = .ok (.iload_n 2, 1) := by decide +kernel
theorem dX12_settle_194 : decode cX12_settle 194 = .ok (.iaload, 1) := by decide +kernel
theorem dX12_settle_195 : decode cX12_settle 195 = .ok (.if_icmp .ge 99, 3) := by decide +kernel
theorem dX12_settle_198 : decode cX12_settle 198 = .ok (.aload_n 0, 1) := by decide +kernel
theorem dX12_settle_199 : decode cX12_settle 199 = .ok (.getfield 106, 3) := by decide +kernel
theorem dX12_settle_202 : decode cX12_settle 202 = .ok (.bipush 24, 2) := by decide +kernel
theorem dX12_settle_204 : decode cX12_settle 204 = .ok (.iload_n 2, 1) := by decide +kernel
theorem dX12_settle_205 : decode cX12_settle 205 = .ok (.imul, 1) := by decide +kernel
theorem dX12_settle_206 : decode cX12_settle 206 = .ok (.iload 4, 2) := by decide +kernel
theorem dX12_settle_208 : decode cX12_settle 208 = .ok (.iadd, 1) := by decide +kernel
theorem dX12_settle_209 : decode cX12_settle 209 = .ok (.iaload, 1) := by decide +kernel
theorem dX12_settle_210 : decode cX12_settle 210 = .ok (.istore 5, 2) := by decide +kernel
theorem dX12_settle_212 : decode cX12_settle 212 = .ok (.iload 5, 2) := by decide +kernel
theorem dX12_settle_214 : decode cX12_settle 214 = .ok (.bipush 100, 2) := by decide +kernel
theorem dX12_settle_216 : decode cX12_settle 216 = .ok (.iadd, 1) := by decide +kernel
theorem dX12_settle_217 : decode cX12_settle 217 = .ok (.istore 6, 2) := by decide +kernel
theorem dX12_settle_219 : decode cX12_settle 219 = .ok (.iconst 0, 1) := by decide +kernel
theorem dX12_settle_220 : decode cX12_settle 220 = .ok (.istore 7, 2) := by decide +kernel
theorem dX12_settle_222 : decode cX12_settle 222 = .ok (.iload 7, 2) := by decide +kernel
theorem dX12_settle_224 : decode cX12_settle 224 = .ok (.aload_n 0, 1) := by decide +kernel
theorem dX12_settle_225 : decode cX12_settle 225 = .ok (.getfield 64, 3) := by decide +kernel
theorem dX12_settle_228 : decode cX12_settle 228 = .ok (.aload_n 0, 1) := by decide +kernel
theorem dX12_settle_229 : decode cX12_settle 229 = .ok (.getfield 233, 3) := by decide +kernel
theorem dX12_settle_232 : decode cX12_settle 232 = .ok (.iaload, 1) := by decide +kernel
theorem dX12_settle_233 : decode cX12_settle 233 = .ok (.if_icmp .ge 38, 3) := by decide +kernel
theorem dX12_settle_236 : decode cX12_settle 236 = .ok (.aload_n 0, 1) := by decide +kernel
theorem dX12_settle_237 : decode cX12_settle 237 = .ok (.getfield 61, 3) := by decide +kernel
theorem dX12_settle_240 : decode cX12_settle 240 = .ok (.bipush 48, 2) := by decide +kernel
theorem dX12_settle_242 : decode cX12_settle 242 = .ok (.aload_n 0, 1) := by decide +kernel
theorem dX12_settle_243 : decode cX12_settle 243 = .ok (.getfield 233, 3) := by decide +kernel
theorem dX12_settle_246 : decode cX12_settle 246 = .ok (.imul, 1) := by decide +kernel
theorem dX12_settle_247 : decode cX12_settle 247 = .ok (.iload 7, 2) := by decide +kernel
theorem dX12_settle_249 : decode cX12_settle 249 = .ok (.iadd, 1) := by decide +kernel
theorem dX12_settle_250 : decode cX12_settle 250 = .ok (.iaload, 1) := by decide +kernel
theorem dX12_settle_251 : decode cX12_settle 251 = .ok (.iload 5, 2) := by decide +kernel
theorem dX12_settle_253 : decode cX12_settle 253 = .ok (.if_icmp .ne 8, 3) := by decide +kernel
theorem dX12_settle_256 : decode cX12_settle 256 = .ok (.iload 7, 2) := by decide +kernel
theorem dX12_settle_258 : decode cX12_settle 258 = .ok (.goto 5, 3) := by decide +kernel
theorem dX12_settle_261 : decode cX12_settle 261 = .ok (.iload 6, 2) := by decide +kernel
theorem dX12_settle_263 : decode cX12_settle 263 = .ok (.istore 6, 2) := by decide +kernel
theorem dX12_settle_265 : decode cX12_settle 265 = .ok (.iinc 7 1, 3) := by decide +kernel
theorem dX12_settle_268 : decode cX12_settle 268 = .ok (.goto (-46), 3) := by decide +kernel
theorem dX12_settle_271 : decode cX12_settle 271 = .ok (.aload_n 0, 1) := by decide +kernel
theorem dX12_settle_272 : decode cX12_settle 272 = .ok (.getfield 73, 3) := by decide +kernel
theorem dX12_settle_275 : decode cX12_settle 275 = .ok (.bipush 6, 2) := by decide +kernel
theorem dX12_settle_277 : decode cX12_settle 277 = .ok (.aload_n 0, 1) := by decide +kernel
theorem dX12_settle_278 : decode cX12_settle 278 = .ok (.getfield 219, 3) := by decide +kernel
theorem dX12_settle_281 : decode cX12_settle 281 = .ok (.imul, 1) := by decide +kernel
theorem dX12_settle_282 : decode cX12_settle 282 = .ok (.iload 4, 2) := by decide +kernel
theorem dX12_settle_284 : decode cX12_settle 284 = .ok (.iadd, 1) := by decide +kernel
theorem dX12_settle_285 : decode cX12_settle 285 = .ok (.iload 6, 2) := by decide +kernel
theorem dX12_settle_287 : decode cX12_settle 287 = .ok (.iastore, 1) := by decide +kernel
theorem dX12_settle_288 : decode cX12_settle 288 = .ok (.iinc 4 1, 3) := by decide +kernel
theorem dX12_settle_291 : decode cX12_settle 291 = .ok (.goto (-104), 3) := by decide +kernel
theorem dX12_settle_294 : decode cX12_settle 294 = .ok (.aload_n 0, 1) := by decide +kernel
theorem dX12_settle_295 : decode cX12_settle 295 = .ok (.dup, 1) := by decide +kernel
theorem dX12_settle_296 : decode cX12_settle 296 = .ok (.getfield 219, 3) := by decide +kernel
theorem dX12_settle_299 : decode cX12_settle 299 = .ok (.iconst 1, 1) := by decide +kernel
theorem dX12_settle_300 : decode cX12_settle 300 = .ok (.iadd, 1) := by decide +kernel
theorem dX12_settle_301 : decode cX12_settle 301 = .ok (.putfield 219, 3) := by decide +kernel
theorem dX12_settle_304 : decode cX12_settle 304 = .ok (.aload_n 0, 1) := by decide +kernel
theorem dX12_settle_305 : decode cX12_settle 305 = .ok (.getfield 219, 3) := by decide +kernel
theorem dX12_settle_308 : decode cX12_settle 308 = .ok (.ireturn, 1) := by decide +kernel
theorem dX12_foretells_0 : decode cX12_foretells 0 = .ok (.aload_n 0, 1) := by decide +kernel
theorem dX12_foretells_1 : decode cX12_foretells 1 = .ok (.iconst 0, 1) := by decide +kernel
theorem dX12_foretells_2 : decode cX12_foretells 2 = .ok (.putfield 307, 3) := by decide +kernel
theorem dX12_foretells_5 : decode cX12_foretells 5 = .ok (.aload_n 0, 1) := by decide +kernel
theorem dX12_foretells_6 : decode cX12_foretells 6 = .ok (.iconst 0, 1) := by decide +kernel
theorem dX12_foretells_7 : decode cX12_foretells 7 = .ok (.putfield 310, 3) := by decide +kernel
theorem dX12_foretells_10 : decode cX12_foretells 10 = .ok (.aload_n 0, 1) := by decide +kernel
theorem dX12_foretells_11 : decode cX12_foretells 11 = .ok (.bipush (-9), 2) := by decide +kernel
theorem dX12_foretells_13 : decode cX12_foretells 13 = .ok (.putfield 313, 3) := by decide +kernel
theorem dX12_foretells_16 : decode cX12_foretells 16 = .ok (.aload_n 0, 1) := by decide +kernel
theorem dX12_foretells_17 : decode cX12_foretells 17 = .ok (.iconst 0, 1) := by decide +kernel
theorem dX12_foretells_18 : decode cX12_foretells 18 = .ok (.putfield 316, 3) := by decide +kernel
theorem dX12_foretells_21 : decode cX12_foretells 21 = .ok (.aload_n 0, 1) := by decide +kernel
theorem dX12_foretells_22 : decode cX12_foretells 22 = .ok (.getfield 25, 3) := by decide +kernel
theorem dX12_foretells_25 : decode cX12_foretells 25 = .ok (.bipush 24, 2) := by decide +kernel
theorem dX12_foretells_27 : decode cX12_foretells 27 = .ok (.aload_n 0, 1) := by decide +kernel
theorem dX12_foretells_28 : decode cX12_foretells 28 = .ok (.getfield 25, 3) := by decide +kernel
theorem dX12_foretells_31 : decode cX12_foretells 31 = .ok (.iload_n 2, 1) := by decide +kernel
theorem dX12_foretells_32 : decode cX12_foretells 32 = .ok (.iaload, 1) := by decide +kernel
theorem dX12_foretells_33 : decode cX12_foretells 33 = .ok (.iastore, 1) := by decide +kernel
theorem dX12_foretells_34 : decode cX12_foretells 34 = .ok (.iconst 0, 1) := by decide +kernel
theorem dX12_foretells_35 : decode cX12_foretells 35 = .ok (.istore_n 3, 1) := by decide +kernel
theorem dX12_foretells_36 : decode cX12_foretells 36 = .ok (.iload_n 3, 1) := by decide +kernel
theorem dX12_foretells_37 : decode cX12_foretells 37 = .ok (.aload_n 0, 1) := by decide +kernel
theorem dX12_foretells_38 : decode cX12_foretells 38 = .ok (.getfield 25, 3) := by decide +kernel
theorem dX12_foretells_41 : decode cX12_foretells 41 = .ok (.iload_n 2, 1) := by decide +kernel
theorem dX12_foretells_42 : decode cX12_foretells 42 = .ok (.iaload, 1) := by decide +kernel
theorem dX12_foretells_43 : decode cX12_foretells 43 = .ok (.if_icmp .ge 30, 3) := by decide +kernel
theorem dX12_foretells_46 : decode cX12_foretells 46 = .ok (.aload_n 0, 1) := by decide +kernel
theorem dX12_foretells_47 : decode cX12_foretells 47 = .ok (.getfield 22, 3) := by decide +kernel
theorem dX12_foretells_50 : decode cX12_foretells 50 = .ok (.sipush 384, 3) := by decide +kernel
theorem dX12_foretells_53 : decode cX12_foretells 53 = .ok (.iload_n 3, 1) := by decide +kernel
theorem dX12_foretells_54 : decode cX12_foretells 54 = .ok (.iadd, 1) := by decide +kernel
theorem dX12_foretells_55 : decode cX12_foretells 55 = .ok (.aload_n 0, 1) := by decide +kernel
theorem dX12_foretells_56 : decode cX12_foretells 56 = .ok (.getfield 22, 3) := by decide +kernel
theorem dX12_foretells_59 : decode cX12_foretells 59 = .ok (.bipush 16, 2) := by decide +kernel
theorem dX12_foretells_61 : decode cX12_foretells 61 = .ok (.iload_n 2, 1) := by decide +kernel
theorem dX12_foretells_62 : decode cX12_foretells 62 = .ok (.imul, 1) := by decide +kernel
theorem dX12_foretells_63 : decode cX12_foretells 63 = .ok (.iload_n 3, 1) := by decide +kernel
theorem dX12_foretells_64 : decode cX12_foretells 64 = .ok (.iadd, 1) := by decide +kernel
theorem dX12_foretells_65 : decode cX12_foretells 65 = .ok (.iaload, 1) := by decide +kernel
theorem dX12_foretells_66 : decode cX12_foretells 66 = .ok (.iastore, 1) := by decide +kernel
theorem dX12_foretells_67 : decode cX12_foretells 67 = .ok (.iinc 3 1, 3) := by decide +kernel
theorem dX12_foretells_70 : decode cX12_foretells 70 = .ok (.goto (-34), 3) := by decide +kernel
theorem dX12_foretells_73 : decode cX12_foretells 73 = .ok (.iconst 0, 1) := by decide +kernel
theorem dX12_foretells_74 : decode cX12_foretells 74 = .ok (.istore_n 3, 1) := by decide +kernel
theorem dX12_foretells_75 : decode cX12_foretells 75 = .ok (.iload_n 3, 1) := by decide +kernel
theorem dX12_foretells_76 : decode cX12_foretells 76 = .ok (.aload_n 0, 1) := by decide +kernel
theorem dX12_foretells_77 : decode cX12_foretells 77 = .ok (.getfield 262, 3) := by decide +kernel
theorem dX12_foretells_80 : decode cX12_foretells 80 = .ok (.if_icmp .ge 158, 3) := by decide +kernel
theorem dX12_foretells_83 : decode cX12_foretells 83 = .ok (.aload_n 0, 1) := by decide +kernel
theorem dX12_foretells_84 : decode cX12_foretells 84 = .ok (.getfield 313, 3) := by decide +kernel
theorem dX12_foretells_87 : decode cX12_foretells 87 = .ok (.bipush (-9), 2) := by decide +kernel
theorem dX12_foretells_89 : decode cX12_foretells 89 = .ok (.if_icmp .ne 149, 3) := by decide +kernel
theorem dX12_foretells_92 : decode cX12_foretells 92 = .ok (.aload_n 0, 1) := by decide +kernel
theorem dX12_foretells_93 : decode cX12_foretells 93 = .ok (.getfield 91, 3) := by decide +kernel
theorem dX12_foretells_96 : decode cX12_foretells 96 = .ok (.iload_n 3, 1) := by decide +kernel
theorem dX12_foretells_97 : decode cX12_foretells 97 = .ok (.iaload, 1) := by decide +kernel
theorem dX12_foretells_98 : decode cX12_foretells 98 = .ok (.istore 4, 2) := by decide +kernel
theorem dX12_foretells_100 : decode cX12_foretells 100 = .ok (.aload_n 0, 1) := by decide +kernel
theorem dX12_foretells_101 : decode cX12_foretells 101 = .ok (.iload 4, 2) := by decide +kernel
theorem dX12_foretells_103 : decode cX12_foretells 103 = .ok (.iload_n 1, 1) := by decide +kernel
theorem dX12_foretells_104 : decode cX12_foretells 104 = .ok (.iload_n 2, 1) := by decide +kernel
theorem dX12_foretells_105 : decode cX12_foretells 105 = .ok (.invokevirtual 280, 3) := by decide +kernel
theorem dX12_foretells_108 : decode cX12_foretells 108 = .ok (.ifCond .eq 16, 3) := by decide +kernel
theorem dX12_foretells_111 : decode cX12_foretells 111 = .ok (.aload_n 0, 1) := by decide +kernel
theorem dX12_foretells_112 : decode cX12_foretells 112 = .ok (.dup, 1) := by decide +kernel
theorem dX12_foretells_113 : decode cX12_foretells 113 = .ok (.getfield 310, 3) := by decide +kernel
theorem dX12_foretells_116 : decode cX12_foretells 116 = .ok (.iconst 1, 1) := by decide +kernel
theorem dX12_foretells_117 : decode cX12_foretells 117 = .ok (.iadd, 1) := by decide +kernel
theorem dX12_foretells_118 : decode cX12_foretells 118 = .ok (.putfield 310, 3) := by decide +kernel
theorem dX12_foretells_121 : decode cX12_foretells 121 = .ok (.goto 111, 3) := by decide +kernel
theorem dX12_foretells_124 : decode cX12_foretells 124 = .ok (.aload_n 0, 1) := by decide +kernel
theorem dX12_foretells_125 : decode cX12_foretells 125 = .ok (.iload 4, 2) := by decide +kernel
theorem dX12_foretells_127 : decode cX12_foretells 127 = .ok (.bipush 24, 2) := by decide +kernel
theorem dX12_foretells_129 : decode cX12_foretells 129 = .ok (.invokevirtual 283, 3) := by decide +kernel
theorem dX12_foretells_132 : decode cX12_foretells 132 = .ok (.istore 5, 2) := by decide +kernel
theorem dX12_foretells_134 : decode cX12_foretells 134 = .ok (.iload 5, 2) := by decide +kernel
theorem dX12_foretells_136 : decode cX12_foretells 136 = .ok (.ifCond .eq 26, 3) := by decide +kernel
theorem dX12_foretells_139 : decode cX12_foretells 139 = .ok (.aload_n 0, 1) := by decide +kernel
theorem dX12_foretells_140 : decode cX12_foretells 140 = .ok (.iload 4, 2) := by decide +kernel
theorem dX12_foretells_142 : decode cX12_foretells 142 = .ok (.putfield 313, 3) := by decide +kernel
theorem dX12_foretells_145 : decode cX12_foretells 145 = .ok (.aload_n 0, 1) := by decide +kernel
theorem dX12_foretells_146 : decode cX12_foretells 146 = .ok (.aload_n 0, 1) := by decide +kernel
theorem dX12_foretells_147 : decode cX12_foretells 147 = .ok (.getfield 236, 3) := by decide +kernel
theorem dX12_foretells_150 : decode cX12_foretells 150 = .ok (.putfield 316, 3) := by decide +kernel
theorem dX12_foretells_153 : decode cX12_foretells 153 = .ok (.aload_n 0, 1) := by decide +kernel
theorem dX12_foretells_154 : decode cX12_foretells 154 = .ok (.iload 5, 2) := by decide +kernel
theorem dX12_foretells_156 : decode cX12_foretells 156 = .ok (.putfield 319, 3) := by decide +kernel
theorem dX12_foretells_159 : decode cX12_foretells 159 = .ok (.goto 73, 3) := by decide +kernel
theorem dX12_foretells_162 : decode cX12_foretells 162 = .ok (.aload_n 0, 1) := by decide +kernel
theorem dX12_foretells_163 : decode cX12_foretells 163 = .ok (.getfield 7, 3) := by decide +kernel
theorem dX12_foretells_166 : decode cX12_foretells 166 = .ok (.iload 4, 2) := by decide +kernel
theorem dX12_foretells_168 : decode cX12_foretells 168 = .ok (.iaload, 1) := by decide +kernel
theorem dX12_foretells_169 : decode cX12_foretells 169 = .ok (.ifCond .ne 25, 3) := by decide +kernel
theorem dX12_foretells_172 : decode cX12_foretells 172 = .ok (.aload_n 0, 1) := by decide +kernel
theorem dX12_foretells_173 : decode cX12_foretells 173 = .ok (.bipush 24, 2) := by decide +kernel
theorem dX12_foretells_175 : decode cX12_foretells 175 = .ok (.invokevirtual 216, 3) := by decide +kernel
theorem dX12_foretells_178 : decode cX12_foretells 178 = .ok (.ifCond .eq 16, 3) := by decide +kernel
theorem dX12_foretells_181 : decode cX12_foretells 181 = .ok (.aload_n 0, 1) := by decide +kernel
theorem dX12_foretells_182 : decode cX12_foretells 182 = .ok (.dup, 1) := by decide +kernel
theorem dX12_foretells_183 : decode cX12_foretells 183 = .ok (.getfield 310, 3) := by decide +kernel
theorem dX12_foretells_186 : decode cX12_foretells 186 = .ok (.iconst 1, 1) := by decide +kernel
theorem dX12_foretells_187 : decode cX12_foretells 187 = .ok (.iadd, 1) := by decide +kernel
theorem dX12_foretells_188 : decode cX12_foretells 188 = .ok (.putfield 310, 3) := by decide +kernel
theorem dX12_foretells_191 : decode cX12_foretells 191 = .ok (.goto 41, 3) := by decide +kernel
theorem dX12_foretells_194 : decode cX12_foretells 194 = .ok (.aload_n 0, 1) := by decide +kernel
theorem dX12_foretells_195 : decode cX12_foretells 195 = .ok (.dup, 1) := by decide +kernel
theorem dX12_foretells_196 : decode cX12_foretells 196 = .ok (.getfield 307, 3) := by decide +kernel
theorem dX12_foretells_199 : decode cX12_foretells 199 = .ok (.aload_n 0, 1) := by decide +kernel
theorem dX12_foretells_200 : decode cX12_foretells 200 = .ok (.getfield 7, 3) := by decide +kernel
theorem dX12_foretells_203 : decode cX12_foretells 203 = .ok (.iload 4, 2) := by decide +kernel
theorem dX12_foretells_205 : decode cX12_foretells 205 = .ok (.iaload, 1) := by decide +kernel
theorem dX12_foretells_206 : decode cX12_foretells 206 = .ok (.iconst 2, 1) := by decide +kernel
theorem dX12_foretells_207 : decode cX12_foretells 207 = .ok (.if_icmp .ne 14, 3) := by decide +kernel
theorem dX12_foretells_210 : decode cX12_foretells 210 = .ok (.aload_n 0, 1) := by decide +kernel
theorem dX12_foretells_211 : decode cX12_foretells 211 = .ok (.getfield 307, 3) := by decide +kernel
theorem dX12_foretells_214 : decode cX12_foretells 214 = .ok (.ifCond .le 7, 3) := by decide +kernel
theorem dX12_foretells_217 : decode cX12_foretells 217 = .ok (.iconst 0, 1) := by decide +kernel
theorem dX12_foretells_218 : decode cX12_foretells 218 = .ok (.goto 4, 3) := by decide +kernel
theorem dX12_foretells_221 : decode cX12_foretells 221 = .ok (.iconst 1, 1) := by decide +kernel
theorem dX12_foretells_222 : decode cX12_foretells 222 = .ok (.iadd, 1) := by decide +kernel
theorem dX12_foretells_223 : decode cX12_foretells 223 = .ok (.putfield 307, 3) := by decide +kernel
theorem dX12_foretells_226 : decode cX12_foretells 226 = .ok (.aload_n 0, 1) := by decide +kernel
theorem dX12_foretells_227 : decode cX12_foretells 227 = .ok (.bipush 24, 2) := by decide +kernel
theorem dX12_foretells_229 : decode cX12_foretells 229 = .ok (.invokevirtual 213, 3) := by decide +kernel
theorem dX12_foretells_232 : decode cX12_foretells 232 = .ok (.iinc 3 1, 3) := by decide +kernel
theorem dX12_foretells_235 : decode cX12_foretells 235 = .ok (.goto (-160), 3) := by decide +kernel
theorem dX12_foretells_238 : decode cX12_foretells 238 = .ok (.return_, 1) := by decide +kernel
theorem dX12_foretell_0 : decode cX12_foretell 0 = .ok (.iload_n 1, 1) := by decide +kernel
theorem dX12_foretell_1 : decode cX12_foretell 1 = .ok (.invokestatic 183, 3) := by decide +kernel
theorem dX12_foretell_4 : decode cX12_foretell 4 = .ok (.ifCond .eq 11, 3) := by decide +kernel
theorem dX12_foretell_7 : decode cX12_foretell 7 = .ok (.aload_n 0, 1) := by decide +kernel
theorem dX12_foretell_8 : decode cX12_foretell 8 = .ok (.iload_n 2, 1) := by decide +kernel
theorem dX12_foretell_9 : decode cX12_foretell 9 = .ok (.invokevirtual 171, 3) := by decide +kernel
theorem dX12_foretell_12 : decode cX12_foretell 12 = .ok (.ifCond .ne 5, 3) := by decide +kernel
theorem dX12_foretell_15 : decode cX12_foretell 15 = .ok (.iconst (-1), 1) := by decide +kernel
theorem dX12_foretell_16 : decode cX12_foretell 16 = .ok (.ireturn, 1) := by decide +kernel
theorem dX12_foretell_17 : decode cX12_foretell 17 = .ok (.iload_n 3, 1) := by decide +kernel
theorem dX12_foretell_18 : decode cX12_foretell 18 = .ok (.iconst 0, 1) := by decide +kernel
theorem dX12_foretell_19 : decode cX12_foretell 19 = .ok (.iconst 5, 1) := by decide +kernel
theorem dX12_foretell_20 : decode cX12_foretell 20 = .ok (.invokestatic 139, 3) := by decide +kernel
theorem dX12_foretell_23 : decode cX12_foretell 23 = .ok (.ifCond .ne 17, 3) := by decide +kernel
theorem dX12_foretell_26 : decode cX12_foretell 26 = .ok (.iload_n 3, 1) := by decide +kernel
theorem dX12_foretell_27 : decode cX12_foretell 27 = .ok (.bipush 10, 2) := by decide +kernel
theorem dX12_foretell_29 : decode cX12_foretell 29 = .ok (.bipush 25, 2) := by decide +kernel
theorem dX12_foretell_31 : decode cX12_foretell 31 = .ok (.invokestatic 139, 3) := by decide +kernel
theorem dX12_foretell_34 : decode cX12_foretell 34 = .ok (.ifCond .ne 6, 3) := by decide +kernel
theorem dX12_foretell_37 : decode cX12_foretell 37 = .ok (.bipush (-2), 2) := by decide +kernel
theorem dX12_foretell_39 : decode cX12_foretell 39 = .ok (.ireturn, 1) := by decide +kernel
theorem dX12_foretell_40 : decode cX12_foretell 40 = .ok (.aload_n 0, 1) := by decide +kernel
theorem dX12_foretell_41 : decode cX12_foretell 41 = .ok (.getfield 189, 3) := by decide +kernel
theorem dX12_foretell_44 : decode cX12_foretell 44 = .ok (.ifCond .eq 6, 3) := by decide +kernel
theorem dX12_foretell_47 : decode cX12_foretell 47 = .ok (.bipush (-3), 2) := by decide +kernel
theorem dX12_foretell_49 : decode cX12_foretell 49 = .ok (.ireturn, 1) := by decide +kernel
theorem dX12_foretell_50 : decode cX12_foretell 50 = .ok (.aload_n 0, 1) := by decide +kernel
theorem dX12_foretell_51 : decode cX12_foretell 51 = .ok (.iload_n 1, 1) := by decide +kernel
theorem dX12_foretell_52 : decode cX12_foretell 52 = .ok (.iload_n 2, 1) := by decide +kernel
theorem dX12_foretell_53 : decode cX12_foretell 53 = .ok (.invokevirtual 289, 3) := by decide +kernel
theorem dX12_foretell_56 : decode cX12_foretell 56 = .ok (.aload_n 0, 1) := by decide +kernel
theorem dX12_foretell_57 : decode cX12_foretell 57 = .ok (.getfield 129, 3) := by decide +kernel
theorem dX12_foretell_60 : decode cX12_foretell 60 = .ok (.aload_n 0, 1) := by decide +kernel
theorem dX12_foretell_61 : decode cX12_foretell 61 = .ok (.getfield 262, 3) := by decide +kernel
theorem dX12_foretell_64 : decode cX12_foretell 64 = .ok (.iadd, 1) := by decide +kernel
theorem dX12_foretell_65 : decode cX12_foretell 65 = .ok (.bipush 24, 2) := by decide +kernel
theorem dX12_foretell_67 : decode cX12_foretell 67 = .ok (.if_icmp .le 6, 3) := by decide +kernel
theorem dX12_foretell_70 : decode cX12_foretell 70 = .ok (.bipush (-4), 2) := by decide +kernel
theorem dX12_foretell_72 : decode cX12_foretell 72 = .ok (.ireturn, 1) := by decide +kernel
theorem dX12_foretell_73 : decode cX12_foretell 73 = .ok (.aload_n 0, 1) := by decide +kernel
theorem dX12_foretell_74 : decode cX12_foretell 74 = .ok (.iload_n 1, 1) := by decide +kernel
theorem dX12_foretell_75 : decode cX12_foretell 75 = .ok (.iload_n 2, 1) := by decide +kernel
theorem dX12_foretell_76 : decode cX12_foretell 76 = .ok (.invokevirtual 322, 3) := by decide +kernel
theorem dX12_foretell_79 : decode cX12_foretell 79 = .ok (.iload_n 3, 1) := by decide +kernel
theorem dX12_foretell_80 : decode cX12_foretell 80 = .ok (.tableswitch 86 0 5 #[40, 58, 63, 68, 73, 78], 40) := by decide +kernel
theorem dX12_foretell_120 : decode cX12_foretell 120 = .ok (.aload_n 0, 1) := by decide +kernel
theorem dX12_foretell_121 : decode cX12_foretell 121 = .ok (.getfield 313, 3) := by decide +kernel
theorem dX12_foretell_124 : decode cX12_foretell 124 = .ok (.bipush (-9), 2) := by decide +kernel
theorem dX12_foretell_126 : decode cX12_foretell 126 = .ok (.if_icmp .ne 7, 3) := by decide +kernel
theorem dX12_foretell_129 : decode cX12_foretell 129 = .ok (.iconst 0, 1) := by decide +kernel
theorem dX12_foretell_130 : decode cX12_foretell 130 = .ok (.goto 7, 3) := by decide +kernel
theorem dX12_foretell_133 : decode cX12_foretell 133 = .ok (.aload_n 0, 1) := by decide +kernel
theorem dX12_foretell_134 : decode cX12_foretell 134 = .ok (.getfield 319, 3) := by decide +kernel
theorem dX12_foretell_137 : decode cX12_foretell 137 = .ok (.ireturn, 1) := by decide +kernel
theorem dX12_foretell_138 : decode cX12_foretell 138 = .ok (.aload_n 0, 1) := by decide +kernel
theorem dX12_foretell_139 : decode cX12_foretell 139 = .ok (.getfield 307, 3) := by decide +kernel
theorem dX12_foretell_142 : decode cX12_foretell 142 = .ok (.ireturn, 1) := by decide +kernel
theorem dX12_foretell_143 : decode cX12_foretell 143 = .ok (.aload_n 0, 1) := by decide +kernel
theorem dX12_foretell_144 : decode cX12_foretell 144 = .ok (.getfield 310, 3) := by decide +kernel
theorem dX12_foretell_147 : decode cX12_foretell 147 = .ok (.ireturn, 1) := by decide +kernel
theorem dX12_foretell_148 : decode cX12_foretell 148 = .ok (.aload_n 0, 1) := by decide +kernel
theorem dX12_foretell_149 : decode cX12_foretell 149 = .ok (.getfield 313, 3) := by decide +kernel
theorem dX12_foretell_152 : decode cX12_foretell 152 = .ok (.ireturn, 1) := by decide +kernel
theorem dX12_foretell_153 : decode cX12_foretell 153 = .ok (.aload_n 0, 1) := by decide +kernel
theorem dX12_foretell_154 : decode cX12_foretell 154 = .ok (.getfield 316, 3) := by decide +kernel
theorem dX12_foretell_157 : decode cX12_foretell 157 = .ok (.ireturn, 1) := by decide +kernel
theorem dX12_foretell_158 : decode cX12_foretell 158 = .ok (.aload_n 0, 1) := by decide +kernel
theorem dX12_foretell_159 : decode cX12_foretell 159 = .ok (.getfield 25, 3) := by decide +kernel
theorem dX12_foretell_162 : decode cX12_foretell 162 = .ok (.bipush 24, 2) := by decide +kernel
theorem dX12_foretell_164 : decode cX12_foretell 164 = .ok (.iaload, 1) := by decide +kernel
theorem dX12_foretell_165 : decode cX12_foretell 165 = .ok (.ireturn, 1) := by decide +kernel
theorem dX12_foretell_166 : decode cX12_foretell 166 = .ok (.iload_n 3, 1) := by decide +kernel
theorem dX12_foretell_167 : decode cX12_foretell 167 = .ok (.bipush 10, 2) := by decide +kernel
theorem dX12_foretell_169 : decode cX12_foretell 169 = .ok (.isub, 1) := by decide +kernel
theorem dX12_foretell_170 : decode cX12_foretell 170 = .ok (.aload_n 0, 1) := by decide +kernel
theorem dX12_foretell_171 : decode cX12_foretell 171 = .ok (.getfield 25, 3) := by decide +kernel
theorem dX12_foretell_174 : decode cX12_foretell 174 = .ok (.bipush 24, 2) := by decide +kernel
theorem dX12_foretell_176 : decode cX12_foretell 176 = .ok (.iaload, 1) := by decide +kernel
theorem dX12_foretell_177 : decode cX12_foretell 177 = .ok (.if_icmp .ge 19, 3) := by decide +kernel
theorem dX12_foretell_180 : decode cX12_foretell 180 = .ok (.aload_n 0, 1) := by decide +kernel
theorem dX12_foretell_181 : decode cX12_foretell 181 = .ok (.getfield 22, 3) := by decide +kernel
theorem dX12_foretell_184 : decode cX12_foretell 184 = .ok (.sipush 384, 3) := by decide +kernel
theorem dX12_foretell_187 : decode cX12_foretell 187 = .ok (.iload_n 3, 1) := by decide +kernel
theorem dX12_foretell_188 : decode cX12_foretell 188 = .ok (.iadd, 1) := by decide +kernel
theorem dX12_foretell_189 : decode cX12_foretell 189 = .ok (.bipush 10, 2) := by decide +kernel
theorem dX12_foretell_191 : decode cX12_foretell 191 = .ok (.isub, 1) := by decide +kernel
theorem dX12_foretell_192 : decode cX12_foretell 192 = .ok (.iaload, 1) := by decide +kernel
theorem dX12_foretell_193 : decode cX12_foretell 193 = .ok (.goto 5, 3) := by decide +kernel
theorem dX12_foretell_196 : decode cX12_foretell 196 = .ok (.bipush (-9), 2) := by decide +kernel
theorem dX12_foretell_198 : decode cX12_foretell 198 = .ok (.ireturn, 1) := by decide +kernel
theorem dX12_isSlot_0 : decode cX12_isSlot 0 = .ok (.iload_n 0, 1) := by decide +kernel
theorem dX12_isSlot_1 : decode cX12_isSlot 1 = .ok (.iconst 0, 1) := by decide +kernel
theorem dX12_isSlot_2 : decode cX12_isSlot 2 = .ok (.iconst 4, 1) := by decide +kernel
theorem dX12_isSlot_3 : decode cX12_isSlot 3 = .ok (.invokestatic 139, 3) := by decide +kernel
theorem dX12_isSlot_6 : decode cX12_isSlot 6 = .ok (.ireturn, 1) := by decide +kernel
theorem dX12_clears_0 : decode cX12_clears 0 = .ok (.aload_n 0, 1) := by decide +kernel
theorem dX12_clears_1 : decode cX12_clears 1 = .ok (.getfield 100, 3) := by decide +kernel
theorem dX12_clears_4 : decode cX12_clears 4 = .ok (.iload_n 1, 1) := by decide +kernel
theorem dX12_clears_5 : decode cX12_clears 5 = .ok (.iload_n 2, 1) := by decide +kernel
theorem dX12_clears_6 : decode cX12_clears 6 = .ok (.iastore, 1) := by decide +kernel
theorem dX12_clears_7 : decode cX12_clears 7 = .ok (.aload_n 0, 1) := by decide +kernel
theorem dX12_clears_8 : decode cX12_clears 8 = .ok (.getfield 103, 3) := by decide +kernel
theorem dX12_clears_11 : decode cX12_clears 11 = .ok (.iload_n 1, 1) := by decide +kernel
theorem dX12_clears_12 : decode cX12_clears 12 = .ok (.iload_n 3, 1) := by decide +kernel
theorem dX12_clears_13 : decode cX12_clears 13 = .ok (.iastore, 1) := by decide +kernel
theorem dX12_clears_14 : decode cX12_clears 14 = .ok (.iconst 0, 1) := by decide +kernel
theorem dX12_clears_15 : decode cX12_clears 15 = .ok (.istore 4, 2) := by decide +kernel
theorem dX12_clears_17 : decode cX12_clears 17 = .ok (.iload 4, 2) := by decide +kernel
theorem dX12_clears_19 : decode cX12_clears 19 = .ok (.bipush 24, 2) := by decide +kernel
theorem dX12_clears_21 : decode cX12_clears 21 = .ok (.if_icmp .ge 22, 3) := by decide +kernel
theorem dX12_clears_24 : decode cX12_clears 24 = .ok (.aload_n 0, 1) := by decide +kernel
theorem dX12_clears_25 : decode cX12_clears 25 = .ok (.getfield 106, 3) := by decide +kernel
theorem dX12_clears_28 : decode cX12_clears 28 = .ok (.bipush 24, 2) := by decide +kernel
theorem dX12_clears_30 : decode cX12_clears 30 = .ok (.iload_n 1, 1) := by decide +kernel
theorem dX12_clears_31 : decode cX12_clears 31 = .ok (.imul, 1) := by decide +kernel
theorem dX12_clears_32 : decode cX12_clears 32 = .ok (.iload 4, 2) := by decide +kernel
theorem dX12_clears_34 : decode cX12_clears 34 = .ok (.iadd, 1) := by decide +kernel
theorem dX12_clears_35 : decode cX12_clears 35 = .ok (.iconst 0, 1) := by decide +kernel
theorem dX12_clears_36 : decode cX12_clears 36 = .ok (.iastore, 1) := by decide +kernel
theorem dX12_clears_37 : decode cX12_clears 37 = .ok (.iinc 4 1, 3) := by decide +kernel
theorem dX12_clears_40 : decode cX12_clears 40 = .ok (.goto (-23), 3) := by decide +kernel
theorem dX12_clears_43 : decode cX12_clears 43 = .ok (.return_, 1) := by decide +kernel
theorem dX12_blank_0 : decode cX12_blank 0 = .ok (.iload_n 1, 1) := by decide +kernel
theorem dX12_blank_1 : decode cX12_blank 1 = .ok (.invokestatic 186, 3) := by decide +kernel
theorem dX12_blank_4 : decode cX12_blank 4 = .ok (.ifCond .ne 9, 3) := by decide +kernel
theorem dX12_blank_7 : decode cX12_blank 7 = .ok (.aload_n 0, 1) := by decide +kernel
theorem dX12_blank_8 : decode cX12_blank 8 = .ok (.iconst (-1), 1) := by decide +kernel
theorem dX12_blank_9 : decode cX12_blank 9 = .ok (.invokevirtual 325, 3) := by decide +kernel
theorem dX12_blank_12 : decode cX12_blank 12 = .ok (.ireturn, 1) := by decide +kernel
theorem dX12_blank_13 : decode cX12_blank 13 = .ok (.iload_n 2, 1) := by decide +kernel
theorem dX12_blank_14 : decode cX12_blank 14 = .ok (.iconst 0, 1) := by decide +kernel
theorem dX12_blank_15 : decode cX12_blank 15 = .ok (.iconst 1, 1) := by decide +kernel
theorem dX12_blank_16 : decode cX12_blank 16 = .ok (.invokestatic 139, 3) := by decide +kernel
theorem dX12_blank_19 : decode cX12_blank 19 = .ok (.ifCond .eq 9, 3) := by decide +kernel
theorem dX12_blank_22 : decode cX12_blank 22 = .ok (.iload_n 3, 1) := by decide +kernel
theorem dX12_blank_23 : decode cX12_blank 23 = .ok (.bipush 24, 2) := by decide +kernel
theorem dX12_blank_25 : decode cX12_blank 25 = .ok (.if_icmp .le 10, 3) := by decide +kernel
theorem dX12_blank_28 : decode cX12_blank 28 = .ok (.aload_n 0, 1) := by decide +kernel
theorem dX12_blank_29 : decode cX12_blank 29 = .ok (.bipush (-2), 2) := by decide +kernel
theorem dX12_blank_31 : decode cX12_blank 31 = .ok (.invokevirtual 325, 3) := by decide +kernel
theorem dX12_blank_34 : decode cX12_blank 34 = .ok (.ireturn, 1) := by decide +kernel
theorem dX12_blank_35 : decode cX12_blank 35 = .ok (.iload_n 3, 1) := by decide +kernel
theorem dX12_blank_36 : decode cX12_blank 36 = .ok (.ifCond .ge 9, 3) := by decide +kernel
theorem dX12_blank_39 : decode cX12_blank 39 = .ok (.aload_n 0, 1) := by decide +kernel
theorem dX12_blank_40 : decode cX12_blank 40 = .ok (.iconst 4, 1) := by decide +kernel
theorem dX12_blank_41 : decode cX12_blank 41 = .ok (.invokevirtual 192, 3) := by decide +kernel
theorem dX12_blank_44 : decode cX12_blank 44 = .ok (.ireturn, 1) := by decide +kernel
theorem dX12_blank_45 : decode cX12_blank 45 = .ok (.aload_n 0, 1) := by decide +kernel
theorem dX12_blank_46 : decode cX12_blank 46 = .ok (.iload_n 1, 1) := by decide +kernel
theorem dX12_blank_47 : decode cX12_blank 47 = .ok (.iload_n 2, 1) := by decide +kernel
theorem dX12_blank_48 : decode cX12_blank 48 = .ok (.iload_n 3, 1) := by decide +kernel
theorem dX12_blank_49 : decode cX12_blank 49 = .ok (.invokevirtual 328, 3) := by decide +kernel
theorem dX12_blank_52 : decode cX12_blank 52 = .ok (.aload_n 0, 1) := by decide +kernel
theorem dX12_blank_53 : decode cX12_blank 53 = .ok (.iconst 1, 1) := by decide +kernel
theorem dX12_blank_54 : decode cX12_blank 54 = .ok (.invokevirtual 325, 3) := by decide +kernel
theorem dX12_blank_57 : decode cX12_blank 57 = .ok (.ireturn, 1) := by decide +kernel
theorem dX12_show_0 : decode cX12_show 0 = .ok (.iload_n 1, 1) := by decide +kernel
theorem dX12_show_1 : decode cX12_show 1 = .ok (.invokestatic 186, 3) := by decide +kernel
theorem dX12_show_4 : decode cX12_show 4 = .ok (.ifCond .eq 11, 3) := by decide +kernel
theorem dX12_show_7 : decode cX12_show 7 = .ok (.aload_n 0, 1) := by decide +kernel
theorem dX12_show_8 : decode cX12_show 8 = .ok (.iload_n 2, 1) := by decide +kernel
theorem dX12_show_9 : decode cX12_show 9 = .ok (.invokevirtual 171, 3) := by decide +kernel
theorem dX12_show_12 : decode cX12_show 12 = .ok (.ifCond .ne 5, 3) := by decide +kernel
theorem dX12_show_15 : decode cX12_show 15 = .ok (.iconst (-1), 1) := by decide +kernel
theorem dX12_show_16 : decode cX12_show 16 = .ok (.ireturn, 1) := by decide +kernel
theorem dX12_show_17 : decode cX12_show 17 = .ok (.aload_n 0, 1) := by decide +kernel
theorem dX12_show_18 : decode cX12_show 18 = .ok (.iload_n 1, 1) := by decide +kernel
theorem dX12_show_19 : decode cX12_show 19 = .ok (.iconst 0, 1) := by decide +kernel
theorem dX12_show_20 : decode cX12_show 20 = .ok (.aload_n 0, 1) := by decide +kernel
theorem dX12_show_21 : decode cX12_show 21 = .ok (.getfield 25, 3) := by decide +kernel
theorem dX12_show_24 : decode cX12_show 24 = .ok (.iload_n 2, 1) := by decide +kernel
theorem dX12_show_25 : decode cX12_show 25 = .ok (.iaload, 1) := by decide +kernel
theorem dX12_show_26 : decode cX12_show 26 = .ok (.invokevirtual 328, 3) := by decide +kernel
theorem dX12_show_29 : decode cX12_show 29 = .ok (.iconst 0, 1) := by decide +kernel
theorem dX12_show_30 : decode cX12_show 30 = .ok (.istore_n 3, 1) := by decide +kernel
theorem dX12_show_31 : decode cX12_show 31 = .ok (.iload_n 3, 1) := by decide +kernel
theorem dX12_show_32 : decode cX12_show 32 = .ok (.aload_n 0, 1) := by decide +kernel
theorem dX12_show_33 : decode cX12_show 33 = .ok (.getfield 25, 3) := by decide +kernel
theorem dX12_show_36 : decode cX12_show 36 = .ok (.iload_n 2, 1) := by decide +kernel
theorem dX12_show_37 : decode cX12_show 37 = .ok (.iaload, 1) := by decide +kernel
theorem dX12_show_38 : decode cX12_show 38 = .ok (.if_icmp .ge 31, 3) := by decide +kernel
theorem dX12_show_41 : decode cX12_show 41 = .ok (.aload_n 0, 1) := by decide +kernel
theorem dX12_show_42 : decode cX12_show 42 = .ok (.getfield 106, 3) := by decide +kernel
theorem dX12_show_45 : decode cX12_show 45 = .ok (.bipush 24, 2) := by decide +kernel
theorem dX12_show_47 : decode cX12_show 47 = .ok (.iload_n 1, 1) := by decide +kernel
theorem dX12_show_48 : decode cX12_show 48 = .ok (.imul, 1) := by decide +kernel
theorem dX12_show_49 : decode cX12_show 49 = .ok (.iload_n 3, 1) := by decide +kernel
theorem dX12_show_50 : decode cX12_show 50 = .ok (.iadd, 1) := by decide +kernel
theorem dX12_show_51 : decode cX12_show 51 = .ok (.aload_n 0, 1) := by decide +kernel
theorem dX12_show_52 : decode cX12_show 52 = .ok (.getfield 22, 3) := by decide +kernel
theorem dX12_show_55 : decode cX12_show 55 = .ok (.bipush 16, 2) := by decide +kernel
theorem dX12_show_57 : decode cX12_show 57 = .ok (.iload_n 2, 1) := by decide +kernel
theorem dX12_show_58 : decode cX12_show 58 = .ok (.imul, 1) := by decide +kernel
theorem dX12_show_59 : decode cX12_show 59 = .ok (.iload_n 3, 1) := by decide +kernel
theorem dX12_show_60 : decode cX12_show 60 = .ok (.iadd, 1) := by decide +kernel
theorem dX12_show_61 : decode cX12_show 61 = .ok (.iaload, 1) := by decide +kernel
theorem dX12_show_62 : decode cX12_show 62 = .ok (.iastore, 1) := by decide +kernel
theorem dX12_show_63 : decode cX12_show 63 = .ok (.iinc 3 1, 3) := by decide +kernel
theorem dX12_show_66 : decode cX12_show 66 = .ok (.goto (-35), 3) := by decide +kernel
theorem dX12_show_69 : decode cX12_show 69 = .ok (.aload_n 0, 1) := by decide +kernel
theorem dX12_show_70 : decode cX12_show 70 = .ok (.getfield 25, 3) := by decide +kernel
theorem dX12_show_73 : decode cX12_show 73 = .ok (.iload_n 2, 1) := by decide +kernel
theorem dX12_show_74 : decode cX12_show 74 = .ok (.iaload, 1) := by decide +kernel
theorem dX12_show_75 : decode cX12_show 75 = .ok (.ireturn, 1) := by decide +kernel
theorem dX12_trail_0 : decode cX12_trail 0 = .ok (.iload_n 1, 1) := by decide +kernel
theorem dX12_trail_1 : decode cX12_trail 1 = .ok (.invokestatic 186, 3) := by decide +kernel
theorem dX12_trail_4 : decode cX12_trail 4 = .ok (.ifCond .eq 11, 3) := by decide +kernel
theorem dX12_trail_7 : decode cX12_trail 7 = .ok (.aload_n 0, 1) := by decide +kernel
theorem dX12_trail_8 : decode cX12_trail 8 = .ok (.iload_n 2, 1) := by decide +kernel
theorem dX12_trail_9 : decode cX12_trail 9 = .ok (.invokevirtual 171, 3) := by decide +kernel
theorem dX12_trail_12 : decode cX12_trail 12 = .ok (.ifCond .ne 5, 3) := by decide +kernel
theorem dX12_trail_15 : decode cX12_trail 15 = .ok (.iconst (-1), 1) := by decide +kernel
theorem dX12_trail_16 : decode cX12_trail 16 = .ok (.ireturn, 1) := by decide +kernel
theorem dX12_trail_17 : decode cX12_trail 17 = .ok (.aload_n 0, 1) := by decide +kernel
theorem dX12_trail_18 : decode cX12_trail 18 = .ok (.iload_n 1, 1) := by decide +kernel
theorem dX12_trail_19 : decode cX12_trail 19 = .ok (.iconst 1, 1) := by decide +kernel
theorem dX12_trail_20 : decode cX12_trail 20 = .ok (.aload_n 0, 1) := by decide +kernel
theorem dX12_trail_21 : decode cX12_trail 21 = .ok (.iload_n 2, 1) := by decide +kernel
theorem dX12_trail_22 : decode cX12_trail 22 = .ok (.invokevirtual 198, 3) := by decide +kernel
theorem dX12_trail_25 : decode cX12_trail 25 = .ok (.invokevirtual 328, 3) := by decide +kernel
theorem dX12_trail_28 : decode cX12_trail 28 = .ok (.iconst 0, 1) := by decide +kernel
theorem dX12_trail_29 : decode cX12_trail 29 = .ok (.istore_n 3, 1) := by decide +kernel
theorem dX12_trail_30 : decode cX12_trail 30 = .ok (.iconst 0, 1) := by decide +kernel
theorem dX12_trail_31 : decode cX12_trail 31 = .ok (.istore 4, 2) := by decide +kernel
theorem dX12_trail_33 : decode cX12_trail 33 = .ok (.iload 4, 2) := by decide +kernel
theorem dX12_trail_35 : decode cX12_trail 35 = .ok (.iload_n 2, 1) := by decide +kernel
theorem dX12_trail_36 : decode cX12_trail 36 = .ok (.if_icmp .gt 35, 3) := by decide +kernel
theorem dX12_trail_39 : decode cX12_trail 39 = .ok (.aload_n 0, 1) := by decide +kernel
theorem dX12_trail_40 : decode cX12_trail 40 = .ok (.iload 4, 2) := by decide +kernel
theorem dX12_trail_42 : decode cX12_trail 42 = .ok (.iload_n 2, 1) := by decide +kernel
theorem dX12_trail_43 : decode cX12_trail 43 = .ok (.invokevirtual 201, 3) := by decide +kernel
theorem dX12_trail_46 : decode cX12_trail 46 = .ok (.ifCond .eq 19, 3) := by decide +kernel
theorem dX12_trail_49 : decode cX12_trail 49 = .ok (.aload_n 0, 1) := by decide +kernel
theorem dX12_trail_50 : decode cX12_trail 50 = .ok (.getfield 106, 3) := by decide +kernel
theorem dX12_trail_53 : decode cX12_trail 53 = .ok (.bipush 24, 2) := by decide +kernel
theorem dX12_trail_55 : decode cX12_trail 55 = .ok (.iload_n 1, 1) := by decide +kernel
theorem dX12_trail_56 : decode cX12_trail 56 = .ok (.imul, 1) := by decide +kernel
theorem dX12_trail_57 : decode cX12_trail 57 = .ok (.iload_n 3, 1) := by decide +kernel
theorem dX12_trail_58 : decode cX12_trail 58 = .ok (.iadd, 1) := by decide +kernel
theorem dX12_trail_59 : decode cX12_trail 59 = .ok (.iload 4, 2) := by decide +kernel
theorem dX12_trail_61 : decode cX12_trail 61 = .ok (.iastore, 1) := by decide +kernel
theorem dX12_trail_62 : decode cX12_trail 62 = .ok (.iinc 3 1, 3) := by decide +kernel
theorem dX12_trail_65 : decode cX12_trail 65 = .ok (.iinc 4 1, 3) := by decide +kernel
theorem dX12_trail_68 : decode cX12_trail 68 = .ok (.goto (-35), 3) := by decide +kernel
theorem dX12_trail_71 : decode cX12_trail 71 = .ok (.iload_n 3, 1) := by decide +kernel
theorem dX12_trail_72 : decode cX12_trail 72 = .ok (.ireturn, 1) := by decide +kernel
theorem dX12_hold_0 : decode cX12_hold 0 = .ok (.iload_n 1, 1) := by decide +kernel
theorem dX12_hold_1 : decode cX12_hold 1 = .ok (.invokestatic 186, 3) := by decide +kernel
theorem dX12_hold_4 : decode cX12_hold 4 = .ok (.ifCond .eq 11, 3) := by decide +kernel
theorem dX12_hold_7 : decode cX12_hold 7 = .ok (.aload_n 0, 1) := by decide +kernel
theorem dX12_hold_8 : decode cX12_hold 8 = .ok (.iload_n 2, 1) := by decide +kernel
theorem dX12_hold_9 : decode cX12_hold 9 = .ok (.invokevirtual 171, 3) := by decide +kernel
theorem dX12_hold_12 : decode cX12_hold 12 = .ok (.ifCond .ne 5, 3) := by decide +kernel
theorem dX12_hold_15 : decode cX12_hold 15 = .ok (.iconst (-1), 1) := by decide +kernel
theorem dX12_hold_16 : decode cX12_hold 16 = .ok (.ireturn, 1) := by decide +kernel
theorem dX12_hold_17 : decode cX12_hold 17 = .ok (.aload_n 0, 1) := by decide +kernel
theorem dX12_hold_18 : decode cX12_hold 18 = .ok (.iload_n 1, 1) := by decide +kernel
theorem dX12_hold_19 : decode cX12_hold 19 = .ok (.iconst 2, 1) := by decide +kernel
theorem dX12_hold_20 : decode cX12_hold 20 = .ok (.iconst 0, 1) := by decide +kernel
theorem dX12_hold_21 : decode cX12_hold 21 = .ok (.invokevirtual 328, 3) := by decide +kernel
theorem dX12_hold_24 : decode cX12_hold 24 = .ok (.aload_n 0, 1) := by decide +kernel
theorem dX12_hold_25 : decode cX12_hold 25 = .ok (.getfield 109, 3) := by decide +kernel
theorem dX12_hold_28 : decode cX12_hold 28 = .ok (.iload_n 1, 1) := by decide +kernel
theorem dX12_hold_29 : decode cX12_hold 29 = .ok (.iload_n 2, 1) := by decide +kernel
theorem dX12_hold_30 : decode cX12_hold 30 = .ok (.iastore, 1) := by decide +kernel
theorem dX12_hold_31 : decode cX12_hold 31 = .ok (.aload_n 0, 1) := by decide +kernel
theorem dX12_hold_32 : decode cX12_hold 32 = .ok (.getfield 112, 3) := by decide +kernel
theorem dX12_hold_35 : decode cX12_hold 35 = .ok (.iload_n 1, 1) := by decide +kernel
theorem dX12_hold_36 : decode cX12_hold 36 = .ok (.aload_n 0, 1) := by decide +kernel
theorem dX12_hold_37 : decode cX12_hold 37 = .ok (.getfield 7, 3) := by decide +kernel
theorem dX12_hold_40 : decode cX12_hold 40 = .ok (.iload_n 2, 1) := by decide +kernel
theorem dX12_hold_41 : decode cX12_hold 41 = .ok (.iaload, 1) := by decide +kernel
theorem dX12_hold_42 : decode cX12_hold 42 = .ok (.iastore, 1) := by decide +kernel
theorem dX12_hold_43 : decode cX12_hold 43 = .ok (.aload_n 0, 1) := by decide +kernel
theorem dX12_hold_44 : decode cX12_hold 44 = .ok (.getfield 115, 3) := by decide +kernel
theorem dX12_hold_47 : decode cX12_hold 47 = .ok (.iload_n 1, 1) := by decide +kernel
theorem dX12_hold_48 : decode cX12_hold 48 = .ok (.aload_n 0, 1) := by decide +kernel
theorem dX12_hold_49 : decode cX12_hold 49 = .ok (.getfield 19, 3) := by decide +kernel
theorem dX12_hold_52 : decode cX12_hold 52 = .ok (.iload_n 2, 1) := by decide +kernel
theorem dX12_hold_53 : decode cX12_hold 53 = .ok (.iaload, 1) := by decide +kernel
theorem dX12_hold_54 : decode cX12_hold 54 = .ok (.iastore, 1) := by decide +kernel
theorem dX12_hold_55 : decode cX12_hold 55 = .ok (.iconst 1, 1) := by decide +kernel
theorem dX12_hold_56 : decode cX12_hold 56 = .ok (.ireturn, 1) := by decide +kernel
theorem dX12_held_0 : decode cX12_held 0 = .ok (.iload_n 1, 1) := by decide +kernel
theorem dX12_held_1 : decode cX12_held 1 = .ok (.invokestatic 186, 3) := by decide +kernel
theorem dX12_held_4 : decode cX12_held 4 = .ok (.ifCond .ne 9, 3) := by decide +kernel
theorem dX12_held_7 : decode cX12_held 7 = .ok (.aload_n 0, 1) := by decide +kernel
theorem dX12_held_8 : decode cX12_held 8 = .ok (.iconst (-1), 1) := by decide +kernel
theorem dX12_held_9 : decode cX12_held 9 = .ok (.invokevirtual 325, 3) := by decide +kernel
theorem dX12_held_12 : decode cX12_held 12 = .ok (.ireturn, 1) := by decide +kernel
theorem dX12_held_13 : decode cX12_held 13 = .ok (.aload_n 0, 1) := by decide +kernel
theorem dX12_held_14 : decode cX12_held 14 = .ok (.getfield 100, 3) := by decide +kernel
theorem dX12_held_17 : decode cX12_held 17 = .ok (.iload_n 1, 1) := by decide +kernel
theorem dX12_held_18 : decode cX12_held 18 = .ok (.iaload, 1) := by decide +kernel
theorem dX12_held_19 : decode cX12_held 19 = .ok (.ifCond .eq 13, 3) := by decide +kernel
theorem dX12_held_22 : decode cX12_held 22 = .ok (.aload_n 0, 1) := by decide +kernel
theorem dX12_held_23 : decode cX12_held 23 = .ok (.getfield 100, 3) := by decide +kernel
theorem dX12_held_26 : decode cX12_held 26 = .ok (.iload_n 1, 1) := by decide +kernel
theorem dX12_held_27 : decode cX12_held 27 = .ok (.iaload, 1) := by decide +kernel
theorem dX12_held_28 : decode cX12_held 28 = .ok (.iconst 1, 1) := by decide +kernel
theorem dX12_held_29 : decode cX12_held 29 = .ok (.if_icmp .ne 9, 3) := by decide +kernel
theorem dX12_held_32 : decode cX12_held 32 = .ok (.aload_n 0, 1) := by decide +kernel
theorem dX12_held_33 : decode cX12_held 33 = .ok (.iconst 2, 1) := by decide +kernel
theorem dX12_held_34 : decode cX12_held 34 = .ok (.invokevirtual 192, 3) := by decide +kernel
theorem dX12_held_37 : decode cX12_held 37 = .ok (.ireturn, 1) := by decide +kernel
theorem dX12_held_38 : decode cX12_held 38 = .ok (.aload_n 0, 1) := by decide +kernel
theorem dX12_held_39 : decode cX12_held 39 = .ok (.getfield 100, 3) := by decide +kernel
theorem dX12_held_42 : decode cX12_held 42 = .ok (.iload_n 1, 1) := by decide +kernel
theorem dX12_held_43 : decode cX12_held 43 = .ok (.iaload, 1) := by decide +kernel
theorem dX12_held_44 : decode cX12_held 44 = .ok (.bipush (-9), 2) := by decide +kernel
theorem dX12_held_46 : decode cX12_held 46 = .ok (.if_icmp .ne 9, 3) := by decide +kernel
theorem dX12_held_49 : decode cX12_held 49 = .ok (.aload_n 0, 1) := by decide +kernel
theorem dX12_held_50 : decode cX12_held 50 = .ok (.iconst 1, 1) := by decide +kernel
theorem dX12_held_51 : decode cX12_held 51 = .ok (.invokevirtual 192, 3) := by decide +kernel
theorem dX12_held_54 : decode cX12_held 54 = .ok (.ireturn, 1) := by decide +kernel
theorem dX12_held_55 : decode cX12_held 55 = .ok (.aload_n 0, 1) := by decide +kernel
theorem dX12_held_56 : decode cX12_held 56 = .ok (.iconst 0, 1) := by decide +kernel
theorem dX12_held_57 : decode cX12_held 57 = .ok (.putfield 122, 3) := by decide +kernel
theorem dX12_held_60 : decode cX12_held 60 = .ok (.aload_n 0, 1) := by decide +kernel
theorem dX12_held_61 : decode cX12_held 61 = .ok (.getfield 109, 3) := by decide +kernel
theorem dX12_held_64 : decode cX12_held 64 = .ok (.iload_n 1, 1) := by decide +kernel
theorem dX12_held_65 : decode cX12_held 65 = .ok (.iaload, 1) := by decide +kernel
theorem dX12_held_66 : decode cX12_held 66 = .ok (.istore_n 2, 1) := by decide +kernel
theorem dX12_held_67 : decode cX12_held 67 = .ok (.iload_n 2, 1) := by decide +kernel
theorem dX12_held_68 : decode cX12_held 68 = .ok (.aload_n 0, 1) := by decide +kernel
theorem dX12_held_69 : decode cX12_held 69 = .ok (.getfield 129, 3) := by decide +kernel
theorem dX12_held_72 : decode cX12_held 72 = .ok (.if_icmp .ge 22, 3) := by decide +kernel
theorem dX12_held_75 : decode cX12_held 75 = .ok (.aload_n 0, 1) := by decide +kernel
theorem dX12_held_76 : decode cX12_held 76 = .ok (.getfield 19, 3) := by decide +kernel
theorem dX12_held_79 : decode cX12_held 79 = .ok (.iload_n 2, 1) := by decide +kernel
theorem dX12_held_80 : decode cX12_held 80 = .ok (.iaload, 1) := by decide +kernel
theorem dX12_held_81 : decode cX12_held 81 = .ok (.aload_n 0, 1) := by decide +kernel
theorem dX12_held_82 : decode cX12_held 82 = .ok (.getfield 115, 3) := by decide +kernel
theorem dX12_held_85 : decode cX12_held 85 = .ok (.iload_n 1, 1) := by decide +kernel
theorem dX12_held_86 : decode cX12_held 86 = .ok (.iaload, 1) := by decide +kernel
theorem dX12_held_87 : decode cX12_held 87 = .ok (.if_icmp .ne 7, 3) := by decide +kernel
theorem dX12_held_90 : decode cX12_held 90 = .ok (.iload_n 2, 1) := by decide +kernel
theorem dX12_held_91 : decode cX12_held 91 = .ok (.goto 5, 3) := by decide +kernel
theorem dX12_held_94 : decode cX12_held 94 = .ok (.bipush (-9), 2) := by decide +kernel
theorem dX12_held_96 : decode cX12_held 96 = .ok (.ireturn, 1) := by decide +kernel
theorem dX12_as_0 : decode cX12_as 0 = .ok (.iload_n 1, 1) := by decide +kernel
theorem dX12_as_1 : decode cX12_as 1 = .ok (.invokestatic 186, 3) := by decide +kernel
theorem dX12_as_4 : decode cX12_as 4 = .ok (.ifCond .ne 9, 3) := by decide +kernel
theorem dX12_as_7 : decode cX12_as 7 = .ok (.aload_n 0, 1) := by decide +kernel
theorem dX12_as_8 : decode cX12_as 8 = .ok (.iconst (-1), 1) := by decide +kernel
theorem dX12_as_9 : decode cX12_as 9 = .ok (.invokevirtual 325, 3) := by decide +kernel
theorem dX12_as_12 : decode cX12_as 12 = .ok (.ireturn, 1) := by decide +kernel
theorem dX12_as_13 : decode cX12_as 13 = .ok (.iload_n 2, 1) := by decide +kernel
theorem dX12_as_14 : decode cX12_as 14 = .ok (.iconst 0, 1) := by decide +kernel
theorem dX12_as_15 : decode cX12_as 15 = .ok (.iconst 4, 1) := by decide +kernel
theorem dX12_as_16 : decode cX12_as 16 = .ok (.invokestatic 139, 3) := by decide +kernel
theorem dX12_as_19 : decode cX12_as 19 = .ok (.ifCond .ne 10, 3) := by decide +kernel
theorem dX12_as_22 : decode cX12_as 22 = .ok (.aload_n 0, 1) := by decide +kernel
theorem dX12_as_23 : decode cX12_as 23 = .ok (.bipush (-2), 2) := by decide +kernel
theorem dX12_as_25 : decode cX12_as 25 = .ok (.invokevirtual 325, 3) := by decide +kernel
theorem dX12_as_28 : decode cX12_as 28 = .ok (.ireturn, 1) := by decide +kernel
theorem dX12_as_29 : decode cX12_as 29 = .ok (.aload_n 0, 1) := by decide +kernel
theorem dX12_as_30 : decode cX12_as 30 = .ok (.getfield 100, 3) := by decide +kernel
theorem dX12_as_33 : decode cX12_as 33 = .ok (.iload_n 1, 1) := by decide +kernel
theorem dX12_as_34 : decode cX12_as 34 = .ok (.iaload, 1) := by decide +kernel
theorem dX12_as_35 : decode cX12_as 35 = .ok (.bipush (-9), 2) := by decide +kernel
theorem dX12_as_37 : decode cX12_as 37 = .ok (.if_icmp .ne 9, 3) := by decide +kernel
theorem dX12_as_40 : decode cX12_as 40 = .ok (.aload_n 0, 1) := by decide +kernel
theorem dX12_as_41 : decode cX12_as 41 = .ok (.iconst 1, 1) := by decide +kernel
theorem dX12_as_42 : decode cX12_as 42 = .ok (.invokevirtual 192, 3) := by decide +kernel
theorem dX12_as_45 : decode cX12_as 45 = .ok (.ireturn, 1) := by decide +kernel
theorem dX12_as_46 : decode cX12_as 46 = .ok (.iload_n 2, 1) := by decide +kernel
theorem dX12_as_47 : decode cX12_as 47 = .ok (.iconst 2, 1) := by decide +kernel
theorem dX12_as_48 : decode cX12_as 48 = .ok (.if_icmp .ge 21, 3) := by decide +kernel
theorem dX12_as_51 : decode cX12_as 51 = .ok (.aload_n 0, 1) := by decide +kernel
theorem dX12_as_52 : decode cX12_as 52 = .ok (.getfield 100, 3) := by decide +kernel
theorem dX12_as_55 : decode cX12_as 55 = .ok (.iload_n 1, 1) := by decide +kernel
theorem dX12_as_56 : decode cX12_as 56 = .ok (.iaload, 1) := by decide +kernel
theorem dX12_as_57 : decode cX12_as 57 = .ok (.iload_n 2, 1) := by decide +kernel
theorem dX12_as_58 : decode cX12_as 58 = .ok (.if_icmp .ne 7, 3) := by decide +kernel
theorem dX12_as_61 : decode cX12_as 61 = .ok (.iconst 1, 1) := by decide +kernel
theorem dX12_as_62 : decode cX12_as 62 = .ok (.goto 34, 3) := by decide +kernel
theorem dX12_as_65 : decode cX12_as 65 = .ok (.iconst 0, 1) := by decide +kernel
theorem dX12_as_66 : decode cX12_as 66 = .ok (.goto 30, 3) := by decide +kernel
theorem dX12_as_69 : decode cX12_as 69 = .ok (.aload_n 0, 1) := by decide +kernel
theorem dX12_as_70 : decode cX12_as 70 = .ok (.getfield 100, 3) := by decide +kernel
theorem dX12_as_73 : decode cX12_as 73 = .ok (.iload_n 1, 1) := by decide +kernel
theorem dX12_as_74 : decode cX12_as 74 = .ok (.iaload, 1) := by decide +kernel
theorem dX12_as_75 : decode cX12_as 75 = .ok (.iconst 2, 1) := by decide +kernel
theorem dX12_as_76 : decode cX12_as 76 = .ok (.if_icmp .ne 19, 3) := by decide +kernel
theorem dX12_as_79 : decode cX12_as 79 = .ok (.aload_n 0, 1) := by decide +kernel
theorem dX12_as_80 : decode cX12_as 80 = .ok (.getfield 112, 3) := by decide +kernel
theorem dX12_as_83 : decode cX12_as 83 = .ok (.iload_n 1, 1) := by decide +kernel
theorem dX12_as_84 : decode cX12_as 84 = .ok (.iaload, 1) := by decide +kernel
theorem dX12_as_85 : decode cX12_as 85 = .ok (.iload_n 2, 1) := by decide +kernel
theorem dX12_as_86 : decode cX12_as 86 = .ok (.iconst 2, 1) := by decide +kernel
theorem dX12_as_87 : decode cX12_as 87 = .ok (.isub, 1) := by decide +kernel
theorem dX12_as_88 : decode cX12_as 88 = .ok (.if_icmp .lt 7, 3) := by decide +kernel
theorem dX12_as_91 : decode cX12_as 91 = .ok (.iconst 1, 1) := by decide +kernel
theorem dX12_as_92 : decode cX12_as 92 = .ok (.goto 4, 3) := by decide +kernel
theorem dX12_as_95 : decode cX12_as 95 = .ok (.iconst 0, 1) := by decide +kernel
theorem dX12_as_96 : decode cX12_as 96 = .ok (.istore_n 3, 1) := by decide +kernel
theorem dX12_as_97 : decode cX12_as 97 = .ok (.iload_n 3, 1) := by decide +kernel
theorem dX12_as_98 : decode cX12_as 98 = .ok (.ifCond .eq 11, 3) := by decide +kernel
theorem dX12_as_101 : decode cX12_as 101 = .ok (.aload_n 0, 1) := by decide +kernel
theorem dX12_as_102 : decode cX12_as 102 = .ok (.iconst 1, 1) := by decide +kernel
theorem dX12_as_103 : decode cX12_as 103 = .ok (.invokevirtual 325, 3) := by decide +kernel
theorem dX12_as_106 : decode cX12_as 106 = .ok (.goto 8, 3) := by decide +kernel
theorem dX12_as_109 : decode cX12_as 109 = .ok (.aload_n 0, 1) := by decide +kernel
theorem dX12_as_110 : decode cX12_as 110 = .ok (.iconst 2, 1) := by decide +kernel
theorem dX12_as_111 : decode cX12_as 111 = .ok (.invokevirtual 192, 3) := by decide +kernel
theorem dX12_as_114 : decode cX12_as 114 = .ok (.ireturn, 1) := by decide +kernel
theorem dX12_lose_0 : decode cX12_lose 0 = .ok (.iload_n 1, 1) := by decide +kernel
theorem dX12_lose_1 : decode cX12_lose 1 = .ok (.invokestatic 186, 3) := by decide +kernel
theorem dX12_lose_4 : decode cX12_lose 4 = .ok (.ifCond .ne 5, 3) := by decide +kernel
theorem dX12_lose_7 : decode cX12_lose 7 = .ok (.iconst (-1), 1) := by decide +kernel
theorem dX12_lose_8 : decode cX12_lose 8 = .ok (.ireturn, 1) := by decide +kernel
theorem dX12_lose_9 : decode cX12_lose 9 = .ok (.aload_n 0, 1) := by decide +kernel
theorem dX12_lose_10 : decode cX12_lose 10 = .ok (.getfield 100, 3) := by decide +kernel
theorem dX12_lose_13 : decode cX12_lose 13 = .ok (.iload_n 1, 1) := by decide +kernel
theorem dX12_lose_14 : decode cX12_lose 14 = .ok (.iaload, 1) := by decide +kernel
theorem dX12_lose_15 : decode cX12_lose 15 = .ok (.bipush (-9), 2) := by decide +kernel
theorem dX12_lose_17 : decode cX12_lose 17 = .ok (.if_icmp .ne 7, 3) := by decide +kernel
theorem dX12_lose_20 : decode cX12_lose 20 = .ok (.iconst 0, 1) := by decide +kernel
theorem dX12_lose_21 : decode cX12_lose 21 = .ok (.goto 4, 3) := by decide +kernel
theorem dX12_lose_24 : decode cX12_lose 24 = .ok (.iconst 1, 1) := by decide +kernel
theorem dX12_lose_25 : decode cX12_lose 25 = .ok (.istore_n 2, 1) := by decide +kernel
theorem dX12_lose_26 : decode cX12_lose 26 = .ok (.aload_n 0, 1) := by decide +kernel
theorem dX12_lose_27 : decode cX12_lose 27 = .ok (.getfield 100, 3) := by decide +kernel
theorem dX12_lose_30 : decode cX12_lose 30 = .ok (.iload_n 1, 1) := by decide +kernel
theorem dX12_lose_31 : decode cX12_lose 31 = .ok (.bipush (-9), 2) := by decide +kernel
theorem dX12_lose_33 : decode cX12_lose 33 = .ok (.iastore, 1) := by decide +kernel
theorem dX12_lose_34 : decode cX12_lose 34 = .ok (.iload_n 2, 1) := by decide +kernel
theorem dX12_lose_35 : decode cX12_lose 35 = .ok (.ireturn, 1) := by decide +kernel
theorem dX12_againstNumber_0 : decode cX12_againstNumber 0 = .ok (.aload_n 0, 1) := by decide +kernel
theorem dX12_againstNumber_1 : decode cX12_againstNumber 1 = .ok (.getfield 100, 3) := by decide +kernel
theorem dX12_againstNumber_4 : decode cX12_againstNumber 4 = .ok (.iload_n 1, 1) := by decide +kernel
theorem dX12_againstNumber_5 : decode cX12_againstNumber 5 = .ok (.iaload, 1) := by decide +kernel
theorem dX12_againstNumber_6 : decode cX12_againstNumber 6 = .ok (.iconst 2, 1) := by decide +kernel
theorem dX12_againstNumber_7 : decode cX12_againstNumber 7 = .ok (.if_icmp .ne 7, 3) := by decide +kernel
theorem dX12_againstNumber_10 : decode cX12_againstNumber 10 = .ok (.iconst 2, 1) := by decide +kernel
theorem dX12_againstNumber_11 : decode cX12_againstNumber 11 = .ok (.goto 39, 3) := by decide +kernel
theorem dX12_againstNumber_14 : decode cX12_againstNumber 14 = .ok (.aload_n 0, 1) := by decide +kernel
theorem dX12_againstNumber_15 : decode cX12_againstNumber 15 = .ok (.getfield 100, 3) := by decide +kernel
theorem dX12_againstNumber_18 : decode cX12_againstNumber 18 = .ok (.iload_n 1, 1) := by decide +kernel
theorem dX12_againstNumber_19 : decode cX12_againstNumber 19 = .ok (.iaload, 1) := by decide +kernel
theorem dX12_againstNumber_20 : decode cX12_againstNumber 20 = .ok (.bipush (-9), 2) := by decide +kernel
theorem dX12_againstNumber_22 : decode cX12_againstNumber 22 = .ok (.if_icmp .ne 7, 3) := by decide +kernel
theorem dX12_againstNumber_25 : decode cX12_againstNumber 25 = .ok (.iconst 1, 1) := by decide +kernel
theorem dX12_againstNumber_26 : decode cX12_againstNumber 26 = .ok (.goto 24, 3) := by decide +kernel
theorem dX12_againstNumber_29 : decode cX12_againstNumber 29 = .ok (.iload_n 2, 1) := by decide +kernel
theorem dX12_againstNumber_30 : decode cX12_againstNumber 30 = .ok (.iconst 0, 1) := by decide +kernel
theorem dX12_againstNumber_31 : decode cX12_againstNumber 31 = .ok (.aload_n 0, 1) := by decide +kernel
theorem dX12_againstNumber_32 : decode cX12_againstNumber 32 = .ok (.getfield 103, 3) := by decide +kernel
theorem dX12_againstNumber_35 : decode cX12_againstNumber 35 = .ok (.iload_n 1, 1) := by decide +kernel
theorem dX12_againstNumber_36 : decode cX12_againstNumber 36 = .ok (.iaload, 1) := by decide +kernel
theorem dX12_againstNumber_37 : decode cX12_againstNumber 37 = .ok (.iconst 1, 1) := by decide +kernel
theorem dX12_againstNumber_38 : decode cX12_againstNumber 38 = .ok (.isub, 1) := by decide +kernel
theorem dX12_againstNumber_39 : decode cX12_againstNumber 39 = .ok (.invokestatic 139, 3) := by decide +kernel
theorem dX12_againstNumber_42 : decode cX12_againstNumber 42 = .ok (.ifCond .eq 7, 3) := by decide +kernel
theorem dX12_againstNumber_45 : decode cX12_againstNumber 45 = .ok (.iconst 0, 1) := by decide +kernel
theorem dX12_againstNumber_46 : decode cX12_againstNumber 46 = .ok (.goto 4, 3) := by decide +kernel
theorem dX12_againstNumber_49 : decode cX12_againstNumber 49 = .ok (.iconst 3, 1) := by decide +kernel
theorem dX12_againstNumber_50 : decode cX12_againstNumber 50 = .ok (.ireturn, 1) := by decide +kernel
theorem dX12_write_0 : decode cX12_write 0 = .ok (.iload_n 1, 1) := by decide +kernel
theorem dX12_write_1 : decode cX12_write 1 = .ok (.invokestatic 186, 3) := by decide +kernel
theorem dX12_write_4 : decode cX12_write 4 = .ok (.ifCond .ne 9, 3) := by decide +kernel
theorem dX12_write_7 : decode cX12_write 7 = .ok (.aload_n 0, 1) := by decide +kernel
theorem dX12_write_8 : decode cX12_write 8 = .ok (.iconst (-1), 1) := by decide +kernel
theorem dX12_write_9 : decode cX12_write 9 = .ok (.invokevirtual 325, 3) := by decide +kernel
theorem dX12_write_12 : decode cX12_write 12 = .ok (.ireturn, 1) := by decide +kernel
theorem dX12_write_13 : decode cX12_write 13 = .ok (.aload_n 0, 1) := by decide +kernel
theorem dX12_write_14 : decode cX12_write 14 = .ok (.iload_n 1, 1) := by decide +kernel
theorem dX12_write_15 : decode cX12_write 15 = .ok (.iload_n 2, 1) := by decide +kernel
theorem dX12_write_16 : decode cX12_write 16 = .ok (.invokevirtual 331, 3) := by decide +kernel
theorem dX12_write_19 : decode cX12_write 19 = .ok (.istore 4, 2) := by decide +kernel
theorem dX12_write_21 : decode cX12_write 21 = .ok (.iload 4, 2) := by decide +kernel
theorem dX12_write_23 : decode cX12_write 23 = .ok (.ifCond .eq 10, 3) := by decide +kernel
theorem dX12_write_26 : decode cX12_write 26 = .ok (.aload_n 0, 1) := by decide +kernel
theorem dX12_write_27 : decode cX12_write 27 = .ok (.iload 4, 2) := by decide +kernel
theorem dX12_write_29 : decode cX12_write 29 = .ok (.invokevirtual 192, 3) := by decide +kernel
theorem dX12_write_32 : decode cX12_write 32 = .ok (.ireturn, 1) := by decide +kernel
theorem dX12_write_33 : decode cX12_write 33 = .ok (.aload_n 0, 1) := by decide +kernel
theorem dX12_write_34 : decode cX12_write 34 = .ok (.getfield 106, 3) := by decide +kernel
theorem dX12_write_37 : decode cX12_write 37 = .ok (.bipush 24, 2) := by decide +kernel
theorem dX12_write_39 : decode cX12_write 39 = .ok (.iload_n 1, 1) := by decide +kernel
theorem dX12_write_40 : decode cX12_write 40 = .ok (.imul, 1) := by decide +kernel
theorem dX12_write_41 : decode cX12_write 41 = .ok (.iload_n 2, 1) := by decide +kernel
theorem dX12_write_42 : decode cX12_write 42 = .ok (.iadd, 1) := by decide +kernel
theorem dX12_write_43 : decode cX12_write 43 = .ok (.aload_n 0, 1) := by decide +kernel
theorem dX12_write_44 : decode cX12_write 44 = .ok (.getfield 100, 3) := by decide +kernel
theorem dX12_write_47 : decode cX12_write 47 = .ok (.iload_n 1, 1) := by decide +kernel
theorem dX12_write_48 : decode cX12_write 48 = .ok (.iaload, 1) := by decide +kernel
theorem dX12_write_49 : decode cX12_write 49 = .ok (.ifCond .ne 8, 3) := by decide +kernel
theorem dX12_write_52 : decode cX12_write 52 = .ok (.iload_n 3, 1) := by decide +kernel
theorem dX12_write_53 : decode cX12_write 53 = .ok (.i2b, 1) := by decide +kernel
theorem dX12_write_54 : decode cX12_write 54 = .ok (.goto 4, 3) := by decide +kernel
theorem dX12_write_57 : decode cX12_write 57 = .ok (.iload_n 3, 1) := by decide +kernel
theorem dX12_write_58 : decode cX12_write 58 = .ok (.iastore, 1) := by decide +kernel
theorem dX12_write_59 : decode cX12_write 59 = .ok (.aload_n 0, 1) := by decide +kernel
theorem dX12_write_60 : decode cX12_write 60 = .ok (.iconst 1, 1) := by decide +kernel
theorem dX12_write_61 : decode cX12_write 61 = .ok (.invokevirtual 325, 3) := by decide +kernel
theorem dX12_write_64 : decode cX12_write 64 = .ok (.ireturn, 1) := by decide +kernel
theorem dX12_number_0 : decode cX12_number 0 = .ok (.aload_n 0, 1) := by decide +kernel
theorem dX12_number_1 : decode cX12_number 1 = .ok (.iconst 0, 1) := by decide +kernel
theorem dX12_number_2 : decode cX12_number 2 = .ok (.putfield 122, 3) := by decide +kernel
theorem dX12_number_5 : decode cX12_number 5 = .ok (.iload_n 1, 1) := by decide +kernel
theorem dX12_number_6 : decode cX12_number 6 = .ok (.invokestatic 186, 3) := by decide +kernel
theorem dX12_number_9 : decode cX12_number 9 = .ok (.ifCond .ne 7, 3) := by decide +kernel
theorem dX12_number_12 : decode cX12_number 12 = .ok (.ldc2_w 334, 3) := by decide +kernel
theorem dX12_number_15 : decode cX12_number 15 = .ok (.lreturn, 1) := by decide +kernel
theorem dX12_number_16 : decode cX12_number 16 = .ok (.aload_n 0, 1) := by decide +kernel
theorem dX12_number_17 : decode cX12_number 17 = .ok (.aload_n 0, 1) := by decide +kernel
theorem dX12_number_18 : decode cX12_number 18 = .ok (.iload_n 1, 1) := by decide +kernel
theorem dX12_number_19 : decode cX12_number 19 = .ok (.iload_n 2, 1) := by decide +kernel
theorem dX12_number_20 : decode cX12_number 20 = .ok (.invokevirtual 331, 3) := by decide +kernel
theorem dX12_number_23 : decode cX12_number 23 = .ok (.putfield 122, 3) := by decide +kernel
theorem dX12_number_26 : decode cX12_number 26 = .ok (.aload_n 0, 1) := by decide +kernel
theorem dX12_number_27 : decode cX12_number 27 = .ok (.getfield 122, 3) := by decide +kernel
theorem dX12_number_30 : decode cX12_number 30 = .ok (.ifCond .eq 9, 3) := by decide +kernel
theorem dX12_number_33 : decode cX12_number 33 = .ok (.ldc2_w 334, 3) := by decide +kernel
theorem dX12_number_36 : decode cX12_number 36 = .ok (.goto 15, 3) := by decide +kernel
theorem dX12_number_39 : decode cX12_number 39 = .ok (.aload_n 0, 1) := by decide +kernel
theorem dX12_number_40 : decode cX12_number 40 = .ok (.getfield 106, 3) := by decide +kernel
theorem dX12_number_43 : decode cX12_number 43 = .ok (.bipush 24, 2) := by decide +kernel
theorem dX12_number_45 : decode cX12_number 45 = .ok (.iload_n 1, 1) := by decide +kernel
theorem dX12_number_46 : decode cX12_number 46 = .ok (.imul, 1) := by decide +kernel
theorem dX12_number_47 : decode cX12_number 47 = .ok (.iload_n 2, 1) := by decide +kernel
theorem dX12_number_48 : decode cX12_number 48 = .ok (.iadd, 1) := by decide +kernel
theorem dX12_number_49 : decode cX12_number 49 = .ok (.iaload, 1) := by decide +kernel
theorem dX12_number_50 : decode cX12_number 50 = .ok (.i2l, 1) := by decide +kernel
theorem dX12_number_51 : decode cX12_number 51 = .ok (.lreturn, 1) := by decide +kernel
theorem dX12_copy_0 : decode cX12_copy 0 = .ok (.iload_n 1, 1) := by decide +kernel
theorem dX12_copy_1 : decode cX12_copy 1 = .ok (.invokestatic 186, 3) := by decide +kernel
theorem dX12_copy_4 : decode cX12_copy 4 = .ok (.ifCond .eq 10, 3) := by decide +kernel
theorem dX12_copy_7 : decode cX12_copy 7 = .ok (.iload_n 3, 1) := by decide +kernel
theorem dX12_copy_8 : decode cX12_copy 8 = .ok (.invokestatic 186, 3) := by decide +kernel
theorem dX12_copy_11 : decode cX12_copy 11 = .ok (.ifCond .ne 9, 3) := by decide +kernel
theorem dX12_copy_14 : decode cX12_copy 14 = .ok (.aload_n 0, 1) := by decide +kernel
theorem dX12_copy_15 : decode cX12_copy 15 = .ok (.iconst (-1), 1) := by decide +kernel
theorem dX12_copy_16 : decode cX12_copy 16 = .ok (.invokevirtual 325, 3) := by decide +kernel
theorem dX12_copy_19 : decode cX12_copy 19 = .ok (.ireturn, 1) := by decide +kernel
theorem dX12_copy_20 : decode cX12_copy 20 = .ok (.aload_n 0, 1) := by decide +kernel
theorem dX12_copy_21 : decode cX12_copy 21 = .ok (.getfield 100, 3) := by decide +kernel
theorem dX12_copy_24 : decode cX12_copy 24 = .ok (.iload_n 1, 1) := by decide +kernel
theorem dX12_copy_25 : decode cX12_copy 25 = .ok (.iaload, 1) := by decide +kernel
theorem dX12_copy_26 : decode cX12_copy 26 = .ok (.bipush (-9), 2) := by decide +kernel
theorem dX12_copy_28 : decode cX12_copy 28 = .ok (.if_icmp .eq 14, 3) := by decide +kernel
theorem dX12_copy_31 : decode cX12_copy 31 = .ok (.aload_n 0, 1) := by decide +kernel
theorem dX12_copy_32 : decode cX12_copy 32 = .ok (.getfield 100, 3) := by decide +kernel
theorem dX12_copy_35 : decode cX12_copy 35 = .ok (.iload_n 3, 1) := by decide +kernel
theorem dX12_copy_36 : decode cX12_copy 36 = .ok (.iaload, 1) := by decide +kernel
theorem dX12_copy_37 : decode cX12_copy 37 = .ok (.bipush (-9), 2) := by decide +kernel
theorem dX12_copy_39 : decode cX12_copy 39 = .ok (.if_icmp .ne 9, 3) := by decide +kernel
theorem dX12_copy_42 : decode cX12_copy 42 = .ok (.aload_n 0, 1) := by decide +kernel
theorem dX12_copy_43 : decode cX12_copy 43 = .ok (.iconst 1, 1) := by decide +kernel
theorem dX12_copy_44 : decode cX12_copy 44 = .ok (.invokevirtual 192, 3) := by decide +kernel
theorem dX12_copy_47 : decode cX12_copy 47 = .ok (.ireturn, 1) := by decide +kernel
theorem dX12_copy_48 : decode cX12_copy 48 = .ok (.aload_n 0, 1) := by decide +kernel
theorem dX12_copy_49 : decode cX12_copy 49 = .ok (.getfield 100, 3) := by decide +kernel
theorem dX12_copy_52 : decode cX12_copy 52 = .ok (.iload_n 1, 1) := by decide +kernel
theorem dX12_copy_53 : decode cX12_copy 53 = .ok (.iaload, 1) := by decide +kernel
theorem dX12_copy_54 : decode cX12_copy 54 = .ok (.iconst 2, 1) := by decide +kernel
theorem dX12_copy_55 : decode cX12_copy 55 = .ok (.if_icmp .eq 18, 3) := by decide +kernel
theorem dX12_copy_58 : decode cX12_copy 58 = .ok (.aload_n 0, 1) := by decide +kernel
theorem dX12_copy_59 : decode cX12_copy 59 = .ok (.getfield 100, 3) := by decide +kernel
theorem dX12_copy_62 : decode cX12_copy 62 = .ok (.iload_n 1, 1) := by decide +kernel
theorem dX12_copy_63 : decode cX12_copy 63 = .ok (.iaload, 1) := by decide +kernel
theorem dX12_copy_64 : decode cX12_copy 64 = .ok (.aload_n 0, 1) := by decide +kernel
theorem dX12_copy_65 : decode cX12_copy 65 = .ok (.getfield 100, 3) := by decide +kernel
theorem dX12_copy_68 : decode cX12_copy 68 = .ok (.iload_n 3, 1) := by decide +kernel
theorem dX12_copy_69 : decode cX12_copy 69 = .ok (.iaload, 1) := by decide +kernel
theorem dX12_copy_70 : decode cX12_copy 70 = .ok (.if_icmp .eq 9, 3) := by decide +kernel
theorem dX12_copy_73 : decode cX12_copy 73 = .ok (.aload_n 0, 1) := by decide +kernel
theorem dX12_copy_74 : decode cX12_copy 74 = .ok (.iconst 2, 1) := by decide +kernel
theorem dX12_copy_75 : decode cX12_copy 75 = .ok (.invokevirtual 192, 3) := by decide +kernel
theorem dX12_copy_78 : decode cX12_copy 78 = .ok (.ireturn, 1) := by decide +kernel
theorem dX12_copy_79 : decode cX12_copy 79 = .ok (.iload_n 2, 1) := by decide +kernel
theorem dX12_copy_80 : decode cX12_copy 80 = .ok (.ifCond .lt 61, 3) := by decide +kernel
theorem dX12_copy_83 : decode cX12_copy 83 = .ok (.iload 4, 2) := by decide +kernel
theorem dX12_copy_85 : decode cX12_copy 85 = .ok (.ifCond .lt 56, 3) := by decide +kernel
theorem dX12_copy_88 : decode cX12_copy 88 = .ok (.iload 5, 2) := by decide +kernel
theorem dX12_copy_90 : decode cX12_copy 90 = .ok (.ifCond .lt 51, 3) := by decide +kernel
theorem dX12_copy_93 : decode cX12_copy 93 = .ok (.iload_n 2, 1) := by decide +kernel
theorem dX12_copy_94 : decode cX12_copy 94 = .ok (.aload_n 0, 1) := by decide +kernel
theorem dX12_copy_95 : decode cX12_copy 95 = .ok (.getfield 103, 3) := by decide +kernel
theorem dX12_copy_98 : decode cX12_copy 98 = .ok (.iload_n 1, 1) := by decide +kernel
theorem dX12_copy_99 : decode cX12_copy 99 = .ok (.iaload, 1) := by decide +kernel
theorem dX12_copy_100 : decode cX12_copy 100 = .ok (.if_icmp .gt 41, 3) := by decide +kernel
theorem dX12_copy_103 : decode cX12_copy 103 = .ok (.iload 4, 2) := by decide +kernel
theorem dX12_copy_105 : decode cX12_copy 105 = .ok (.aload_n 0, 1) := by decide +kernel
theorem dX12_copy_106 : decode cX12_copy 106 = .ok (.getfield 103, 3) := by decide +kernel
theorem dX12_copy_109 : decode cX12_copy 109 = .ok (.iload_n 3, 1) := by decide +kernel
theorem dX12_copy_110 : decode cX12_copy 110 = .ok (.iaload, 1) := by decide +kernel
theorem dX12_copy_111 : decode cX12_copy 111 = .ok (.if_icmp .gt 30, 3) := by decide +kernel
theorem dX12_copy_114 : decode cX12_copy 114 = .ok (.iload 5, 2) := by decide +kernel
theorem dX12_copy_116 : decode cX12_copy 116 = .ok (.aload_n 0, 1) := by decide +kernel
theorem dX12_copy_117 : decode cX12_copy 117 = .ok (.getfield 103, 3) := by decide +kernel
theorem dX12_copy_120 : decode cX12_copy 120 = .ok (.iload_n 1, 1) := by decide +kernel
theorem dX12_copy_121 : decode cX12_copy 121 = .ok (.iaload, 1) := by decide +kernel
theorem dX12_copy_122 : decode cX12_copy 122 = .ok (.iload_n 2, 1) := by decide +kernel
theorem dX12_copy_123 : decode cX12_copy 123 = .ok (.isub, 1) := by decide +kernel
theorem dX12_copy_124 : decode cX12_copy 124 = .ok (.if_icmp .gt 17, 3) := by decide +kernel
theorem dX12_copy_127 : decode cX12_copy 127 = .ok (.iload 5, 2) := by decide +kernel
theorem dX12_copy_129 : decode cX12_copy 129 = .ok (.aload_n 0, 1) := by decide +kernel
theorem dX12_copy_130 : decode cX12_copy 130 = .ok (.getfield 103, 3) := by decide +kernel
theorem dX12_copy_133 : decode cX12_copy 133 = .ok (.iload_n 3, 1) := by decide +kernel
theorem dX12_copy_134 : decode cX12_copy 134 = .ok (.iaload, 1) := by decide +kernel
theorem dX12_copy_135 : decode cX12_copy 135 = .ok (.iload 4, 2) := by decide +kernel
theorem dX12_copy_137 : decode cX12_copy 137 = .ok (.isub, 1) := by decide +kernel
theorem dX12_copy_138 : decode cX12_copy 138 = .ok (.if_icmp .le 9, 3) := by decide +kernel
theorem dX12_copy_141 : decode cX12_copy 141 = .ok (.aload_n 0, 1) := by decide +kernel
theorem dX12_copy_142 : decode cX12_copy 142 = .ok (.iconst 3, 1) := by decide +kernel
theorem dX12_copy_143 : decode cX12_copy 143 = .ok (.invokevirtual 192, 3) := by decide +kernel
theorem dX12_copy_146 : decode cX12_copy 146 = .ok (.ireturn, 1) := by decide +kernel
theorem dX12_copy_147 : decode cX12_copy 147 = .ok (.iconst 0, 1) := by decide +kernel
theorem dX12_copy_148 : decode cX12_copy 148 = .ok (.istore 6, 2) := by decide +kernel
theorem dX12_copy_150 : decode cX12_copy 150 = .ok (.iload 6, 2) := by decide +kernel
theorem dX12_copy_152 : decode cX12_copy 152 = .ok (.iload 5, 2) := by decide +kernel
theorem dX12_copy_154 : decode cX12_copy 154 = .ok (.if_icmp .ge 58, 3) := by decide +kernel
theorem dX12_copy_157 : decode cX12_copy 157 = .ok (.iload_n 2, 1) := by decide +kernel
theorem dX12_copy_158 : decode cX12_copy 158 = .ok (.iload 4, 2) := by decide +kernel
theorem dX12_copy_160 : decode cX12_copy 160 = .ok (.if_icmp .ge 13, 3) := by decide +kernel
theorem dX12_copy_163 : decode cX12_copy 163 = .ok (.iload 5, 2) := by decide +kernel
theorem dX12_copy_165 : decode cX12_copy 165 = .ok (.iconst 1, 1) := by decide +kernel
theorem dX12_copy_166 : decode cX12_copy 166 = .ok (.isub, 1) := by decide +kernel
theorem dX12_copy_167 : decode cX12_copy 167 = .ok (.iload 6, 2) := by decide +kernel
theorem dX12_copy_169 : decode cX12_copy 169 = .ok (.isub, 1) := by decide +kernel
theorem dX12_copy_170 : decode cX12_copy 170 = .ok (.goto 5, 3) := by decide +kernel
theorem dX12_copy_173 : decode cX12_copy 173 = .ok (.iload 6, 2) := by decide +kernel
theorem dX12_copy_175 : decode cX12_copy 175 = .ok (.istore 7, 2) := by decide +kernel
theorem dX12_copy_177 : decode cX12_copy 177 = .ok (.aload_n 0, 1) := by decide +kernel
theorem dX12_copy_178 : decode cX12_copy 178 = .ok (.getfield 106, 3) := by decide +kernel
theorem dX12_copy_181 : decode cX12_copy 181 = .ok (.bipush 24, 2) := by decide +kernel
theorem dX12_copy_183 : decode cX12_copy 183 = .ok (.iload_n 3, 1) := by decide +kernel
theorem dX12_copy_184 : decode cX12_copy 184 = .ok (.imul, 1) := by decide +kernel
theorem dX12_copy_185 : decode cX12_copy 185 = .ok (.iload 4, 2) := by decide +kernel
theorem dX12_copy_187 : decode cX12_copy 187 = .ok (.iadd, 1) := by decide +kernel
theorem dX12_copy_188 : decode cX12_copy 188 = .ok (.iload 7, 2) := by decide +kernel
theorem dX12_copy_190 : decode cX12_copy 190 = .ok (.iadd, 1) := by decide +kernel
theorem dX12_copy_191 : decode cX12_copy 191 = .ok (.aload_n 0, 1) := by decide +kernel
theorem dX12_copy_192 : decode cX12_copy 192 = .ok (.getfield 106, 3) := by decide +kernel
theorem dX12_copy_195 : decode cX12_copy 195 = .ok (.bipush 24, 2) := by decide +kernel
theorem dX12_copy_197 : decode cX12_copy 197 = .ok (.iload_n 1, 1) := by decide +kernel
theorem dX12_copy_198 : decode cX12_copy 198 = .ok (.imul, 1) := by decide +kernel
theorem dX12_copy_199 : decode cX12_copy 199 = .ok (.iload_n 2, 1) := by decide +kernel
theorem dX12_copy_200 : decode cX12_copy 200 = .ok (.iadd, 1) := by decide +kernel
theorem dX12_copy_201 : decode cX12_copy 201 = .ok (.iload 7, 2) := by decide +kernel
theorem dX12_copy_203 : decode cX12_copy 203 = .ok (.iadd, 1) := by decide +kernel
theorem dX12_copy_204 : decode cX12_copy 204 = .ok (.iaload, 1) := by decide +kernel
theorem dX12_copy_205 : decode cX12_copy 205 = .ok (.iastore, 1) := by decide +kernel
theorem dX12_copy_206 : decode cX12_copy 206 = .ok (.iinc 6 1, 3) := by decide +kernel
theorem dX12_copy_209 : decode cX12_copy 209 = .ok (.goto (-59), 3) := by decide +kernel
theorem dX12_copy_212 : decode cX12_copy 212 = .ok (.aload_n 0, 1) := by decide +kernel
theorem dX12_copy_213 : decode cX12_copy 213 = .ok (.iload 5, 2) := by decide +kernel
theorem dX12_copy_215 : decode cX12_copy 215 = .ok (.invokevirtual 325, 3) := by decide +kernel
theorem dX12_copy_218 : decode cX12_copy 218 = .ok (.ireturn, 1) := by decide +kernel
theorem dX12_tell_0 : decode cX12_tell 0 = .ok (.aload_n 0, 1) := by decide +kernel
theorem dX12_tell_1 : decode cX12_tell 1 = .ok (.iload_n 1, 1) := by decide +kernel
theorem dX12_tell_2 : decode cX12_tell 2 = .ok (.invokevirtual 171, 3) := by decide +kernel
theorem dX12_tell_5 : decode cX12_tell 5 = .ok (.ifCond .ne 5, 3) := by decide +kernel
theorem dX12_tell_8 : decode cX12_tell 8 = .ok (.iconst (-1), 1) := by decide +kernel
theorem dX12_tell_9 : decode cX12_tell 9 = .ok (.ireturn, 1) := by decide +kernel
theorem dX12_tell_10 : decode cX12_tell 10 = .ok (.aload_n 0, 1) := by decide +kernel
theorem dX12_tell_11 : decode cX12_tell 11 = .ok (.getfield 7, 3) := by decide +kernel
theorem dX12_tell_14 : decode cX12_tell 14 = .ok (.iload_n 1, 1) := by decide +kernel
theorem dX12_tell_15 : decode cX12_tell 15 = .ok (.iaload, 1) := by decide +kernel
theorem dX12_tell_16 : decode cX12_tell 16 = .ok (.ifCond .le 24, 3) := by decide +kernel
theorem dX12_tell_19 : decode cX12_tell 19 = .ok (.aload_n 0, 1) := by decide +kernel
theorem dX12_tell_20 : decode cX12_tell 20 = .ok (.aload_n 0, 1) := by decide +kernel
theorem dX12_tell_21 : decode cX12_tell 21 = .ok (.getfield 7, 3) := by decide +kernel
theorem dX12_tell_24 : decode cX12_tell 24 = .ok (.iload_n 1, 1) := by decide +kernel
theorem dX12_tell_25 : decode cX12_tell 25 = .ok (.iaload, 1) := by decide +kernel
theorem dX12_tell_26 : decode cX12_tell 26 = .ok (.iconst 1, 1) := by decide +kernel
theorem dX12_tell_27 : decode cX12_tell 27 = .ok (.if_icmp .ne 8, 3) := by decide +kernel
theorem dX12_tell_30 : decode cX12_tell 30 = .ok (.bipush 12, 2) := by decide +kernel
theorem dX12_tell_32 : decode cX12_tell 32 = .ok (.goto 5, 3) := by decide +kernel
theorem dX12_tell_35 : decode cX12_tell 35 = .ok (.bipush 13, 2) := by decide +kernel
theorem dX12_tell_37 : decode cX12_tell 37 = .ok (.invokevirtual 135, 3) := by decide +kernel
theorem dX12_tell_40 : decode cX12_tell 40 = .ok (.aload_n 0, 1) := by decide +kernel
theorem dX12_tell_41 : decode cX12_tell 41 = .ok (.bipush 11, 2) := by decide +kernel
theorem dX12_tell_43 : decode cX12_tell 43 = .ok (.invokevirtual 135, 3) := by decide +kernel
theorem dX12_tell_46 : decode cX12_tell 46 = .ok (.aload_n 0, 1) := by decide +kernel
theorem dX12_tell_47 : decode cX12_tell 47 = .ok (.getfield 25, 3) := by decide +kernel
theorem dX12_tell_50 : decode cX12_tell 50 = .ok (.iload_n 1, 1) := by decide +kernel
theorem dX12_tell_51 : decode cX12_tell 51 = .ok (.iaload, 1) := by decide +kernel
theorem dX12_tell_52 : decode cX12_tell 52 = .ok (.bipush 100, 2) := by decide +kernel
theorem dX12_tell_54 : decode cX12_tell 54 = .ok (.aload_n 0, 1) := by decide +kernel
theorem dX12_tell_55 : decode cX12_tell 55 = .ok (.getfield 7, 3) := by decide +kernel
theorem dX12_tell_58 : decode cX12_tell 58 = .ok (.iload_n 1, 1) := by decide +kernel
theorem dX12_tell_59 : decode cX12_tell 59 = .ok (.iaload, 1) := by decide +kernel
theorem dX12_tell_60 : decode cX12_tell 60 = .ok (.imul, 1) := by decide +kernel
theorem dX12_tell_61 : decode cX12_tell 61 = .ok (.iadd, 1) := by decide +kernel
theorem dX12_tell_62 : decode cX12_tell 62 = .ok (.ireturn, 1) := by decide +kernel
theorem dX12_trace_0 : decode cX12_trace 0 = .ok (.aload_n 0, 1) := by decide +kernel
theorem dX12_trace_1 : decode cX12_trace 1 = .ok (.getfield 126, 3) := by decide +kernel
theorem dX12_trace_4 : decode cX12_trace 4 = .ok (.ireturn, 1) := by decide +kernel
theorem dX12_fault_0 : decode cX12_fault 0 = .ok (.aload_n 0, 1) := by decide +kernel
theorem dX12_fault_1 : decode cX12_fault 1 = .ok (.getfield 122, 3) := by decide +kernel
theorem dX12_fault_4 : decode cX12_fault 4 = .ok (.ireturn, 1) := by decide +kernel
theorem dX12_many_0 : decode cX12_many 0 = .ok (.iconst 0, 1) := by decide +kernel
theorem dX12_many_1 : decode cX12_many 1 = .ok (.istore_n 2, 1) := by decide +kernel
theorem dX12_many_2 : decode cX12_many 2 = .ok (.iload_n 1, 1) := by decide +kernel
theorem dX12_many_3 : decode cX12_many 3 = .ok (.tableswitch 155 0 3 #[29, 34, 39, 121], 29) := by decide +kernel
theorem dX12_many_32 : decode cX12_many 32 = .ok (.aload_n 0, 1) := by decide +kernel
theorem dX12_many_33 : decode cX12_many 33 = .ok (.getfield 129, 3) := by decide +kernel
theorem dX12_many_36 : decode cX12_many 36 = .ok (.ireturn, 1) := by decide +kernel
theorem dX12_many_37 : decode cX12_many 37 = .ok (.aload_n 0, 1) := by decide +kernel
theorem dX12_many_38 : decode cX12_many 38 = .ok (.getfield 219, 3) := by decide +kernel
theorem dX12_many_41 : decode cX12_many 41 = .ok (.ireturn, 1) := by decide +kernel
theorem dX12_many_42 : decode cX12_many 42 = .ok (.iconst 0, 1) := by decide +kernel
theorem dX12_many_43 : decode cX12_many 43 = .ok (.istore_n 3, 1) := by decide +kernel
theorem dX12_many_44 : decode cX12_many 44 = .ok (.iload_n 3, 1) := by decide +kernel
theorem dX12_many_45 : decode cX12_many 45 = .ok (.aload_n 0, 1) := by decide +kernel
theorem dX12_many_46 : decode cX12_many 46 = .ok (.getfield 129, 3) := by decide +kernel
theorem dX12_many_49 : decode cX12_many 49 = .ok (.if_icmp .ge 73, 3) := by decide +kernel
theorem dX12_many_52 : decode cX12_many 52 = .ok (.iload_n 2, 1) := by decide +kernel
theorem dX12_many_53 : decode cX12_many 53 = .ok (.aload_n 0, 1) := by decide +kernel
theorem dX12_many_54 : decode cX12_many 54 = .ok (.iload_n 3, 1) := by decide +kernel
theorem dX12_many_55 : decode cX12_many 55 = .ok (.aload_n 0, 1) := by decide +kernel
theorem dX12_many_56 : decode cX12_many 56 = .ok (.getfield 28, 3) := by decide +kernel
theorem dX12_many_59 : decode cX12_many 59 = .ok (.iconst 0, 1) := by decide +kernel
theorem dX12_many_60 : decode cX12_many 60 = .ok (.iaload, 1) := by decide +kernel
theorem dX12_many_61 : decode cX12_many 61 = .ok (.invokevirtual 201, 3) := by decide +kernel
theorem dX12_many_64 : decode cX12_many 64 = .ok (.ifCond .ne 45, 3) := by decide +kernel
theorem dX12_many_67 : decode cX12_many 67 = .ok (.aload_n 0, 1) := by decide +kernel
theorem dX12_many_68 : decode cX12_many 68 = .ok (.iload_n 3, 1) := by decide +kernel
theorem dX12_many_69 : decode cX12_many 69 = .ok (.aload_n 0, 1) := by decide +kernel
theorem dX12_many_70 : decode cX12_many 70 = .ok (.getfield 28, 3) := by decide +kernel
theorem dX12_many_73 : decode cX12_many 73 = .ok (.iconst 1, 1) := by decide +kernel
theorem dX12_many_74 : decode cX12_many 74 = .ok (.iaload, 1) := by decide +kernel
theorem dX12_many_75 : decode cX12_many 75 = .ok (.invokevirtual 201, 3) := by decide +kernel
theorem dX12_many_78 : decode cX12_many 78 = .ok (.ifCond .ne 31, 3) := by decide +kernel
theorem dX12_many_81 : decode cX12_many 81 = .ok (.aload_n 0, 1) := by decide +kernel
theorem dX12_many_82 : decode cX12_many 82 = .ok (.iload_n 3, 1) := by decide +kernel
theorem dX12_many_83 : decode cX12_many 83 = .ok (.aload_n 0, 1) := by decide +kernel
theorem dX12_many_84 : decode cX12_many 84 = .ok (.getfield 28, 3) := by decide +kernel
theorem dX12_many_87 : decode cX12_many 87 = .ok (.iconst 2, 1) := by decide +kernel
theorem dX12_many_88 : decode cX12_many 88 = .ok (.iaload, 1) := by decide +kernel
theorem dX12_many_89 : decode cX12_many 89 = .ok (.invokevirtual 201, 3) := by decide +kernel
theorem dX12_many_92 : decode cX12_many 92 = .ok (.ifCond .ne 17, 3) := by decide +kernel
theorem dX12_many_95 : decode cX12_many 95 = .ok (.aload_n 0, 1) := by decide +kernel
theorem dX12_many_96 : decode cX12_many 96 = .ok (.iload_n 3, 1) := by decide +kernel
theorem dX12_many_97 : decode cX12_many 97 = .ok (.aload_n 0, 1) := by decide +kernel
theorem dX12_many_98 : decode cX12_many 98 = .ok (.getfield 28, 3) := by decide +kernel
theorem dX12_many_101 : decode cX12_many 101 = .ok (.iconst 3, 1) := by decide +kernel
theorem dX12_many_102 : decode cX12_many 102 = .ok (.iaload, 1) := by decide +kernel
theorem dX12_many_103 : decode cX12_many 103 = .ok (.invokevirtual 201, 3) := by decide +kernel
theorem dX12_many_106 : decode cX12_many 106 = .ok (.ifCond .eq 7, 3) := by decide +kernel
theorem dX12_many_109 : decode cX12_many 109 = .ok (.iconst 1, 1) := by decide +kernel
theorem dX12_many_110 : decode cX12_many 110 = .ok (.goto 4, 3) := by decide +kernel
theorem dX12_many_113 : decode cX12_many 113 = .ok (.iconst 0, 1) := by decide +kernel
theorem dX12_many_114 : decode cX12_many 114 = .ok (.iadd, 1) := by decide +kernel
theorem dX12_many_115 : decode cX12_many 115 = .ok (.istore_n 2, 1) := by decide +kernel
theorem dX12_many_116 : decode cX12_many 116 = .ok (.iinc 3 1, 3) := by decide +kernel
theorem dX12_many_119 : decode cX12_many 119 = .ok (.goto (-75), 3) := by decide +kernel
theorem dX12_many_122 : decode cX12_many 122 = .ok (.iload_n 2, 1) := by decide +kernel
theorem dX12_many_123 : decode cX12_many 123 = .ok (.ireturn, 1) := by decide +kernel
theorem dX12_many_124 : decode cX12_many 124 = .ok (.iconst 0, 1) := by decide +kernel
theorem dX12_many_125 : decode cX12_many 125 = .ok (.istore_n 3, 1) := by decide +kernel
theorem dX12_many_126 : decode cX12_many 126 = .ok (.iload_n 3, 1) := by decide +kernel
theorem dX12_many_127 : decode cX12_many 127 = .ok (.iconst 5, 1) := by decide +kernel
theorem dX12_many_128 : decode cX12_many 128 = .ok (.if_icmp .ge 28, 3) := by decide +kernel
theorem dX12_many_131 : decode cX12_many 131 = .ok (.iload_n 2, 1) := by decide +kernel
theorem dX12_many_132 : decode cX12_many 132 = .ok (.aload_n 0, 1) := by decide +kernel
theorem dX12_many_133 : decode cX12_many 133 = .ok (.getfield 100, 3) := by decide +kernel
theorem dX12_many_136 : decode cX12_many 136 = .ok (.iload_n 3, 1) := by decide +kernel
theorem dX12_many_137 : decode cX12_many 137 = .ok (.iaload, 1) := by decide +kernel
theorem dX12_many_138 : decode cX12_many 138 = .ok (.bipush (-9), 2) := by decide +kernel
theorem dX12_many_140 : decode cX12_many 140 = .ok (.if_icmp .ne 7, 3) := by decide +kernel
theorem dX12_many_143 : decode cX12_many 143 = .ok (.iconst 0, 1) := by decide +kernel
theorem dX12_many_144 : decode cX12_many 144 = .ok (.goto 4, 3) := by decide +kernel
theorem dX12_many_147 : decode cX12_many 147 = .ok (.iconst 1, 1) := by decide +kernel
theorem dX12_many_148 : decode cX12_many 148 = .ok (.iadd, 1) := by decide +kernel
theorem dX12_many_149 : decode cX12_many 149 = .ok (.istore_n 2, 1) := by decide +kernel
theorem dX12_many_150 : decode cX12_many 150 = .ok (.iinc 3 1, 3) := by decide +kernel
theorem dX12_many_153 : decode cX12_many 153 = .ok (.goto (-27), 3) := by decide +kernel
theorem dX12_many_156 : decode cX12_many 156 = .ok (.iload_n 2, 1) := by decide +kernel
theorem dX12_many_157 : decode cX12_many 157 = .ok (.ireturn, 1) := by decide +kernel
theorem dX12_many_158 : decode cX12_many 158 = .ok (.bipush (-2), 2) := by decide +kernel
theorem dX12_many_160 : decode cX12_many 160 = .ok (.ireturn, 1) := by decide +kernel
