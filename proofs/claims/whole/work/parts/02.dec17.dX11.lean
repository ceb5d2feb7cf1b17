theorem dX11_free_147 : decode cX11_free 147 = .ok (.if_icmp .ge 18, 3) := by decide +kernel
theorem dX11_free_150 : decode cX11_free 150 = .ok (.aload_n 0, 1) := by decide +kernel
theorem dX11_free_151 : decode cX11_free 151 = .ok (.getfield 38, 3) := by decide +kernel
theorem dX11_free_154 : decode cX11_free 154 = .ok (.iload 4, 2) := by decide +kernel
theorem dX11_free_156 : decode cX11_free 156 = .ok (.ldc 57, 2) := by decide +kernel
theorem dX11_free_158 : decode cX11_free 158 = .ok (.iastore, 1) := by decide +kernel
theorem dX11_free_159 : decode cX11_free 159 = .ok (.iinc 4 1, 3) := by decide +kernel
theorem dX11_free_162 : decode cX11_free 162 = .ok (.goto (-19), 3) := by decide +kernel
theorem dX11_free_165 : decode cX11_free 165 = .ok (.iconst 0, 1) := by decide +kernel
theorem dX11_free_166 : decode cX11_free 166 = .ok (.istore 4, 2) := by decide +kernel
theorem dX11_free_168 : decode cX11_free 168 = .ok (.iload 4, 2) := by decide +kernel
theorem dX11_free_170 : decode cX11_free 170 = .ok (.bipush 64, 2) := by decide +kernel
theorem dX11_free_172 : decode cX11_free 172 = .ok (.if_icmp .ge 170, 3) := by decide +kernel
theorem dX11_free_175 : decode cX11_free 175 = .ok (.iconst 0, 1) := by decide +kernel
theorem dX11_free_176 : decode cX11_free 176 = .ok (.istore 5, 2) := by decide +kernel
theorem dX11_free_178 : decode cX11_free 178 = .ok (.iload 5, 2) := by decide +kernel
theorem dX11_free_180 : decode cX11_free 180 = .ok (.iconst 4, 1) := by decide +kernel
theorem dX11_free_181 : decode cX11_free 181 = .ok (.if_icmp .ge 155, 3) := by decide +kernel
theorem dX11_free_184 : decode cX11_free 184 = .ok (.aload_n 0, 1) := by decide +kernel
theorem dX11_free_185 : decode cX11_free 185 = .ok (.getfield 35, 3) := by decide +kernel
theorem dX11_free_188 : decode cX11_free 188 = .ok (.iload 4, 2) := by decide +kernel
theorem dX11_free_190 : decode cX11_free 190 = .ok (.iaload, 1) := by decide +kernel
theorem dX11_free_191 : decode cX11_free 191 = .ok (.ldc 57, 2) := by decide +kernel
theorem dX11_free_193 : decode cX11_free 193 = .ok (.if_icmp .ge 143, 3) := by decide +kernel
theorem dX11_free_196 : decode cX11_free 196 = .ok (.aload_n 0, 1) := by decide +kernel
theorem dX11_free_197 : decode cX11_free 197 = .ok (.iload 4, 2) := by decide +kernel
theorem dX11_free_199 : decode cX11_free 199 = .ok (.bipush 8, 2) := by decide +kernel
theorem dX11_free_201 : decode cX11_free 201 = .ok (.idiv, 1) := by decide +kernel
theorem dX11_free_202 : decode cX11_free 202 = .ok (.iload 5, 2) := by decide +kernel
theorem dX11_free_204 : decode cX11_free 204 = .ok (.iconst 2, 1) := by decide +kernel
theorem dX11_free_205 : decode cX11_free 205 = .ok (.idiv, 1) := by decide +kernel
theorem dX11_free_206 : decode cX11_free 206 = .ok (.invokevirtual 88, 3) := by decide +kernel
theorem dX11_free_209 : decode cX11_free 209 = .ok (.istore 6, 2) := by decide +kernel
theorem dX11_free_211 : decode cX11_free 211 = .ok (.aload_n 0, 1) := by decide +kernel
theorem dX11_free_212 : decode cX11_free 212 = .ok (.iload 4, 2) := by decide +kernel
theorem dX11_free_214 : decode cX11_free 214 = .ok (.bipush 8, 2) := by decide +kernel
theorem dX11_free_216 : decode cX11_free 216 = .ok (.irem, 1) := by decide +kernel
theorem dX11_free_217 : decode cX11_free 217 = .ok (.iload 5, 2) := by decide +kernel
theorem dX11_free_219 : decode cX11_free 219 = .ok (.iconst 2, 1) := by decide +kernel
theorem dX11_free_220 : decode cX11_free 220 = .ok (.irem, 1) := by decide +kernel
theorem dX11_free_221 : decode cX11_free 221 = .ok (.invokevirtual 88, 3) := by decide +kernel
theorem dX11_free_224 : decode cX11_free 224 = .ok (.istore 7, 2) := by decide +kernel
theorem dX11_free_226 : decode cX11_free 226 = .ok (.aload_n 0, 1) := by decide +kernel
theorem dX11_free_227 : decode cX11_free 227 = .ok (.getfield 35, 3) := by decide +kernel
theorem dX11_free_230 : decode cX11_free 230 = .ok (.iload 4, 2) := by decide +kernel
theorem dX11_free_232 : decode cX11_free 232 = .ok (.iaload, 1) := by decide +kernel
theorem dX11_free_233 : decode cX11_free 233 = .ok (.aload_n 0, 1) := by decide +kernel
theorem dX11_free_234 : decode cX11_free 234 = .ok (.iload 4, 2) := by decide +kernel
theorem dX11_free_236 : decode cX11_free 236 = .ok (.bipush 8, 2) := by decide +kernel
theorem dX11_free_238 : decode cX11_free 238 = .ok (.idiv, 1) := by decide +kernel
theorem dX11_free_239 : decode cX11_free 239 = .ok (.iload 5, 2) := by decide +kernel
theorem dX11_free_241 : decode cX11_free 241 = .ok (.iconst 2, 1) := by decide +kernel
theorem dX11_free_242 : decode cX11_free 242 = .ok (.idiv, 1) := by decide +kernel
theorem dX11_free_243 : decode cX11_free 243 = .ok (.iload 4, 2) := by decide +kernel
theorem dX11_free_245 : decode cX11_free 245 = .ok (.bipush 8, 2) := by decide +kernel
theorem dX11_free_247 : decode cX11_free 247 = .ok (.irem, 1) := by decide +kernel
theorem dX11_free_248 : decode cX11_free 248 = .ok (.iload 5, 2) := by decide +kernel
theorem dX11_free_250 : decode cX11_free 250 = .ok (.iconst 2, 1) := by decide +kernel
theorem dX11_free_251 : decode cX11_free 251 = .ok (.irem, 1) := by decide +kernel
theorem dX11_free_252 : decode cX11_free 252 = .ok (.invokevirtual 145, 3) := by decide +kernel
theorem dX11_free_255 : decode cX11_free 255 = .ok (.iadd, 1) := by decide +kernel
theorem dX11_free_256 : decode cX11_free 256 = .ok (.istore 8, 2) := by decide +kernel
theorem dX11_free_258 : decode cX11_free 258 = .ok (.iload 6, 2) := by decide +kernel
theorem dX11_free_260 : decode cX11_free 260 = .ok (.iload 7, 2) := by decide +kernel
theorem dX11_free_262 : decode cX11_free 262 = .ok (.if_icmp .ne 19, 3) := by decide +kernel
theorem dX11_free_265 : decode cX11_free 265 = .ok (.iload 8, 2) := by decide +kernel
theorem dX11_free_267 : decode cX11_free 267 = .ok (.iload_n 1, 1) := by decide +kernel
theorem dX11_free_268 : decode cX11_free 268 = .ok (.if_icmp .ge 8, 3) := by decide +kernel
theorem dX11_free_271 : decode cX11_free 271 = .ok (.iload 8, 2) := by decide +kernel
theorem dX11_free_273 : decode cX11_free 273 = .ok (.goto 4, 3) := by decide +kernel
theorem dX11_free_276 : decode cX11_free 276 = .ok (.iload_n 1, 1) := by decide +kernel
theorem dX11_free_277 : decode cX11_free 277 = .ok (.istore_n 1, 1) := by decide +kernel
theorem dX11_free_278 : decode cX11_free 278 = .ok (.goto 52, 3) := by decide +kernel
theorem dX11_free_281 : decode cX11_free 281 = .ok (.aload_n 0, 1) := by decide +kernel
theorem dX11_free_282 : decode cX11_free 282 = .ok (.getfield 38, 3) := by decide +kernel
theorem dX11_free_285 : decode cX11_free 285 = .ok (.bipush 8, 2) := by decide +kernel
theorem dX11_free_287 : decode cX11_free 287 = .ok (.iload 6, 2) := by decide +kernel
theorem dX11_free_289 : decode cX11_free 289 = .ok (.imul, 1) := by decide +kernel
theorem dX11_free_290 : decode cX11_free 290 = .ok (.iload 7, 2) := by decide +kernel
theorem dX11_free_292 : decode cX11_free 292 = .ok (.iadd, 1) := by decide +kernel
theorem dX11_free_293 : decode cX11_free 293 = .ok (.iload 8, 2) := by decide +kernel
theorem dX11_free_295 : decode cX11_free 295 = .ok (.aload_n 0, 1) := by decide +kernel
theorem dX11_free_296 : decode cX11_free 296 = .ok (.getfield 38, 3) := by decide +kernel
theorem dX11_free_299 : decode cX11_free 299 = .ok (.bipush 8, 2) := by decide +kernel
theorem dX11_free_301 : decode cX11_free 301 = .ok (.iload 6, 2) := by decide +kernel
theorem dX11_free_303 : decode cX11_free 303 = .ok (.imul, 1) := by decide +kernel
theorem dX11_free_304 : decode cX11_free 304 = .ok (.iload 7, 2) := by decide +kernel
theorem dX11_free_306 : decode cX11_free 306 = .ok (.iadd, 1) := by decide +kernel
theorem dX11_free_307 : decode cX11_free 307 = .ok (.iaload, 1) := by decide +kernel
theorem dX11_free_308 : decode cX11_free 308 = .ok (.if_icmp .ge 8, 3) := by decide +kernel
theorem dX11_free_311 : decode cX11_free 311 = .ok (.iload 8, 2) := by decide +kernel
theorem dX11_free_313 : decode cX11_free 313 = .ok (.goto 16, 3) := by decide +kernel
theorem dX11_free_316 : decode cX11_free 316 = .ok (.aload_n 0, 1) := by decide +kernel
theorem dX11_free_317 : decode cX11_free 317 = .ok (.getfield 38, 3) := by decide +kernel
theorem dX11_free_320 : decode cX11_free 320 = .ok (.bipush 8, 2) := by decide +kernel
theorem dX11_free_322 : decode cX11_free 322 = .ok (.iload 6, 2) := by decide +kernel
theorem dX11_free_324 : decode cX11_free 324 = .ok (.imul, 1) := by decide +kernel
theorem dX11_free_325 : decode cX11_free 325 = .ok (.iload 7, 2) := by decide +kernel
theorem dX11_free_327 : decode cX11_free 327 = .ok (.iadd, 1) := by decide +kernel
theorem dX11_free_328 : decode cX11_free 328 = .ok (.iaload, 1) := by decide +kernel
theorem dX11_free_329 : decode cX11_free 329 = .ok (.iastore, 1) := by decide +kernel
theorem dX11_free_330 : decode cX11_free 330 = .ok (.iinc 5 1, 3) := by decide +kernel
theorem dX11_free_333 : decode cX11_free 333 = .ok (.goto (-155), 3) := by decide +kernel
theorem dX11_free_336 : decode cX11_free 336 = .ok (.iinc 4 1, 3) := by decide +kernel
theorem dX11_free_339 : decode cX11_free 339 = .ok (.goto (-171), 3) := by decide +kernel
theorem dX11_free_342 : decode cX11_free 342 = .ok (.iconst 0, 1) := by decide +kernel
theorem dX11_free_343 : decode cX11_free 343 = .ok (.istore 4, 2) := by decide +kernel
theorem dX11_free_345 : decode cX11_free 345 = .ok (.iload 4, 2) := by decide +kernel
theorem dX11_free_347 : decode cX11_free 347 = .ok (.bipush 64, 2) := by decide +kernel
theorem dX11_free_349 : decode cX11_free 349 = .ok (.if_icmp .ge 23, 3) := by decide +kernel
theorem dX11_free_352 : decode cX11_free 352 = .ok (.aload_n 0, 1) := by decide +kernel
theorem dX11_free_353 : decode cX11_free 353 = .ok (.getfield 35, 3) := by decide +kernel
theorem dX11_free_356 : decode cX11_free 356 = .ok (.iload 4, 2) := by decide +kernel
theorem dX11_free_358 : decode cX11_free 358 = .ok (.aload_n 0, 1) := by decide +kernel
theorem dX11_free_359 : decode cX11_free 359 = .ok (.getfield 38, 3) := by decide +kernel
theorem dX11_free_362 : decode cX11_free 362 = .ok (.iload 4, 2) := by decide +kernel
theorem dX11_free_364 : decode cX11_free 364 = .ok (.iaload, 1) := by decide +kernel
theorem dX11_free_365 : decode cX11_free 365 = .ok (.iastore, 1) := by decide +kernel
theorem dX11_free_366 : decode cX11_free 366 = .ok (.iinc 4 1, 3) := by decide +kernel
theorem dX11_free_369 : decode cX11_free 369 = .ok (.goto (-24), 3) := by decide +kernel
theorem dX11_free_372 : decode cX11_free 372 = .ok (.iinc 3 1, 3) := by decide +kernel
theorem dX11_free_375 : decode cX11_free 375 = .ok (.goto (-241), 3) := by decide +kernel
theorem dX11_free_378 : decode cX11_free 378 = .ok (.iload_n 1, 1) := by decide +kernel
theorem dX11_free_379 : decode cX11_free 379 = .ok (.ireturn, 1) := by decide +kernel
theorem dX11_isTurning_0 : decode cX11_isTurning 0 = .ok (.aload_n 0, 1) := by decide +kernel
theorem dX11_isTurning_1 : decode cX11_isTurning 1 = .ok (.invokevirtual 73, 3) := by decide +kernel
theorem dX11_isTurning_4 : decode cX11_isTurning 4 = .ok (.istore_n 1, 1) := by decide +kernel
theorem dX11_isTurning_5 : decode cX11_isTurning 5 = .ok (.iconst 0, 1) := by decide +kernel
theorem dX11_isTurning_6 : decode cX11_isTurning 6 = .ok (.istore_n 2, 1) := by decide +kernel
theorem dX11_isTurning_7 : decode cX11_isTurning 7 = .ok (.iload_n 2, 1) := by decide +kernel
theorem dX11_isTurning_8 : decode cX11_isTurning 8 = .ok (.sipush 2048, 3) := by decide +kernel
theorem dX11_isTurning_11 : decode cX11_isTurning 11 = .ok (.if_icmp .ge 16, 3) := by decide +kernel
theorem dX11_isTurning_14 : decode cX11_isTurning 14 = .ok (.aload_n 0, 1) := by decide +kernel
theorem dX11_isTurning_15 : decode cX11_isTurning 15 = .ok (.getfield 41, 3) := by decide +kernel
theorem dX11_isTurning_18 : decode cX11_isTurning 18 = .ok (.iload_n 2, 1) := by decide +kernel
theorem dX11_isTurning_19 : decode cX11_isTurning 19 = .ok (.iconst 0, 1) := by decide +kernel
theorem dX11_isTurning_20 : decode cX11_isTurning 20 = .ok (.bastore, 1) := by decide +kernel
theorem dX11_isTurning_21 : decode cX11_isTurning 21 = .ok (.iinc 2 1, 3) := by decide +kernel
theorem dX11_isTurning_24 : decode cX11_isTurning 24 = .ok (.goto (-17), 3) := by decide +kernel
theorem dX11_isTurning_27 : decode cX11_isTurning 27 = .ok (.iconst 0, 1) := by decide +kernel
theorem dX11_isTurning_28 : decode cX11_isTurning 28 = .ok (.istore_n 2, 1) := by decide +kernel
theorem dX11_isTurning_29 : decode cX11_isTurning 29 = .ok (.iconst 0, 1) := by decide +kernel
theorem dX11_isTurning_30 : decode cX11_isTurning 30 = .ok (.istore_n 3, 1) := by decide +kernel
theorem dX11_isTurning_31 : decode cX11_isTurning 31 = .ok (.iload_n 3, 1) := by decide +kernel
theorem dX11_isTurning_32 : decode cX11_isTurning 32 = .ok (.iload_n 1, 1) := by decide +kernel
theorem dX11_isTurning_33 : decode cX11_isTurning 33 = .ok (.if_icmp .ge 41, 3) := by decide +kernel
theorem dX11_isTurning_36 : decode cX11_isTurning 36 = .ok (.aload_n 0, 1) := by decide +kernel
theorem dX11_isTurning_37 : decode cX11_isTurning 37 = .ok (.getfield 44, 3) := by decide +kernel
theorem dX11_isTurning_40 : decode cX11_isTurning 40 = .ok (.iload_n 2, 1) := by decide +kernel
theorem dX11_isTurning_41 : decode cX11_isTurning 41 = .ok (.sipush 256, 3) := by decide +kernel
theorem dX11_isTurning_44 : decode cX11_isTurning 44 = .ok (.iload_n 3, 1) := by decide +kernel
theorem dX11_isTurning_45 : decode cX11_isTurning 45 = .ok (.imul, 1) := by decide +kernel
theorem dX11_isTurning_46 : decode cX11_isTurning 46 = .ok (.iconst 1, 1) := by decide +kernel
theorem dX11_isTurning_47 : decode cX11_isTurning 47 = .ok (.iload_n 1, 1) := by decide +kernel
theorem dX11_isTurning_48 : decode cX11_isTurning 48 = .ok (.ishl, 1) := by decide +kernel
theorem dX11_isTurning_49 : decode cX11_isTurning 49 = .ok (.iadd, 1) := by decide +kernel
theorem dX11_isTurning_50 : decode cX11_isTurning 50 = .ok (.iconst 1, 1) := by decide +kernel
theorem dX11_isTurning_51 : decode cX11_isTurning 51 = .ok (.isub, 1) := by decide +kernel
theorem dX11_isTurning_52 : decode cX11_isTurning 52 = .ok (.iastore, 1) := by decide +kernel
theorem dX11_isTurning_53 : decode cX11_isTurning 53 = .ok (.aload_n 0, 1) := by decide +kernel
theorem dX11_isTurning_54 : decode cX11_isTurning 54 = .ok (.getfield 41, 3) := by decide +kernel
theorem dX11_isTurning_57 : decode cX11_isTurning 57 = .ok (.aload_n 0, 1) := by decide +kernel
theorem dX11_isTurning_58 : decode cX11_isTurning 58 = .ok (.getfield 44, 3) := by decide +kernel
theorem dX11_isTurning_61 : decode cX11_isTurning 61 = .ok (.iload_n 2, 1) := by decide +kernel
theorem dX11_isTurning_62 : decode cX11_isTurning 62 = .ok (.iaload, 1) := by decide +kernel
theorem dX11_isTurning_63 : decode cX11_isTurning 63 = .ok (.iconst 1, 1) := by decide +kernel
theorem dX11_isTurning_64 : decode cX11_isTurning 64 = .ok (.bastore, 1) := by decide +kernel
theorem dX11_isTurning_65 : decode cX11_isTurning 65 = .ok (.iinc 2 1, 3) := by decide +kernel
theorem dX11_isTurning_68 : decode cX11_isTurning 68 = .ok (.iinc 3 1, 3) := by decide +kernel
theorem dX11_isTurning_71 : decode cX11_isTurning 71 = .ok (.goto (-40), 3) := by decide +kernel
theorem dX11_isTurning_74 : decode cX11_isTurning 74 = .ok (.iconst 0, 1) := by decide +kernel
theorem dX11_isTurning_75 : decode cX11_isTurning 75 = .ok (.istore_n 3, 1) := by decide +kernel
theorem dX11_isTurning_76 : decode cX11_isTurning 76 = .ok (.iload_n 3, 1) := by decide +kernel
theorem dX11_isTurning_77 : decode cX11_isTurning 77 = .ok (.iload_n 2, 1) := by decide +kernel
theorem dX11_isTurning_78 : decode cX11_isTurning 78 = .ok (.if_icmp .ge 199, 3) := by decide +kernel
theorem dX11_isTurning_81 : decode cX11_isTurning 81 = .ok (.aload_n 0, 1) := by decide +kernel
theorem dX11_isTurning_82 : decode cX11_isTurning 82 = .ok (.getfield 44, 3) := by decide +kernel
theorem dX11_isTurning_85 : decode cX11_isTurning 85 = .ok (.iload_n 3, 1) := by decide +kernel
theorem dX11_isTurning_86 : decode cX11_isTurning 86 = .ok (.iaload, 1) := by decide +kernel
theorem dX11_isTurning_87 : decode cX11_isTurning 87 = .ok (.sipush 256, 3) := by decide +kernel
theorem dX11_isTurning_90 : decode cX11_isTurning 90 = .ok (.idiv, 1) := by decide +kernel
theorem dX11_isTurning_91 : decode cX11_isTurning 91 = .ok (.istore 4, 2) := by decide +kernel
theorem dX11_isTurning_93 : decode cX11_isTurning 93 = .ok (.aload_n 0, 1) := by decide +kernel
theorem dX11_isTurning_94 : decode cX11_isTurning 94 = .ok (.getfield 44, 3) := by decide +kernel
theorem dX11_isTurning_97 : decode cX11_isTurning 97 = .ok (.iload_n 3, 1) := by decide +kernel
theorem dX11_isTurning_98 : decode cX11_isTurning 98 = .ok (.iaload, 1) := by decide +kernel
theorem dX11_isTurning_99 : decode cX11_isTurning 99 = .ok (.sipush 256, 3) := by decide +kernel
theorem dX11_isTurning_102 : decode cX11_isTurning 102 = .ok (.irem, 1) := by decide +kernel
theorem dX11_isTurning_103 : decode cX11_isTurning 103 = .ok (.istore 5, 2) := by decide +kernel
theorem dX11_isTurning_105 : decode cX11_isTurning 105 = .ok (.iconst 0, 1) := by decide +kernel
theorem dX11_isTurning_106 : decode cX11_isTurning 106 = .ok (.istore 6, 2) := by decide +kernel
theorem dX11_isTurning_108 : decode cX11_isTurning 108 = .ok (.iload 6, 2) := by decide +kernel
theorem dX11_isTurning_110 : decode cX11_isTurning 110 = .ok (.iconst 2, 1) := by decide +kernel
theorem dX11_isTurning_111 : decode cX11_isTurning 111 = .ok (.if_icmp .ge 160, 3) := by decide +kernel
theorem dX11_isTurning_114 : decode cX11_isTurning 114 = .ok (.aload_n 0, 1) := by decide +kernel
theorem dX11_isTurning_115 : decode cX11_isTurning 115 = .ok (.iload 4, 2) := by decide +kernel
theorem dX11_isTurning_117 : decode cX11_isTurning 117 = .ok (.iload 6, 2) := by decide +kernel
theorem dX11_isTurning_119 : decode cX11_isTurning 119 = .ok (.invokevirtual 94, 3) := by decide +kernel
theorem dX11_isTurning_122 : decode cX11_isTurning 122 = .ok (.invokestatic 148, 3) := by decide +kernel
theorem dX11_isTurning_125 : decode cX11_isTurning 125 = .ok (.istore 7, 2) := by decide +kernel
theorem dX11_isTurning_127 : decode cX11_isTurning 127 = .ok (.iconst 0, 1) := by decide +kernel
theorem dX11_isTurning_128 : decode cX11_isTurning 128 = .ok (.istore 8, 2) := by decide +kernel
theorem dX11_isTurning_130 : decode cX11_isTurning 130 = .ok (.iconst 0, 1) := by decide +kernel
theorem dX11_isTurning_131 : decode cX11_isTurning 131 = .ok (.istore 9, 2) := by decide +kernel
theorem dX11_isTurning_133 : decode cX11_isTurning 133 = .ok (.iload 9, 2) := by decide +kernel
theorem dX11_isTurning_135 : decode cX11_isTurning 135 = .ok (.iconst 2, 1) := by decide +kernel
theorem dX11_isTurning_136 : decode cX11_isTurning 136 = .ok (.iload_n 1, 1) := by decide +kernel
theorem dX11_isTurning_137 : decode cX11_isTurning 137 = .ok (.imul, 1) := by decide +kernel
theorem dX11_isTurning_138 : decode cX11_isTurning 138 = .ok (.if_icmp .ge 74, 3) := by decide +kernel
theorem dX11_isTurning_141 : decode cX11_isTurning 141 = .ok (.iload 5, 2) := by decide +kernel
theorem dX11_isTurning_143 : decode cX11_isTurning 143 = .ok (.iload 9, 2) := by decide +kernel
theorem dX11_isTurning_145 : decode cX11_isTurning 145 = .ok (.iconst 2, 1) := by decide +kernel
theorem dX11_isTurning_146 : decode cX11_isTurning 146 = .ok (.idiv, 1) := by decide +kernel
theorem dX11_isTurning_147 : decode cX11_isTurning 147 = .ok (.ishr, 1) := by decide +kernel
theorem dX11_isTurning_148 : decode cX11_isTurning 148 = .ok (.iconst 1, 1) := by decide +kernel
theorem dX11_isTurning_149 : decode cX11_isTurning 149 = .ok (.iand, 1) := by decide +kernel
theorem dX11_isTurning_150 : decode cX11_isTurning 150 = .ok (.iconst 1, 1) := by decide +kernel
theorem dX11_isTurning_151 : decode cX11_isTurning 151 = .ok (.if_icmp .ne 24, 3) := by decide +kernel
theorem dX11_isTurning_154 : decode cX11_isTurning 154 = .ok (.aload_n 0, 1) := by decide +kernel
theorem dX11_isTurning_155 : decode cX11_isTurning 155 = .ok (.iload 9, 2) := by decide +kernel
theorem dX11_isTurning_157 : decode cX11_isTurning 157 = .ok (.iconst 2, 1) := by decide +kernel
theorem dX11_isTurning_158 : decode cX11_isTurning 158 = .ok (.idiv, 1) := by decide +kernel
theorem dX11_isTurning_159 : decode cX11_isTurning 159 = .ok (.iload 9, 2) := by decide +kernel
theorem dX11_isTurning_161 : decode cX11_isTurning 161 = .ok (.iconst 2, 1) := by decide +kernel
theorem dX11_isTurning_162 : decode cX11_isTurning 162 = .ok (.irem, 1) := by decide +kernel
theorem dX11_isTurning_163 : decode cX11_isTurning 163 = .ok (.invokevirtual 94, 3) := by decide +kernel
theorem dX11_isTurning_166 : decode cX11_isTurning 166 = .ok (.iload 7, 2) := by decide +kernel
theorem dX11_isTurning_168 : decode cX11_isTurning 168 = .ok (.if_icmp .ne 7, 3) := by decide +kernel
theorem dX11_isTurning_171 : decode cX11_isTurning 171 = .ok (.iconst 1, 1) := by decide +kernel
theorem dX11_isTurning_172 : decode cX11_isTurning 172 = .ok (.goto 4, 3) := by decide +kernel
theorem dX11_isTurning_175 : decode cX11_isTurning 175 = .ok (.iconst 0, 1) := by decide +kernel
theorem dX11_isTurning_176 : decode cX11_isTurning 176 = .ok (.istore 10, 2) := by decide +kernel
theorem dX11_isTurning_178 : decode cX11_isTurning 178 = .ok (.iload 8, 2) := by decide +kernel
theorem dX11_isTurning_180 : decode cX11_isTurning 180 = .ok (.iload 10, 2) := by decide +kernel
theorem dX11_isTurning_182 : decode cX11_isTurning 182 = .ok (.ifCond .eq 20, 3) := by decide +kernel
theorem dX11_isTurning_185 : decode cX11_isTurning 185 = .ok (.iconst 1, 1) := by decide +kernel
theorem dX11_isTurning_186 : decode cX11_isTurning 186 = .ok (.aload_n 0, 1) := by decide +kernel
theorem dX11_isTurning_187 : decode cX11_isTurning 187 = .ok (.iload 9, 2) := by decide +kernel
theorem dX11_isTurning_189 : decode cX11_isTurning 189 = .ok (.iconst 2, 1) := by decide +kernel
theorem dX11_isTurning_190 : decode cX11_isTurning 190 = .ok (.idiv, 1) := by decide +kernel
theorem dX11_isTurning_191 : decode cX11_isTurning 191 = .ok (.iload 9, 2) := by decide +kernel
theorem dX11_isTurning_193 : decode cX11_isTurning 193 = .ok (.iconst 2, 1) := by decide +kernel
theorem dX11_isTurning_194 : decode cX11_isTurning 194 = .ok (.irem, 1) := by decide +kernel
theorem dX11_isTurning_195 : decode cX11_isTurning 195 = .ok (.invokevirtual 88, 3) := by decide +kernel
theorem dX11_isTurning_198 : decode cX11_isTurning 198 = .ok (.ishl, 1) := by decide +kernel
theorem dX11_isTurning_199 : decode cX11_isTurning 199 = .ok (.goto 4, 3) := by decide +kernel
theorem dX11_isTurning_202 : decode cX11_isTurning 202 = .ok (.iconst 0, 1) := by decide +kernel
theorem dX11_isTurning_203 : decode cX11_isTurning 203 = .ok (.ior, 1) := by decide +kernel
theorem dX11_isTurning_204 : decode cX11_isTurning 204 = .ok (.istore 8, 2) := by decide +kernel
theorem dX11_isTurning_206 : decode cX11_isTurning 206 = .ok (.iinc 9 1, 3) := by decide +kernel
theorem dX11_isTurning_209 : decode cX11_isTurning 209 = .ok (.goto (-76), 3) := by decide +kernel
theorem dX11_isTurning_212 : decode cX11_isTurning 212 = .ok (.iload 8, 2) := by decide +kernel
theorem dX11_isTurning_214 : decode cX11_isTurning 214 = .ok (.ifCond .ne 5, 3) := by decide +kernel
theorem dX11_isTurning_217 : decode cX11_isTurning 217 = .ok (.iconst 0, 1) := by decide +kernel
theorem dX11_isTurning_218 : decode cX11_isTurning 218 = .ok (.ireturn, 1) := by decide +kernel
theorem dX11_isTurning_219 : decode cX11_isTurning 219 = .ok (.sipush 256, 3) := by decide +kernel
theorem dX11_isTurning_222 : decode cX11_isTurning 222 = .ok (.aload_n 0, 1) := by decide +kernel
theorem dX11_isTurning_223 : decode cX11_isTurning 223 = .ok (.iload 4, 2) := by decide +kernel
theorem dX11_isTurning_225 : decode cX11_isTurning 225 = .ok (.iload 6, 2) := by decide +kernel
theorem dX11_isTurning_227 : decode cX11_isTurning 227 = .ok (.invokevirtual 88, 3) := by decide +kernel
theorem dX11_isTurning_230 : decode cX11_isTurning 230 = .ok (.imul, 1) := by decide +kernel
theorem dX11_isTurning_231 : decode cX11_isTurning 231 = .ok (.iload 8, 2) := by decide +kernel
theorem dX11_isTurning_233 : decode cX11_isTurning 233 = .ok (.iadd, 1) := by decide +kernel
theorem dX11_isTurning_234 : decode cX11_isTurning 234 = .ok (.istore 9, 2) := by decide +kernel
theorem dX11_isTurning_236 : decode cX11_isTurning 236 = .ok (.aload_n 0, 1) := by decide +kernel
theorem dX11_isTurning_237 : decode cX11_isTurning 237 = .ok (.getfield 41, 3) := by decide +kernel
theorem dX11_isTurning_240 : decode cX11_isTurning 240 = .ok (.iload 9, 2) := by decide +kernel
theorem dX11_isTurning_242 : decode cX11_isTurning 242 = .ok (.baload, 1) := by decide +kernel
theorem dX11_isTurning_243 : decode cX11_isTurning 243 = .ok (.ifCond .ne 22, 3) := by decide +kernel
theorem dX11_isTurning_246 : decode cX11_isTurning 246 = .ok (.aload_n 0, 1) := by decide +kernel
theorem dX11_isTurning_247 : decode cX11_isTurning 247 = .ok (.getfield 41, 3) := by decide +kernel
theorem dX11_isTurning_250 : decode cX11_isTurning 250 = .ok (.iload 9, 2) := by decide +kernel
theorem dX11_isTurning_252 : decode cX11_isTurning 252 = .ok (.iconst 1, 1) := by decide +kernel
theorem dX11_isTurning_253 : decode cX11_isTurning 253 = .ok (.bastore, 1) := by decide +kernel
theorem dX11_isTurning_254 : decode cX11_isTurning 254 = .ok (.aload_n 0, 1) := by decide +kernel
theorem dX11_isTurning_255 : decode cX11_isTurning 255 = .ok (.getfield 44, 3) := by decide +kernel
theorem dX11_isTurning_258 : decode cX11_isTurning 258 = .ok (.iload_n 2, 1) := by decide +kernel
theorem dX11_isTurning_259 : decode cX11_isTurning 259 = .ok (.iload 9, 2) := by decide +kernel
theorem dX11_isTurning_261 : decode cX11_isTurning 261 = .ok (.iastore, 1) := by decide +kernel
theorem dX11_isTurning_262 : decode cX11_isTurning 262 = .ok (.iinc 2 1, 3) := by decide +kernel
theorem dX11_isTurning_265 : decode cX11_isTurning 265 = .ok (.iinc 6 1, 3) := by decide +kernel
theorem dX11_isTurning_268 : decode cX11_isTurning 268 = .ok (.goto (-160), 3) := by decide +kernel
theorem dX11_isTurning_271 : decode cX11_isTurning 271 = .ok (.iinc 3 1, 3) := by decide +kernel
theorem dX11_isTurning_274 : decode cX11_isTurning 274 = .ok (.goto (-198), 3) := by decide +kernel
theorem dX11_isTurning_277 : decode cX11_isTurning 277 = .ok (.iconst 1, 1) := by decide +kernel
theorem dX11_isTurning_278 : decode cX11_isTurning 278 = .ok (.ireturn, 1) := by decide +kernel
theorem dX11_told_0 : decode cX11_told 0 = .ok (.iload_n 1, 1) := by decide +kernel
theorem dX11_told_1 : decode cX11_told 1 = .ok (.tableswitch 165 0 13 #[71, 71, 71, 78, 83, 90, 97, 108, 115, 132, 137, 142, 155, 160], 71) := by decide +kernel
theorem dX11_told_72 : decode cX11_told 72 = .ok (.aload_n 0, 1) := by decide +kernel
theorem dX11_told_73 : decode cX11_told 73 = .ok (.getfield 7, 3) := by decide +kernel
theorem dX11_told_76 : decode cX11_told 76 = .ok (.iload_n 1, 1) := by decide +kernel
theorem dX11_told_77 : decode cX11_told 77 = .ok (.iaload, 1) := by decide +kernel
theorem dX11_told_78 : decode cX11_told 78 = .ok (.ireturn, 1) := by decide +kernel
theorem dX11_told_79 : decode cX11_told 79 = .ok (.aload_n 0, 1) := by decide +kernel
theorem dX11_told_80 : decode cX11_told 80 = .ok (.invokevirtual 73, 3) := by decide +kernel
theorem dX11_told_83 : decode cX11_told 83 = .ok (.ireturn, 1) := by decide +kernel
theorem dX11_told_84 : decode cX11_told 84 = .ok (.aload_n 0, 1) := by decide +kernel
theorem dX11_told_85 : decode cX11_told 85 = .ok (.getfield 7, 3) := by decide +kernel
theorem dX11_told_88 : decode cX11_told 88 = .ok (.iconst 4, 1) := by decide +kernel
theorem dX11_told_89 : decode cX11_told 89 = .ok (.iaload, 1) := by decide +kernel
theorem dX11_told_90 : decode cX11_told 90 = .ok (.ireturn, 1) := by decide +kernel
theorem dX11_told_91 : decode cX11_told 91 = .ok (.aload_n 0, 1) := by decide +kernel
theorem dX11_told_92 : decode cX11_told 92 = .ok (.getfield 7, 3) := by decide +kernel
theorem dX11_told_95 : decode cX11_told 95 = .ok (.iconst 5, 1) := by decide +kernel
theorem dX11_told_96 : decode cX11_told 96 = .ok (.iaload, 1) := by decide +kernel
theorem dX11_told_97 : decode cX11_told 97 = .ok (.ireturn, 1) := by decide +kernel
theorem dX11_told_98 : decode cX11_told 98 = .ok (.aload_n 0, 1) := by decide +kernel
theorem dX11_told_99 : decode cX11_told 99 = .ok (.aload_n 0, 1) := by decide +kernel
theorem dX11_told_100 : decode cX11_told 100 = .ok (.getfield 7, 3) := by decide +kernel
theorem dX11_told_103 : decode cX11_told 103 = .ok (.iconst 4, 1) := by decide +kernel
theorem dX11_told_104 : decode cX11_told 104 = .ok (.iaload, 1) := by decide +kernel
theorem dX11_told_105 : decode cX11_told 105 = .ok (.invokevirtual 91, 3) := by decide +kernel
theorem dX11_told_108 : decode cX11_told 108 = .ok (.ireturn, 1) := by decide +kernel
theorem dX11_told_109 : decode cX11_told 109 = .ok (.aload_n 0, 1) := by decide +kernel
theorem dX11_told_110 : decode cX11_told 110 = .ok (.getfield 7, 3) := by decide +kernel
theorem dX11_told_113 : decode cX11_told 113 = .ok (.iconst 3, 1) := by decide +kernel
theorem dX11_told_114 : decode cX11_told 114 = .ok (.iaload, 1) := by decide +kernel
theorem dX11_told_115 : decode cX11_told 115 = .ok (.ireturn, 1) := by decide +kernel
theorem dX11_told_116 : decode cX11_told 116 = .ok (.aload_n 0, 1) := by decide +kernel
theorem dX11_told_117 : decode cX11_told 117 = .ok (.aload_n 0, 1) := by decide +kernel
theorem dX11_told_118 : decode cX11_told 118 = .ok (.getfield 7, 3) := by decide +kernel
theorem dX11_told_121 : decode cX11_told 121 = .ok (.iconst 5, 1) := by decide +kernel
theorem dX11_told_122 : decode cX11_told 122 = .ok (.iaload, 1) := by decide +kernel
theorem dX11_told_123 : decode cX11_told 123 = .ok (.aload_n 0, 1) := by decide +kernel
theorem dX11_told_124 : decode cX11_told 124 = .ok (.getfield 7, 3) := by decide +kernel
theorem dX11_told_127 : decode cX11_told 127 = .ok (.iconst 3, 1) := by decide +kernel
theorem dX11_told_128 : decode cX11_told 128 = .ok (.iaload, 1) := by decide +kernel
theorem dX11_told_129 : decode cX11_told 129 = .ok (.invokevirtual 136, 3) := by decide +kernel
theorem dX11_told_132 : decode cX11_told 132 = .ok (.ireturn, 1) := by decide +kernel
theorem dX11_told_133 : decode cX11_told 133 = .ok (.aload_n 0, 1) := by decide +kernel
theorem dX11_told_134 : decode cX11_told 134 = .ok (.invokevirtual 151, 3) := by decide +kernel
theorem dX11_told_137 : decode cX11_told 137 = .ok (.ireturn, 1) := by decide +kernel
theorem dX11_told_138 : decode cX11_told 138 = .ok (.aload_n 0, 1) := by decide +kernel
theorem dX11_told_139 : decode cX11_told 139 = .ok (.invokevirtual 154, 3) := by decide +kernel
theorem dX11_told_142 : decode cX11_told 142 = .ok (.ireturn, 1) := by decide +kernel
theorem dX11_told_143 : decode cX11_told 143 = .ok (.aload_n 0, 1) := by decide +kernel
theorem dX11_told_144 : decode cX11_told 144 = .ok (.invokevirtual 157, 3) := by decide +kernel
theorem dX11_told_147 : decode cX11_told 147 = .ok (.ifCond .eq 7, 3) := by decide +kernel
theorem dX11_told_150 : decode cX11_told 150 = .ok (.iconst 1, 1) := by decide +kernel
theorem dX11_told_151 : decode cX11_told 151 = .ok (.goto 4, 3) := by decide +kernel
theorem dX11_told_154 : decode cX11_told 154 = .ok (.iconst 0, 1) := by decide +kernel
theorem dX11_told_155 : decode cX11_told 155 = .ok (.ireturn, 1) := by decide +kernel
theorem dX11_told_156 : decode cX11_told 156 = .ok (.aload_n 0, 1) := by decide +kernel
theorem dX11_told_157 : decode cX11_told 157 = .ok (.invokevirtual 161, 3) := by decide +kernel
theorem dX11_told_160 : decode cX11_told 160 = .ok (.ireturn, 1) := by decide +kernel
theorem dX11_told_161 : decode cX11_told 161 = .ok (.aload_n 0, 1) := by decide +kernel
theorem dX11_told_162 : decode cX11_told 162 = .ok (.getfield 80, 3) := by decide +kernel
theorem dX11_told_165 : decode cX11_told 165 = .ok (.ireturn, 1) := by decide +kernel
theorem dX11_told_166 : decode cX11_told 166 = .ok (.ldc 84, 2) := by decide +kernel
theorem dX11_told_168 : decode cX11_told 168 = .ok (.ireturn, 1) := by decide +kernel
theorem dX11_point_0 : decode cX11_point 0 = .ok (.iload_n 1, 1) := by decide +kernel
theorem dX11_point_1 : decode cX11_point 1 = .ok (.invokestatic 164, 3) := by decide +kernel
theorem dX11_point_4 : decode cX11_point 4 = .ok (.ifCond .ne 6, 3) := by decide +kernel
theorem dX11_point_7 : decode cX11_point 7 = .ok (.ldc 127, 2) := by decide +kernel
theorem dX11_point_9 : decode cX11_point 9 = .ok (.ireturn, 1) := by decide +kernel
theorem dX11_point_10 : decode cX11_point 10 = .ok (.iload_n 2, 1) := by decide +kernel
theorem dX11_point_11 : decode cX11_point 11 = .ok (.tableswitch 58 0 4 #[33, 38, 43, 48, 53], 33) := by decide +kernel
theorem dX11_point_44 : decode cX11_point 44 = .ok (.iload_n 1, 1) := by decide +kernel
theorem dX11_point_45 : decode cX11_point 45 = .ok (.invokestatic 51, 3) := by decide +kernel
theorem dX11_point_48 : decode cX11_point 48 = .ok (.ireturn, 1) := by decide +kernel
theorem dX11_point_49 : decode cX11_point 49 = .ok (.iload_n 1, 1) := by decide +kernel
theorem dX11_point_50 : decode cX11_point 50 = .ok (.invokestatic 54, 3) := by decide +kernel
theorem dX11_point_53 : decode cX11_point 53 = .ok (.ireturn, 1) := by decide +kernel
theorem dX11_point_54 : decode cX11_point 54 = .ok (.iload_n 1, 1) := by decide +kernel
theorem dX11_point_55 : decode cX11_point 55 = .ok (.invokestatic 47, 3) := by decide +kernel
theorem dX11_point_58 : decode cX11_point 58 = .ok (.ireturn, 1) := by decide +kernel
theorem dX11_point_59 : decode cX11_point 59 = .ok (.iload_n 1, 1) := by decide +kernel
theorem dX11_point_60 : decode cX11_point 60 = .ok (.invokestatic 167, 3) := by decide +kernel
theorem dX11_point_63 : decode cX11_point 63 = .ok (.ireturn, 1) := by decide +kernel
theorem dX11_point_64 : decode cX11_point 64 = .ok (.iload_n 1, 1) := by decide +kernel
theorem dX11_point_65 : decode cX11_point 65 = .ok (.invokestatic 66, 3) := by decide +kernel
theorem dX11_point_68 : decode cX11_point 68 = .ok (.ireturn, 1) := by decide +kernel
theorem dX11_point_69 : decode cX11_point 69 = .ok (.ldc 84, 2) := by decide +kernel
theorem dX11_point_71 : decode cX11_point 71 = .ok (.ireturn, 1) := by decide +kernel
theorem dX11_member_0 : decode cX11_member 0 = .ok (.iload_n 1, 1) := by decide +kernel
theorem dX11_member_1 : decode cX11_member 1 = .ok (.invokestatic 170, 3) := by decide +kernel
theorem dX11_member_4 : decode cX11_member 4 = .ok (.ifCond .ne 8, 3) := by decide +kernel
theorem dX11_member_7 : decode cX11_member 7 = .ok (.ldc 127, 2) := by decide +kernel
theorem dX11_member_9 : decode cX11_member 9 = .ok (.goto 22, 3) := by decide +kernel
theorem dX11_member_12 : decode cX11_member 12 = .ok (.iload_n 2, 1) := by decide +kernel
theorem dX11_member_13 : decode cX11_member 13 = .ok (.iconst 0, 1) := by decide +kernel
theorem dX11_member_14 : decode cX11_member 14 = .ok (.iconst 3, 1) := by decide +kernel
theorem dX11_member_15 : decode cX11_member 15 = .ok (.invokestatic 69, 3) := by decide +kernel
theorem dX11_member_18 : decode cX11_member 18 = .ok (.ifCond .eq 11, 3) := by decide +kernel
theorem dX11_member_21 : decode cX11_member 21 = .ok (.iload_n 1, 1) := by decide +kernel
theorem dX11_member_22 : decode cX11_member 22 = .ok (.iload_n 2, 1) := by decide +kernel
theorem dX11_member_23 : decode cX11_member 23 = .ok (.invokestatic 62, 3) := by decide +kernel
theorem dX11_member_26 : decode cX11_member 26 = .ok (.goto 5, 3) := by decide +kernel
theorem dX11_member_29 : decode cX11_member 29 = .ok (.ldc 84, 2) := by decide +kernel
theorem dX11_member_31 : decode cX11_member 31 = .ok (.ireturn, 1) := by decide +kernel
theorem dX11_apart_0 : decode cX11_apart 0 = .ok (.iload_n 1, 1) := by decide +kernel
theorem dX11_apart_1 : decode cX11_apart 1 = .ok (.invokestatic 170, 3) := by decide +kernel
theorem dX11_apart_4 : decode cX11_apart 4 = .ok (.ifCond .eq 18, 3) := by decide +kernel
theorem dX11_apart_7 : decode cX11_apart 7 = .ok (.iload_n 2, 1) := by decide +kernel
theorem dX11_apart_8 : decode cX11_apart 8 = .ok (.invokestatic 170, 3) := by decide +kernel
theorem dX11_apart_11 : decode cX11_apart 11 = .ok (.ifCond .eq 11, 3) := by decide +kernel
theorem dX11_apart_14 : decode cX11_apart 14 = .ok (.iload_n 1, 1) := by decide +kernel
theorem dX11_apart_15 : decode cX11_apart 15 = .ok (.iload_n 2, 1) := by decide +kernel
theorem dX11_apart_16 : decode cX11_apart 16 = .ok (.invokestatic 142, 3) := by decide +kernel
theorem dX11_apart_19 : decode cX11_apart 19 = .ok (.goto 5, 3) := by decide +kernel
