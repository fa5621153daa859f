theorem dX9_next_61 : decode cX9_next 61 = .ok (.getfield 214, 3) := by decide +kernel
theorem dX9_next_64 : decode cX9_next 64 = .ok (.aload_n 0, 1) := by decide +kernel
theorem dX9_next_65 : decode cX9_next 65 = .ok (.getfield 217, 3) := by decide +kernel
theorem dX9_next_68 : decode cX9_next 68 = .ok (.if_icmp .ne 9, 3) := by decide +kernel
theorem dX9_next_71 : decode cX9_next 71 = .ok (.aload_n 0, 1) := by decide +kernel
theorem dX9_next_72 : decode cX9_next 72 = .ok (.iconst 0, 1) := by decide +kernel
theorem dX9_next_73 : decode cX9_next 73 = .ok (.putfield 223, 3) := by decide +kernel
theorem dX9_next_76 : decode cX9_next 76 = .ok (.return_, 1) := by decide +kernel
theorem dX9_next_77 : decode cX9_next 77 = .ok (.aload_n 0, 1) := by decide +kernel
theorem dX9_next_78 : decode cX9_next 78 = .ok (.getfield 16, 3) := by decide +kernel
theorem dX9_next_81 : decode cX9_next 81 = .ok (.aload_n 0, 1) := by decide +kernel
theorem dX9_next_82 : decode cX9_next 82 = .ok (.getfield 214, 3) := by decide +kernel
theorem dX9_next_85 : decode cX9_next 85 = .ok (.baload, 1) := by decide +kernel
theorem dX9_next_86 : decode cX9_next 86 = .ok (.istore_n 1, 1) := by decide +kernel
theorem dX9_next_87 : decode cX9_next 87 = .ok (.iload_n 1, 1) := by decide +kernel
theorem dX9_next_88 : decode cX9_next 88 = .ok (.invokestatic 226, 3) := by decide +kernel
theorem dX9_next_91 : decode cX9_next 91 = .ok (.ifCond .eq 120, 3) := by decide +kernel
theorem dX9_next_94 : decode cX9_next 94 = .ok (.lconst 0, 1) := by decide +kernel
theorem dX9_next_95 : decode cX9_next 95 = .ok (.lstore_n 2, 1) := by decide +kernel
theorem dX9_next_96 : decode cX9_next 96 = .ok (.iconst 0, 1) := by decide +kernel
theorem dX9_next_97 : decode cX9_next 97 = .ok (.istore 4, 2) := by decide +kernel
theorem dX9_next_99 : decode cX9_next 99 = .ok (.aload_n 0, 1) := by decide +kernel
theorem dX9_next_100 : decode cX9_next 100 = .ok (.getfield 214, 3) := by decide +kernel
theorem dX9_next_103 : decode cX9_next 103 = .ok (.aload_n 0, 1) := by decide +kernel
theorem dX9_next_104 : decode cX9_next 104 = .ok (.getfield 217, 3) := by decide +kernel
theorem dX9_next_107 : decode cX9_next 107 = .ok (.if_icmp .ge 66, 3) := by decide +kernel
theorem dX9_next_110 : decode cX9_next 110 = .ok (.aload_n 0, 1) := by decide +kernel
theorem dX9_next_111 : decode cX9_next 111 = .ok (.getfield 16, 3) := by decide +kernel
theorem dX9_next_114 : decode cX9_next 114 = .ok (.aload_n 0, 1) := by decide +kernel
theorem dX9_next_115 : decode cX9_next 115 = .ok (.getfield 214, 3) := by decide +kernel
theorem dX9_next_118 : decode cX9_next 118 = .ok (.baload, 1) := by decide +kernel
theorem dX9_next_119 : decode cX9_next 119 = .ok (.invokestatic 226, 3) := by decide +kernel
theorem dX9_next_122 : decode cX9_next 122 = .ok (.ifCond .eq 51, 3) := by decide +kernel
theorem dX9_next_125 : decode cX9_next 125 = .ok (.iload 4, 2) := by decide +kernel
theorem dX9_next_127 : decode cX9_next 127 = .ok (.bipush 9, 2) := by decide +kernel
theorem dX9_next_129 : decode cX9_next 129 = .ok (.if_icmp .ge 26, 3) := by decide +kernel
theorem dX9_next_132 : decode cX9_next 132 = .ok (.ldc2_w 229, 3) := by decide +kernel
theorem dX9_next_135 : decode cX9_next 135 = .ok (.lload_n 2, 1) := by decide +kernel
theorem dX9_next_136 : decode cX9_next 136 = .ok (.lmul, 1) := by decide +kernel
theorem dX9_next_137 : decode cX9_next 137 = .ok (.aload_n 0, 1) := by decide +kernel
theorem dX9_next_138 : decode cX9_next 138 = .ok (.getfield 16, 3) := by decide +kernel
theorem dX9_next_141 : decode cX9_next 141 = .ok (.aload_n 0, 1) := by decide +kernel
theorem dX9_next_142 : decode cX9_next 142 = .ok (.getfield 214, 3) := by decide +kernel
theorem dX9_next_145 : decode cX9_next 145 = .ok (.baload, 1) := by decide +kernel
theorem dX9_next_146 : decode cX9_next 146 = .ok (.i2l, 1) := by decide +kernel
theorem dX9_next_147 : decode cX9_next 147 = .ok (.ladd, 1) := by decide +kernel
theorem dX9_next_148 : decode cX9_next 148 = .ok (.ldc2_w 229, 3) := by decide +kernel
theorem dX9_next_151 : decode cX9_next 151 = .ok (.lsub, 1) := by decide +kernel
theorem dX9_next_152 : decode cX9_next 152 = .ok (.goto 4, 3) := by decide +kernel
theorem dX9_next_155 : decode cX9_next 155 = .ok (.lload_n 2, 1) := by decide +kernel
theorem dX9_next_156 : decode cX9_next 156 = .ok (.lstore_n 2, 1) := by decide +kernel
theorem dX9_next_157 : decode cX9_next 157 = .ok (.iinc 4 1, 3) := by decide +kernel
theorem dX9_next_160 : decode cX9_next 160 = .ok (.aload_n 0, 1) := by decide +kernel
theorem dX9_next_161 : decode cX9_next 161 = .ok (.dup, 1) := by decide +kernel
theorem dX9_next_162 : decode cX9_next 162 = .ok (.getfield 214, 3) := by decide +kernel
theorem dX9_next_165 : decode cX9_next 165 = .ok (.iconst 1, 1) := by decide +kernel
theorem dX9_next_166 : decode cX9_next 166 = .ok (.iadd, 1) := by decide +kernel
theorem dX9_next_167 : decode cX9_next 167 = .ok (.putfield 214, 3) := by decide +kernel
theorem dX9_next_170 : decode cX9_next 170 = .ok (.goto (-71), 3) := by decide +kernel
theorem dX9_next_173 : decode cX9_next 173 = .ok (.aload_n 0, 1) := by decide +kernel
theorem dX9_next_174 : decode cX9_next 174 = .ok (.iload 4, 2) := by decide +kernel
theorem dX9_next_176 : decode cX9_next 176 = .ok (.bipush 8, 2) := by decide +kernel
theorem dX9_next_178 : decode cX9_next 178 = .ok (.if_icmp .le 7, 3) := by decide +kernel
theorem dX9_next_181 : decode cX9_next 181 = .ok (.iconst (-1), 1) := by decide +kernel
theorem dX9_next_182 : decode cX9_next 182 = .ok (.goto 7, 3) := by decide +kernel
theorem dX9_next_185 : decode cX9_next 185 = .ok (.lload_n 2, 1) := by decide +kernel
theorem dX9_next_186 : decode cX9_next 186 = .ok (.invokestatic 231, 3) := by decide +kernel
theorem dX9_next_189 : decode cX9_next 189 = .ok (.putfield 235, 3) := by decide +kernel
theorem dX9_next_192 : decode cX9_next 192 = .ok (.aload_n 0, 1) := by decide +kernel
theorem dX9_next_193 : decode cX9_next 193 = .ok (.aload_n 0, 1) := by decide +kernel
theorem dX9_next_194 : decode cX9_next 194 = .ok (.getfield 235, 3) := by decide +kernel
theorem dX9_next_197 : decode cX9_next 197 = .ok (.ifCond .ge 7, 3) := by decide +kernel
theorem dX9_next_200 : decode cX9_next 200 = .ok (.iconst 4, 1) := by decide +kernel
theorem dX9_next_201 : decode cX9_next 201 = .ok (.goto 4, 3) := by decide +kernel
theorem dX9_next_204 : decode cX9_next 204 = .ok (.iconst 1, 1) := by decide +kernel
theorem dX9_next_205 : decode cX9_next 205 = .ok (.putfield 223, 3) := by decide +kernel
theorem dX9_next_208 : decode cX9_next 208 = .ok (.goto 231, 3) := by decide +kernel
theorem dX9_next_211 : decode cX9_next 211 = .ok (.iload_n 1, 1) := by decide +kernel
theorem dX9_next_212 : decode cX9_next 212 = .ok (.bipush 48, 2) := by decide +kernel
theorem dX9_next_214 : decode cX9_next 214 = .ok (.bipush 57, 2) := by decide +kernel
theorem dX9_next_216 : decode cX9_next 216 = .ok (.invokestatic 126, 3) := by decide +kernel
theorem dX9_next_219 : decode cX9_next 219 = .ok (.ifCond .eq 96, 3) := by decide +kernel
theorem dX9_next_222 : decode cX9_next 222 = .ok (.aload_n 0, 1) := by decide +kernel
theorem dX9_next_223 : decode cX9_next 223 = .ok (.iconst 2, 1) := by decide +kernel
theorem dX9_next_224 : decode cX9_next 224 = .ok (.putfield 223, 3) := by decide +kernel
theorem dX9_next_227 : decode cX9_next 227 = .ok (.aload_n 0, 1) := by decide +kernel
theorem dX9_next_228 : decode cX9_next 228 = .ok (.iconst 0, 1) := by decide +kernel
theorem dX9_next_229 : decode cX9_next 229 = .ok (.putfield 235, 3) := by decide +kernel
theorem dX9_next_232 : decode cX9_next 232 = .ok (.aload_n 0, 1) := by decide +kernel
theorem dX9_next_233 : decode cX9_next 233 = .ok (.getfield 214, 3) := by decide +kernel
theorem dX9_next_236 : decode cX9_next 236 = .ok (.aload_n 0, 1) := by decide +kernel
theorem dX9_next_237 : decode cX9_next 237 = .ok (.getfield 217, 3) := by decide +kernel
theorem dX9_next_240 : decode cX9_next 240 = .ok (.if_icmp .ge 199, 3) := by decide +kernel
theorem dX9_next_243 : decode cX9_next 243 = .ok (.aload_n 0, 1) := by decide +kernel
theorem dX9_next_244 : decode cX9_next 244 = .ok (.getfield 16, 3) := by decide +kernel
theorem dX9_next_247 : decode cX9_next 247 = .ok (.aload_n 0, 1) := by decide +kernel
theorem dX9_next_248 : decode cX9_next 248 = .ok (.getfield 214, 3) := by decide +kernel
theorem dX9_next_251 : decode cX9_next 251 = .ok (.baload, 1) := by decide +kernel
theorem dX9_next_252 : decode cX9_next 252 = .ok (.bipush 48, 2) := by decide +kernel
theorem dX9_next_254 : decode cX9_next 254 = .ok (.bipush 57, 2) := by decide +kernel
theorem dX9_next_256 : decode cX9_next 256 = .ok (.invokestatic 126, 3) := by decide +kernel
theorem dX9_next_259 : decode cX9_next 259 = .ok (.ifCond .eq 180, 3) := by decide +kernel
theorem dX9_next_262 : decode cX9_next 262 = .ok (.aload_n 0, 1) := by decide +kernel
theorem dX9_next_263 : decode cX9_next 263 = .ok (.aload_n 0, 1) := by decide +kernel
theorem dX9_next_264 : decode cX9_next 264 = .ok (.getfield 235, 3) := by decide +kernel
theorem dX9_next_267 : decode cX9_next 267 = .ok (.ldc 238, 2) := by decide +kernel
theorem dX9_next_269 : decode cX9_next 269 = .ok (.if_icmp .le 10, 3) := by decide +kernel
theorem dX9_next_272 : decode cX9_next 272 = .ok (.aload_n 0, 1) := by decide +kernel
theorem dX9_next_273 : decode cX9_next 273 = .ok (.getfield 235, 3) := by decide +kernel
theorem dX9_next_276 : decode cX9_next 276 = .ok (.goto 23, 3) := by decide +kernel
theorem dX9_next_279 : decode cX9_next 279 = .ok (.bipush 10, 2) := by decide +kernel
theorem dX9_next_281 : decode cX9_next 281 = .ok (.aload_n 0, 1) := by decide +kernel
theorem dX9_next_282 : decode cX9_next 282 = .ok (.getfield 235, 3) := by decide +kernel
theorem dX9_next_285 : decode cX9_next 285 = .ok (.imul, 1) := by decide +kernel
theorem dX9_next_286 : decode cX9_next 286 = .ok (.aload_n 0, 1) := by decide +kernel
theorem dX9_next_287 : decode cX9_next 287 = .ok (.getfield 16, 3) := by decide +kernel
theorem dX9_next_290 : decode cX9_next 290 = .ok (.aload_n 0, 1) := by decide +kernel
theorem dX9_next_291 : decode cX9_next 291 = .ok (.getfield 214, 3) := by decide +kernel
theorem dX9_next_294 : decode cX9_next 294 = .ok (.baload, 1) := by decide +kernel
theorem dX9_next_295 : decode cX9_next 295 = .ok (.iadd, 1) := by decide +kernel
theorem dX9_next_296 : decode cX9_next 296 = .ok (.bipush 48, 2) := by decide +kernel
theorem dX9_next_298 : decode cX9_next 298 = .ok (.isub, 1) := by decide +kernel
theorem dX9_next_299 : decode cX9_next 299 = .ok (.putfield 235, 3) := by decide +kernel
theorem dX9_next_302 : decode cX9_next 302 = .ok (.aload_n 0, 1) := by decide +kernel
theorem dX9_next_303 : decode cX9_next 303 = .ok (.dup, 1) := by decide +kernel
theorem dX9_next_304 : decode cX9_next 304 = .ok (.getfield 214, 3) := by decide +kernel
theorem dX9_next_307 : decode cX9_next 307 = .ok (.iconst 1, 1) := by decide +kernel
theorem dX9_next_308 : decode cX9_next 308 = .ok (.iadd, 1) := by decide +kernel
theorem dX9_next_309 : decode cX9_next 309 = .ok (.putfield 214, 3) := by decide +kernel
theorem dX9_next_312 : decode cX9_next 312 = .ok (.goto (-80), 3) := by decide +kernel
theorem dX9_next_315 : decode cX9_next 315 = .ok (.aload_n 0, 1) := by decide +kernel
theorem dX9_next_316 : decode cX9_next 316 = .ok (.dup, 1) := by decide +kernel
theorem dX9_next_317 : decode cX9_next 317 = .ok (.getfield 214, 3) := by decide +kernel
theorem dX9_next_320 : decode cX9_next 320 = .ok (.iconst 1, 1) := by decide +kernel
theorem dX9_next_321 : decode cX9_next 321 = .ok (.iadd, 1) := by decide +kernel
theorem dX9_next_322 : decode cX9_next 322 = .ok (.putfield 214, 3) := by decide +kernel
theorem dX9_next_325 : decode cX9_next 325 = .ok (.aload_n 0, 1) := by decide +kernel
theorem dX9_next_326 : decode cX9_next 326 = .ok (.iload_n 1, 1) := by decide +kernel
theorem dX9_next_327 : decode cX9_next 327 = .ok (.putfield 235, 3) := by decide +kernel
theorem dX9_next_330 : decode cX9_next 330 = .ok (.aload_n 0, 1) := by decide +kernel
theorem dX9_next_331 : decode cX9_next 331 = .ok (.iload_n 1, 1) := by decide +kernel
theorem dX9_next_332 : decode cX9_next 332 = .ok (.bipush 59, 2) := by decide +kernel
theorem dX9_next_334 : decode cX9_next 334 = .ok (.bipush 62, 2) := by decide +kernel
theorem dX9_next_336 : decode cX9_next 336 = .ok (.invokestatic 126, 3) := by decide +kernel
theorem dX9_next_339 : decode cX9_next 339 = .ok (.ifCond .ne 26, 3) := by decide +kernel
theorem dX9_next_342 : decode cX9_next 342 = .ok (.iload_n 1, 1) := by decide +kernel
theorem dX9_next_343 : decode cX9_next 343 = .ok (.bipush 40, 2) := by decide +kernel
theorem dX9_next_345 : decode cX9_next 345 = .ok (.bipush 45, 2) := by decide +kernel
theorem dX9_next_347 : decode cX9_next 347 = .ok (.invokestatic 126, 3) := by decide +kernel
theorem dX9_next_350 : decode cX9_next 350 = .ok (.ifCond .ne 15, 3) := by decide +kernel
theorem dX9_next_353 : decode cX9_next 353 = .ok (.iload_n 1, 1) := by decide +kernel
theorem dX9_next_354 : decode cX9_next 354 = .ok (.bipush 47, 2) := by decide +kernel
theorem dX9_next_356 : decode cX9_next 356 = .ok (.if_icmp .eq 9, 3) := by decide +kernel
theorem dX9_next_359 : decode cX9_next 359 = .ok (.iload_n 1, 1) := by decide +kernel
theorem dX9_next_360 : decode cX9_next 360 = .ok (.bipush 35, 2) := by decide +kernel
theorem dX9_next_362 : decode cX9_next 362 = .ok (.if_icmp .ne 7, 3) := by decide +kernel
theorem dX9_next_365 : decode cX9_next 365 = .ok (.iconst 3, 1) := by decide +kernel
theorem dX9_next_366 : decode cX9_next 366 = .ok (.goto 4, 3) := by decide +kernel
theorem dX9_next_369 : decode cX9_next 369 = .ok (.iconst 4, 1) := by decide +kernel
theorem dX9_next_370 : decode cX9_next 370 = .ok (.putfield 223, 3) := by decide +kernel
theorem dX9_next_373 : decode cX9_next 373 = .ok (.iload_n 1, 1) := by decide +kernel
theorem dX9_next_374 : decode cX9_next 374 = .ok (.bipush 60, 2) := by decide +kernel
theorem dX9_next_376 : decode cX9_next 376 = .ok (.if_icmp .eq 9, 3) := by decide +kernel
theorem dX9_next_379 : decode cX9_next 379 = .ok (.iload_n 1, 1) := by decide +kernel
theorem dX9_next_380 : decode cX9_next 380 = .ok (.bipush 62, 2) := by decide +kernel
theorem dX9_next_382 : decode cX9_next 382 = .ok (.if_icmp .ne 57, 3) := by decide +kernel
theorem dX9_next_385 : decode cX9_next 385 = .ok (.aload_n 0, 1) := by decide +kernel
theorem dX9_next_386 : decode cX9_next 386 = .ok (.getfield 214, 3) := by decide +kernel
theorem dX9_next_389 : decode cX9_next 389 = .ok (.aload_n 0, 1) := by decide +kernel
theorem dX9_next_390 : decode cX9_next 390 = .ok (.getfield 217, 3) := by decide +kernel
theorem dX9_next_393 : decode cX9_next 393 = .ok (.if_icmp .ge 46, 3) := by decide +kernel
theorem dX9_next_396 : decode cX9_next 396 = .ok (.aload_n 0, 1) := by decide +kernel
theorem dX9_next_397 : decode cX9_next 397 = .ok (.getfield 16, 3) := by decide +kernel
theorem dX9_next_400 : decode cX9_next 400 = .ok (.aload_n 0, 1) := by decide +kernel
theorem dX9_next_401 : decode cX9_next 401 = .ok (.getfield 214, 3) := by decide +kernel
theorem dX9_next_404 : decode cX9_next 404 = .ok (.baload, 1) := by decide +kernel
theorem dX9_next_405 : decode cX9_next 405 = .ok (.bipush 61, 2) := by decide +kernel
theorem dX9_next_407 : decode cX9_next 407 = .ok (.if_icmp .ne 32, 3) := by decide +kernel
theorem dX9_next_410 : decode cX9_next 410 = .ok (.aload_n 0, 1) := by decide +kernel
theorem dX9_next_411 : decode cX9_next 411 = .ok (.iload_n 1, 1) := by decide +kernel
theorem dX9_next_412 : decode cX9_next 412 = .ok (.bipush 60, 2) := by decide +kernel
theorem dX9_next_414 : decode cX9_next 414 = .ok (.if_icmp .ne 9, 3) := by decide +kernel
theorem dX9_next_417 : decode cX9_next 417 = .ok (.sipush 300, 3) := by decide +kernel
theorem dX9_next_420 : decode cX9_next 420 = .ok (.goto 6, 3) := by decide +kernel
theorem dX9_next_423 : decode cX9_next 423 = .ok (.sipush 301, 3) := by decide +kernel
theorem dX9_next_426 : decode cX9_next 426 = .ok (.putfield 235, 3) := by decide +kernel
theorem dX9_next_429 : decode cX9_next 429 = .ok (.aload_n 0, 1) := by decide +kernel
theorem dX9_next_430 : decode cX9_next 430 = .ok (.dup, 1) := by decide +kernel
theorem dX9_next_431 : decode cX9_next 431 = .ok (.getfield 214, 3) := by decide +kernel
theorem dX9_next_434 : decode cX9_next 434 = .ok (.iconst 1, 1) := by decide +kernel
theorem dX9_next_435 : decode cX9_next 435 = .ok (.iadd, 1) := by decide +kernel
theorem dX9_next_436 : decode cX9_next 436 = .ok (.putfield 214, 3) := by decide +kernel
theorem dX9_next_439 : decode cX9_next 439 = .ok (.return_, 1) := by decide +kernel
theorem dX9_isSign_0 : decode cX9_isSign 0 = .ok (.aload_n 0, 1) := by decide +kernel
theorem dX9_isSign_1 : decode cX9_isSign 1 = .ok (.getfield 223, 3) := by decide +kernel
theorem dX9_isSign_4 : decode cX9_isSign 4 = .ok (.iconst 3, 1) := by decide +kernel
theorem dX9_isSign_5 : decode cX9_isSign 5 = .ok (.if_icmp .ne 15, 3) := by decide +kernel
theorem dX9_isSign_8 : decode cX9_isSign 8 = .ok (.aload_n 0, 1) := by decide +kernel
theorem dX9_isSign_9 : decode cX9_isSign 9 = .ok (.getfield 235, 3) := by decide +kernel
theorem dX9_isSign_12 : decode cX9_isSign 12 = .ok (.iload_n 1, 1) := by decide +kernel
theorem dX9_isSign_13 : decode cX9_isSign 13 = .ok (.if_icmp .ne 7, 3) := by decide +kernel
theorem dX9_isSign_16 : decode cX9_isSign 16 = .ok (.iconst 1, 1) := by decide +kernel
theorem dX9_isSign_17 : decode cX9_isSign 17 = .ok (.goto 4, 3) := by decide +kernel
theorem dX9_isSign_20 : decode cX9_isSign 20 = .ok (.iconst 0, 1) := by decide +kernel
theorem dX9_isSign_21 : decode cX9_isSign 21 = .ok (.ireturn, 1) := by decide +kernel
theorem dX9_isWord_0 : decode cX9_isWord 0 = .ok (.aload_n 0, 1) := by decide +kernel
theorem dX9_isWord_1 : decode cX9_isWord 1 = .ok (.getfield 223, 3) := by decide +kernel
theorem dX9_isWord_4 : decode cX9_isWord 4 = .ok (.iconst 1, 1) := by decide +kernel
theorem dX9_isWord_5 : decode cX9_isWord 5 = .ok (.if_icmp .ne 15, 3) := by decide +kernel
theorem dX9_isWord_8 : decode cX9_isWord 8 = .ok (.aload_n 0, 1) := by decide +kernel
theorem dX9_isWord_9 : decode cX9_isWord 9 = .ok (.getfield 235, 3) := by decide +kernel
theorem dX9_isWord_12 : decode cX9_isWord 12 = .ok (.iload_n 1, 1) := by decide +kernel
theorem dX9_isWord_13 : decode cX9_isWord 13 = .ok (.if_icmp .ne 7, 3) := by decide +kernel
theorem dX9_isWord_16 : decode cX9_isWord 16 = .ok (.iconst 1, 1) := by decide +kernel
theorem dX9_isWord_17 : decode cX9_isWord 17 = .ok (.goto 4, 3) := by decide +kernel
theorem dX9_isWord_20 : decode cX9_isWord 20 = .ok (.iconst 0, 1) := by decide +kernel
theorem dX9_isWord_21 : decode cX9_isWord 21 = .ok (.ireturn, 1) := by decide +kernel
theorem dX9_errs_0 : decode cX9_errs 0 = .ok (.aload_n 0, 1) := by decide +kernel
theorem dX9_errs_1 : decode cX9_errs 1 = .ok (.getfield 239, 3) := by decide +kernel
theorem dX9_errs_4 : decode cX9_errs 4 = .ok (.ifCond .ne 16, 3) := by decide +kernel
theorem dX9_errs_7 : decode cX9_errs 7 = .ok (.aload_n 0, 1) := by decide +kernel
theorem dX9_errs_8 : decode cX9_errs 8 = .ok (.iload_n 1, 1) := by decide +kernel
theorem dX9_errs_9 : decode cX9_errs 9 = .ok (.putfield 239, 3) := by decide +kernel
theorem dX9_errs_12 : decode cX9_errs 12 = .ok (.aload_n 0, 1) := by decide +kernel
theorem dX9_errs_13 : decode cX9_errs 13 = .ok (.aload_n 0, 1) := by decide +kernel
theorem dX9_errs_14 : decode cX9_errs 14 = .ok (.getfield 220, 3) := by decide +kernel
theorem dX9_errs_17 : decode cX9_errs 17 = .ok (.putfield 242, 3) := by decide +kernel
theorem dX9_errs_20 : decode cX9_errs 20 = .ok (.return_, 1) := by decide +kernel
theorem dX9_emits_0 : decode cX9_emits 0 = .ok (.aload_n 0, 1) := by decide +kernel
theorem dX9_emits_1 : decode cX9_emits 1 = .ok (.getfield 78, 3) := by decide +kernel
theorem dX9_emits_4 : decode cX9_emits 4 = .ok (.aload_n 0, 1) := by decide +kernel
theorem dX9_emits_5 : decode cX9_emits 5 = .ok (.getfield 245, 3) := by decide +kernel
theorem dX9_emits_8 : decode cX9_emits 8 = .ok (.iload_n 1, 1) := by decide +kernel
theorem dX9_emits_9 : decode cX9_emits 9 = .ok (.iastore, 1) := by decide +kernel
theorem dX9_emits_10 : decode cX9_emits 10 = .ok (.aload_n 0, 1) := by decide +kernel
theorem dX9_emits_11 : decode cX9_emits 11 = .ok (.getfield 81, 3) := by decide +kernel
theorem dX9_emits_14 : decode cX9_emits 14 = .ok (.aload_n 0, 1) := by decide +kernel
theorem dX9_emits_15 : decode cX9_emits 15 = .ok (.getfield 245, 3) := by decide +kernel
theorem dX9_emits_18 : decode cX9_emits 18 = .ok (.iload_n 2, 1) := by decide +kernel
theorem dX9_emits_19 : decode cX9_emits 19 = .ok (.iastore, 1) := by decide +kernel
theorem dX9_emits_20 : decode cX9_emits 20 = .ok (.aload_n 0, 1) := by decide +kernel
theorem dX9_emits_21 : decode cX9_emits 21 = .ok (.dup, 1) := by decide +kernel
theorem dX9_emits_22 : decode cX9_emits 22 = .ok (.getfield 245, 3) := by decide +kernel
theorem dX9_emits_25 : decode cX9_emits 25 = .ok (.iconst 1, 1) := by decide +kernel
theorem dX9_emits_26 : decode cX9_emits 26 = .ok (.iadd, 1) := by decide +kernel
theorem dX9_emits_27 : decode cX9_emits 27 = .ok (.putfield 245, 3) := by decide +kernel
theorem dX9_emits_30 : decode cX9_emits 30 = .ok (.return_, 1) := by decide +kernel
theorem dX9_opensFrame_0 : decode cX9_opensFrame 0 = .ok (.aload_n 0, 1) := by decide +kernel
theorem dX9_opensFrame_1 : decode cX9_opensFrame 1 = .ok (.getfield 51, 3) := by decide +kernel
theorem dX9_opensFrame_4 : decode cX9_opensFrame 4 = .ok (.aload_n 0, 1) := by decide +kernel
theorem dX9_opensFrame_5 : decode cX9_opensFrame 5 = .ok (.getfield 248, 3) := by decide +kernel
theorem dX9_opensFrame_8 : decode cX9_opensFrame 8 = .ok (.iload_n 1, 1) := by decide +kernel
theorem dX9_opensFrame_9 : decode cX9_opensFrame 9 = .ok (.iastore, 1) := by decide +kernel
theorem dX9_opensFrame_10 : decode cX9_opensFrame 10 = .ok (.aload_n 0, 1) := by decide +kernel
theorem dX9_opensFrame_11 : decode cX9_opensFrame 11 = .ok (.dup, 1) := by decide +kernel
theorem dX9_opensFrame_12 : decode cX9_opensFrame 12 = .ok (.getfield 248, 3) := by decide +kernel
theorem dX9_opensFrame_15 : decode cX9_opensFrame 15 = .ok (.iconst 1, 1) := by decide +kernel
theorem dX9_opensFrame_16 : decode cX9_opensFrame 16 = .ok (.iadd, 1) := by decide +kernel
theorem dX9_opensFrame_17 : decode cX9_opensFrame 17 = .ok (.putfield 248, 3) := by decide +kernel
theorem dX9_opensFrame_20 : decode cX9_opensFrame 20 = .ok (.return_, 1) := by decide +kernel
theorem dX9_top_0 : decode cX9_top 0 = .ok (.aload_n 0, 1) := by decide +kernel
theorem dX9_top_1 : decode cX9_top 1 = .ok (.getfield 51, 3) := by decide +kernel
theorem dX9_top_4 : decode cX9_top 4 = .ok (.aload_n 0, 1) := by decide +kernel
theorem dX9_top_5 : decode cX9_top 5 = .ok (.getfield 248, 3) := by decide +kernel
theorem dX9_top_8 : decode cX9_top 8 = .ok (.iconst 1, 1) := by decide +kernel
theorem dX9_top_9 : decode cX9_top 9 = .ok (.isub, 1) := by decide +kernel
theorem dX9_top_10 : decode cX9_top 10 = .ok (.iaload, 1) := by decide +kernel
theorem dX9_top_11 : decode cX9_top 11 = .ok (.ireturn, 1) := by decide +kernel
theorem dX9_opensSign_0 : decode cX9_opensSign 0 = .ok (.aload_n 0, 1) := by decide +kernel
theorem dX9_opensSign_1 : decode cX9_opensSign 1 = .ok (.getfield 251, 3) := by decide +kernel
theorem dX9_opensSign_4 : decode cX9_opensSign 4 = .ok (.bipush 8, 2) := by decide +kernel
theorem dX9_opensSign_6 : decode cX9_opensSign 6 = .ok (.if_icmp .ne 10, 3) := by decide +kernel
theorem dX9_opensSign_9 : decode cX9_opensSign 9 = .ok (.aload_n 0, 1) := by decide +kernel
theorem dX9_opensSign_10 : decode cX9_opensSign 10 = .ok (.iconst 3, 1) := by decide +kernel
theorem dX9_opensSign_11 : decode cX9_opensSign 11 = .ok (.invokevirtual 254, 3) := by decide +kernel
theorem dX9_opensSign_14 : decode cX9_opensSign 14 = .ok (.iconst 0, 1) := by decide +kernel
theorem dX9_opensSign_15 : decode cX9_opensSign 15 = .ok (.ireturn, 1) := by decide +kernel
theorem dX9_opensSign_16 : decode cX9_opensSign 16 = .ok (.aload_n 0, 1) := by decide +kernel
theorem dX9_opensSign_17 : decode cX9_opensSign 17 = .ok (.dup, 1) := by decide +kernel
theorem dX9_opensSign_18 : decode cX9_opensSign 18 = .ok (.getfield 251, 3) := by decide +kernel
theorem dX9_opensSign_21 : decode cX9_opensSign 21 = .ok (.iconst 1, 1) := by decide +kernel
theorem dX9_opensSign_22 : decode cX9_opensSign 22 = .ok (.iadd, 1) := by decide +kernel
theorem dX9_opensSign_23 : decode cX9_opensSign 23 = .ok (.putfield 251, 3) := by decide +kernel
theorem dX9_opensSign_26 : decode cX9_opensSign 26 = .ok (.aload_n 0, 1) := by decide +kernel
theorem dX9_opensSign_27 : decode cX9_opensSign 27 = .ok (.iload_n 1, 1) := by decide +kernel
theorem dX9_opensSign_28 : decode cX9_opensSign 28 = .ok (.invokevirtual 257, 3) := by decide +kernel
theorem dX9_opensSign_31 : decode cX9_opensSign 31 = .ok (.aload_n 0, 1) := by decide +kernel
theorem dX9_opensSign_32 : decode cX9_opensSign 32 = .ok (.invokevirtual 260, 3) := by decide +kernel
theorem dX9_opensSign_35 : decode cX9_opensSign 35 = .ok (.iconst 1, 1) := by decide +kernel
theorem dX9_opensSign_36 : decode cX9_opensSign 36 = .ok (.ireturn, 1) := by decide +kernel
theorem dX9_rank_0 : decode cX9_rank 0 = .ok (.iload_n 0, 1) := by decide +kernel
theorem dX9_rank_1 : decode cX9_rank 1 = .ok (.sipush 407, 3) := by decide +kernel
theorem dX9_rank_4 : decode cX9_rank 4 = .ok (.if_icmp .ne 7, 3) := by decide +kernel
theorem dX9_rank_7 : decode cX9_rank 7 = .ok (.iconst 1, 1) := by decide +kernel
theorem dX9_rank_8 : decode cX9_rank 8 = .ok (.goto 31, 3) := by decide +kernel
theorem dX9_rank_11 : decode cX9_rank 11 = .ok (.iload_n 0, 1) := by decide +kernel
theorem dX9_rank_12 : decode cX9_rank 12 = .ok (.sipush 406, 3) := by decide +kernel
theorem dX9_rank_15 : decode cX9_rank 15 = .ok (.if_icmp .ne 7, 3) := by decide +kernel
theorem dX9_rank_18 : decode cX9_rank 18 = .ok (.iconst 2, 1) := by decide +kernel
theorem dX9_rank_19 : decode cX9_rank 19 = .ok (.goto 20, 3) := by decide +kernel
theorem dX9_rank_22 : decode cX9_rank 22 = .ok (.iload_n 0, 1) := by decide +kernel
theorem dX9_rank_23 : decode cX9_rank 23 = .ok (.bipush 43, 2) := by decide +kernel
theorem dX9_rank_25 : decode cX9_rank 25 = .ok (.if_icmp .eq 9, 3) := by decide +kernel
theorem dX9_rank_28 : decode cX9_rank 28 = .ok (.iload_n 0, 1) := by decide +kernel
theorem dX9_rank_29 : decode cX9_rank 29 = .ok (.bipush 45, 2) := by decide +kernel
theorem dX9_rank_31 : decode cX9_rank 31 = .ok (.if_icmp .ne 7, 3) := by decide +kernel
theorem dX9_rank_34 : decode cX9_rank 34 = .ok (.iconst 3, 1) := by decide +kernel
theorem dX9_rank_35 : decode cX9_rank 35 = .ok (.goto 4, 3) := by decide +kernel
theorem dX9_rank_38 : decode cX9_rank 38 = .ok (.iconst 4, 1) := by decide +kernel
theorem dX9_rank_39 : decode cX9_rank 39 = .ok (.ireturn, 1) := by decide +kernel
theorem dX9_works_0 : decode cX9_works 0 = .ok (.aload_n 0, 1) := by decide +kernel
theorem dX9_works_1 : decode cX9_works 1 = .ok (.getfield 263, 3) := by decide +kernel
theorem dX9_works_4 : decode cX9_works 4 = .ok (.ifCond .le 66, 3) := by decide +kernel
theorem dX9_works_7 : decode cX9_works 7 = .ok (.aload_n 0, 1) := by decide +kernel
theorem dX9_works_8 : decode cX9_works 8 = .ok (.getfield 60, 3) := by decide +kernel
theorem dX9_works_11 : decode cX9_works 11 = .ok (.aload_n 0, 1) := by decide +kernel
theorem dX9_works_12 : decode cX9_works 12 = .ok (.getfield 263, 3) := by decide +kernel
theorem dX9_works_15 : decode cX9_works 15 = .ok (.iconst 1, 1) := by decide +kernel
theorem dX9_works_16 : decode cX9_works 16 = .ok (.isub, 1) := by decide +kernel
theorem dX9_works_17 : decode cX9_works 17 = .ok (.iaload, 1) := by decide +kernel
theorem dX9_works_18 : decode cX9_works 18 = .ok (.aload_n 0, 1) := by decide +kernel
theorem dX9_works_19 : decode cX9_works 19 = .ok (.getfield 248, 3) := by decide +kernel
theorem dX9_works_22 : decode cX9_works 22 = .ok (.if_icmp .ne 48, 3) := by decide +kernel
theorem dX9_works_25 : decode cX9_works 25 = .ok (.aload_n 0, 1) := by decide +kernel
theorem dX9_works_26 : decode cX9_works 26 = .ok (.getfield 57, 3) := by decide +kernel
theorem dX9_works_29 : decode cX9_works 29 = .ok (.aload_n 0, 1) := by decide +kernel
theorem dX9_works_30 : decode cX9_works 30 = .ok (.getfield 263, 3) := by decide +kernel
theorem dX9_works_33 : decode cX9_works 33 = .ok (.iconst 1, 1) := by decide +kernel
theorem dX9_works_34 : decode cX9_works 34 = .ok (.isub, 1) := by decide +kernel
theorem dX9_works_35 : decode cX9_works 35 = .ok (.iaload, 1) := by decide +kernel
theorem dX9_works_36 : decode cX9_works 36 = .ok (.invokestatic 266, 3) := by decide +kernel
theorem dX9_works_39 : decode cX9_works 39 = .ok (.iload_n 1, 1) := by decide +kernel
theorem dX9_works_40 : decode cX9_works 40 = .ok (.if_icmp .lt 30, 3) := by decide +kernel
theorem dX9_works_43 : decode cX9_works 43 = .ok (.aload_n 0, 1) := by decide +kernel
theorem dX9_works_44 : decode cX9_works 44 = .ok (.dup, 1) := by decide +kernel
theorem dX9_works_45 : decode cX9_works 45 = .ok (.getfield 263, 3) := by decide +kernel
theorem dX9_works_48 : decode cX9_works 48 = .ok (.iconst 1, 1) := by decide +kernel
theorem dX9_works_49 : decode cX9_works 49 = .ok (.isub, 1) := by decide +kernel
theorem dX9_works_50 : decode cX9_works 50 = .ok (.putfield 263, 3) := by decide +kernel
theorem dX9_works_53 : decode cX9_works 53 = .ok (.aload_n 0, 1) := by decide +kernel
theorem dX9_works_54 : decode cX9_works 54 = .ok (.aload_n 0, 1) := by decide +kernel
theorem dX9_works_55 : decode cX9_works 55 = .ok (.getfield 57, 3) := by decide +kernel
theorem dX9_works_58 : decode cX9_works 58 = .ok (.aload_n 0, 1) := by decide +kernel
theorem dX9_works_59 : decode cX9_works 59 = .ok (.getfield 263, 3) := by decide +kernel
theorem dX9_works_62 : decode cX9_works 62 = .ok (.iaload, 1) := by decide +kernel
theorem dX9_works_63 : decode cX9_works 63 = .ok (.iconst 0, 1) := by decide +kernel
theorem dX9_works_64 : decode cX9_works 64 = .ok (.invokevirtual 270, 3) := by decide +kernel
theorem dX9_works_67 : decode cX9_works 67 = .ok (.goto (-67), 3) := by decide +kernel
theorem dX9_works_70 : decode cX9_works 70 = .ok (.return_, 1) := by decide +kernel
theorem dX9_waitsFor_0 : decode cX9_waitsFor 0 = .ok (.aload_n 0, 1) := by decide +kernel
theorem dX9_waitsFor_1 : decode cX9_waitsFor 1 = .ok (.iload_n 1, 1) := by decide +kernel
theorem dX9_waitsFor_2 : decode cX9_waitsFor 2 = .ok (.invokestatic 266, 3) := by decide +kernel
theorem dX9_waitsFor_5 : decode cX9_waitsFor 5 = .ok (.invokevirtual 274, 3) := by decide +kernel
theorem dX9_waitsFor_8 : decode cX9_waitsFor 8 = .ok (.aload_n 0, 1) := by decide +kernel
theorem dX9_waitsFor_9 : decode cX9_waitsFor 9 = .ok (.getfield 57, 3) := by decide +kernel
theorem dX9_waitsFor_12 : decode cX9_waitsFor 12 = .ok (.aload_n 0, 1) := by decide +kernel
theorem dX9_waitsFor_13 : decode cX9_waitsFor 13 = .ok (.getfield 263, 3) := by decide +kernel
theorem dX9_waitsFor_16 : decode cX9_waitsFor 16 = .ok (.iload_n 1, 1) := by decide +kernel
theorem dX9_waitsFor_17 : decode cX9_waitsFor 17 = .ok (.iastore, 1) := by decide +kernel
theorem dX9_waitsFor_18 : decode cX9_waitsFor 18 = .ok (.aload_n 0, 1) := by decide +kernel
theorem dX9_waitsFor_19 : decode cX9_waitsFor 19 = .ok (.getfield 60, 3) := by decide +kernel
theorem dX9_waitsFor_22 : decode cX9_waitsFor 22 = .ok (.aload_n 0, 1) := by decide +kernel
theorem dX9_waitsFor_23 : decode cX9_waitsFor 23 = .ok (.getfield 263, 3) := by decide +kernel
theorem dX9_waitsFor_26 : decode cX9_waitsFor 26 = .ok (.aload_n 0, 1) := by decide +kernel
theorem dX9_waitsFor_27 : decode cX9_waitsFor 27 = .ok (.getfield 248, 3) := by decide +kernel
theorem dX9_waitsFor_30 : decode cX9_waitsFor 30 = .ok (.iastore, 1) := by decide +kernel
theorem dX9_waitsFor_31 : decode cX9_waitsFor 31 = .ok (.aload_n 0, 1) := by decide +kernel
theorem dX9_waitsFor_32 : decode cX9_waitsFor 32 = .ok (.dup, 1) := by decide +kernel
theorem dX9_waitsFor_33 : decode cX9_waitsFor 33 = .ok (.getfield 263, 3) := by decide +kernel
theorem dX9_waitsFor_36 : decode cX9_waitsFor 36 = .ok (.iconst 1, 1) := by decide +kernel
theorem dX9_waitsFor_37 : decode cX9_waitsFor 37 = .ok (.iadd, 1) := by decide +kernel
theorem dX9_waitsFor_38 : decode cX9_waitsFor 38 = .ok (.putfield 263, 3) := by decide +kernel
theorem dX9_waitsFor_41 : decode cX9_waitsFor 41 = .ok (.aload_n 0, 1) := by decide +kernel
theorem dX9_waitsFor_42 : decode cX9_waitsFor 42 = .ok (.invokevirtual 260, 3) := by decide +kernel
theorem dX9_waitsFor_45 : decode cX9_waitsFor 45 = .ok (.return_, 1) := by decide +kernel
theorem dX9_asks_0 : decode cX9_asks 0 = .ok (.aload_n 0, 1) := by decide +kernel
theorem dX9_asks_1 : decode cX9_asks 1 = .ok (.bipush 12, 2) := by decide +kernel
theorem dX9_asks_3 : decode cX9_asks 3 = .ok (.invokevirtual 277, 3) := by decide +kernel
theorem dX9_asks_6 : decode cX9_asks 6 = .ok (.ifCond .eq 12, 3) := by decide +kernel
theorem dX9_asks_9 : decode cX9_asks 9 = .ok (.aload_n 0, 1) := by decide +kernel
theorem dX9_asks_10 : decode cX9_asks 10 = .ok (.iconst 3, 1) := by decide +kernel
theorem dX9_asks_11 : decode cX9_asks 11 = .ok (.invokevirtual 280, 3) := by decide +kernel
theorem dX9_asks_14 : decode cX9_asks 14 = .ok (.istore_n 1, 1) := by decide +kernel
theorem dX9_asks_15 : decode cX9_asks 15 = .ok (.goto 13, 3) := by decide +kernel
theorem dX9_asks_18 : decode cX9_asks 18 = .ok (.aload_n 0, 1) := by decide +kernel
theorem dX9_asks_19 : decode cX9_asks 19 = .ok (.iconst 4, 1) := by decide +kernel
theorem dX9_asks_20 : decode cX9_asks 20 = .ok (.invokevirtual 257, 3) := by decide +kernel
theorem dX9_asks_23 : decode cX9_asks 23 = .ok (.aload_n 0, 1) := by decide +kernel
theorem dX9_asks_24 : decode cX9_asks 24 = .ok (.iconst 1, 1) := by decide +kernel
theorem dX9_asks_25 : decode cX9_asks 25 = .ok (.putfield 283, 3) := by decide +kernel
theorem dX9_asks_28 : decode cX9_asks 28 = .ok (.return_, 1) := by decide +kernel
theorem dX9_begins_0 : decode cX9_begins 0 = .ok (.aload_n 0, 1) := by decide +kernel
theorem dX9_begins_1 : decode cX9_begins 1 = .ok (.getfield 223, 3) := by decide +kernel
theorem dX9_begins_4 : decode cX9_begins 4 = .ok (.iconst 2, 1) := by decide +kernel
theorem dX9_begins_5 : decode cX9_begins 5 = .ok (.if_icmp .ne 41, 3) := by decide +kernel
theorem dX9_begins_8 : decode cX9_begins 8 = .ok (.aload_n 0, 1) := by decide +kernel
theorem dX9_begins_9 : decode cX9_begins 9 = .ok (.getfield 235, 3) := by decide +kernel
theorem dX9_begins_12 : decode cX9_begins 12 = .ok (.sipush 9999, 3) := by decide +kernel
theorem dX9_begins_15 : decode cX9_begins 15 = .ok (.if_icmp .le 9, 3) := by decide +kernel
theorem dX9_begins_18 : decode cX9_begins 18 = .ok (.aload_n 0, 1) := by decide +kernel
theorem dX9_begins_19 : decode cX9_begins 19 = .ok (.iconst 2, 1) := by decide +kernel
theorem dX9_begins_20 : decode cX9_begins 20 = .ok (.invokevirtual 254, 3) := by decide +kernel
theorem dX9_begins_23 : decode cX9_begins 23 = .ok (.return_, 1) := by decide +kernel
theorem dX9_begins_24 : decode cX9_begins 24 = .ok (.aload_n 0, 1) := by decide +kernel
theorem dX9_begins_25 : decode cX9_begins 25 = .ok (.sipush 400, 3) := by decide +kernel
theorem dX9_begins_28 : decode cX9_begins 28 = .ok (.aload_n 0, 1) := by decide +kernel
theorem dX9_begins_29 : decode cX9_begins 29 = .ok (.getfield 235, 3) := by decide +kernel
theorem dX9_begins_32 : decode cX9_begins 32 = .ok (.invokevirtual 270, 3) := by decide +kernel
theorem dX9_begins_35 : decode cX9_begins 35 = .ok (.aload_n 0, 1) := by decide +kernel
theorem dX9_begins_36 : decode cX9_begins 36 = .ok (.invokevirtual 260, 3) := by decide +kernel
theorem dX9_begins_39 : decode cX9_begins 39 = .ok (.aload_n 0, 1) := by decide +kernel
theorem dX9_begins_40 : decode cX9_begins 40 = .ok (.invokevirtual 286, 3) := by decide +kernel
theorem dX9_begins_43 : decode cX9_begins 43 = .ok (.goto 111, 3) := by decide +kernel
theorem dX9_begins_46 : decode cX9_begins 46 = .ok (.aload_n 0, 1) := by decide +kernel
theorem dX9_begins_47 : decode cX9_begins 47 = .ok (.getfield 223, 3) := by decide +kernel
theorem dX9_begins_50 : decode cX9_begins 50 = .ok (.iconst 1, 1) := by decide +kernel
theorem dX9_begins_51 : decode cX9_begins 51 = .ok (.if_icmp .ne 60, 3) := by decide +kernel
theorem dX9_begins_54 : decode cX9_begins 54 = .ok (.aload_n 0, 1) := by decide +kernel
theorem dX9_begins_55 : decode cX9_begins 55 = .ok (.getfield 235, 3) := by decide +kernel
theorem dX9_begins_58 : decode cX9_begins 58 = .ok (.bipush 12, 2) := by decide +kernel
theorem dX9_begins_60 : decode cX9_begins 60 = .ok (.if_icmp .le 51, 3) := by decide +kernel
theorem dX9_begins_63 : decode cX9_begins 63 = .ok (.aload_n 0, 1) := by decide +kernel
theorem dX9_begins_64 : decode cX9_begins 64 = .ok (.getfield 235, 3) := by decide +kernel
theorem dX9_begins_67 : decode cX9_begins 67 = .ok (.bipush 12, 2) := by decide +kernel
theorem dX9_begins_69 : decode cX9_begins 69 = .ok (.isub, 1) := by decide +kernel
theorem dX9_begins_70 : decode cX9_begins 70 = .ok (.iconst 1, 1) := by decide +kernel
theorem dX9_begins_71 : decode cX9_begins 71 = .ok (.isub, 1) := by decide +kernel
theorem dX9_begins_72 : decode cX9_begins 72 = .ok (.istore_n 1, 1) := by decide +kernel
theorem dX9_begins_73 : decode cX9_begins 73 = .ok (.iload_n 1, 1) := by decide +kernel
theorem dX9_begins_74 : decode cX9_begins 74 = .ok (.iconst 5, 1) := by decide +kernel
theorem dX9_begins_75 : decode cX9_begins 75 = .ok (.if_icmp .le 17, 3) := by decide +kernel
theorem dX9_begins_78 : decode cX9_begins 78 = .ok (.aload_n 0, 1) := by decide +kernel
theorem dX9_begins_79 : decode cX9_begins 79 = .ok (.getfield 289, 3) := by decide +kernel
theorem dX9_begins_82 : decode cX9_begins 82 = .ok (.iconst 1, 1) := by decide +kernel
theorem dX9_begins_83 : decode cX9_begins 83 = .ok (.if_icmp .le 9, 3) := by decide +kernel
theorem dX9_begins_86 : decode cX9_begins 86 = .ok (.aload_n 0, 1) := by decide +kernel
theorem dX9_begins_87 : decode cX9_begins 87 = .ok (.iconst 5, 1) := by decide +kernel
theorem dX9_begins_88 : decode cX9_begins 88 = .ok (.invokevirtual 254, 3) := by decide +kernel
theorem dX9_begins_91 : decode cX9_begins 91 = .ok (.return_, 1) := by decide +kernel
theorem dX9_begins_92 : decode cX9_begins 92 = .ok (.aload_n 0, 1) := by decide +kernel
theorem dX9_begins_93 : decode cX9_begins 93 = .ok (.sipush 401, 3) := by decide +kernel
theorem dX9_begins_96 : decode cX9_begins 96 = .ok (.iload_n 1, 1) := by decide +kernel
theorem dX9_begins_97 : decode cX9_begins 97 = .ok (.invokevirtual 270, 3) := by decide +kernel
theorem dX9_begins_100 : decode cX9_begins 100 = .ok (.aload_n 0, 1) := by decide +kernel
theorem dX9_begins_101 : decode cX9_begins 101 = .ok (.invokevirtual 260, 3) := by decide +kernel
theorem dX9_begins_104 : decode cX9_begins 104 = .ok (.aload_n 0, 1) := by decide +kernel
theorem dX9_begins_105 : decode cX9_begins 105 = .ok (.invokevirtual 286, 3) := by decide +kernel
theorem dX9_begins_108 : decode cX9_begins 108 = .ok (.goto 46, 3) := by decide +kernel
theorem dX9_begins_111 : decode cX9_begins 111 = .ok (.aload_n 0, 1) := by decide +kernel
theorem dX9_begins_112 : decode cX9_begins 112 = .ok (.bipush 40, 2) := by decide +kernel
theorem dX9_begins_114 : decode cX9_begins 114 = .ok (.invokevirtual 292, 3) := by decide +kernel
theorem dX9_begins_117 : decode cX9_begins 117 = .ok (.ifCond .eq 13, 3) := by decide +kernel
theorem dX9_begins_120 : decode cX9_begins 120 = .ok (.aload_n 0, 1) := by decide +kernel
theorem dX9_begins_121 : decode cX9_begins 121 = .ok (.bipush 6, 2) := by decide +kernel
theorem dX9_begins_123 : decode cX9_begins 123 = .ok (.invokevirtual 280, 3) := by decide +kernel
theorem dX9_begins_126 : decode cX9_begins 126 = .ok (.istore_n 1, 1) := by decide +kernel
theorem dX9_begins_127 : decode cX9_begins 127 = .ok (.goto 27, 3) := by decide +kernel
theorem dX9_begins_130 : decode cX9_begins 130 = .ok (.aload_n 0, 1) := by decide +kernel
theorem dX9_begins_131 : decode cX9_begins 131 = .ok (.bipush 45, 2) := by decide +kernel
theorem dX9_begins_133 : decode cX9_begins 133 = .ok (.invokevirtual 292, 3) := by decide +kernel
theorem dX9_begins_136 : decode cX9_begins 136 = .ok (.ifCond .eq 13, 3) := by decide +kernel
theorem dX9_begins_139 : decode cX9_begins 139 = .ok (.aload_n 0, 1) := by decide +kernel
theorem dX9_begins_140 : decode cX9_begins 140 = .ok (.bipush 7, 2) := by decide +kernel
theorem dX9_begins_142 : decode cX9_begins 142 = .ok (.invokevirtual 280, 3) := by decide +kernel
theorem dX9_begins_145 : decode cX9_begins 145 = .ok (.istore_n 1, 1) := by decide +kernel
theorem dX9_begins_146 : decode cX9_begins 146 = .ok (.goto 8, 3) := by decide +kernel
theorem dX9_begins_149 : decode cX9_begins 149 = .ok (.aload_n 0, 1) := by decide +kernel
theorem dX9_begins_150 : decode cX9_begins 150 = .ok (.iconst 1, 1) := by decide +kernel
theorem dX9_begins_151 : decode cX9_begins 151 = .ok (.invokevirtual 254, 3) := by decide +kernel
theorem dX9_begins_154 : decode cX9_begins 154 = .ok (.return_, 1) := by decide +kernel
theorem dX9_oneIsOver_0 : decode cX9_oneIsOver 0 = .ok (.aload_n 0, 1) := by decide +kernel
theorem dX9_oneIsOver_1 : decode cX9_oneIsOver 1 = .ok (.invokevirtual 295, 3) := by decide +kernel
theorem dX9_oneIsOver_4 : decode cX9_oneIsOver 4 = .ok (.bipush 7, 2) := by decide +kernel
theorem dX9_oneIsOver_6 : decode cX9_oneIsOver 6 = .ok (.if_icmp .ne 34, 3) := by decide +kernel
theorem dX9_oneIsOver_9 : decode cX9_oneIsOver 9 = .ok (.aload_n 0, 1) := by decide +kernel
theorem dX9_oneIsOver_10 : decode cX9_oneIsOver 10 = .ok (.dup, 1) := by decide +kernel
theorem dX9_oneIsOver_11 : decode cX9_oneIsOver 11 = .ok (.getfield 248, 3) := by decide +kernel
theorem dX9_oneIsOver_14 : decode cX9_oneIsOver 14 = .ok (.iconst 1, 1) := by decide +kernel
theorem dX9_oneIsOver_15 : decode cX9_oneIsOver 15 = .ok (.isub, 1) := by decide +kernel
theorem dX9_oneIsOver_16 : decode cX9_oneIsOver 16 = .ok (.putfield 248, 3) := by decide +kernel
theorem dX9_oneIsOver_19 : decode cX9_oneIsOver 19 = .ok (.aload_n 0, 1) := by decide +kernel
theorem dX9_oneIsOver_20 : decode cX9_oneIsOver 20 = .ok (.dup, 1) := by decide +kernel
theorem dX9_oneIsOver_21 : decode cX9_oneIsOver 21 = .ok (.getfield 251, 3) := by decide +kernel
theorem dX9_oneIsOver_24 : decode cX9_oneIsOver 24 = .ok (.iconst 1, 1) := by decide +kernel
theorem dX9_oneIsOver_25 : decode cX9_oneIsOver 25 = .ok (.isub, 1) := by decide +kernel
theorem dX9_oneIsOver_26 : decode cX9_oneIsOver 26 = .ok (.putfield 251, 3) := by decide +kernel
theorem dX9_oneIsOver_29 : decode cX9_oneIsOver 29 = .ok (.aload_n 0, 1) := by decide +kernel
theorem dX9_oneIsOver_30 : decode cX9_oneIsOver 30 = .ok (.sipush 402, 3) := by decide +kernel
theorem dX9_oneIsOver_33 : decode cX9_oneIsOver 33 = .ok (.iconst 0, 1) := by decide +kernel
theorem dX9_oneIsOver_34 : decode cX9_oneIsOver 34 = .ok (.invokevirtual 270, 3) := by decide +kernel
theorem dX9_oneIsOver_37 : decode cX9_oneIsOver 37 = .ok (.goto (-37), 3) := by decide +kernel
theorem dX9_oneIsOver_40 : decode cX9_oneIsOver 40 = .ok (.aload_n 0, 1) := by decide +kernel
theorem dX9_oneIsOver_41 : decode cX9_oneIsOver 41 = .ok (.iconst 2, 1) := by decide +kernel
theorem dX9_oneIsOver_42 : decode cX9_oneIsOver 42 = .ok (.putfield 283, 3) := by decide +kernel
theorem dX9_oneIsOver_45 : decode cX9_oneIsOver 45 = .ok (.return_, 1) := by decide +kernel
theorem dX9_askIsOver_0 : decode cX9_askIsOver 0 = .ok (.aload_n 0, 1) := by decide +kernel
theorem dX9_askIsOver_1 : decode cX9_askIsOver 1 = .ok (.invokevirtual 295, 3) := by decide +kernel
theorem dX9_askIsOver_4 : decode cX9_askIsOver 4 = .ok (.iconst 3, 1) := by decide +kernel
theorem dX9_askIsOver_5 : decode cX9_askIsOver 5 = .ok (.if_icmp .ne 34, 3) := by decide +kernel
theorem dX9_askIsOver_8 : decode cX9_askIsOver 8 = .ok (.aload_n 0, 1) := by decide +kernel
theorem dX9_askIsOver_9 : decode cX9_askIsOver 9 = .ok (.dup, 1) := by decide +kernel
theorem dX9_askIsOver_10 : decode cX9_askIsOver 10 = .ok (.getfield 248, 3) := by decide +kernel
theorem dX9_askIsOver_13 : decode cX9_askIsOver 13 = .ok (.iconst 1, 1) := by decide +kernel
theorem dX9_askIsOver_14 : decode cX9_askIsOver 14 = .ok (.isub, 1) := by decide +kernel
theorem dX9_askIsOver_15 : decode cX9_askIsOver 15 = .ok (.putfield 248, 3) := by decide +kernel
theorem dX9_askIsOver_18 : decode cX9_askIsOver 18 = .ok (.aload_n 0, 1) := by decide +kernel
theorem dX9_askIsOver_19 : decode cX9_askIsOver 19 = .ok (.dup, 1) := by decide +kernel
theorem dX9_askIsOver_20 : decode cX9_askIsOver 20 = .ok (.getfield 251, 3) := by decide +kernel
theorem dX9_askIsOver_23 : decode cX9_askIsOver 23 = .ok (.iconst 1, 1) := by decide +kernel
theorem dX9_askIsOver_24 : decode cX9_askIsOver 24 = .ok (.isub, 1) := by decide +kernel
theorem dX9_askIsOver_25 : decode cX9_askIsOver 25 = .ok (.putfield 251, 3) := by decide +kernel
theorem dX9_askIsOver_28 : decode cX9_askIsOver 28 = .ok (.aload_n 0, 1) := by decide +kernel
theorem dX9_askIsOver_29 : decode cX9_askIsOver 29 = .ok (.sipush 405, 3) := by decide +kernel
theorem dX9_askIsOver_32 : decode cX9_askIsOver 32 = .ok (.iconst 0, 1) := by decide +kernel
theorem dX9_askIsOver_33 : decode cX9_askIsOver 33 = .ok (.invokevirtual 270, 3) := by decide +kernel
theorem dX9_askIsOver_36 : decode cX9_askIsOver 36 = .ok (.goto (-36), 3) := by decide +kernel
theorem dX9_askIsOver_39 : decode cX9_askIsOver 39 = .ok (.aload_n 0, 1) := by decide +kernel
theorem dX9_askIsOver_40 : decode cX9_askIsOver 40 = .ok (.iconst 3, 1) := by decide +kernel
theorem dX9_askIsOver_41 : decode cX9_askIsOver 41 = .ok (.putfield 283, 3) := by decide +kernel
theorem dX9_askIsOver_44 : decode cX9_askIsOver 44 = .ok (.return_, 1) := by decide +kernel
theorem dX9_isAsking_0 : decode cX9_isAsking 0 = .ok (.iload_n 0, 1) := by decide +kernel
theorem dX9_isAsking_1 : decode cX9_isAsking 1 = .ok (.bipush 60, 2) := by decide +kernel
theorem dX9_isAsking_3 : decode cX9_isAsking 3 = .ok (.if_icmp .eq 35, 3) := by decide +kernel
theorem dX9_isAsking_6 : decode cX9_isAsking 6 = .ok (.iload_n 0, 1) := by decide +kernel
theorem dX9_isAsking_7 : decode cX9_isAsking 7 = .ok (.bipush 62, 2) := by decide +kernel
theorem dX9_isAsking_9 : decode cX9_isAsking 9 = .ok (.if_icmp .eq 29, 3) := by decide +kernel
theorem dX9_isAsking_12 : decode cX9_isAsking 12 = .ok (.iload_n 0, 1) := by decide +kernel
theorem dX9_isAsking_13 : decode cX9_isAsking 13 = .ok (.bipush 61, 2) := by decide +kernel
theorem dX9_isAsking_15 : decode cX9_isAsking 15 = .ok (.if_icmp .eq 23, 3) := by decide +kernel
theorem dX9_isAsking_18 : decode cX9_isAsking 18 = .ok (.iload_n 0, 1) := by decide +kernel
theorem dX9_isAsking_19 : decode cX9_isAsking 19 = .ok (.bipush 35, 2) := by decide +kernel
theorem dX9_isAsking_21 : decode cX9_isAsking 21 = .ok (.if_icmp .eq 17, 3) := by decide +kernel
theorem dX9_isAsking_24 : decode cX9_isAsking 24 = .ok (.iload_n 0, 1) := by decide +kernel
theorem dX9_isAsking_25 : decode cX9_isAsking 25 = .ok (.sipush 300, 3) := by decide +kernel
theorem dX9_isAsking_28 : decode cX9_isAsking 28 = .ok (.if_icmp .eq 10, 3) := by decide +kernel
theorem dX9_isAsking_31 : decode cX9_isAsking 31 = .ok (.iload_n 0, 1) := by decide +kernel
theorem dX9_isAsking_32 : decode cX9_isAsking 32 = .ok (.sipush 301, 3) := by decide +kernel
theorem dX9_isAsking_35 : decode cX9_isAsking 35 = .ok (.if_icmp .ne 7, 3) := by decide +kernel
theorem dX9_isAsking_38 : decode cX9_isAsking 38 = .ok (.iconst 1, 1) := by decide +kernel
theorem dX9_isAsking_39 : decode cX9_isAsking 39 = .ok (.goto 4, 3) := by decide +kernel
theorem dX9_isAsking_42 : decode cX9_isAsking 42 = .ok (.iconst 0, 1) := by decide +kernel
theorem dX9_isAsking_43 : decode cX9_isAsking 43 = .ok (.ireturn, 1) := by decide +kernel
theorem dX9_goesOn_0 : decode cX9_goesOn 0 = .ok (.aload_n 0, 1) := by decide +kernel
theorem dX9_goesOn_1 : decode cX9_goesOn 1 = .ok (.invokevirtual 295, 3) := by decide +kernel
theorem dX9_goesOn_4 : decode cX9_goesOn 4 = .ok (.istore_n 1, 1) := by decide +kernel
theorem dX9_goesOn_5 : decode cX9_goesOn 5 = .ok (.aload_n 0, 1) := by decide +kernel
theorem dX9_goesOn_6 : decode cX9_goesOn 6 = .ok (.getfield 223, 3) := by decide +kernel
theorem dX9_goesOn_9 : decode cX9_goesOn 9 = .ok (.iconst 3, 1) := by decide +kernel
theorem dX9_goesOn_10 : decode cX9_goesOn 10 = .ok (.if_icmp .ne 55, 3) := by decide +kernel
theorem dX9_goesOn_13 : decode cX9_goesOn 13 = .ok (.aload_n 0, 1) := by decide +kernel
theorem dX9_goesOn_14 : decode cX9_goesOn 14 = .ok (.getfield 235, 3) := by decide +kernel
theorem dX9_goesOn_17 : decode cX9_goesOn 17 = .ok (.bipush 43, 2) := by decide +kernel
theorem dX9_goesOn_19 : decode cX9_goesOn 19 = .ok (.if_icmp .eq 30, 3) := by decide +kernel
theorem dX9_goesOn_22 : decode cX9_goesOn 22 = .ok (.aload_n 0, 1) := by decide +kernel
theorem dX9_goesOn_23 : decode cX9_goesOn 23 = .ok (.getfield 235, 3) := by decide +kernel
theorem dX9_goesOn_26 : decode cX9_goesOn 26 = .ok (.bipush 45, 2) := by decide +kernel
theorem dX9_goesOn_28 : decode cX9_goesOn 28 = .ok (.if_icmp .eq 21, 3) := by decide +kernel
theorem dX9_goesOn_31 : decode cX9_goesOn 31 = .ok (.aload_n 0, 1) := by decide +kernel
theorem dX9_goesOn_32 : decode cX9_goesOn 32 = .ok (.getfield 235, 3) := by decide +kernel
theorem dX9_goesOn_35 : decode cX9_goesOn 35 = .ok (.bipush 42, 2) := by decide +kernel
theorem dX9_goesOn_37 : decode cX9_goesOn 37 = .ok (.if_icmp .eq 12, 3) := by decide +kernel
theorem dX9_goesOn_40 : decode cX9_goesOn 40 = .ok (.aload_n 0, 1) := by decide +kernel
theorem dX9_goesOn_41 : decode cX9_goesOn 41 = .ok (.getfield 235, 3) := by decide +kernel
theorem dX9_goesOn_44 : decode cX9_goesOn 44 = .ok (.bipush 47, 2) := by decide +kernel
theorem dX9_goesOn_46 : decode cX9_goesOn 46 = .ok (.if_icmp .ne 19, 3) := by decide +kernel
theorem dX9_goesOn_49 : decode cX9_goesOn 49 = .ok (.aload_n 0, 1) := by decide +kernel
theorem dX9_goesOn_50 : decode cX9_goesOn 50 = .ok (.aload_n 0, 1) := by decide +kernel
theorem dX9_goesOn_51 : decode cX9_goesOn 51 = .ok (.getfield 235, 3) := by decide +kernel
theorem dX9_goesOn_54 : decode cX9_goesOn 54 = .ok (.invokevirtual 299, 3) := by decide +kernel
theorem dX9_goesOn_57 : decode cX9_goesOn 57 = .ok (.aload_n 0, 1) := by decide +kernel
theorem dX9_goesOn_58 : decode cX9_goesOn 58 = .ok (.iconst 1, 1) := by decide +kernel
theorem dX9_goesOn_59 : decode cX9_goesOn 59 = .ok (.putfield 283, 3) := by decide +kernel
theorem dX9_goesOn_62 : decode cX9_goesOn 62 = .ok (.goto 188, 3) := by decide +kernel
theorem dX9_goesOn_65 : decode cX9_goesOn 65 = .ok (.iload_n 1, 1) := by decide +kernel
theorem dX9_goesOn_66 : decode cX9_goesOn 66 = .ok (.bipush 6, 2) := by decide +kernel
theorem dX9_goesOn_68 : decode cX9_goesOn 68 = .ok (.if_icmp .ne 48, 3) := by decide +kernel
theorem dX9_goesOn_71 : decode cX9_goesOn 71 = .ok (.aload_n 0, 1) := by decide +kernel
theorem dX9_goesOn_72 : decode cX9_goesOn 72 = .ok (.bipush 41, 2) := by decide +kernel
theorem dX9_goesOn_74 : decode cX9_goesOn 74 = .ok (.invokevirtual 292, 3) := by decide +kernel
theorem dX9_goesOn_77 : decode cX9_goesOn 77 = .ok (.ifCond .eq 39, 3) := by decide +kernel
theorem dX9_goesOn_80 : decode cX9_goesOn 80 = .ok (.aload_n 0, 1) := by decide +kernel
theorem dX9_goesOn_81 : decode cX9_goesOn 81 = .ok (.iconst 3, 1) := by decide +kernel
theorem dX9_goesOn_82 : decode cX9_goesOn 82 = .ok (.invokevirtual 274, 3) := by decide +kernel
theorem dX9_goesOn_85 : decode cX9_goesOn 85 = .ok (.aload_n 0, 1) := by decide +kernel
theorem dX9_goesOn_86 : decode cX9_goesOn 86 = .ok (.dup, 1) := by decide +kernel
theorem dX9_goesOn_87 : decode cX9_goesOn 87 = .ok (.getfield 248, 3) := by decide +kernel
theorem dX9_goesOn_90 : decode cX9_goesOn 90 = .ok (.iconst 1, 1) := by decide +kernel
theorem dX9_goesOn_91 : decode cX9_goesOn 91 = .ok (.isub, 1) := by decide +kernel
theorem dX9_goesOn_92 : decode cX9_goesOn 92 = .ok (.putfield 248, 3) := by decide +kernel
theorem dX9_goesOn_95 : decode cX9_goesOn 95 = .ok (.aload_n 0, 1) := by decide +kernel
theorem dX9_goesOn_96 : decode cX9_goesOn 96 = .ok (.dup, 1) := by decide +kernel
theorem dX9_goesOn_97 : decode cX9_goesOn 97 = .ok (.getfield 251, 3) := by decide +kernel
theorem dX9_goesOn_100 : decode cX9_goesOn 100 = .ok (.iconst 1, 1) := by decide +kernel
theorem dX9_goesOn_101 : decode cX9_goesOn 101 = .ok (.isub, 1) := by decide +kernel
theorem dX9_goesOn_102 : decode cX9_goesOn 102 = .ok (.putfield 251, 3) := by decide +kernel
theorem dX9_goesOn_105 : decode cX9_goesOn 105 = .ok (.aload_n 0, 1) := by decide +kernel
theorem dX9_goesOn_106 : decode cX9_goesOn 106 = .ok (.invokevirtual 260, 3) := by decide +kernel
theorem dX9_goesOn_109 : decode cX9_goesOn 109 = .ok (.aload_n 0, 1) := by decide +kernel
theorem dX9_goesOn_110 : decode cX9_goesOn 110 = .ok (.invokevirtual 286, 3) := by decide +kernel
theorem dX9_goesOn_113 : decode cX9_goesOn 113 = .ok (.goto 137, 3) := by decide +kernel
theorem dX9_goesOn_116 : decode cX9_goesOn 116 = .ok (.iload_n 1, 1) := by decide +kernel
theorem dX9_goesOn_117 : decode cX9_goesOn 117 = .ok (.iconst 4, 1) := by decide +kernel
theorem dX9_goesOn_118 : decode cX9_goesOn 118 = .ok (.if_icmp .ne 63, 3) := by decide +kernel
theorem dX9_goesOn_121 : decode cX9_goesOn 121 = .ok (.aload_n 0, 1) := by decide +kernel
theorem dX9_goesOn_122 : decode cX9_goesOn 122 = .ok (.getfield 223, 3) := by decide +kernel
theorem dX9_goesOn_125 : decode cX9_goesOn 125 = .ok (.iconst 3, 1) := by decide +kernel
theorem dX9_goesOn_126 : decode cX9_goesOn 126 = .ok (.if_icmp .ne 55, 3) := by decide +kernel
theorem dX9_goesOn_129 : decode cX9_goesOn 129 = .ok (.aload_n 0, 1) := by decide +kernel
theorem dX9_goesOn_130 : decode cX9_goesOn 130 = .ok (.getfield 235, 3) := by decide +kernel
theorem dX9_goesOn_133 : decode cX9_goesOn 133 = .ok (.invokestatic 302, 3) := by decide +kernel
theorem dX9_goesOn_136 : decode cX9_goesOn 136 = .ok (.ifCond .eq 45, 3) := by decide +kernel
theorem dX9_goesOn_139 : decode cX9_goesOn 139 = .ok (.aload_n 0, 1) := by decide +kernel
theorem dX9_goesOn_140 : decode cX9_goesOn 140 = .ok (.iconst 3, 1) := by decide +kernel
theorem dX9_goesOn_141 : decode cX9_goesOn 141 = .ok (.invokevirtual 274, 3) := by decide +kernel
theorem dX9_goesOn_144 : decode cX9_goesOn 144 = .ok (.aload_n 0, 1) := by decide +kernel
theorem dX9_goesOn_145 : decode cX9_goesOn 145 = .ok (.getfield 54, 3) := by decide +kernel
theorem dX9_goesOn_148 : decode cX9_goesOn 148 = .ok (.aload_n 0, 1) := by decide +kernel
theorem dX9_goesOn_149 : decode cX9_goesOn 149 = .ok (.getfield 248, 3) := by decide +kernel
theorem dX9_goesOn_152 : decode cX9_goesOn 152 = .ok (.aload_n 0, 1) := by decide +kernel
theorem dX9_goesOn_153 : decode cX9_goesOn 153 = .ok (.getfield 235, 3) := by decide +kernel
theorem dX9_goesOn_156 : decode cX9_goesOn 156 = .ok (.iastore, 1) := by decide +kernel
theorem dX9_goesOn_157 : decode cX9_goesOn 157 = .ok (.aload_n 0, 1) := by decide +kernel
theorem dX9_goesOn_158 : decode cX9_goesOn 158 = .ok (.getfield 51, 3) := by decide +kernel
theorem dX9_goesOn_161 : decode cX9_goesOn 161 = .ok (.aload_n 0, 1) := by decide +kernel
theorem dX9_goesOn_162 : decode cX9_goesOn 162 = .ok (.getfield 248, 3) := by decide +kernel
theorem dX9_goesOn_165 : decode cX9_goesOn 165 = .ok (.iconst 1, 1) := by decide +kernel
theorem dX9_goesOn_166 : decode cX9_goesOn 166 = .ok (.isub, 1) := by decide +kernel
theorem dX9_goesOn_167 : decode cX9_goesOn 167 = .ok (.iconst 5, 1) := by decide +kernel
theorem dX9_goesOn_168 : decode cX9_goesOn 168 = .ok (.iastore, 1) := by decide +kernel
theorem dX9_goesOn_169 : decode cX9_goesOn 169 = .ok (.aload_n 0, 1) := by decide +kernel
theorem dX9_goesOn_170 : decode cX9_goesOn 170 = .ok (.invokevirtual 260, 3) := by decide +kernel
theorem dX9_goesOn_173 : decode cX9_goesOn 173 = .ok (.aload_n 0, 1) := by decide +kernel
theorem dX9_goesOn_174 : decode cX9_goesOn 174 = .ok (.iconst 1, 1) := by decide +kernel
theorem dX9_goesOn_175 : decode cX9_goesOn 175 = .ok (.putfield 283, 3) := by decide +kernel
theorem dX9_goesOn_178 : decode cX9_goesOn 178 = .ok (.goto 72, 3) := by decide +kernel
theorem dX9_goesOn_181 : decode cX9_goesOn 181 = .ok (.iload_n 1, 1) := by decide +kernel
theorem dX9_goesOn_182 : decode cX9_goesOn 182 = .ok (.iconst 5, 1) := by decide +kernel
theorem dX9_goesOn_183 : decode cX9_goesOn 183 = .ok (.if_icmp .ne 41, 3) := by decide +kernel
theorem dX9_goesOn_186 : decode cX9_goesOn 186 = .ok (.aload_n 0, 1) := by decide +kernel
theorem dX9_goesOn_187 : decode cX9_goesOn 187 = .ok (.iconst 3, 1) := by decide +kernel
theorem dX9_goesOn_188 : decode cX9_goesOn 188 = .ok (.invokevirtual 274, 3) := by decide +kernel
theorem dX9_goesOn_191 : decode cX9_goesOn 191 = .ok (.aload_n 0, 1) := by decide +kernel
theorem dX9_goesOn_192 : decode cX9_goesOn 192 = .ok (.getfield 54, 3) := by decide +kernel
theorem dX9_goesOn_195 : decode cX9_goesOn 195 = .ok (.aload_n 0, 1) := by decide +kernel
theorem dX9_goesOn_196 : decode cX9_goesOn 196 = .ok (.getfield 248, 3) := by decide +kernel
theorem dX9_goesOn_199 : decode cX9_goesOn 199 = .ok (.iaload, 1) := by decide +kernel
theorem dX9_goesOn_200 : decode cX9_goesOn 200 = .ok (.istore_n 2, 1) := by decide +kernel
theorem dX9_goesOn_201 : decode cX9_goesOn 201 = .ok (.aload_n 0, 1) := by decide +kernel
theorem dX9_goesOn_202 : decode cX9_goesOn 202 = .ok (.dup, 1) := by decide +kernel
theorem dX9_goesOn_203 : decode cX9_goesOn 203 = .ok (.getfield 248, 3) := by decide +kernel
theorem dX9_goesOn_206 : decode cX9_goesOn 206 = .ok (.iconst 1, 1) := by decide +kernel
theorem dX9_goesOn_207 : decode cX9_goesOn 207 = .ok (.isub, 1) := by decide +kernel
theorem dX9_goesOn_208 : decode cX9_goesOn 208 = .ok (.putfield 248, 3) := by decide +kernel
theorem dX9_goesOn_211 : decode cX9_goesOn 211 = .ok (.aload_n 0, 1) := by decide +kernel
theorem dX9_goesOn_212 : decode cX9_goesOn 212 = .ok (.iload_n 2, 1) := by decide +kernel
theorem dX9_goesOn_213 : decode cX9_goesOn 213 = .ok (.iconst 0, 1) := by decide +kernel
theorem dX9_goesOn_214 : decode cX9_goesOn 214 = .ok (.invokevirtual 270, 3) := by decide +kernel
theorem dX9_goesOn_217 : decode cX9_goesOn 217 = .ok (.aload_n 0, 1) := by decide +kernel
theorem dX9_goesOn_218 : decode cX9_goesOn 218 = .ok (.invokevirtual 305, 3) := by decide +kernel
theorem dX9_goesOn_221 : decode cX9_goesOn 221 = .ok (.goto 29, 3) := by decide +kernel
theorem dX9_goesOn_224 : decode cX9_goesOn 224 = .ok (.iload_n 1, 1) := by decide +kernel
theorem dX9_goesOn_225 : decode cX9_goesOn 225 = .ok (.iconst 1, 1) := by decide +kernel
theorem dX9_goesOn_226 : decode cX9_goesOn 226 = .ok (.if_icmp .ne 19, 3) := by decide +kernel
theorem dX9_goesOn_229 : decode cX9_goesOn 229 = .ok (.aload_n 0, 1) := by decide +kernel
theorem dX9_goesOn_230 : decode cX9_goesOn 230 = .ok (.bipush 59, 2) := by decide +kernel
theorem dX9_goesOn_232 : decode cX9_goesOn 232 = .ok (.invokevirtual 292, 3) := by decide +kernel
theorem dX9_goesOn_235 : decode cX9_goesOn 235 = .ok (.ifCond .eq 10, 3) := by decide +kernel
theorem dX9_goesOn_238 : decode cX9_goesOn 238 = .ok (.aload_n 0, 1) := by decide +kernel
theorem dX9_goesOn_239 : decode cX9_goesOn 239 = .ok (.invokevirtual 308, 3) := by decide +kernel
theorem dX9_goesOn_242 : decode cX9_goesOn 242 = .ok (.goto 8, 3) := by decide +kernel
theorem dX9_goesOn_245 : decode cX9_goesOn 245 = .ok (.aload_n 0, 1) := by decide +kernel
theorem dX9_goesOn_246 : decode cX9_goesOn 246 = .ok (.iconst 1, 1) := by decide +kernel
theorem dX9_goesOn_247 : decode cX9_goesOn 247 = .ok (.invokevirtual 254, 3) := by decide +kernel
theorem dX9_goesOn_250 : decode cX9_goesOn 250 = .ok (.return_, 1) := by decide +kernel
theorem dX9_asksOn_0 : decode cX9_asksOn 0 = .ok (.aload_n 0, 1) := by decide +kernel
theorem dX9_asksOn_1 : decode cX9_asksOn 1 = .ok (.bipush 10, 2) := by decide +kernel
theorem dX9_asksOn_3 : decode cX9_asksOn 3 = .ok (.invokevirtual 277, 3) := by decide +kernel
theorem dX9_asksOn_6 : decode cX9_asksOn 6 = .ok (.ifCond .ne 12, 3) := by decide +kernel
theorem dX9_asksOn_9 : decode cX9_asksOn 9 = .ok (.aload_n 0, 1) := by decide +kernel
theorem dX9_asksOn_10 : decode cX9_asksOn 10 = .ok (.bipush 11, 2) := by decide +kernel
theorem dX9_asksOn_12 : decode cX9_asksOn 12 = .ok (.invokevirtual 277, 3) := by decide +kernel
theorem dX9_asksOn_15 : decode cX9_asksOn 15 = .ok (.ifCond .eq 33, 3) := by decide +kernel
theorem dX9_asksOn_18 : decode cX9_asksOn 18 = .ok (.aload_n 0, 1) := by decide +kernel
theorem dX9_asksOn_19 : decode cX9_asksOn 19 = .ok (.aload_n 0, 1) := by decide +kernel
theorem dX9_asksOn_20 : decode cX9_asksOn 20 = .ok (.bipush 10, 2) := by decide +kernel
theorem dX9_asksOn_22 : decode cX9_asksOn 22 = .ok (.invokevirtual 277, 3) := by decide +kernel
theorem dX9_asksOn_25 : decode cX9_asksOn 25 = .ok (.ifCond .eq 9, 3) := by decide +kernel
theorem dX9_asksOn_28 : decode cX9_asksOn 28 = .ok (.sipush 407, 3) := by decide +kernel
theorem dX9_asksOn_31 : decode cX9_asksOn 31 = .ok (.goto 6, 3) := by decide +kernel
theorem dX9_asksOn_34 : decode cX9_asksOn 34 = .ok (.sipush 406, 3) := by decide +kernel
theorem dX9_asksOn_37 : decode cX9_asksOn 37 = .ok (.invokevirtual 299, 3) := by decide +kernel
theorem dX9_asksOn_40 : decode cX9_asksOn 40 = .ok (.aload_n 0, 1) := by decide +kernel
theorem dX9_asksOn_41 : decode cX9_asksOn 41 = .ok (.iconst 0, 1) := by decide +kernel
theorem dX9_asksOn_42 : decode cX9_asksOn 42 = .ok (.putfield 283, 3) := by decide +kernel
theorem dX9_asksOn_45 : decode cX9_asksOn 45 = .ok (.goto 32, 3) := by decide +kernel
theorem dX9_asksOn_48 : decode cX9_asksOn 48 = .ok (.aload_n 0, 1) := by decide +kernel
theorem dX9_asksOn_49 : decode cX9_asksOn 49 = .ok (.invokevirtual 295, 3) := by decide +kernel
theorem dX9_asksOn_52 : decode cX9_asksOn 52 = .ok (.iconst 2, 1) := by decide +kernel
theorem dX9_asksOn_53 : decode cX9_asksOn 53 = .ok (.if_icmp .ne 19, 3) := by decide +kernel
theorem dX9_asksOn_56 : decode cX9_asksOn 56 = .ok (.aload_n 0, 1) := by decide +kernel
theorem dX9_asksOn_57 : decode cX9_asksOn 57 = .ok (.bipush 59, 2) := by decide +kernel
theorem dX9_asksOn_59 : decode cX9_asksOn 59 = .ok (.invokevirtual 292, 3) := by decide +kernel
theorem dX9_asksOn_62 : decode cX9_asksOn 62 = .ok (.ifCond .eq 10, 3) := by decide +kernel
theorem dX9_asksOn_65 : decode cX9_asksOn 65 = .ok (.aload_n 0, 1) := by decide +kernel
theorem dX9_asksOn_66 : decode cX9_asksOn 66 = .ok (.invokevirtual 308, 3) := by decide +kernel
theorem dX9_asksOn_69 : decode cX9_asksOn 69 = .ok (.goto 8, 3) := by decide +kernel
theorem dX9_asksOn_72 : decode cX9_asksOn 72 = .ok (.aload_n 0, 1) := by decide +kernel
theorem dX9_asksOn_73 : decode cX9_asksOn 73 = .ok (.iconst 1, 1) := by decide +kernel
theorem dX9_asksOn_74 : decode cX9_asksOn 74 = .ok (.invokevirtual 254, 3) := by decide +kernel
theorem dX9_asksOn_77 : decode cX9_asksOn 77 = .ok (.return_, 1) := by decide +kernel
theorem dX9_clauseIsOver_0 : decode cX9_clauseIsOver 0 = .ok (.aload_n 0, 1) := by decide +kernel
theorem dX9_clauseIsOver_1 : decode cX9_clauseIsOver 1 = .ok (.iconst 1, 1) := by decide +kernel
theorem dX9_clauseIsOver_2 : decode cX9_clauseIsOver 2 = .ok (.invokevirtual 274, 3) := by decide +kernel
theorem dX9_clauseIsOver_5 : decode cX9_clauseIsOver 5 = .ok (.aload_n 0, 1) := by decide +kernel
theorem dX9_clauseIsOver_6 : decode cX9_clauseIsOver 6 = .ok (.iconst 0, 1) := by decide +kernel
theorem dX9_clauseIsOver_7 : decode cX9_clauseIsOver 7 = .ok (.putfield 248, 3) := by decide +kernel
theorem dX9_clauseIsOver_10 : decode cX9_clauseIsOver 10 = .ok (.aload_n 0, 1) := by decide +kernel
theorem dX9_clauseIsOver_11 : decode cX9_clauseIsOver 11 = .ok (.sipush 408, 3) := by decide +kernel
theorem dX9_clauseIsOver_14 : decode cX9_clauseIsOver 14 = .ok (.iconst 0, 1) := by decide +kernel
theorem dX9_clauseIsOver_15 : decode cX9_clauseIsOver 15 = .ok (.invokevirtual 270, 3) := by decide +kernel
theorem dX9_clauseIsOver_18 : decode cX9_clauseIsOver 18 = .ok (.aload_n 0, 1) := by decide +kernel
theorem dX9_clauseIsOver_19 : decode cX9_clauseIsOver 19 = .ok (.dup, 1) := by decide +kernel
theorem dX9_clauseIsOver_20 : decode cX9_clauseIsOver 20 = .ok (.getfield 311, 3) := by decide +kernel
theorem dX9_clauseIsOver_23 : decode cX9_clauseIsOver 23 = .ok (.iconst 1, 1) := by decide +kernel
theorem dX9_clauseIsOver_24 : decode cX9_clauseIsOver 24 = .ok (.iadd, 1) := by decide +kernel
theorem dX9_clauseIsOver_25 : decode cX9_clauseIsOver 25 = .ok (.putfield 311, 3) := by decide +kernel
theorem dX9_clauseIsOver_28 : decode cX9_clauseIsOver 28 = .ok (.aload_n 0, 1) := by decide +kernel
theorem dX9_clauseIsOver_29 : decode cX9_clauseIsOver 29 = .ok (.invokevirtual 260, 3) := by decide +kernel
theorem dX9_clauseIsOver_32 : decode cX9_clauseIsOver 32 = .ok (.aload_n 0, 1) := by decide +kernel
theorem dX9_clauseIsOver_33 : decode cX9_clauseIsOver 33 = .ok (.iconst 4, 1) := by decide +kernel
theorem dX9_clauseIsOver_34 : decode cX9_clauseIsOver 34 = .ok (.putfield 283, 3) := by decide +kernel
theorem dX9_clauseIsOver_37 : decode cX9_clauseIsOver 37 = .ok (.return_, 1) := by decide +kernel
theorem dX9_number_0 : decode cX9_number 0 = .ok (.aload_n 0, 1) := by decide +kernel
theorem dX9_number_1 : decode cX9_number 1 = .ok (.getfield 239, 3) := by decide +kernel
theorem dX9_number_4 : decode cX9_number 4 = .ok (.ifCond .gt 11, 3) := by decide +kernel
theorem dX9_number_7 : decode cX9_number 7 = .ok (.aload_n 0, 1) := by decide +kernel
theorem dX9_number_8 : decode cX9_number 8 = .ok (.getfield 223, 3) := by decide +kernel
theorem dX9_number_11 : decode cX9_number 11 = .ok (.iconst 2, 1) := by decide +kernel
theorem dX9_number_12 : decode cX9_number 12 = .ok (.if_icmp .eq 10, 3) := by decide +kernel
theorem dX9_number_15 : decode cX9_number 15 = .ok (.aload_n 0, 1) := by decide +kernel
theorem dX9_number_16 : decode cX9_number 16 = .ok (.iconst 1, 1) := by decide +kernel
theorem dX9_number_17 : decode cX9_number 17 = .ok (.invokevirtual 254, 3) := by decide +kernel
theorem dX9_number_20 : decode cX9_number 20 = .ok (.iload_n 1, 1) := by decide +kernel
theorem dX9_number_21 : decode cX9_number 21 = .ok (.ireturn, 1) := by decide +kernel
theorem dX9_number_22 : decode cX9_number 22 = .ok (.aload_n 0, 1) := by decide +kernel
theorem dX9_number_23 : decode cX9_number 23 = .ok (.getfield 235, 3) := by decide +kernel
theorem dX9_number_26 : decode cX9_number 26 = .ok (.iload_n 1, 1) := by decide +kernel
theorem dX9_number_27 : decode cX9_number 27 = .ok (.iload_n 2, 1) := by decide +kernel
theorem dX9_number_28 : decode cX9_number 28 = .ok (.invokestatic 126, 3) := by decide +kernel
theorem dX9_number_31 : decode cX9_number 31 = .ok (.ifCond .ne 10, 3) := by decide +kernel
theorem dX9_number_34 : decode cX9_number 34 = .ok (.aload_n 0, 1) := by decide +kernel
theorem dX9_number_35 : decode cX9_number 35 = .ok (.iconst 2, 1) := by decide +kernel
theorem dX9_number_36 : decode cX9_number 36 = .ok (.invokevirtual 254, 3) := by decide +kernel
theorem dX9_number_39 : decode cX9_number 39 = .ok (.iload_n 1, 1) := by decide +kernel
theorem dX9_number_40 : decode cX9_number 40 = .ok (.ireturn, 1) := by decide +kernel
theorem dX9_number_41 : decode cX9_number 41 = .ok (.aload_n 0, 1) := by decide +kernel
theorem dX9_number_42 : decode cX9_number 42 = .ok (.getfield 235, 3) := by decide +kernel
theorem dX9_number_45 : decode cX9_number 45 = .ok (.istore_n 3, 1) := by decide +kernel
theorem dX9_number_46 : decode cX9_number 46 = .ok (.aload_n 0, 1) := by decide +kernel
theorem dX9_number_47 : decode cX9_number 47 = .ok (.invokevirtual 260, 3) := by decide +kernel
theorem dX9_number_50 : decode cX9_number 50 = .ok (.iload_n 3, 1) := by decide +kernel
theorem dX9_number_51 : decode cX9_number 51 = .ok (.ireturn, 1) := by decide +kernel
theorem dX9_wasTold_0 : decode cX9_wasTold 0 = .ok (.iconst 0, 1) := by decide +kernel
theorem dX9_wasTold_1 : decode cX9_wasTold 1 = .ok (.istore_n 2, 1) := by decide +kernel
theorem dX9_wasTold_2 : decode cX9_wasTold 2 = .ok (.iconst 0, 1) := by decide +kernel
theorem dX9_wasTold_3 : decode cX9_wasTold 3 = .ok (.istore_n 3, 1) := by decide +kernel
theorem dX9_wasTold_4 : decode cX9_wasTold 4 = .ok (.iload_n 3, 1) := by decide +kernel
theorem dX9_wasTold_5 : decode cX9_wasTold 5 = .ok (.aload_n 0, 1) := by decide +kernel
theorem dX9_wasTold_6 : decode cX9_wasTold 6 = .ok (.getfield 311, 3) := by decide +kernel
theorem dX9_wasTold_9 : decode cX9_wasTold 9 = .ok (.if_icmp .ge 29, 3) := by decide +kernel
theorem dX9_wasTold_12 : decode cX9_wasTold 12 = .ok (.iload_n 2, 1) := by decide +kernel
theorem dX9_wasTold_13 : decode cX9_wasTold 13 = .ok (.ifCond .ne 13, 3) := by decide +kernel
theorem dX9_wasTold_16 : decode cX9_wasTold 16 = .ok (.aload_n 0, 1) := by decide +kernel
theorem dX9_wasTold_17 : decode cX9_wasTold 17 = .ok (.getfield 63, 3) := by decide +kernel
theorem dX9_wasTold_20 : decode cX9_wasTold 20 = .ok (.iload_n 3, 1) := by decide +kernel
theorem dX9_wasTold_21 : decode cX9_wasTold 21 = .ok (.iaload, 1) := by decide +kernel
theorem dX9_wasTold_22 : decode cX9_wasTold 22 = .ok (.iload_n 1, 1) := by decide +kernel
theorem dX9_wasTold_23 : decode cX9_wasTold 23 = .ok (.if_icmp .ne 7, 3) := by decide +kernel
theorem dX9_wasTold_26 : decode cX9_wasTold 26 = .ok (.iconst 1, 1) := by decide +kernel
theorem dX9_wasTold_27 : decode cX9_wasTold 27 = .ok (.goto 4, 3) := by decide +kernel
theorem dX9_wasTold_30 : decode cX9_wasTold 30 = .ok (.iconst 0, 1) := by decide +kernel
theorem dX9_wasTold_31 : decode cX9_wasTold 31 = .ok (.istore_n 2, 1) := by decide +kernel
theorem dX9_wasTold_32 : decode cX9_wasTold 32 = .ok (.iinc 3 1, 3) := by decide +kernel
theorem dX9_wasTold_35 : decode cX9_wasTold 35 = .ok (.goto (-31), 3) := by decide +kernel
theorem dX9_wasTold_38 : decode cX9_wasTold 38 = .ok (.iload_n 2, 1) := by decide +kernel
theorem dX9_wasTold_39 : decode cX9_wasTold 39 = .ok (.ireturn, 1) := by decide +kernel
theorem dX9_wants_0 : decode cX9_wants 0 = .ok (.aload_n 0, 1) := by decide +kernel
theorem dX9_wants_1 : decode cX9_wants 1 = .ok (.getfield 239, 3) := by decide +kernel
theorem dX9_wants_4 : decode cX9_wants 4 = .ok (.ifCond .ne 16, 3) := by decide +kernel
theorem dX9_wants_7 : decode cX9_wants 7 = .ok (.aload_n 0, 1) := by decide +kernel
theorem dX9_wants_8 : decode cX9_wants 8 = .ok (.iload_n 1, 1) := by decide +kernel
theorem dX9_wants_9 : decode cX9_wants 9 = .ok (.invokevirtual 277, 3) := by decide +kernel
theorem dX9_wants_12 : decode cX9_wants 12 = .ok (.ifCond .ne 8, 3) := by decide +kernel
theorem dX9_wants_15 : decode cX9_wants 15 = .ok (.aload_n 0, 1) := by decide +kernel
theorem dX9_wants_16 : decode cX9_wants 16 = .ok (.iconst 1, 1) := by decide +kernel
theorem dX9_wants_17 : decode cX9_wants 17 = .ok (.invokevirtual 254, 3) := by decide +kernel
theorem dX9_wants_20 : decode cX9_wants 20 = .ok (.aload_n 0, 1) := by decide +kernel
theorem dX9_wants_21 : decode cX9_wants 21 = .ok (.getfield 239, 3) := by decide +kernel
theorem dX9_wants_24 : decode cX9_wants 24 = .ok (.ifCond .ne 7, 3) := by decide +kernel
theorem dX9_wants_27 : decode cX9_wants 27 = .ok (.aload_n 0, 1) := by decide +kernel
theorem dX9_wants_28 : decode cX9_wants 28 = .ok (.invokevirtual 260, 3) := by decide +kernel
theorem dX9_wants_31 : decode cX9_wants 31 = .ok (.return_, 1) := by decide +kernel
theorem dX9_clause_0 : decode cX9_clause 0 = .ok (.aload_n 0, 1) := by decide +kernel
theorem dX9_clause_1 : decode cX9_clause 1 = .ok (.getfield 223, 3) := by decide +kernel
theorem dX9_clause_4 : decode cX9_clause 4 = .ok (.iconst 1, 1) := by decide +kernel
theorem dX9_clause_5 : decode cX9_clause 5 = .ok (.if_icmp .ne 12, 3) := by decide +kernel
theorem dX9_clause_8 : decode cX9_clause 8 = .ok (.aload_n 0, 1) := by decide +kernel
theorem dX9_clause_9 : decode cX9_clause 9 = .ok (.getfield 235, 3) := by decide +kernel
theorem dX9_clause_12 : decode cX9_clause 12 = .ok (.bipush 7, 2) := by decide +kernel
theorem dX9_clause_14 : decode cX9_clause 14 = .ok (.if_icmp .le 9, 3) := by decide +kernel
theorem dX9_clause_17 : decode cX9_clause 17 = .ok (.aload_n 0, 1) := by decide +kernel
theorem dX9_clause_18 : decode cX9_clause 18 = .ok (.iconst 1, 1) := by decide +kernel
theorem dX9_clause_19 : decode cX9_clause 19 = .ok (.invokevirtual 254, 3) := by decide +kernel
theorem dX9_clause_22 : decode cX9_clause 22 = .ok (.return_, 1) := by decide +kernel
theorem dX9_clause_23 : decode cX9_clause 23 = .ok (.aload_n 0, 1) := by decide +kernel
theorem dX9_clause_24 : decode cX9_clause 24 = .ok (.aload_n 0, 1) := by decide +kernel
theorem dX9_clause_25 : decode cX9_clause 25 = .ok (.getfield 235, 3) := by decide +kernel
theorem dX9_clause_28 : decode cX9_clause 28 = .ok (.putfield 289, 3) := by decide +kernel
theorem dX9_clause_31 : decode cX9_clause 31 = .ok (.aload_n 0, 1) := by decide +kernel
theorem dX9_clause_32 : decode cX9_clause 32 = .ok (.getfield 289, 3) := by decide +kernel
theorem dX9_clause_35 : decode cX9_clause 35 = .ok (.iconst 3, 1) := by decide +kernel
theorem dX9_clause_36 : decode cX9_clause 36 = .ok (.if_icmp .gt 22, 3) := by decide +kernel
theorem dX9_clause_39 : decode cX9_clause 39 = .ok (.aload_n 0, 1) := by decide +kernel
theorem dX9_clause_40 : decode cX9_clause 40 = .ok (.aload_n 0, 1) := by decide +kernel
theorem dX9_clause_41 : decode cX9_clause 41 = .ok (.getfield 289, 3) := by decide +kernel
theorem dX9_clause_44 : decode cX9_clause 44 = .ok (.invokevirtual 314, 3) := by decide +kernel
theorem dX9_clause_47 : decode cX9_clause 47 = .ok (.ifCond .eq 11, 3) := by decide +kernel
theorem dX9_clause_50 : decode cX9_clause 50 = .ok (.aload_n 0, 1) := by decide +kernel
theorem dX9_clause_51 : decode cX9_clause 51 = .ok (.iconst 4, 1) := by decide +kernel
theorem dX9_clause_52 : decode cX9_clause 52 = .ok (.invokevirtual 254, 3) := by decide +kernel
theorem dX9_clause_55 : decode cX9_clause 55 = .ok (.goto 18, 3) := by decide +kernel
theorem dX9_clause_58 : decode cX9_clause 58 = .ok (.aload_n 0, 1) := by decide +kernel
theorem dX9_clause_59 : decode cX9_clause 59 = .ok (.getfield 311, 3) := by decide +kernel
theorem dX9_clause_62 : decode cX9_clause 62 = .ok (.bipush 24, 2) := by decide +kernel
theorem dX9_clause_64 : decode cX9_clause 64 = .ok (.if_icmp .ne 9, 3) := by decide +kernel
theorem dX9_clause_67 : decode cX9_clause 67 = .ok (.aload_n 0, 1) := by decide +kernel
theorem dX9_clause_68 : decode cX9_clause 68 = .ok (.bipush 6, 2) := by decide +kernel
theorem dX9_clause_70 : decode cX9_clause 70 = .ok (.invokevirtual 254, 3) := by decide +kernel
theorem dX9_clause_73 : decode cX9_clause 73 = .ok (.aload_n 0, 1) := by decide +kernel
theorem dX9_clause_74 : decode cX9_clause 74 = .ok (.getfield 239, 3) := by decide +kernel
theorem dX9_clause_77 : decode cX9_clause 77 = .ok (.ifCond .le 4, 3) := by decide +kernel
theorem dX9_clause_80 : decode cX9_clause 80 = .ok (.return_, 1) := by decide +kernel
theorem dX9_clause_81 : decode cX9_clause 81 = .ok (.aload_n 0, 1) := by decide +kernel
theorem dX9_clause_82 : decode cX9_clause 82 = .ok (.getfield 63, 3) := by decide +kernel
theorem dX9_clause_85 : decode cX9_clause 85 = .ok (.aload_n 0, 1) := by decide +kernel
theorem dX9_clause_86 : decode cX9_clause 86 = .ok (.getfield 311, 3) := by decide +kernel
theorem dX9_clause_89 : decode cX9_clause 89 = .ok (.aload_n 0, 1) := by decide +kernel
theorem dX9_clause_90 : decode cX9_clause 90 = .ok (.getfield 289, 3) := by decide +kernel
theorem dX9_clause_93 : decode cX9_clause 93 = .ok (.iastore, 1) := by decide +kernel
theorem dX9_clause_94 : decode cX9_clause 94 = .ok (.aload_n 0, 1) := by decide +kernel
theorem dX9_clause_95 : decode cX9_clause 95 = .ok (.getfield 66, 3) := by decide +kernel
theorem dX9_clause_98 : decode cX9_clause 98 = .ok (.aload_n 0, 1) := by decide +kernel
theorem dX9_clause_99 : decode cX9_clause 99 = .ok (.getfield 311, 3) := by decide +kernel
theorem dX9_clause_102 : decode cX9_clause 102 = .ok (.aload_n 0, 1) := by decide +kernel
theorem dX9_clause_103 : decode cX9_clause 103 = .ok (.getfield 245, 3) := by decide +kernel
theorem dX9_clause_106 : decode cX9_clause 106 = .ok (.iastore, 1) := by decide +kernel
theorem dX9_clause_107 : decode cX9_clause 107 = .ok (.aload_n 0, 1) := by decide +kernel
theorem dX9_clause_108 : decode cX9_clause 108 = .ok (.getfield 69, 3) := by decide +kernel
theorem dX9_clause_111 : decode cX9_clause 111 = .ok (.aload_n 0, 1) := by decide +kernel
theorem dX9_clause_112 : decode cX9_clause 112 = .ok (.getfield 311, 3) := by decide +kernel
theorem dX9_clause_115 : decode cX9_clause 115 = .ok (.iconst (-1), 1) := by decide +kernel
theorem dX9_clause_116 : decode cX9_clause 116 = .ok (.iastore, 1) := by decide +kernel
theorem dX9_clause_117 : decode cX9_clause 117 = .ok (.aload_n 0, 1) := by decide +kernel
theorem dX9_clause_118 : decode cX9_clause 118 = .ok (.getfield 72, 3) := by decide +kernel
theorem dX9_clause_121 : decode cX9_clause 121 = .ok (.aload_n 0, 1) := by decide +kernel
theorem dX9_clause_122 : decode cX9_clause 122 = .ok (.getfield 311, 3) := by decide +kernel
theorem dX9_clause_125 : decode cX9_clause 125 = .ok (.iconst (-1), 1) := by decide +kernel
theorem dX9_clause_126 : decode cX9_clause 126 = .ok (.iastore, 1) := by decide +kernel
theorem dX9_clause_127 : decode cX9_clause 127 = .ok (.aload_n 0, 1) := by decide +kernel
theorem dX9_clause_128 : decode cX9_clause 128 = .ok (.getfield 75, 3) := by decide +kernel
theorem dX9_clause_131 : decode cX9_clause 131 = .ok (.aload_n 0, 1) := by decide +kernel
theorem dX9_clause_132 : decode cX9_clause 132 = .ok (.getfield 311, 3) := by decide +kernel
theorem dX9_clause_135 : decode cX9_clause 135 = .ok (.iconst (-1), 1) := by decide +kernel
theorem dX9_clause_136 : decode cX9_clause 136 = .ok (.iastore, 1) := by decide +kernel
theorem dX9_clause_137 : decode cX9_clause 137 = .ok (.aload_n 0, 1) := by decide +kernel
theorem dX9_clause_138 : decode cX9_clause 138 = .ok (.invokevirtual 260, 3) := by decide +kernel
theorem dX9_clause_141 : decode cX9_clause 141 = .ok (.aload_n 0, 1) := by decide +kernel
theorem dX9_clause_142 : decode cX9_clause 142 = .ok (.getfield 289, 3) := by decide +kernel
theorem dX9_clause_145 : decode cX9_clause 145 = .ok (.iconst 3, 1) := by decide +kernel
theorem dX9_clause_146 : decode cX9_clause 146 = .ok (.if_icmp .gt 38, 3) := by decide +kernel
theorem dX9_clause_149 : decode cX9_clause 149 = .ok (.aload_n 0, 1) := by decide +kernel
theorem dX9_clause_150 : decode cX9_clause 150 = .ok (.aload_n 0, 1) := by decide +kernel
theorem dX9_clause_151 : decode cX9_clause 151 = .ok (.getfield 289, 3) := by decide +kernel
theorem dX9_clause_154 : decode cX9_clause 154 = .ok (.iconst 3, 1) := by decide +kernel
theorem dX9_clause_155 : decode cX9_clause 155 = .ok (.if_icmp .ne 7, 3) := by decide +kernel
theorem dX9_clause_158 : decode cX9_clause 158 = .ok (.iconst 2, 1) := by decide +kernel
theorem dX9_clause_159 : decode cX9_clause 159 = .ok (.goto 4, 3) := by decide +kernel
theorem dX9_clause_162 : decode cX9_clause 162 = .ok (.iconst 1, 1) := by decide +kernel
theorem dX9_clause_163 : decode cX9_clause 163 = .ok (.invokevirtual 257, 3) := by decide +kernel
theorem dX9_clause_166 : decode cX9_clause 166 = .ok (.aload_n 0, 1) := by decide +kernel
theorem dX9_clause_167 : decode cX9_clause 167 = .ok (.aload_n 0, 1) := by decide +kernel
theorem dX9_clause_168 : decode cX9_clause 168 = .ok (.getfield 289, 3) := by decide +kernel
theorem dX9_clause_171 : decode cX9_clause 171 = .ok (.iconst 3, 1) := by decide +kernel
theorem dX9_clause_172 : decode cX9_clause 172 = .ok (.if_icmp .ne 7, 3) := by decide +kernel
theorem dX9_clause_175 : decode cX9_clause 175 = .ok (.iconst 0, 1) := by decide +kernel
theorem dX9_clause_176 : decode cX9_clause 176 = .ok (.goto 4, 3) := by decide +kernel
theorem dX9_clause_179 : decode cX9_clause 179 = .ok (.iconst 1, 1) := by decide +kernel
theorem dX9_clause_180 : decode cX9_clause 180 = .ok (.putfield 283, 3) := by decide +kernel
theorem dX9_clause_183 : decode cX9_clause 183 = .ok (.return_, 1) := by decide +kernel
theorem dX9_clause_184 : decode cX9_clause 184 = .ok (.aload_n 0, 1) := by decide +kernel
