theorem dX9_init_0 : decode cX9_init 0 = .ok (.aload_n 0, 1) := by decide +kernel
theorem dX9_init_1 : decode cX9_init 1 = .ok (.invokespecial 1, 3) := by decide +kernel
theorem dX9_init_4 : decode cX9_init 4 = .ok (.aload_n 0, 1) := by decide +kernel
theorem dX9_init_5 : decode cX9_init 5 = .ok (.sipush 1990, 3) := by decide +kernel
theorem dX9_init_8 : decode cX9_init 8 = .ok (.newarray .int, 2) := by decide +kernel
theorem dX9_init_10 : decode cX9_init 10 = .ok (.putfield 7, 3) := by decide +kernel
theorem dX9_init_13 : decode cX9_init 13 = .ok (.aload_n 0, 1) := by decide +kernel
theorem dX9_init_14 : decode cX9_init 14 = .ok (.sipush 1990, 3) := by decide +kernel
theorem dX9_init_17 : decode cX9_init 17 = .ok (.newarray .int, 2) := by decide +kernel
theorem dX9_init_19 : decode cX9_init 19 = .ok (.putfield 13, 3) := by decide +kernel
theorem dX9_init_22 : decode cX9_init 22 = .ok (.aload_n 0, 1) := by decide +kernel
theorem dX9_init_23 : decode cX9_init 23 = .ok (.sipush 300, 3) := by decide +kernel
theorem dX9_init_26 : decode cX9_init 26 = .ok (.newarray .byte, 2) := by decide +kernel
theorem dX9_init_28 : decode cX9_init 28 = .ok (.putfield 16, 3) := by decide +kernel
theorem dX9_init_31 : decode cX9_init 31 = .ok (.aload_n 0, 1) := by decide +kernel
theorem dX9_init_32 : decode cX9_init 32 = .ok (.iconst (-1), 1) := by decide +kernel
theorem dX9_init_33 : decode cX9_init 33 = .ok (.putfield 20, 3) := by decide +kernel
theorem dX9_init_36 : decode cX9_init 36 = .ok (.aload_n 0, 1) := by decide +kernel
theorem dX9_init_37 : decode cX9_init 37 = .ok (.iconst (-1), 1) := by decide +kernel
theorem dX9_init_38 : decode cX9_init 38 = .ok (.putfield 24, 3) := by decide +kernel
theorem dX9_init_41 : decode cX9_init 41 = .ok (.aload_n 0, 1) := by decide +kernel
theorem dX9_init_42 : decode cX9_init 42 = .ok (.iconst 4, 1) := by decide +kernel
theorem dX9_init_43 : decode cX9_init 43 = .ok (.newarray .int, 2) := by decide +kernel
theorem dX9_init_45 : decode cX9_init 45 = .ok (.putfield 27, 3) := by decide +kernel
theorem dX9_init_48 : decode cX9_init 48 = .ok (.aload_n 0, 1) := by decide +kernel
theorem dX9_init_49 : decode cX9_init 49 = .ok (.bipush 96, 2) := by decide +kernel
theorem dX9_init_51 : decode cX9_init 51 = .ok (.newarray .int, 2) := by decide +kernel
theorem dX9_init_53 : decode cX9_init 53 = .ok (.putfield 30, 3) := by decide +kernel
theorem dX9_init_56 : decode cX9_init 56 = .ok (.aload_n 0, 1) := by decide +kernel
theorem dX9_init_57 : decode cX9_init 57 = .ok (.bipush 96, 2) := by decide +kernel
theorem dX9_init_59 : decode cX9_init 59 = .ok (.newarray .int, 2) := by decide +kernel
theorem dX9_init_61 : decode cX9_init 61 = .ok (.putfield 33, 3) := by decide +kernel
theorem dX9_init_64 : decode cX9_init 64 = .ok (.aload_n 0, 1) := by decide +kernel
theorem dX9_init_65 : decode cX9_init 65 = .ok (.bipush 96, 2) := by decide +kernel
theorem dX9_init_67 : decode cX9_init 67 = .ok (.newarray .int, 2) := by decide +kernel
theorem dX9_init_69 : decode cX9_init 69 = .ok (.putfield 36, 3) := by decide +kernel
theorem dX9_init_72 : decode cX9_init 72 = .ok (.aload_n 0, 1) := by decide +kernel
theorem dX9_init_73 : decode cX9_init 73 = .ok (.bipush 96, 2) := by decide +kernel
theorem dX9_init_75 : decode cX9_init 75 = .ok (.newarray .int, 2) := by decide +kernel
theorem dX9_init_77 : decode cX9_init 77 = .ok (.putfield 39, 3) := by decide +kernel
theorem dX9_init_80 : decode cX9_init 80 = .ok (.aload_n 0, 1) := by decide +kernel
theorem dX9_init_81 : decode cX9_init 81 = .ok (.bipush 96, 2) := by decide +kernel
theorem dX9_init_83 : decode cX9_init 83 = .ok (.newarray .int, 2) := by decide +kernel
theorem dX9_init_85 : decode cX9_init 85 = .ok (.putfield 42, 3) := by decide +kernel
theorem dX9_init_88 : decode cX9_init 88 = .ok (.aload_n 0, 1) := by decide +kernel
theorem dX9_init_89 : decode cX9_init 89 = .ok (.sipush 1600, 3) := by decide +kernel
theorem dX9_init_92 : decode cX9_init 92 = .ok (.newarray .int, 2) := by decide +kernel
theorem dX9_init_94 : decode cX9_init 94 = .ok (.putfield 45, 3) := by decide +kernel
theorem dX9_init_97 : decode cX9_init 97 = .ok (.aload_n 0, 1) := by decide +kernel
theorem dX9_init_98 : decode cX9_init 98 = .ok (.sipush 1600, 3) := by decide +kernel
theorem dX9_init_101 : decode cX9_init 101 = .ok (.newarray .int, 2) := by decide +kernel
theorem dX9_init_103 : decode cX9_init 103 = .ok (.putfield 48, 3) := by decide +kernel
theorem dX9_init_106 : decode cX9_init 106 = .ok (.aload_n 0, 1) := by decide +kernel
theorem dX9_init_107 : decode cX9_init 107 = .ok (.bipush 40, 2) := by decide +kernel
theorem dX9_init_109 : decode cX9_init 109 = .ok (.newarray .int, 2) := by decide +kernel
theorem dX9_init_111 : decode cX9_init 111 = .ok (.putfield 51, 3) := by decide +kernel
theorem dX9_init_114 : decode cX9_init 114 = .ok (.aload_n 0, 1) := by decide +kernel
theorem dX9_init_115 : decode cX9_init 115 = .ok (.bipush 41, 2) := by decide +kernel
theorem dX9_init_117 : decode cX9_init 117 = .ok (.newarray .int, 2) := by decide +kernel
theorem dX9_init_119 : decode cX9_init 119 = .ok (.putfield 54, 3) := by decide +kernel
theorem dX9_init_122 : decode cX9_init 122 = .ok (.aload_n 0, 1) := by decide +kernel
theorem dX9_init_123 : decode cX9_init 123 = .ok (.bipush 80, 2) := by decide +kernel
theorem dX9_init_125 : decode cX9_init 125 = .ok (.newarray .int, 2) := by decide +kernel
theorem dX9_init_127 : decode cX9_init 127 = .ok (.putfield 57, 3) := by decide +kernel
theorem dX9_init_130 : decode cX9_init 130 = .ok (.aload_n 0, 1) := by decide +kernel
theorem dX9_init_131 : decode cX9_init 131 = .ok (.bipush 80, 2) := by decide +kernel
theorem dX9_init_133 : decode cX9_init 133 = .ok (.newarray .int, 2) := by decide +kernel
theorem dX9_init_135 : decode cX9_init 135 = .ok (.putfield 60, 3) := by decide +kernel
theorem dX9_init_138 : decode cX9_init 138 = .ok (.aload_n 0, 1) := by decide +kernel
theorem dX9_init_139 : decode cX9_init 139 = .ok (.bipush 24, 2) := by decide +kernel
theorem dX9_init_141 : decode cX9_init 141 = .ok (.newarray .int, 2) := by decide +kernel
theorem dX9_init_143 : decode cX9_init 143 = .ok (.putfield 63, 3) := by decide +kernel
theorem dX9_init_146 : decode cX9_init 146 = .ok (.aload_n 0, 1) := by decide +kernel
theorem dX9_init_147 : decode cX9_init 147 = .ok (.bipush 24, 2) := by decide +kernel
theorem dX9_init_149 : decode cX9_init 149 = .ok (.newarray .int, 2) := by decide +kernel
theorem dX9_init_151 : decode cX9_init 151 = .ok (.putfield 66, 3) := by decide +kernel
theorem dX9_init_154 : decode cX9_init 154 = .ok (.aload_n 0, 1) := by decide +kernel
theorem dX9_init_155 : decode cX9_init 155 = .ok (.bipush 24, 2) := by decide +kernel
theorem dX9_init_157 : decode cX9_init 157 = .ok (.newarray .int, 2) := by decide +kernel
theorem dX9_init_159 : decode cX9_init 159 = .ok (.putfield 69, 3) := by decide +kernel
theorem dX9_init_162 : decode cX9_init 162 = .ok (.aload_n 0, 1) := by decide +kernel
theorem dX9_init_163 : decode cX9_init 163 = .ok (.bipush 24, 2) := by decide +kernel
theorem dX9_init_165 : decode cX9_init 165 = .ok (.newarray .int, 2) := by decide +kernel
theorem dX9_init_167 : decode cX9_init 167 = .ok (.putfield 72, 3) := by decide +kernel
theorem dX9_init_170 : decode cX9_init 170 = .ok (.aload_n 0, 1) := by decide +kernel
theorem dX9_init_171 : decode cX9_init 171 = .ok (.bipush 24, 2) := by decide +kernel
theorem dX9_init_173 : decode cX9_init 173 = .ok (.newarray .int, 2) := by decide +kernel
theorem dX9_init_175 : decode cX9_init 175 = .ok (.putfield 75, 3) := by decide +kernel
theorem dX9_init_178 : decode cX9_init 178 = .ok (.aload_n 0, 1) := by decide +kernel
theorem dX9_init_179 : decode cX9_init 179 = .ok (.sipush 400, 3) := by decide +kernel
theorem dX9_init_182 : decode cX9_init 182 = .ok (.newarray .int, 2) := by decide +kernel
theorem dX9_init_184 : decode cX9_init 184 = .ok (.putfield 78, 3) := by decide +kernel
theorem dX9_init_187 : decode cX9_init 187 = .ok (.aload_n 0, 1) := by decide +kernel
theorem dX9_init_188 : decode cX9_init 188 = .ok (.sipush 400, 3) := by decide +kernel
theorem dX9_init_191 : decode cX9_init 191 = .ok (.newarray .int, 2) := by decide +kernel
theorem dX9_init_193 : decode cX9_init 193 = .ok (.putfield 81, 3) := by decide +kernel
theorem dX9_init_196 : decode cX9_init 196 = .ok (.aload_n 0, 1) := by decide +kernel
theorem dX9_init_197 : decode cX9_init 197 = .ok (.bipush 9, 2) := by decide +kernel
theorem dX9_init_199 : decode cX9_init 199 = .ok (.newarray .int, 2) := by decide +kernel
theorem dX9_init_201 : decode cX9_init 201 = .ok (.putfield 84, 3) := by decide +kernel
theorem dX9_init_204 : decode cX9_init 204 = .ok (.aload_n 0, 1) := by decide +kernel
theorem dX9_init_205 : decode cX9_init 205 = .ok (.sipush 200, 3) := by decide +kernel
theorem dX9_init_208 : decode cX9_init 208 = .ok (.newarray .long, 2) := by decide +kernel
theorem dX9_init_210 : decode cX9_init 210 = .ok (.putfield 87, 3) := by decide +kernel
theorem dX9_init_213 : decode cX9_init 213 = .ok (.aload_n 0, 1) := by decide +kernel
theorem dX9_init_214 : decode cX9_init 214 = .ok (.bipush 16, 2) := by decide +kernel
theorem dX9_init_216 : decode cX9_init 216 = .ok (.newarray .long, 2) := by decide +kernel
theorem dX9_init_218 : decode cX9_init 218 = .ok (.putfield 91, 3) := by decide +kernel
theorem dX9_init_221 : decode cX9_init 221 = .ok (.aload_n 0, 1) := by decide +kernel
theorem dX9_init_222 : decode cX9_init 222 = .ok (.bipush 16, 2) := by decide +kernel
theorem dX9_init_224 : decode cX9_init 224 = .ok (.newarray .long, 2) := by decide +kernel
theorem dX9_init_226 : decode cX9_init 226 = .ok (.putfield 94, 3) := by decide +kernel
theorem dX9_init_229 : decode cX9_init 229 = .ok (.aload_n 0, 1) := by decide +kernel
theorem dX9_init_230 : decode cX9_init 230 = .ok (.bipush 120, 2) := by decide +kernel
theorem dX9_init_232 : decode cX9_init 232 = .ok (.newarray .int, 2) := by decide +kernel
theorem dX9_init_234 : decode cX9_init 234 = .ok (.putfield 97, 3) := by decide +kernel
theorem dX9_init_237 : decode cX9_init 237 = .ok (.aload_n 0, 1) := by decide +kernel
theorem dX9_init_238 : decode cX9_init 238 = .ok (.bipush 120, 2) := by decide +kernel
theorem dX9_init_240 : decode cX9_init 240 = .ok (.newarray .int, 2) := by decide +kernel
theorem dX9_init_242 : decode cX9_init 242 = .ok (.putfield 100, 3) := by decide +kernel
theorem dX9_init_245 : decode cX9_init 245 = .ok (.aload_n 0, 1) := by decide +kernel
theorem dX9_init_246 : decode cX9_init 246 = .ok (.bipush 120, 2) := by decide +kernel
theorem dX9_init_248 : decode cX9_init 248 = .ok (.newarray .boolean, 2) := by decide +kernel
theorem dX9_init_250 : decode cX9_init 250 = .ok (.putfield 103, 3) := by decide +kernel
theorem dX9_init_253 : decode cX9_init 253 = .ok (.aload_n 0, 1) := by decide +kernel
theorem dX9_init_254 : decode cX9_init 254 = .ok (.bipush 10, 2) := by decide +kernel
theorem dX9_init_256 : decode cX9_init 256 = .ok (.newarray .int, 2) := by decide +kernel
theorem dX9_init_258 : decode cX9_init 258 = .ok (.putfield 107, 3) := by decide +kernel
theorem dX9_init_261 : decode cX9_init 261 = .ok (.aload_n 0, 1) := by decide +kernel
theorem dX9_init_262 : decode cX9_init 262 = .ok (.iconst 3, 1) := by decide +kernel
theorem dX9_init_263 : decode cX9_init 263 = .ok (.newarray .int, 2) := by decide +kernel
theorem dX9_init_265 : decode cX9_init 265 = .ok (.putfield 110, 3) := by decide +kernel
theorem dX9_init_268 : decode cX9_init 268 = .ok (.aload_n 0, 1) := by decide +kernel
theorem dX9_init_269 : decode cX9_init 269 = .ok (.iconst 3, 1) := by decide +kernel
theorem dX9_init_270 : decode cX9_init 270 = .ok (.newarray .int, 2) := by decide +kernel
theorem dX9_init_272 : decode cX9_init 272 = .ok (.putfield 113, 3) := by decide +kernel
theorem dX9_init_275 : decode cX9_init 275 = .ok (.aload_n 0, 1) := by decide +kernel
theorem dX9_init_276 : decode cX9_init 276 = .ok (.iconst 3, 1) := by decide +kernel
theorem dX9_init_277 : decode cX9_init 277 = .ok (.newarray .int, 2) := by decide +kernel
theorem dX9_init_279 : decode cX9_init 279 = .ok (.putfield 116, 3) := by decide +kernel
theorem dX9_init_282 : decode cX9_init 282 = .ok (.aload_n 0, 1) := by decide +kernel
theorem dX9_init_283 : decode cX9_init 283 = .ok (.iconst 3, 1) := by decide +kernel
theorem dX9_init_284 : decode cX9_init 284 = .ok (.newarray .int, 2) := by decide +kernel
theorem dX9_init_286 : decode cX9_init 286 = .ok (.putfield 119, 3) := by decide +kernel
theorem dX9_init_289 : decode cX9_init 289 = .ok (.aload_n 0, 1) := by decide +kernel
theorem dX9_init_290 : decode cX9_init 290 = .ok (.getfield 7, 3) := by decide +kernel
theorem dX9_init_293 : decode cX9_init 293 = .ok (.iconst 4, 1) := by decide +kernel
theorem dX9_init_294 : decode cX9_init 294 = .ok (.iconst (-1), 1) := by decide +kernel
theorem dX9_init_295 : decode cX9_init 295 = .ok (.iastore, 1) := by decide +kernel
theorem dX9_init_296 : decode cX9_init 296 = .ok (.aload_n 0, 1) := by decide +kernel
theorem dX9_init_297 : decode cX9_init 297 = .ok (.getfield 7, 3) := by decide +kernel
theorem dX9_init_300 : decode cX9_init 300 = .ok (.bipush 122, 2) := by decide +kernel
theorem dX9_init_302 : decode cX9_init 302 = .ok (.bipush 9, 2) := by decide +kernel
theorem dX9_init_304 : decode cX9_init 304 = .ok (.iastore, 1) := by decide +kernel
theorem dX9_init_305 : decode cX9_init 305 = .ok (.aload_n 0, 1) := by decide +kernel
theorem dX9_init_306 : decode cX9_init 306 = .ok (.iconst 1, 1) := by decide +kernel
theorem dX9_init_307 : decode cX9_init 307 = .ok (.invokevirtual 122, 3) := by decide +kernel
theorem dX9_init_310 : decode cX9_init 310 = .ok (.return_, 1) := by decide +kernel
theorem dX9_in_0 : decode cX9_in 0 = .ok (.iload_n 0, 1) := by decide +kernel
theorem dX9_in_1 : decode cX9_in 1 = .ok (.iload_n 1, 1) := by decide +kernel
theorem dX9_in_2 : decode cX9_in 2 = .ok (.if_icmp .lt 12, 3) := by decide +kernel
theorem dX9_in_5 : decode cX9_in 5 = .ok (.iload_n 0, 1) := by decide +kernel
theorem dX9_in_6 : decode cX9_in 6 = .ok (.iload_n 2, 1) := by decide +kernel
theorem dX9_in_7 : decode cX9_in 7 = .ok (.if_icmp .gt 7, 3) := by decide +kernel
theorem dX9_in_10 : decode cX9_in 10 = .ok (.iconst 1, 1) := by decide +kernel
theorem dX9_in_11 : decode cX9_in 11 = .ok (.goto 4, 3) := by decide +kernel
theorem dX9_in_14 : decode cX9_in 14 = .ok (.iconst 0, 1) := by decide +kernel
theorem dX9_in_15 : decode cX9_in 15 = .ok (.ireturn, 1) := by decide +kernel
theorem dX9_copies_0 : decode cX9_copies 0 = .ok (.iconst 0, 1) := by decide +kernel
theorem dX9_copies_1 : decode cX9_copies 1 = .ok (.istore_n 2, 1) := by decide +kernel
theorem dX9_copies_2 : decode cX9_copies 2 = .ok (.iload_n 2, 1) := by decide +kernel
theorem dX9_copies_3 : decode cX9_copies 3 = .ok (.sipush 1990, 3) := by decide +kernel
theorem dX9_copies_6 : decode cX9_copies 6 = .ok (.if_icmp .ge 40, 3) := by decide +kernel
theorem dX9_copies_9 : decode cX9_copies 9 = .ok (.iload_n 1, 1) := by decide +kernel
theorem dX9_copies_10 : decode cX9_copies 10 = .ok (.ifCond .eq 18, 3) := by decide +kernel
theorem dX9_copies_13 : decode cX9_copies 13 = .ok (.aload_n 0, 1) := by decide +kernel
theorem dX9_copies_14 : decode cX9_copies 14 = .ok (.getfield 13, 3) := by decide +kernel
theorem dX9_copies_17 : decode cX9_copies 17 = .ok (.iload_n 2, 1) := by decide +kernel
theorem dX9_copies_18 : decode cX9_copies 18 = .ok (.aload_n 0, 1) := by decide +kernel
theorem dX9_copies_19 : decode cX9_copies 19 = .ok (.getfield 7, 3) := by decide +kernel
theorem dX9_copies_22 : decode cX9_copies 22 = .ok (.iload_n 2, 1) := by decide +kernel
theorem dX9_copies_23 : decode cX9_copies 23 = .ok (.iaload, 1) := by decide +kernel
theorem dX9_copies_24 : decode cX9_copies 24 = .ok (.iastore, 1) := by decide +kernel
theorem dX9_copies_25 : decode cX9_copies 25 = .ok (.goto 15, 3) := by decide +kernel
theorem dX9_copies_28 : decode cX9_copies 28 = .ok (.aload_n 0, 1) := by decide +kernel
theorem dX9_copies_29 : decode cX9_copies 29 = .ok (.getfield 7, 3) := by decide +kernel
theorem dX9_copies_32 : decode cX9_copies 32 = .ok (.iload_n 2, 1) := by decide +kernel
theorem dX9_copies_33 : decode cX9_copies 33 = .ok (.aload_n 0, 1) := by decide +kernel
theorem dX9_copies_34 : decode cX9_copies 34 = .ok (.getfield 13, 3) := by decide +kernel
theorem dX9_copies_37 : decode cX9_copies 37 = .ok (.iload_n 2, 1) := by decide +kernel
theorem dX9_copies_38 : decode cX9_copies 38 = .ok (.iaload, 1) := by decide +kernel
theorem dX9_copies_39 : decode cX9_copies 39 = .ok (.iastore, 1) := by decide +kernel
theorem dX9_copies_40 : decode cX9_copies 40 = .ok (.iinc 2 1, 3) := by decide +kernel
theorem dX9_copies_43 : decode cX9_copies 43 = .ok (.goto (-41), 3) := by decide +kernel
theorem dX9_copies_46 : decode cX9_copies 46 = .ok (.return_, 1) := by decide +kernel
theorem dX9_isMarket_0 : decode cX9_isMarket 0 = .ok (.iload_n 1, 1) := by decide +kernel
theorem dX9_isMarket_1 : decode cX9_isMarket 1 = .ok (.iconst 0, 1) := by decide +kernel
theorem dX9_isMarket_2 : decode cX9_isMarket 2 = .ok (.aload_n 0, 1) := by decide +kernel
theorem dX9_isMarket_3 : decode cX9_isMarket 3 = .ok (.getfield 7, 3) := by decide +kernel
theorem dX9_isMarket_6 : decode cX9_isMarket 6 = .ok (.iconst 0, 1) := by decide +kernel
theorem dX9_isMarket_7 : decode cX9_isMarket 7 = .ok (.iaload, 1) := by decide +kernel
theorem dX9_isMarket_8 : decode cX9_isMarket 8 = .ok (.iconst 1, 1) := by decide +kernel
theorem dX9_isMarket_9 : decode cX9_isMarket 9 = .ok (.isub, 1) := by decide +kernel
theorem dX9_isMarket_10 : decode cX9_isMarket 10 = .ok (.invokestatic 126, 3) := by decide +kernel
theorem dX9_isMarket_13 : decode cX9_isMarket 13 = .ok (.ireturn, 1) := by decide +kernel
theorem dX9_isGoose_0 : decode cX9_isGoose 0 = .ok (.iload_n 1, 1) := by decide +kernel
theorem dX9_isGoose_1 : decode cX9_isGoose 1 = .ok (.iconst 0, 1) := by decide +kernel
theorem dX9_isGoose_2 : decode cX9_isGoose 2 = .ok (.aload_n 0, 1) := by decide +kernel
theorem dX9_isGoose_3 : decode cX9_isGoose 3 = .ok (.getfield 7, 3) := by decide +kernel
theorem dX9_isGoose_6 : decode cX9_isGoose 6 = .ok (.iconst 1, 1) := by decide +kernel
theorem dX9_isGoose_7 : decode cX9_isGoose 7 = .ok (.iaload, 1) := by decide +kernel
theorem dX9_isGoose_8 : decode cX9_isGoose 8 = .ok (.iconst 1, 1) := by decide +kernel
theorem dX9_isGoose_9 : decode cX9_isGoose 9 = .ok (.isub, 1) := by decide +kernel
theorem dX9_isGoose_10 : decode cX9_isGoose 10 = .ok (.invokestatic 126, 3) := by decide +kernel
theorem dX9_isGoose_13 : decode cX9_isGoose 13 = .ok (.ireturn, 1) := by decide +kernel
theorem dX9_market_0 : decode cX9_market 0 = .ok (.iload_n 1, 1) := by decide +kernel
theorem dX9_market_1 : decode cX9_market 1 = .ok (.iconst 1, 1) := by decide +kernel
theorem dX9_market_2 : decode cX9_market 2 = .ok (.bipush 9, 2) := by decide +kernel
theorem dX9_market_4 : decode cX9_market 4 = .ok (.invokestatic 126, 3) := by decide +kernel
theorem dX9_market_7 : decode cX9_market 7 = .ok (.ifCond .eq 33, 3) := by decide +kernel
theorem dX9_market_10 : decode cX9_market 10 = .ok (.iload_n 2, 1) := by decide +kernel
theorem dX9_market_11 : decode cX9_market 11 = .ok (.iconst 0, 1) := by decide +kernel
theorem dX9_market_12 : decode cX9_market 12 = .ok (.bipush 9, 2) := by decide +kernel
theorem dX9_market_14 : decode cX9_market 14 = .ok (.invokestatic 126, 3) := by decide +kernel
theorem dX9_market_17 : decode cX9_market 17 = .ok (.ifCond .eq 23, 3) := by decide +kernel
theorem dX9_market_20 : decode cX9_market 20 = .ok (.iload_n 3, 1) := by decide +kernel
theorem dX9_market_21 : decode cX9_market 21 = .ok (.iconst 0, 1) := by decide +kernel
theorem dX9_market_22 : decode cX9_market 22 = .ok (.bipush 9, 2) := by decide +kernel
theorem dX9_market_24 : decode cX9_market 24 = .ok (.invokestatic 126, 3) := by decide +kernel
theorem dX9_market_27 : decode cX9_market 27 = .ok (.ifCond .eq 13, 3) := by decide +kernel
theorem dX9_market_30 : decode cX9_market 30 = .ok (.aload_n 0, 1) := by decide +kernel
theorem dX9_market_31 : decode cX9_market 31 = .ok (.getfield 7, 3) := by decide +kernel
theorem dX9_market_34 : decode cX9_market 34 = .ok (.iconst 0, 1) := by decide +kernel
theorem dX9_market_35 : decode cX9_market 35 = .ok (.iaload, 1) := by decide +kernel
theorem dX9_market_36 : decode cX9_market 36 = .ok (.iconst 4, 1) := by decide +kernel
theorem dX9_market_37 : decode cX9_market 37 = .ok (.if_icmp .ne 5, 3) := by decide +kernel
theorem dX9_market_40 : decode cX9_market 40 = .ok (.iconst (-1), 1) := by decide +kernel
theorem dX9_market_41 : decode cX9_market 41 = .ok (.ireturn, 1) := by decide +kernel
theorem dX9_market_42 : decode cX9_market 42 = .ok (.bipush 10, 2) := by decide +kernel
theorem dX9_market_44 : decode cX9_market 44 = .ok (.iconst 3, 1) := by decide +kernel
theorem dX9_market_45 : decode cX9_market 45 = .ok (.aload_n 0, 1) := by decide +kernel
theorem dX9_market_46 : decode cX9_market 46 = .ok (.getfield 7, 3) := by decide +kernel
theorem dX9_market_49 : decode cX9_market 49 = .ok (.iconst 0, 1) := by decide +kernel
theorem dX9_market_50 : decode cX9_market 50 = .ok (.iaload, 1) := by decide +kernel
theorem dX9_market_51 : decode cX9_market 51 = .ok (.imul, 1) := by decide +kernel
theorem dX9_market_52 : decode cX9_market 52 = .ok (.iadd, 1) := by decide +kernel
theorem dX9_market_53 : decode cX9_market 53 = .ok (.istore 4, 2) := by decide +kernel
theorem dX9_market_55 : decode cX9_market 55 = .ok (.aload_n 0, 1) := by decide +kernel
theorem dX9_market_56 : decode cX9_market 56 = .ok (.getfield 7, 3) := by decide +kernel
theorem dX9_market_59 : decode cX9_market 59 = .ok (.iload 4, 2) := by decide +kernel
theorem dX9_market_61 : decode cX9_market 61 = .ok (.iload_n 1, 1) := by decide +kernel
theorem dX9_market_62 : decode cX9_market 62 = .ok (.iastore, 1) := by decide +kernel
theorem dX9_market_63 : decode cX9_market 63 = .ok (.aload_n 0, 1) := by decide +kernel
theorem dX9_market_64 : decode cX9_market 64 = .ok (.getfield 7, 3) := by decide +kernel
theorem dX9_market_67 : decode cX9_market 67 = .ok (.iload 4, 2) := by decide +kernel
theorem dX9_market_69 : decode cX9_market 69 = .ok (.iconst 1, 1) := by decide +kernel
theorem dX9_market_70 : decode cX9_market 70 = .ok (.iadd, 1) := by decide +kernel
theorem dX9_market_71 : decode cX9_market 71 = .ok (.iload_n 2, 1) := by decide +kernel
theorem dX9_market_72 : decode cX9_market 72 = .ok (.iastore, 1) := by decide +kernel
theorem dX9_market_73 : decode cX9_market 73 = .ok (.aload_n 0, 1) := by decide +kernel
theorem dX9_market_74 : decode cX9_market 74 = .ok (.getfield 7, 3) := by decide +kernel
theorem dX9_market_77 : decode cX9_market 77 = .ok (.iload 4, 2) := by decide +kernel
theorem dX9_market_79 : decode cX9_market 79 = .ok (.iconst 2, 1) := by decide +kernel
theorem dX9_market_80 : decode cX9_market 80 = .ok (.iadd, 1) := by decide +kernel
theorem dX9_market_81 : decode cX9_market 81 = .ok (.iload_n 3, 1) := by decide +kernel
theorem dX9_market_82 : decode cX9_market 82 = .ok (.iastore, 1) := by decide +kernel
theorem dX9_market_83 : decode cX9_market 83 = .ok (.aload_n 0, 1) := by decide +kernel
theorem dX9_market_84 : decode cX9_market 84 = .ok (.getfield 7, 3) := by decide +kernel
theorem dX9_market_87 : decode cX9_market 87 = .ok (.iconst 0, 1) := by decide +kernel
theorem dX9_market_88 : decode cX9_market 88 = .ok (.dup2, 1) := by decide +kernel
theorem dX9_market_89 : decode cX9_market 89 = .ok (.iaload, 1) := by decide +kernel
theorem dX9_market_90 : decode cX9_market 90 = .ok (.iconst 1, 1) := by decide +kernel
theorem dX9_market_91 : decode cX9_market 91 = .ok (.iadd, 1) := by decide +kernel
theorem dX9_market_92 : decode cX9_market 92 = .ok (.iastore, 1) := by decide +kernel
theorem dX9_market_93 : decode cX9_market 93 = .ok (.aload_n 0, 1) := by decide +kernel
theorem dX9_market_94 : decode cX9_market 94 = .ok (.getfield 7, 3) := by decide +kernel
theorem dX9_market_97 : decode cX9_market 97 = .ok (.iconst 0, 1) := by decide +kernel
theorem dX9_market_98 : decode cX9_market 98 = .ok (.iaload, 1) := by decide +kernel
theorem dX9_market_99 : decode cX9_market 99 = .ok (.iconst 1, 1) := by decide +kernel
theorem dX9_market_100 : decode cX9_market 100 = .ok (.isub, 1) := by decide +kernel
theorem dX9_market_101 : decode cX9_market 101 = .ok (.ireturn, 1) := by decide +kernel
theorem dX9_tellsGoose_0 : decode cX9_tellsGoose 0 = .ok (.iload_n 1, 1) := by decide +kernel
theorem dX9_tellsGoose_1 : decode cX9_tellsGoose 1 = .ok (.bipush 9, 2) := by decide +kernel
theorem dX9_tellsGoose_3 : decode cX9_tellsGoose 3 = .ok (.iload_n 2, 1) := by decide +kernel
theorem dX9_tellsGoose_4 : decode cX9_tellsGoose 4 = .ok (.imul, 1) := by decide +kernel
theorem dX9_tellsGoose_5 : decode cX9_tellsGoose 5 = .ok (.iadd, 1) := by decide +kernel
theorem dX9_tellsGoose_6 : decode cX9_tellsGoose 6 = .ok (.istore 5, 2) := by decide +kernel
theorem dX9_tellsGoose_8 : decode cX9_tellsGoose 8 = .ok (.aload_n 0, 1) := by decide +kernel
theorem dX9_tellsGoose_9 : decode cX9_tellsGoose 9 = .ok (.getfield 7, 3) := by decide +kernel
theorem dX9_tellsGoose_12 : decode cX9_tellsGoose 12 = .ok (.iload 5, 2) := by decide +kernel
theorem dX9_tellsGoose_14 : decode cX9_tellsGoose 14 = .ok (.iconst 0, 1) := by decide +kernel
theorem dX9_tellsGoose_15 : decode cX9_tellsGoose 15 = .ok (.iadd, 1) := by decide +kernel
theorem dX9_tellsGoose_16 : decode cX9_tellsGoose 16 = .ok (.iload_n 3, 1) := by decide +kernel
theorem dX9_tellsGoose_17 : decode cX9_tellsGoose 17 = .ok (.iastore, 1) := by decide +kernel
theorem dX9_tellsGoose_18 : decode cX9_tellsGoose 18 = .ok (.aload_n 0, 1) := by decide +kernel
theorem dX9_tellsGoose_19 : decode cX9_tellsGoose 19 = .ok (.getfield 7, 3) := by decide +kernel
theorem dX9_tellsGoose_22 : decode cX9_tellsGoose 22 = .ok (.iload 5, 2) := by decide +kernel
theorem dX9_tellsGoose_24 : decode cX9_tellsGoose 24 = .ok (.iconst 1, 1) := by decide +kernel
theorem dX9_tellsGoose_25 : decode cX9_tellsGoose 25 = .ok (.iadd, 1) := by decide +kernel
theorem dX9_tellsGoose_26 : decode cX9_tellsGoose 26 = .ok (.iload 4, 2) := by decide +kernel
theorem dX9_tellsGoose_28 : decode cX9_tellsGoose 28 = .ok (.iastore, 1) := by decide +kernel
theorem dX9_tellsGoose_29 : decode cX9_tellsGoose 29 = .ok (.aload_n 0, 1) := by decide +kernel
theorem dX9_tellsGoose_30 : decode cX9_tellsGoose 30 = .ok (.getfield 7, 3) := by decide +kernel
theorem dX9_tellsGoose_33 : decode cX9_tellsGoose 33 = .ok (.iload 5, 2) := by decide +kernel
theorem dX9_tellsGoose_35 : decode cX9_tellsGoose 35 = .ok (.iconst 2, 1) := by decide +kernel
theorem dX9_tellsGoose_36 : decode cX9_tellsGoose 36 = .ok (.iadd, 1) := by decide +kernel
theorem dX9_tellsGoose_37 : decode cX9_tellsGoose 37 = .ok (.iconst (-1), 1) := by decide +kernel
theorem dX9_tellsGoose_38 : decode cX9_tellsGoose 38 = .ok (.iastore, 1) := by decide +kernel
theorem dX9_tellsGoose_39 : decode cX9_tellsGoose 39 = .ok (.aload_n 0, 1) := by decide +kernel
theorem dX9_tellsGoose_40 : decode cX9_tellsGoose 40 = .ok (.getfield 7, 3) := by decide +kernel
theorem dX9_tellsGoose_43 : decode cX9_tellsGoose 43 = .ok (.iload 5, 2) := by decide +kernel
theorem dX9_tellsGoose_45 : decode cX9_tellsGoose 45 = .ok (.iconst 3, 1) := by decide +kernel
theorem dX9_tellsGoose_46 : decode cX9_tellsGoose 46 = .ok (.iadd, 1) := by decide +kernel
theorem dX9_tellsGoose_47 : decode cX9_tellsGoose 47 = .ok (.iconst (-1), 1) := by decide +kernel
theorem dX9_tellsGoose_48 : decode cX9_tellsGoose 48 = .ok (.iastore, 1) := by decide +kernel
theorem dX9_tellsGoose_49 : decode cX9_tellsGoose 49 = .ok (.aload_n 0, 1) := by decide +kernel
theorem dX9_tellsGoose_50 : decode cX9_tellsGoose 50 = .ok (.getfield 7, 3) := by decide +kernel
theorem dX9_tellsGoose_53 : decode cX9_tellsGoose 53 = .ok (.iload 5, 2) := by decide +kernel
theorem dX9_tellsGoose_55 : decode cX9_tellsGoose 55 = .ok (.iconst 4, 1) := by decide +kernel
theorem dX9_tellsGoose_56 : decode cX9_tellsGoose 56 = .ok (.iadd, 1) := by decide +kernel
theorem dX9_tellsGoose_57 : decode cX9_tellsGoose 57 = .ok (.iconst 0, 1) := by decide +kernel
theorem dX9_tellsGoose_58 : decode cX9_tellsGoose 58 = .ok (.iastore, 1) := by decide +kernel
theorem dX9_tellsGoose_59 : decode cX9_tellsGoose 59 = .ok (.aload_n 0, 1) := by decide +kernel
theorem dX9_tellsGoose_60 : decode cX9_tellsGoose 60 = .ok (.getfield 7, 3) := by decide +kernel
theorem dX9_tellsGoose_63 : decode cX9_tellsGoose 63 = .ok (.iload 5, 2) := by decide +kernel
theorem dX9_tellsGoose_65 : decode cX9_tellsGoose 65 = .ok (.iconst 5, 1) := by decide +kernel
theorem dX9_tellsGoose_66 : decode cX9_tellsGoose 66 = .ok (.iadd, 1) := by decide +kernel
theorem dX9_tellsGoose_67 : decode cX9_tellsGoose 67 = .ok (.iconst (-1), 1) := by decide +kernel
theorem dX9_tellsGoose_68 : decode cX9_tellsGoose 68 = .ok (.iastore, 1) := by decide +kernel
theorem dX9_tellsGoose_69 : decode cX9_tellsGoose 69 = .ok (.aload_n 0, 1) := by decide +kernel
theorem dX9_tellsGoose_70 : decode cX9_tellsGoose 70 = .ok (.getfield 7, 3) := by decide +kernel
theorem dX9_tellsGoose_73 : decode cX9_tellsGoose 73 = .ok (.iload 5, 2) := by decide +kernel
theorem dX9_tellsGoose_75 : decode cX9_tellsGoose 75 = .ok (.bipush 6, 2) := by decide +kernel
theorem dX9_tellsGoose_77 : decode cX9_tellsGoose 77 = .ok (.iadd, 1) := by decide +kernel
theorem dX9_tellsGoose_78 : decode cX9_tellsGoose 78 = .ok (.iconst (-1), 1) := by decide +kernel
theorem dX9_tellsGoose_79 : decode cX9_tellsGoose 79 = .ok (.iastore, 1) := by decide +kernel
theorem dX9_tellsGoose_80 : decode cX9_tellsGoose 80 = .ok (.aload_n 0, 1) := by decide +kernel
theorem dX9_tellsGoose_81 : decode cX9_tellsGoose 81 = .ok (.getfield 7, 3) := by decide +kernel
theorem dX9_tellsGoose_84 : decode cX9_tellsGoose 84 = .ok (.iload 5, 2) := by decide +kernel
theorem dX9_tellsGoose_86 : decode cX9_tellsGoose 86 = .ok (.bipush 7, 2) := by decide +kernel
theorem dX9_tellsGoose_88 : decode cX9_tellsGoose 88 = .ok (.iadd, 1) := by decide +kernel
theorem dX9_tellsGoose_89 : decode cX9_tellsGoose 89 = .ok (.iconst (-1), 1) := by decide +kernel
theorem dX9_tellsGoose_90 : decode cX9_tellsGoose 90 = .ok (.iastore, 1) := by decide +kernel
theorem dX9_tellsGoose_91 : decode cX9_tellsGoose 91 = .ok (.aload_n 0, 1) := by decide +kernel
theorem dX9_tellsGoose_92 : decode cX9_tellsGoose 92 = .ok (.getfield 7, 3) := by decide +kernel
theorem dX9_tellsGoose_95 : decode cX9_tellsGoose 95 = .ok (.iload 5, 2) := by decide +kernel
theorem dX9_tellsGoose_97 : decode cX9_tellsGoose 97 = .ok (.bipush 8, 2) := by decide +kernel
theorem dX9_tellsGoose_99 : decode cX9_tellsGoose 99 = .ok (.iadd, 1) := by decide +kernel
theorem dX9_tellsGoose_100 : decode cX9_tellsGoose 100 = .ok (.iconst 0, 1) := by decide +kernel
theorem dX9_tellsGoose_101 : decode cX9_tellsGoose 101 = .ok (.iastore, 1) := by decide +kernel
theorem dX9_tellsGoose_102 : decode cX9_tellsGoose 102 = .ok (.return_, 1) := by decide +kernel
theorem dX9_goose_0 : decode cX9_goose 0 = .ok (.iload_n 1, 1) := by decide +kernel
theorem dX9_goose_1 : decode cX9_goose 1 = .ok (.iconst 1, 1) := by decide +kernel
theorem dX9_goose_2 : decode cX9_goose 2 = .ok (.bipush 20, 2) := by decide +kernel
theorem dX9_goose_4 : decode cX9_goose 4 = .ok (.invokestatic 126, 3) := by decide +kernel
theorem dX9_goose_7 : decode cX9_goose 7 = .ok (.ifCond .eq 24, 3) := by decide +kernel
theorem dX9_goose_10 : decode cX9_goose 10 = .ok (.iload_n 2, 1) := by decide +kernel
theorem dX9_goose_11 : decode cX9_goose 11 = .ok (.iconst 0, 1) := by decide +kernel
theorem dX9_goose_12 : decode cX9_goose 12 = .ok (.bipush 99, 2) := by decide +kernel
theorem dX9_goose_14 : decode cX9_goose 14 = .ok (.invokestatic 126, 3) := by decide +kernel
theorem dX9_goose_17 : decode cX9_goose 17 = .ok (.ifCond .eq 14, 3) := by decide +kernel
theorem dX9_goose_20 : decode cX9_goose 20 = .ok (.aload_n 0, 1) := by decide +kernel
theorem dX9_goose_21 : decode cX9_goose 21 = .ok (.getfield 7, 3) := by decide +kernel
theorem dX9_goose_24 : decode cX9_goose 24 = .ok (.iconst 1, 1) := by decide +kernel
theorem dX9_goose_25 : decode cX9_goose 25 = .ok (.iaload, 1) := by decide +kernel
theorem dX9_goose_26 : decode cX9_goose 26 = .ok (.bipush 10, 2) := by decide +kernel
theorem dX9_goose_28 : decode cX9_goose 28 = .ok (.if_icmp .ne 5, 3) := by decide +kernel
theorem dX9_goose_31 : decode cX9_goose 31 = .ok (.iconst (-1), 1) := by decide +kernel
theorem dX9_goose_32 : decode cX9_goose 32 = .ok (.ireturn, 1) := by decide +kernel
theorem dX9_goose_33 : decode cX9_goose 33 = .ok (.aload_n 0, 1) := by decide +kernel
theorem dX9_goose_34 : decode cX9_goose 34 = .ok (.bipush 30, 2) := by decide +kernel
theorem dX9_goose_36 : decode cX9_goose 36 = .ok (.aload_n 0, 1) := by decide +kernel
theorem dX9_goose_37 : decode cX9_goose 37 = .ok (.getfield 7, 3) := by decide +kernel
theorem dX9_goose_40 : decode cX9_goose 40 = .ok (.iconst 1, 1) := by decide +kernel
theorem dX9_goose_41 : decode cX9_goose 41 = .ok (.iaload, 1) := by decide +kernel
theorem dX9_goose_42 : decode cX9_goose 42 = .ok (.iload_n 1, 1) := by decide +kernel
theorem dX9_goose_43 : decode cX9_goose 43 = .ok (.iload_n 2, 1) := by decide +kernel
theorem dX9_goose_44 : decode cX9_goose 44 = .ok (.invokevirtual 130, 3) := by decide +kernel
theorem dX9_goose_47 : decode cX9_goose 47 = .ok (.iconst 0, 1) := by decide +kernel
theorem dX9_goose_48 : decode cX9_goose 48 = .ok (.istore_n 3, 1) := by decide +kernel
theorem dX9_goose_49 : decode cX9_goose 49 = .ok (.iload_n 3, 1) := by decide +kernel
theorem dX9_goose_50 : decode cX9_goose 50 = .ok (.aload_n 0, 1) := by decide +kernel
theorem dX9_goose_51 : decode cX9_goose 51 = .ok (.getfield 7, 3) := by decide +kernel
theorem dX9_goose_54 : decode cX9_goose 54 = .ok (.iconst 5, 1) := by decide +kernel
theorem dX9_goose_55 : decode cX9_goose 55 = .ok (.iaload, 1) := by decide +kernel
theorem dX9_goose_56 : decode cX9_goose 56 = .ok (.if_icmp .ge 29, 3) := by decide +kernel
theorem dX9_goose_85 : decode cX9_goose 85 = .ok (.aload_n 0, 1) := by decide +kernel
theorem dX9_goose_86 : decode cX9_goose 86 = .ok (.getfield 7, 3) := by decide +kernel
theorem dX9_goose_89 : decode cX9_goose 89 = .ok (.iconst 1, 1) := by decide +kernel
theorem dX9_goose_90 : decode cX9_goose 90 = .ok (.dup2, 1) := by decide +kernel
theorem dX9_goose_91 : decode cX9_goose 91 = .ok (.iaload, 1) := by decide +kernel
theorem dX9_goose_92 : decode cX9_goose 92 = .ok (.iconst 1, 1) := by decide +kernel
theorem dX9_goose_93 : decode cX9_goose 93 = .ok (.iadd, 1) := by decide +kernel
theorem dX9_goose_94 : decode cX9_goose 94 = .ok (.iastore, 1) := by decide +kernel
theorem dX9_goose_95 : decode cX9_goose 95 = .ok (.aload_n 0, 1) := by decide +kernel
theorem dX9_goose_96 : decode cX9_goose 96 = .ok (.getfield 7, 3) := by decide +kernel
theorem dX9_goose_99 : decode cX9_goose 99 = .ok (.iconst 1, 1) := by decide +kernel
theorem dX9_goose_100 : decode cX9_goose 100 = .ok (.iaload, 1) := by decide +kernel
theorem dX9_goose_101 : decode cX9_goose 101 = .ok (.iconst 1, 1) := by decide +kernel
theorem dX9_goose_102 : decode cX9_goose 102 = .ok (.isub, 1) := by decide +kernel
theorem dX9_goose_103 : decode cX9_goose 103 = .ok (.ireturn, 1) := by decide +kernel
theorem dX9_store_0 : decode cX9_store 0 = .ok (.iload_n 1, 1) := by decide +kernel
theorem dX9_store_1 : decode cX9_store 1 = .ok (.iconst 0, 1) := by decide +kernel
theorem dX9_store_2 : decode cX9_store 2 = .ok (.sipush 9999, 3) := by decide +kernel
theorem dX9_store_5 : decode cX9_store 5 = .ok (.invokestatic 126, 3) := by decide +kernel
theorem dX9_store_8 : decode cX9_store 8 = .ok (.ifCond .eq 13, 3) := by decide +kernel
theorem dX9_store_11 : decode cX9_store 11 = .ok (.iload_n 2, 1) := by decide +kernel
theorem dX9_store_12 : decode cX9_store 12 = .ok (.iconst 0, 1) := by decide +kernel
theorem dX9_store_13 : decode cX9_store 13 = .ok (.bipush 99, 2) := by decide +kernel
theorem dX9_store_15 : decode cX9_store 15 = .ok (.invokestatic 126, 3) := by decide +kernel
theorem dX9_store_18 : decode cX9_store 18 = .ok (.ifCond .ne 5, 3) := by decide +kernel
theorem dX9_store_21 : decode cX9_store 21 = .ok (.iconst 0, 1) := by decide +kernel
theorem dX9_store_22 : decode cX9_store 22 = .ok (.ireturn, 1) := by decide +kernel
theorem dX9_store_23 : decode cX9_store 23 = .ok (.aload_n 0, 1) := by decide +kernel
theorem dX9_store_24 : decode cX9_store 24 = .ok (.getfield 7, 3) := by decide +kernel
theorem dX9_store_27 : decode cX9_store 27 = .ok (.bipush 120, 2) := by decide +kernel
theorem dX9_store_29 : decode cX9_store 29 = .ok (.iload_n 1, 1) := by decide +kernel
theorem dX9_store_30 : decode cX9_store 30 = .ok (.iastore, 1) := by decide +kernel
theorem dX9_store_31 : decode cX9_store 31 = .ok (.aload_n 0, 1) := by decide +kernel
theorem dX9_store_32 : decode cX9_store 32 = .ok (.getfield 7, 3) := by decide +kernel
theorem dX9_store_35 : decode cX9_store 35 = .ok (.iconst 2, 1) := by decide +kernel
theorem dX9_store_36 : decode cX9_store 36 = .ok (.iload_n 2, 1) := by decide +kernel
theorem dX9_store_37 : decode cX9_store 37 = .ok (.iastore, 1) := by decide +kernel
theorem dX9_store_38 : decode cX9_store 38 = .ok (.iconst 1, 1) := by decide +kernel
theorem dX9_store_39 : decode cX9_store 39 = .ok (.ireturn, 1) := by decide +kernel
theorem dX9_seed_0 : decode cX9_seed 0 = .ok (.iload_n 1, 1) := by decide +kernel
theorem dX9_seed_1 : decode cX9_seed 1 = .ok (.iconst 0, 1) := by decide +kernel
theorem dX9_seed_2 : decode cX9_seed 2 = .ok (.sipush 9999, 3) := by decide +kernel
theorem dX9_seed_5 : decode cX9_seed 5 = .ok (.invokestatic 126, 3) := by decide +kernel
theorem dX9_seed_8 : decode cX9_seed 8 = .ok (.ifCond .ne 5, 3) := by decide +kernel
theorem dX9_seed_11 : decode cX9_seed 11 = .ok (.iconst 0, 1) := by decide +kernel
theorem dX9_seed_12 : decode cX9_seed 12 = .ok (.ireturn, 1) := by decide +kernel
theorem dX9_seed_13 : decode cX9_seed 13 = .ok (.aload_n 0, 1) := by decide +kernel
theorem dX9_seed_14 : decode cX9_seed 14 = .ok (.getfield 7, 3) := by decide +kernel
theorem dX9_seed_17 : decode cX9_seed 17 = .ok (.bipush 122, 2) := by decide +kernel
theorem dX9_seed_19 : decode cX9_seed 19 = .ok (.iload_n 1, 1) := by decide +kernel
theorem dX9_seed_20 : decode cX9_seed 20 = .ok (.bipush 11, 2) := by decide +kernel
theorem dX9_seed_22 : decode cX9_seed 22 = .ok (.imul, 1) := by decide +kernel
theorem dX9_seed_23 : decode cX9_seed 23 = .ok (.bipush 9, 2) := by decide +kernel
theorem dX9_seed_25 : decode cX9_seed 25 = .ok (.iadd, 1) := by decide +kernel
theorem dX9_seed_26 : decode cX9_seed 26 = .ok (.iastore, 1) := by decide +kernel
theorem dX9_seed_27 : decode cX9_seed 27 = .ok (.iconst 1, 1) := by decide +kernel
theorem dX9_seed_28 : decode cX9_seed 28 = .ok (.ireturn, 1) := by decide +kernel
theorem dX9_keepsStep_0 : decode cX9_keepsStep 0 = .ok (.aload_n 0, 1) := by decide +kernel
theorem dX9_keepsStep_1 : decode cX9_keepsStep 1 = .ok (.getfield 7, 3) := by decide +kernel
theorem dX9_keepsStep_4 : decode cX9_keepsStep 4 = .ok (.iconst 5, 1) := by decide +kernel
theorem dX9_keepsStep_5 : decode cX9_keepsStep 5 = .ok (.iaload, 1) := by decide +kernel
theorem dX9_keepsStep_6 : decode cX9_keepsStep 6 = .ok (.bipush 20, 2) := by decide +kernel
theorem dX9_keepsStep_8 : decode cX9_keepsStep 8 = .ok (.if_icmp .ne 43, 3) := by decide +kernel
theorem dX9_keepsStep_51 : decode cX9_keepsStep 51 = .ok (.iconst 0, 1) := by decide +kernel
theorem dX9_keepsStep_52 : decode cX9_keepsStep 52 = .ok (.istore_n 1, 1) := by decide +kernel
theorem dX9_keepsStep_53 : decode cX9_keepsStep 53 = .ok (.iload_n 1, 1) := by decide +kernel
theorem dX9_keepsStep_54 : decode cX9_keepsStep 54 = .ok (.bipush 93, 2) := by decide +kernel
theorem dX9_keepsStep_56 : decode cX9_keepsStep 56 = .ok (.if_icmp .ge 38, 3) := by decide +kernel
theorem dX9_keepsStep_59 : decode cX9_keepsStep 59 = .ok (.aload_n 0, 1) := by decide +kernel
theorem dX9_keepsStep_60 : decode cX9_keepsStep 60 = .ok (.getfield 7, 3) := by decide +kernel
theorem dX9_keepsStep_63 : decode cX9_keepsStep 63 = .ok (.sipush 130, 3) := by decide +kernel
theorem dX9_keepsStep_66 : decode cX9_keepsStep 66 = .ok (.bipush 93, 2) := by decide +kernel
theorem dX9_keepsStep_68 : decode cX9_keepsStep 68 = .ok (.aload_n 0, 1) := by decide +kernel
theorem dX9_keepsStep_69 : decode cX9_keepsStep 69 = .ok (.getfield 7, 3) := by decide +kernel
theorem dX9_keepsStep_72 : decode cX9_keepsStep 72 = .ok (.iconst 5, 1) := by decide +kernel
theorem dX9_keepsStep_73 : decode cX9_keepsStep 73 = .ok (.iaload, 1) := by decide +kernel
theorem dX9_keepsStep_74 : decode cX9_keepsStep 74 = .ok (.imul, 1) := by decide +kernel
theorem dX9_keepsStep_75 : decode cX9_keepsStep 75 = .ok (.iadd, 1) := by decide +kernel
theorem dX9_keepsStep_76 : decode cX9_keepsStep 76 = .ok (.iload_n 1, 1) := by decide +kernel
theorem dX9_keepsStep_77 : decode cX9_keepsStep 77 = .ok (.iadd, 1) := by decide +kernel
theorem dX9_keepsStep_78 : decode cX9_keepsStep 78 = .ok (.aload_n 0, 1) := by decide +kernel
theorem dX9_keepsStep_79 : decode cX9_keepsStep 79 = .ok (.getfield 7, 3) := by decide +kernel
theorem dX9_keepsStep_82 : decode cX9_keepsStep 82 = .ok (.bipush 30, 2) := by decide +kernel
theorem dX9_keepsStep_84 : decode cX9_keepsStep 84 = .ok (.iload_n 1, 1) := by decide +kernel
theorem dX9_keepsStep_85 : decode cX9_keepsStep 85 = .ok (.iadd, 1) := by decide +kernel
theorem dX9_keepsStep_86 : decode cX9_keepsStep 86 = .ok (.iaload, 1) := by decide +kernel
theorem dX9_keepsStep_87 : decode cX9_keepsStep 87 = .ok (.iastore, 1) := by decide +kernel
theorem dX9_keepsStep_88 : decode cX9_keepsStep 88 = .ok (.iinc 1 1, 3) := by decide +kernel
theorem dX9_keepsStep_91 : decode cX9_keepsStep 91 = .ok (.goto (-38), 3) := by decide +kernel
theorem dX9_keepsStep_94 : decode cX9_keepsStep 94 = .ok (.aload_n 0, 1) := by decide +kernel
theorem dX9_keepsStep_95 : decode cX9_keepsStep 95 = .ok (.getfield 7, 3) := by decide +kernel
theorem dX9_keepsStep_98 : decode cX9_keepsStep 98 = .ok (.iconst 5, 1) := by decide +kernel
theorem dX9_keepsStep_99 : decode cX9_keepsStep 99 = .ok (.dup2, 1) := by decide +kernel
theorem dX9_keepsStep_100 : decode cX9_keepsStep 100 = .ok (.iaload, 1) := by decide +kernel
theorem dX9_keepsStep_101 : decode cX9_keepsStep 101 = .ok (.iconst 1, 1) := by decide +kernel
theorem dX9_keepsStep_102 : decode cX9_keepsStep 102 = .ok (.iadd, 1) := by decide +kernel
theorem dX9_keepsStep_103 : decode cX9_keepsStep 103 = .ok (.iastore, 1) := by decide +kernel
theorem dX9_keepsStep_104 : decode cX9_keepsStep 104 = .ok (.return_, 1) := by decide +kernel
theorem dX9_undo_0 : decode cX9_undo 0 = .ok (.aload_n 0, 1) := by decide +kernel
theorem dX9_undo_1 : decode cX9_undo 1 = .ok (.getfield 7, 3) := by decide +kernel
theorem dX9_undo_4 : decode cX9_undo 4 = .ok (.iconst 5, 1) := by decide +kernel
theorem dX9_undo_5 : decode cX9_undo 5 = .ok (.iaload, 1) := by decide +kernel
theorem dX9_undo_6 : decode cX9_undo 6 = .ok (.ifCond .ne 5, 3) := by decide +kernel
theorem dX9_undo_9 : decode cX9_undo 9 = .ok (.iconst (-1), 1) := by decide +kernel
theorem dX9_undo_10 : decode cX9_undo 10 = .ok (.ireturn, 1) := by decide +kernel
theorem dX9_isHome_0 : decode cX9_isHome 0 = .ok (.aload_n 0, 1) := by decide +kernel
theorem dX9_isHome_1 : decode cX9_isHome 1 = .ok (.iload_n 1, 1) := by decide +kernel
theorem dX9_isHome_2 : decode cX9_isHome 2 = .ok (.invokevirtual 134, 3) := by decide +kernel
theorem dX9_isHome_5 : decode cX9_isHome 5 = .ok (.ifCond .eq 16, 3) := by decide +kernel
theorem dX9_isHome_21 : decode cX9_isHome 21 = .ok (.iconst 0, 1) := by decide +kernel
theorem dX9_isHome_22 : decode cX9_isHome 22 = .ok (.ireturn, 1) := by decide +kernel
theorem dX9_isQuill_0 : decode cX9_isQuill 0 = .ok (.iload_n 0, 1) := by decide +kernel
theorem dX9_isQuill_1 : decode cX9_isQuill 1 = .ok (.iconst 0, 1) := by decide +kernel
theorem dX9_isQuill_2 : decode cX9_isQuill 2 = .ok (.iconst 5, 1) := by decide +kernel
theorem dX9_isQuill_3 : decode cX9_isQuill 3 = .ok (.invokestatic 126, 3) := by decide +kernel
theorem dX9_isQuill_6 : decode cX9_isQuill 6 = .ok (.ifCond .eq 16, 3) := by decide +kernel
theorem dX9_isQuill_9 : decode cX9_isQuill 9 = .ok (.iload_n 1, 1) := by decide +kernel
theorem dX9_isQuill_10 : decode cX9_isQuill 10 = .ok (.iconst 0, 1) := by decide +kernel
theorem dX9_isQuill_11 : decode cX9_isQuill 11 = .ok (.iconst 2, 1) := by decide +kernel
theorem dX9_isQuill_12 : decode cX9_isQuill 12 = .ok (.invokestatic 126, 3) := by decide +kernel
theorem dX9_isQuill_15 : decode cX9_isQuill 15 = .ok (.ifCond .eq 7, 3) := by decide +kernel
theorem dX9_isQuill_18 : decode cX9_isQuill 18 = .ok (.iconst 1, 1) := by decide +kernel
theorem dX9_isQuill_19 : decode cX9_isQuill 19 = .ok (.goto 4, 3) := by decide +kernel
theorem dX9_isQuill_22 : decode cX9_isQuill 22 = .ok (.iconst 0, 1) := by decide +kernel
theorem dX9_isQuill_23 : decode cX9_isQuill 23 = .ok (.ireturn, 1) := by decide +kernel
theorem dX9_fill_0 : decode cX9_fill 0 = .ok (.aload_n 0, 1) := by decide +kernel
theorem dX9_fill_1 : decode cX9_fill 1 = .ok (.iload_n 1, 1) := by decide +kernel
theorem dX9_fill_2 : decode cX9_fill 2 = .ok (.invokevirtual 142, 3) := by decide +kernel
theorem dX9_fill_5 : decode cX9_fill 5 = .ok (.ifCond .eq 38, 3) := by decide +kernel
theorem dX9_fill_43 : decode cX9_fill 43 = .ok (.iconst (-1), 1) := by decide +kernel
theorem dX9_fill_44 : decode cX9_fill 44 = .ok (.ireturn, 1) := by decide +kernel
theorem dX9_send_0 : decode cX9_send 0 = .ok (.aload_n 0, 1) := by decide +kernel
theorem dX9_send_1 : decode cX9_send 1 = .ok (.iload_n 1, 1) := by decide +kernel
theorem dX9_send_2 : decode cX9_send 2 = .ok (.invokevirtual 142, 3) := by decide +kernel
theorem dX9_send_5 : decode cX9_send 5 = .ok (.ifCond .eq 22, 3) := by decide +kernel
theorem dX9_send_27 : decode cX9_send 27 = .ok (.iconst (-1), 1) := by decide +kernel
theorem dX9_send_28 : decode cX9_send 28 = .ok (.ireturn, 1) := by decide +kernel
theorem dX9_fatten_0 : decode cX9_fatten 0 = .ok (.aload_n 0, 1) := by decide +kernel
theorem dX9_fatten_1 : decode cX9_fatten 1 = .ok (.iload_n 1, 1) := by decide +kernel
theorem dX9_fatten_2 : decode cX9_fatten 2 = .ok (.invokevirtual 142, 3) := by decide +kernel
theorem dX9_fatten_5 : decode cX9_fatten 5 = .ok (.ifCond .eq 24, 3) := by decide +kernel
theorem dX9_fatten_29 : decode cX9_fatten 29 = .ok (.iconst (-1), 1) := by decide +kernel
theorem dX9_fatten_30 : decode cX9_fatten 30 = .ok (.ireturn, 1) := by decide +kernel
theorem dX9_pluck_0 : decode cX9_pluck 0 = .ok (.aload_n 0, 1) := by decide +kernel
theorem dX9_pluck_1 : decode cX9_pluck 1 = .ok (.iload_n 1, 1) := by decide +kernel
theorem dX9_pluck_2 : decode cX9_pluck 2 = .ok (.invokevirtual 142, 3) := by decide +kernel
theorem dX9_pluck_5 : decode cX9_pluck 5 = .ok (.ifCond .eq 12, 3) := by decide +kernel
theorem dX9_pluck_17 : decode cX9_pluck 17 = .ok (.iconst (-1), 1) := by decide +kernel
theorem dX9_pluck_18 : decode cX9_pluck 18 = .ok (.ireturn, 1) := by decide +kernel
theorem dX9_name_0 : decode cX9_name 0 = .ok (.aload_n 0, 1) := by decide +kernel
theorem dX9_name_1 : decode cX9_name 1 = .ok (.iload_n 1, 1) := by decide +kernel
theorem dX9_name_2 : decode cX9_name 2 = .ok (.invokevirtual 142, 3) := by decide +kernel
theorem dX9_name_5 : decode cX9_name 5 = .ok (.ifCond .eq 14, 3) := by decide +kernel
theorem dX9_name_19 : decode cX9_name 19 = .ok (.iconst 0, 1) := by decide +kernel
theorem dX9_name_20 : decode cX9_name 20 = .ok (.ireturn, 1) := by decide +kernel
theorem dX9_put_0 : decode cX9_put 0 = .ok (.bipush 24, 2) := by decide +kernel
theorem dX9_put_2 : decode cX9_put 2 = .ok (.istore_n 2, 1) := by decide +kernel
theorem dX9_put_3 : decode cX9_put 3 = .ok (.iload_n 2, 1) := by decide +kernel
theorem dX9_put_4 : decode cX9_put 4 = .ok (.ifCond .lt 34, 3) := by decide +kernel
theorem dX9_put_7 : decode cX9_put 7 = .ok (.aload_n 0, 1) := by decide +kernel
theorem dX9_put_8 : decode cX9_put 8 = .ok (.getfield 16, 3) := by decide +kernel
theorem dX9_put_11 : decode cX9_put 11 = .ok (.aload_n 0, 1) := by decide +kernel
theorem dX9_put_12 : decode cX9_put 12 = .ok (.getfield 163, 3) := by decide +kernel
theorem dX9_put_15 : decode cX9_put 15 = .ok (.iload_n 1, 1) := by decide +kernel
theorem dX9_put_16 : decode cX9_put 16 = .ok (.iload_n 2, 1) := by decide +kernel
theorem dX9_put_17 : decode cX9_put 17 = .ok (.ishr, 1) := by decide +kernel
theorem dX9_put_18 : decode cX9_put 18 = .ok (.i2b, 1) := by decide +kernel
theorem dX9_put_19 : decode cX9_put 19 = .ok (.bastore, 1) := by decide +kernel
theorem dX9_put_20 : decode cX9_put 20 = .ok (.aload_n 0, 1) := by decide +kernel
theorem dX9_put_21 : decode cX9_put 21 = .ok (.dup, 1) := by decide +kernel
theorem dX9_put_22 : decode cX9_put 22 = .ok (.getfield 163, 3) := by decide +kernel
theorem dX9_put_25 : decode cX9_put 25 = .ok (.iconst 1, 1) := by decide +kernel
theorem dX9_put_26 : decode cX9_put 26 = .ok (.iadd, 1) := by decide +kernel
theorem dX9_put_27 : decode cX9_put 27 = .ok (.putfield 163, 3) := by decide +kernel
theorem dX9_put_30 : decode cX9_put 30 = .ok (.iload_n 2, 1) := by decide +kernel
theorem dX9_put_31 : decode cX9_put 31 = .ok (.bipush 8, 2) := by decide +kernel
theorem dX9_put_33 : decode cX9_put 33 = .ok (.isub, 1) := by decide +kernel
theorem dX9_put_34 : decode cX9_put 34 = .ok (.istore_n 2, 1) := by decide +kernel
theorem dX9_put_35 : decode cX9_put 35 = .ok (.goto (-32), 3) := by decide +kernel
theorem dX9_put_38 : decode cX9_put 38 = .ok (.return_, 1) := by decide +kernel
theorem dX9_feed_0 : decode cX9_feed 0 = .ok (.aload_n 0, 1) := by decide +kernel
theorem dX9_feed_1 : decode cX9_feed 1 = .ok (.getfield 163, 3) := by decide +kernel
theorem dX9_feed_4 : decode cX9_feed 4 = .ok (.bipush 20, 2) := by decide +kernel
theorem dX9_feed_6 : decode cX9_feed 6 = .ok (.iadd, 1) := by decide +kernel
theorem dX9_feed_7 : decode cX9_feed 7 = .ok (.sipush 300, 3) := by decide +kernel
theorem dX9_feed_10 : decode cX9_feed 10 = .ok (.if_icmp .le 5, 3) := by decide +kernel
theorem dX9_feed_15 : decode cX9_feed 15 = .ok (.aload_n 0, 1) := by decide +kernel
theorem dX9_feed_16 : decode cX9_feed 16 = .ok (.iload_n 1, 1) := by decide +kernel
theorem dX9_feed_17 : decode cX9_feed 17 = .ok (.invokevirtual 166, 3) := by decide +kernel
theorem dX9_feed_20 : decode cX9_feed 20 = .ok (.aload_n 0, 1) := by decide +kernel
theorem dX9_feed_21 : decode cX9_feed 21 = .ok (.iload_n 2, 1) := by decide +kernel
theorem dX9_feed_22 : decode cX9_feed 22 = .ok (.invokevirtual 166, 3) := by decide +kernel
theorem dX9_feed_25 : decode cX9_feed 25 = .ok (.aload_n 0, 1) := by decide +kernel
theorem dX9_feed_26 : decode cX9_feed 26 = .ok (.iload_n 3, 1) := by decide +kernel
theorem dX9_feed_27 : decode cX9_feed 27 = .ok (.invokevirtual 166, 3) := by decide +kernel
theorem dX9_feed_30 : decode cX9_feed 30 = .ok (.aload_n 0, 1) := by decide +kernel
theorem dX9_feed_31 : decode cX9_feed 31 = .ok (.iload 4, 2) := by decide +kernel
theorem dX9_feed_33 : decode cX9_feed 33 = .ok (.invokevirtual 166, 3) := by decide +kernel
theorem dX9_feed_36 : decode cX9_feed 36 = .ok (.aload_n 0, 1) := by decide +kernel
theorem dX9_feed_37 : decode cX9_feed 37 = .ok (.iload 5, 2) := by decide +kernel
theorem dX9_feed_39 : decode cX9_feed 39 = .ok (.invokevirtual 166, 3) := by decide +kernel
theorem dX9_feed_42 : decode cX9_feed 42 = .ok (.aload_n 0, 1) := by decide +kernel
theorem dX9_feed_43 : decode cX9_feed 43 = .ok (.getfield 163, 3) := by decide +kernel
theorem dX9_feed_46 : decode cX9_feed 46 = .ok (.ireturn, 1) := by decide +kernel
theorem dX9_end_0 : decode cX9_end 0 = .ok (.iload_n 1, 1) := by decide +kernel
theorem dX9_end_1 : decode cX9_end 1 = .ok (.iconst 0, 1) := by decide +kernel
theorem dX9_end_2 : decode cX9_end 2 = .ok (.aload_n 0, 1) := by decide +kernel
theorem dX9_end_3 : decode cX9_end 3 = .ok (.getfield 163, 3) := by decide +kernel
theorem dX9_end_6 : decode cX9_end 6 = .ok (.invokestatic 126, 3) := by decide +kernel
theorem dX9_end_9 : decode cX9_end 9 = .ok (.ifCond .ne 5, 3) := by decide +kernel
theorem dX9_end_12 : decode cX9_end 12 = .ok (.iconst (-1), 1) := by decide +kernel
theorem dX9_end_13 : decode cX9_end 13 = .ok (.ireturn, 1) := by decide +kernel
theorem dX9_end_14 : decode cX9_end 14 = .ok (.aload_n 0, 1) := by decide +kernel
theorem dX9_end_15 : decode cX9_end 15 = .ok (.iload_n 1, 1) := by decide +kernel
theorem dX9_end_16 : decode cX9_end 16 = .ok (.putfield 163, 3) := by decide +kernel
theorem dX9_end_19 : decode cX9_end 19 = .ok (.iload_n 1, 1) := by decide +kernel
theorem dX9_end_20 : decode cX9_end 20 = .ok (.ireturn, 1) := by decide +kernel
theorem dX9_next_0 : decode cX9_next 0 = .ok (.aload_n 0, 1) := by decide +kernel
theorem dX9_next_1 : decode cX9_next 1 = .ok (.getfield 214, 3) := by decide +kernel
theorem dX9_next_4 : decode cX9_next 4 = .ok (.aload_n 0, 1) := by decide +kernel
theorem dX9_next_5 : decode cX9_next 5 = .ok (.getfield 217, 3) := by decide +kernel
theorem dX9_next_8 : decode cX9_next 8 = .ok (.if_icmp .ge 44, 3) := by decide +kernel
theorem dX9_next_52 : decode cX9_next 52 = .ok (.aload_n 0, 1) := by decide +kernel
theorem dX9_next_53 : decode cX9_next 53 = .ok (.aload_n 0, 1) := by decide +kernel
theorem dX9_next_54 : decode cX9_next 54 = .ok (.getfield 214, 3) := by decide +kernel
theorem dX9_next_57 : decode cX9_next 57 = .ok (.putfield 220, 3) := by decide +kernel
theorem dX9_next_60 : decode cX9_next 60 = .ok (.aload_n 0, 1) := by decide +kernel
theorem dX9_next_61 : decode cX9_next 61 = .ok (.getfield 214, 3) := by decide +kernel
theorem dX9_next_64 : decode cX9_next 64 = .ok (.aload_n 0, 1) := by decide +kernel
theorem dX9_next_65 : decode cX9_next 65 = .ok (.getfield 217, 3) := by decide +kernel
theorem dX9_next_68 : decode cX9_next 68 = .ok (.if_icmp .ne 9, 3) := by decide +kernel
theorem dX9_next_71 : decode cX9_next 71 = .ok (.aload_n 0, 1) := by decide +kernel
theorem dX9_next_72 : decode cX9_next 72 = .ok (.iconst 0, 1) := by decide +kernel
theorem dX9_next_73 : decode cX9_next 73 = .ok (.putfield 223, 3) := by decide +kernel
theorem dX9_next_76 : decode cX9_next 76 = .ok (.return_, 1) := by decide +kernel
theorem dX9_text_0 : decode cX9_text 0 = .ok (.aload_n 0, 1) := by decide +kernel
theorem dX9_text_1 : decode cX9_text 1 = .ok (.getfield 7, 3) := by decide +kernel
theorem dX9_text_4 : decode cX9_text 4 = .ok (.iconst 3, 1) := by decide +kernel
theorem dX9_text_5 : decode cX9_text 5 = .ok (.iaload, 1) := by decide +kernel
theorem dX9_text_6 : decode cX9_text 6 = .ok (.iconst 4, 1) := by decide +kernel
theorem dX9_text_7 : decode cX9_text 7 = .ok (.if_icmp .ne 5, 3) := by decide +kernel
theorem dX9_text_12 : decode cX9_text 12 = .ok (.aload_n 0, 1) := by decide +kernel
theorem dX9_text_13 : decode cX9_text 13 = .ok (.aload_n 0, 1) := by decide +kernel
theorem dX9_text_14 : decode cX9_text 14 = .ok (.getfield 163, 3) := by decide +kernel
theorem dX9_text_17 : decode cX9_text 17 = .ok (.putfield 217, 3) := by decide +kernel
theorem dX9_text_20 : decode cX9_text 20 = .ok (.aload_n 0, 1) := by decide +kernel
theorem dX9_text_21 : decode cX9_text 21 = .ok (.iconst 0, 1) := by decide +kernel
theorem dX9_text_22 : decode cX9_text 22 = .ok (.putfield 163, 3) := by decide +kernel
theorem dX9_text_25 : decode cX9_text 25 = .ok (.aload_n 0, 1) := by decide +kernel
theorem dX9_text_26 : decode cX9_text 26 = .ok (.iconst 0, 1) := by decide +kernel
theorem dX9_text_27 : decode cX9_text 27 = .ok (.putfield 214, 3) := by decide +kernel
theorem dX9_text_30 : decode cX9_text 30 = .ok (.aload_n 0, 1) := by decide +kernel
theorem dX9_text_31 : decode cX9_text 31 = .ok (.iconst 0, 1) := by decide +kernel
theorem dX9_text_32 : decode cX9_text 32 = .ok (.putfield 239, 3) := by decide +kernel
theorem dX9_text_35 : decode cX9_text 35 = .ok (.aload_n 0, 1) := by decide +kernel
theorem dX9_text_36 : decode cX9_text 36 = .ok (.iconst (-1), 1) := by decide +kernel
theorem dX9_text_37 : decode cX9_text 37 = .ok (.putfield 242, 3) := by decide +kernel
theorem dX9_text_40 : decode cX9_text 40 = .ok (.aload_n 0, 1) := by decide +kernel
theorem dX9_text_41 : decode cX9_text 41 = .ok (.iconst 0, 1) := by decide +kernel
theorem dX9_text_42 : decode cX9_text 42 = .ok (.putfield 251, 3) := by decide +kernel
theorem dX9_text_45 : decode cX9_text 45 = .ok (.aload_n 0, 1) := by decide +kernel
theorem dX9_text_46 : decode cX9_text 46 = .ok (.iconst 0, 1) := by decide +kernel
theorem dX9_text_47 : decode cX9_text 47 = .ok (.putfield 248, 3) := by decide +kernel
theorem dX9_text_50 : decode cX9_text 50 = .ok (.aload_n 0, 1) := by decide +kernel
theorem dX9_text_51 : decode cX9_text 51 = .ok (.iconst 0, 1) := by decide +kernel
theorem dX9_text_52 : decode cX9_text 52 = .ok (.putfield 263, 3) := by decide +kernel
theorem dX9_text_55 : decode cX9_text 55 = .ok (.aload_n 0, 1) := by decide +kernel
theorem dX9_text_56 : decode cX9_text 56 = .ok (.iconst 4, 1) := by decide +kernel
theorem dX9_text_57 : decode cX9_text 57 = .ok (.putfield 283, 3) := by decide +kernel
theorem dX9_text_60 : decode cX9_text 60 = .ok (.aload_n 0, 1) := by decide +kernel
theorem dX9_text_61 : decode cX9_text 61 = .ok (.iconst 0, 1) := by decide +kernel
theorem dX9_text_62 : decode cX9_text 62 = .ok (.putfield 311, 3) := by decide +kernel
theorem dX9_text_65 : decode cX9_text 65 = .ok (.aload_n 0, 1) := by decide +kernel
theorem dX9_text_66 : decode cX9_text 66 = .ok (.iconst 0, 1) := by decide +kernel
theorem dX9_text_67 : decode cX9_text 67 = .ok (.putfield 245, 3) := by decide +kernel
theorem dX9_text_70 : decode cX9_text 70 = .ok (.aload_n 0, 1) := by decide +kernel
theorem dX9_text_71 : decode cX9_text 71 = .ok (.invokevirtual 260, 3) := by decide +kernel
theorem dX9_text_74 : decode cX9_text 74 = .ok (.aload_n 0, 1) := by decide +kernel
theorem dX9_text_75 : decode cX9_text 75 = .ok (.getfield 239, 3) := by decide +kernel
theorem dX9_text_78 : decode cX9_text 78 = .ok (.ifCond .ne 89, 3) := by decide +kernel
theorem dX9_text_81 : decode cX9_text 81 = .ok (.aload_n 0, 1) := by decide +kernel
theorem dX9_text_82 : decode cX9_text 82 = .ok (.getfield 283, 3) := by decide +kernel
theorem dX9_text_85 : decode cX9_text 85 = .ok (.iconst 4, 1) := by decide +kernel
theorem dX9_text_86 : decode cX9_text 86 = .ok (.if_icmp .ne 10, 3) := by decide +kernel
theorem dX9_text_89 : decode cX9_text 89 = .ok (.aload_n 0, 1) := by decide +kernel
theorem dX9_text_90 : decode cX9_text 90 = .ok (.getfield 223, 3) := by decide +kernel
theorem dX9_text_93 : decode cX9_text 93 = .ok (.ifCond .eq 74, 3) := by decide +kernel
theorem dX9_text_167 : decode cX9_text 167 = .ok (.aload_n 0, 1) := by decide +kernel
theorem dX9_text_168 : decode cX9_text 168 = .ok (.aload_n 0, 1) := by decide +kernel
theorem dX9_text_169 : decode cX9_text 169 = .ok (.getfield 239, 3) := by decide +kernel
theorem dX9_text_172 : decode cX9_text 172 = .ok (.putfield 20, 3) := by decide +kernel
theorem dX9_text_175 : decode cX9_text 175 = .ok (.aload_n 0, 1) := by decide +kernel
theorem dX9_text_176 : decode cX9_text 176 = .ok (.aload_n 0, 1) := by decide +kernel
theorem dX9_text_177 : decode cX9_text 177 = .ok (.getfield 242, 3) := by decide +kernel
theorem dX9_text_180 : decode cX9_text 180 = .ok (.putfield 24, 3) := by decide +kernel
theorem dX9_text_183 : decode cX9_text 183 = .ok (.aload_n 0, 1) := by decide +kernel
theorem dX9_text_184 : decode cX9_text 184 = .ok (.getfield 239, 3) := by decide +kernel
theorem dX9_text_187 : decode cX9_text 187 = .ok (.ifCond .le 5, 3) := by decide +kernel
theorem dX9_text_192 : decode cX9_text 192 = .ok (.aload_n 0, 1) := by decide +kernel
theorem dX9_text_193 : decode cX9_text 193 = .ok (.getfield 7, 3) := by decide +kernel
theorem dX9_text_196 : decode cX9_text 196 = .ok (.iconst 3, 1) := by decide +kernel
theorem dX9_text_197 : decode cX9_text 197 = .ok (.iaload, 1) := by decide +kernel
theorem dX9_text_198 : decode cX9_text 198 = .ok (.istore_n 1, 1) := by decide +kernel
theorem dX9_text_199 : decode cX9_text 199 = .ok (.aload_n 0, 1) := by decide +kernel
theorem dX9_text_200 : decode cX9_text 200 = .ok (.getfield 27, 3) := by decide +kernel
theorem dX9_text_203 : decode cX9_text 203 = .ok (.iload_n 1, 1) := by decide +kernel
theorem dX9_text_204 : decode cX9_text 204 = .ok (.aload_n 0, 1) := by decide +kernel
theorem dX9_text_205 : decode cX9_text 205 = .ok (.getfield 311, 3) := by decide +kernel
theorem dX9_text_208 : decode cX9_text 208 = .ok (.iastore, 1) := by decide +kernel
theorem dX9_text_209 : decode cX9_text 209 = .ok (.iconst 0, 1) := by decide +kernel
theorem dX9_text_210 : decode cX9_text 210 = .ok (.istore_n 2, 1) := by decide +kernel
theorem dX9_text_211 : decode cX9_text 211 = .ok (.iload_n 2, 1) := by decide +kernel
theorem dX9_text_212 : decode cX9_text 212 = .ok (.aload_n 0, 1) := by decide +kernel
theorem dX9_text_213 : decode cX9_text 213 = .ok (.getfield 311, 3) := by decide +kernel
theorem dX9_text_216 : decode cX9_text 216 = .ok (.if_icmp .ge 100, 3) := by decide +kernel
theorem dX9_text_316 : decode cX9_text 316 = .ok (.iconst 0, 1) := by decide +kernel
theorem dX9_text_317 : decode cX9_text 317 = .ok (.istore_n 2, 1) := by decide +kernel
theorem dX9_text_318 : decode cX9_text 318 = .ok (.iload_n 2, 1) := by decide +kernel
theorem dX9_text_319 : decode cX9_text 319 = .ok (.aload_n 0, 1) := by decide +kernel
theorem dX9_text_320 : decode cX9_text 320 = .ok (.getfield 245, 3) := by decide +kernel
theorem dX9_text_323 : decode cX9_text 323 = .ok (.if_icmp .ge 45, 3) := by decide +kernel
theorem dX9_text_368 : decode cX9_text 368 = .ok (.aload_n 0, 1) := by decide +kernel
theorem dX9_text_369 : decode cX9_text 369 = .ok (.getfield 7, 3) := by decide +kernel
theorem dX9_text_372 : decode cX9_text 372 = .ok (.iconst 3, 1) := by decide +kernel
theorem dX9_text_373 : decode cX9_text 373 = .ok (.dup2, 1) := by decide +kernel
theorem dX9_text_374 : decode cX9_text 374 = .ok (.iaload, 1) := by decide +kernel
theorem dX9_text_375 : decode cX9_text 375 = .ok (.iconst 1, 1) := by decide +kernel
theorem dX9_text_376 : decode cX9_text 376 = .ok (.iadd, 1) := by decide +kernel
theorem dX9_text_377 : decode cX9_text 377 = .ok (.iastore, 1) := by decide +kernel
theorem dX9_text_378 : decode cX9_text 378 = .ok (.iload_n 1, 1) := by decide +kernel
theorem dX9_text_379 : decode cX9_text 379 = .ok (.ireturn, 1) := by decide +kernel
theorem dX9_fault_0 : decode cX9_fault 0 = .ok (.iload_n 1, 1) := by decide +kernel
theorem dX9_fault_1 : decode cX9_fault 1 = .ok (.ifCond .ne 10, 3) := by decide +kernel
theorem dX9_fault_4 : decode cX9_fault 4 = .ok (.aload_n 0, 1) := by decide +kernel
theorem dX9_fault_5 : decode cX9_fault 5 = .ok (.getfield 20, 3) := by decide +kernel
theorem dX9_fault_8 : decode cX9_fault 8 = .ok (.goto 16, 3) := by decide +kernel
theorem dX9_fault_11 : decode cX9_fault 11 = .ok (.iload_n 1, 1) := by decide +kernel
theorem dX9_fault_12 : decode cX9_fault 12 = .ok (.iconst 1, 1) := by decide +kernel
theorem dX9_fault_13 : decode cX9_fault 13 = .ok (.if_icmp .ne 10, 3) := by decide +kernel
theorem dX9_fault_16 : decode cX9_fault 16 = .ok (.aload_n 0, 1) := by decide +kernel
theorem dX9_fault_17 : decode cX9_fault 17 = .ok (.getfield 24, 3) := by decide +kernel
theorem dX9_fault_20 : decode cX9_fault 20 = .ok (.goto 4, 3) := by decide +kernel
theorem dX9_fault_23 : decode cX9_fault 23 = .ok (.iconst (-1), 1) := by decide +kernel
theorem dX9_fault_24 : decode cX9_fault 24 = .ok (.ireturn, 1) := by decide +kernel
theorem dX9_by_0 : decode cX9_by 0 = .ok (.iload_n 1, 1) := by decide +kernel
theorem dX9_by_1 : decode cX9_by 1 = .ok (.iconst (-1), 1) := by decide +kernel
theorem dX9_by_2 : decode cX9_by 2 = .ok (.if_icmp .eq 21, 3) := by decide +kernel
theorem dX9_by_5 : decode cX9_by 5 = .ok (.iload_n 1, 1) := by decide +kernel
theorem dX9_by_6 : decode cX9_by 6 = .ok (.iconst 0, 1) := by decide +kernel
theorem dX9_by_7 : decode cX9_by 7 = .ok (.aload_n 0, 1) := by decide +kernel
theorem dX9_by_8 : decode cX9_by 8 = .ok (.getfield 7, 3) := by decide +kernel
theorem dX9_by_11 : decode cX9_by 11 = .ok (.iconst 3, 1) := by decide +kernel
theorem dX9_by_12 : decode cX9_by 12 = .ok (.iaload, 1) := by decide +kernel
theorem dX9_by_13 : decode cX9_by 13 = .ok (.iconst 1, 1) := by decide +kernel
theorem dX9_by_14 : decode cX9_by 14 = .ok (.isub, 1) := by decide +kernel
theorem dX9_by_15 : decode cX9_by 15 = .ok (.invokestatic 126, 3) := by decide +kernel
theorem dX9_by_18 : decode cX9_by 18 = .ok (.ifCond .ne 5, 3) := by decide +kernel
theorem dX9_by_21 : decode cX9_by 21 = .ok (.iconst 0, 1) := by decide +kernel
theorem dX9_by_22 : decode cX9_by 22 = .ok (.ireturn, 1) := by decide +kernel
theorem dX9_by_23 : decode cX9_by 23 = .ok (.aload_n 0, 1) := by decide +kernel
theorem dX9_by_24 : decode cX9_by 24 = .ok (.getfield 7, 3) := by decide +kernel
theorem dX9_by_27 : decode cX9_by 27 = .ok (.iconst 4, 1) := by decide +kernel
theorem dX9_by_28 : decode cX9_by 28 = .ok (.iload_n 1, 1) := by decide +kernel
theorem dX9_by_29 : decode cX9_by 29 = .ok (.iastore, 1) := by decide +kernel
theorem dX9_by_30 : decode cX9_by 30 = .ok (.iconst 1, 1) := by decide +kernel
theorem dX9_by_31 : decode cX9_by 31 = .ok (.ireturn, 1) := by decide +kernel
theorem dX9_ink_0 : decode cX9_ink 0 = .ok (.aload_n 0, 1) := by decide +kernel
theorem dX9_ink_1 : decode cX9_ink 1 = .ok (.iload_n 1, 1) := by decide +kernel
theorem dX9_ink_2 : decode cX9_ink 2 = .ok (.invokevirtual 134, 3) := by decide +kernel
theorem dX9_ink_5 : decode cX9_ink 5 = .ok (.ifCond .eq 21, 3) := by decide +kernel
theorem dX9_ink_26 : decode cX9_ink 26 = .ok (.iconst (-1), 1) := by decide +kernel
theorem dX9_ink_27 : decode cX9_ink 27 = .ok (.ireturn, 1) := by decide +kernel
theorem dX9_geeseOf_0 : decode cX9_geeseOf 0 = .ok (.iconst 0, 1) := by decide +kernel
theorem dX9_geeseOf_1 : decode cX9_geeseOf 1 = .ok (.istore_n 2, 1) := by decide +kernel
theorem dX9_geeseOf_2 : decode cX9_geeseOf 2 = .ok (.iconst 0, 1) := by decide +kernel
theorem dX9_geeseOf_3 : decode cX9_geeseOf 3 = .ok (.istore_n 3, 1) := by decide +kernel
theorem dX9_geeseOf_4 : decode cX9_geeseOf 4 = .ok (.iload_n 3, 1) := by decide +kernel
theorem dX9_geeseOf_5 : decode cX9_geeseOf 5 = .ok (.aload_n 0, 1) := by decide +kernel
theorem dX9_geeseOf_6 : decode cX9_geeseOf 6 = .ok (.getfield 7, 3) := by decide +kernel
theorem dX9_geeseOf_9 : decode cX9_geeseOf 9 = .ok (.iconst 1, 1) := by decide +kernel
theorem dX9_geeseOf_10 : decode cX9_geeseOf 10 = .ok (.iaload, 1) := by decide +kernel
theorem dX9_geeseOf_11 : decode cX9_geeseOf 11 = .ok (.if_icmp .ge 27, 3) := by decide +kernel
theorem dX9_geeseOf_38 : decode cX9_geeseOf 38 = .ok (.iload_n 2, 1) := by decide +kernel
theorem dX9_geeseOf_39 : decode cX9_geeseOf 39 = .ok (.ireturn, 1) := by decide +kernel
theorem dX9_hungers_0 : decode cX9_hungers 0 = .ok (.aload_n 0, 1) := by decide +kernel
theorem dX9_hungers_1 : decode cX9_hungers 1 = .ok (.getfield 7, 3) := by decide +kernel
theorem dX9_hungers_4 : decode cX9_hungers 4 = .ok (.iconst 2, 1) := by decide +kernel
theorem dX9_hungers_5 : decode cX9_hungers 5 = .ok (.iaload, 1) := by decide +kernel
theorem dX9_hungers_6 : decode cX9_hungers 6 = .ok (.aload_n 0, 1) := by decide +kernel
theorem dX9_hungers_7 : decode cX9_hungers 7 = .ok (.iconst 0, 1) := by decide +kernel
theorem dX9_hungers_8 : decode cX9_hungers 8 = .ok (.invokevirtual 378, 3) := by decide +kernel
theorem dX9_hungers_11 : decode cX9_hungers 11 = .ok (.iadd, 1) := by decide +kernel
theorem dX9_hungers_12 : decode cX9_hungers 12 = .ok (.istore_n 1, 1) := by decide +kernel
theorem dX9_hungers_13 : decode cX9_hungers 13 = .ok (.aload_n 0, 1) := by decide +kernel
theorem dX9_hungers_14 : decode cX9_hungers 14 = .ok (.getfield 7, 3) := by decide +kernel
theorem dX9_hungers_17 : decode cX9_hungers 17 = .ok (.bipush 120, 2) := by decide +kernel
theorem dX9_hungers_19 : decode cX9_hungers 19 = .ok (.iaload, 1) := by decide +kernel
theorem dX9_hungers_20 : decode cX9_hungers 20 = .ok (.iload_n 1, 1) := by decide +kernel
theorem dX9_hungers_21 : decode cX9_hungers 21 = .ok (.if_icmp .lt 15, 3) := by decide +kernel
theorem dX9_hungers_24 : decode cX9_hungers 24 = .ok (.aload_n 0, 1) := by decide +kernel
theorem dX9_hungers_25 : decode cX9_hungers 25 = .ok (.getfield 7, 3) := by decide +kernel
theorem dX9_hungers_28 : decode cX9_hungers 28 = .ok (.bipush 120, 2) := by decide +kernel
theorem dX9_hungers_30 : decode cX9_hungers 30 = .ok (.dup2, 1) := by decide +kernel
theorem dX9_hungers_31 : decode cX9_hungers 31 = .ok (.iaload, 1) := by decide +kernel
theorem dX9_hungers_32 : decode cX9_hungers 32 = .ok (.iload_n 1, 1) := by decide +kernel
theorem dX9_hungers_33 : decode cX9_hungers 33 = .ok (.isub, 1) := by decide +kernel
theorem dX9_hungers_34 : decode cX9_hungers 34 = .ok (.iastore, 1) := by decide +kernel
theorem dX9_hungers_35 : decode cX9_hungers 35 = .ok (.return_, 1) := by decide +kernel
theorem dX9_pass_0 : decode cX9_pass 0 = .ok (.iload_n 1, 1) := by decide +kernel
theorem dX9_pass_1 : decode cX9_pass 1 = .ok (.iconst 1, 1) := by decide +kernel
theorem dX9_pass_2 : decode cX9_pass 2 = .ok (.bipush 99, 2) := by decide +kernel
theorem dX9_pass_4 : decode cX9_pass 4 = .ok (.invokestatic 126, 3) := by decide +kernel
theorem dX9_pass_7 : decode cX9_pass 7 = .ok (.ifCond .eq 18, 3) := by decide +kernel
theorem dX9_pass_10 : decode cX9_pass 10 = .ok (.aload_n 0, 1) := by decide +kernel
theorem dX9_pass_11 : decode cX9_pass 11 = .ok (.getfield 7, 3) := by decide +kernel
theorem dX9_pass_14 : decode cX9_pass 14 = .ok (.bipush 121, 2) := by decide +kernel
theorem dX9_pass_16 : decode cX9_pass 16 = .ok (.iaload, 1) := by decide +kernel
theorem dX9_pass_17 : decode cX9_pass 17 = .ok (.iload_n 1, 1) := by decide +kernel
theorem dX9_pass_18 : decode cX9_pass 18 = .ok (.iadd, 1) := by decide +kernel
theorem dX9_pass_19 : decode cX9_pass 19 = .ok (.sipush 999, 3) := by decide +kernel
theorem dX9_pass_22 : decode cX9_pass 22 = .ok (.if_icmp .le 5, 3) := by decide +kernel
theorem dX9_pass_25 : decode cX9_pass 25 = .ok (.iconst (-1), 1) := by decide +kernel
theorem dX9_pass_26 : decode cX9_pass 26 = .ok (.ireturn, 1) := by decide +kernel
theorem dX9_pass_27 : decode cX9_pass 27 = .ok (.aload_n 0, 1) := by decide +kernel
theorem dX9_pass_28 : decode cX9_pass 28 = .ok (.invokevirtual 153, 3) := by decide +kernel
theorem dX9_pass_31 : decode cX9_pass 31 = .ok (.iconst 0, 1) := by decide +kernel
theorem dX9_pass_32 : decode cX9_pass 32 = .ok (.istore_n 2, 1) := by decide +kernel
theorem dX9_pass_33 : decode cX9_pass 33 = .ok (.iload_n 2, 1) := by decide +kernel
theorem dX9_pass_34 : decode cX9_pass 34 = .ok (.iload_n 1, 1) := by decide +kernel
theorem dX9_pass_35 : decode cX9_pass 35 = .ok (.if_icmp .ge 74, 3) := by decide +kernel
theorem dX9_pass_38 : decode cX9_pass 38 = .ok (.aload_n 0, 1) := by decide +kernel
theorem dX9_pass_39 : decode cX9_pass 39 = .ok (.getfield 7, 3) := by decide +kernel
theorem dX9_pass_42 : decode cX9_pass 42 = .ok (.bipush 121, 2) := by decide +kernel
theorem dX9_pass_44 : decode cX9_pass 44 = .ok (.dup2, 1) := by decide +kernel
theorem dX9_pass_45 : decode cX9_pass 45 = .ok (.iaload, 1) := by decide +kernel
theorem dX9_pass_46 : decode cX9_pass 46 = .ok (.iconst 1, 1) := by decide +kernel
theorem dX9_pass_47 : decode cX9_pass 47 = .ok (.iadd, 1) := by decide +kernel
theorem dX9_pass_48 : decode cX9_pass 48 = .ok (.iastore, 1) := by decide +kernel
theorem dX9_pass_49 : decode cX9_pass 49 = .ok (.iconst 0, 1) := by decide +kernel
theorem dX9_pass_50 : decode cX9_pass 50 = .ok (.istore_n 3, 1) := by decide +kernel
theorem dX9_pass_51 : decode cX9_pass 51 = .ok (.iload_n 3, 1) := by decide +kernel
theorem dX9_pass_52 : decode cX9_pass 52 = .ok (.aload_n 0, 1) := by decide +kernel
theorem dX9_pass_53 : decode cX9_pass 53 = .ok (.getfield 7, 3) := by decide +kernel
theorem dX9_pass_56 : decode cX9_pass 56 = .ok (.iconst 1, 1) := by decide +kernel
theorem dX9_pass_57 : decode cX9_pass 57 = .ok (.iaload, 1) := by decide +kernel
theorem dX9_pass_58 : decode cX9_pass 58 = .ok (.if_icmp .ge 41, 3) := by decide +kernel
theorem dX9_pass_99 : decode cX9_pass 99 = .ok (.aload_n 0, 1) := by decide +kernel
theorem dX9_pass_100 : decode cX9_pass 100 = .ok (.invokevirtual 384, 3) := by decide +kernel
theorem dX9_pass_103 : decode cX9_pass 103 = .ok (.iinc 2 1, 3) := by decide +kernel
theorem dX9_pass_106 : decode cX9_pass 106 = .ok (.goto (-73), 3) := by decide +kernel
theorem dX9_pass_109 : decode cX9_pass 109 = .ok (.aload_n 0, 1) := by decide +kernel
theorem dX9_pass_110 : decode cX9_pass 110 = .ok (.getfield 7, 3) := by decide +kernel
theorem dX9_pass_113 : decode cX9_pass 113 = .ok (.bipush 121, 2) := by decide +kernel
theorem dX9_pass_115 : decode cX9_pass 115 = .ok (.iaload, 1) := by decide +kernel
theorem dX9_pass_116 : decode cX9_pass 116 = .ok (.ireturn, 1) := by decide +kernel
theorem dX9_played_0 : decode cX9_played 0 = .ok (.iload_n 1, 1) := by decide +kernel
theorem dX9_played_1 : decode cX9_played 1 = .ok (.iconst 0, 1) := by decide +kernel
theorem dX9_played_2 : decode cX9_played 2 = .ok (.aload_n 0, 1) := by decide +kernel
theorem dX9_played_3 : decode cX9_played 3 = .ok (.getfield 7, 3) := by decide +kernel
theorem dX9_played_6 : decode cX9_played 6 = .ok (.iconst 3, 1) := by decide +kernel
theorem dX9_played_7 : decode cX9_played 7 = .ok (.iaload, 1) := by decide +kernel
theorem dX9_played_8 : decode cX9_played 8 = .ok (.iconst 1, 1) := by decide +kernel
theorem dX9_played_9 : decode cX9_played 9 = .ok (.isub, 1) := by decide +kernel
theorem dX9_played_10 : decode cX9_played 10 = .ok (.invokestatic 126, 3) := by decide +kernel
theorem dX9_played_13 : decode cX9_played 13 = .ok (.ifCond .ne 6, 3) := by decide +kernel
theorem dX9_played_16 : decode cX9_played 16 = .ok (.bipush (-2), 2) := by decide +kernel
theorem dX9_played_18 : decode cX9_played 18 = .ok (.ireturn, 1) := by decide +kernel
theorem dX9_of_0 : decode cX9_of 0 = .ok (.aload_n 0, 1) := by decide +kernel
theorem dX9_of_1 : decode cX9_of 1 = .ok (.iload_n 1, 1) := by decide +kernel
theorem dX9_of_2 : decode cX9_of 2 = .ok (.invokevirtual 134, 3) := by decide +kernel
theorem dX9_of_5 : decode cX9_of 5 = .ok (.ifCond .eq 13, 3) := by decide +kernel
theorem dX9_of_18 : decode cX9_of 18 = .ok (.bipush (-2), 2) := by decide +kernel
theorem dX9_of_20 : decode cX9_of 20 = .ok (.ireturn, 1) := by decide +kernel
theorem dX9_knownBy_0 : decode cX9_knownBy 0 = .ok (.iconst 0, 1) := by decide +kernel
theorem dX9_knownBy_1 : decode cX9_knownBy 1 = .ok (.istore 4, 2) := by decide +kernel
theorem dX9_knownBy_3 : decode cX9_knownBy 3 = .ok (.iconst 0, 1) := by decide +kernel
theorem dX9_knownBy_4 : decode cX9_knownBy 4 = .ok (.istore 5, 2) := by decide +kernel
theorem dX9_knownBy_6 : decode cX9_knownBy 6 = .ok (.iload 5, 2) := by decide +kernel
theorem dX9_knownBy_8 : decode cX9_knownBy 8 = .ok (.aload_n 0, 1) := by decide +kernel
theorem dX9_knownBy_9 : decode cX9_knownBy 9 = .ok (.getfield 7, 3) := by decide +kernel
theorem dX9_knownBy_12 : decode cX9_knownBy 12 = .ok (.iconst 1, 1) := by decide +kernel
theorem dX9_knownBy_13 : decode cX9_knownBy 13 = .ok (.iaload, 1) := by decide +kernel
theorem dX9_knownBy_14 : decode cX9_knownBy 14 = .ok (.if_icmp .ge 23, 3) := by decide +kernel
theorem dX9_knownBy_37 : decode cX9_knownBy 37 = .ok (.iload 4, 2) := by decide +kernel
theorem dX9_knownBy_39 : decode cX9_knownBy 39 = .ok (.ireturn, 1) := by decide +kernel
theorem dX9_isLetterNumber_0 : decode cX9_isLetterNumber 0 = .ok (.iload_n 0, 1) := by decide +kernel
theorem dX9_isLetterNumber_1 : decode cX9_isLetterNumber 1 = .ok (.iconst 0, 1) := by decide +kernel
theorem dX9_isLetterNumber_2 : decode cX9_isLetterNumber 2 = .ok (.iconst 5, 1) := by decide +kernel
theorem dX9_isLetterNumber_3 : decode cX9_isLetterNumber 3 = .ok (.invokestatic 126, 3) := by decide +kernel
theorem dX9_isLetterNumber_6 : decode cX9_isLetterNumber 6 = .ok (.ireturn, 1) := by decide +kernel
theorem dX9_known_0 : decode cX9_known 0 = .ok (.iload_n 1, 1) := by decide +kernel
theorem dX9_known_1 : decode cX9_known 1 = .ok (.invokestatic 409, 3) := by decide +kernel
theorem dX9_known_4 : decode cX9_known 4 = .ok (.ifCond .eq 14, 3) := by decide +kernel
theorem dX9_known_7 : decode cX9_known 7 = .ok (.iload_n 2, 1) := by decide +kernel
theorem dX9_known_8 : decode cX9_known 8 = .ok (.iconst 0, 1) := by decide +kernel
theorem dX9_known_9 : decode cX9_known 9 = .ok (.sipush 999, 3) := by decide +kernel
theorem dX9_known_12 : decode cX9_known 12 = .ok (.invokestatic 126, 3) := by decide +kernel
theorem dX9_known_15 : decode cX9_known 15 = .ok (.ifCond .ne 5, 3) := by decide +kernel
theorem dX9_known_18 : decode cX9_known 18 = .ok (.iconst (-1), 1) := by decide +kernel
theorem dX9_known_19 : decode cX9_known 19 = .ok (.ireturn, 1) := by decide +kernel
theorem dX9_known_20 : decode cX9_known 20 = .ok (.aload_n 0, 1) := by decide +kernel
theorem dX9_known_21 : decode cX9_known 21 = .ok (.iload_n 1, 1) := by decide +kernel
theorem dX9_known_22 : decode cX9_known 22 = .ok (.iload_n 2, 1) := by decide +kernel
theorem dX9_known_23 : decode cX9_known 23 = .ok (.iconst 0, 1) := by decide +kernel
theorem dX9_known_24 : decode cX9_known 24 = .ok (.invokevirtual 412, 3) := by decide +kernel
theorem dX9_known_27 : decode cX9_known 27 = .ok (.iconst 3, 1) := by decide +kernel
theorem dX9_known_28 : decode cX9_known 28 = .ok (.if_icmp .ne 7, 3) := by decide +kernel
theorem dX9_known_35 : decode cX9_known 35 = .ok (.iconst 0, 1) := by decide +kernel
theorem dX9_known_36 : decode cX9_known 36 = .ok (.aload_n 0, 1) := by decide +kernel
theorem dX9_known_37 : decode cX9_known 37 = .ok (.iload_n 1, 1) := by decide +kernel
theorem dX9_known_38 : decode cX9_known 38 = .ok (.iload_n 2, 1) := by decide +kernel
theorem dX9_known_39 : decode cX9_known 39 = .ok (.iconst 1, 1) := by decide +kernel
theorem dX9_known_40 : decode cX9_known 40 = .ok (.invokevirtual 412, 3) := by decide +kernel
theorem dX9_known_43 : decode cX9_known 43 = .ok (.iconst 3, 1) := by decide +kernel
theorem dX9_known_44 : decode cX9_known 44 = .ok (.if_icmp .ne 7, 3) := by decide +kernel
theorem dX9_known_51 : decode cX9_known 51 = .ok (.iconst 0, 1) := by decide +kernel
theorem dX9_known_52 : decode cX9_known 52 = .ok (.iadd, 1) := by decide +kernel
theorem dX9_known_53 : decode cX9_known 53 = .ok (.ireturn, 1) := by decide +kernel
theorem dX9_led_0 : decode cX9_led 0 = .ok (.iload_n 1, 1) := by decide +kernel
theorem dX9_led_1 : decode cX9_led 1 = .ok (.invokestatic 409, 3) := by decide +kernel
theorem dX9_led_4 : decode cX9_led 4 = .ok (.ifCond .ne 5, 3) := by decide +kernel
theorem dX9_led_7 : decode cX9_led 7 = .ok (.iconst (-1), 1) := by decide +kernel
theorem dX9_led_8 : decode cX9_led 8 = .ok (.ireturn, 1) := by decide +kernel
theorem dX9_led_9 : decode cX9_led 9 = .ok (.iconst 0, 1) := by decide +kernel
theorem dX9_led_10 : decode cX9_led 10 = .ok (.istore_n 3, 1) := by decide +kernel
theorem dX9_led_11 : decode cX9_led 11 = .ok (.iconst 0, 1) := by decide +kernel
theorem dX9_led_12 : decode cX9_led 12 = .ok (.istore 4, 2) := by decide +kernel
theorem dX9_led_14 : decode cX9_led 14 = .ok (.iload 4, 2) := by decide +kernel
theorem dX9_led_16 : decode cX9_led 16 = .ok (.sipush 1000, 3) := by decide +kernel
theorem dX9_led_19 : decode cX9_led 19 = .ok (.if_icmp .ge 63, 3) := by decide +kernel
theorem dX9_led_22 : decode cX9_led 22 = .ok (.iconst 0, 1) := by decide +kernel
theorem dX9_led_23 : decode cX9_led 23 = .ok (.istore 5, 2) := by decide +kernel
theorem dX9_led_25 : decode cX9_led 25 = .ok (.iload 5, 2) := by decide +kernel
theorem dX9_led_27 : decode cX9_led 27 = .ok (.aload_n 0, 1) := by decide +kernel
theorem dX9_led_28 : decode cX9_led 28 = .ok (.getfield 7, 3) := by decide +kernel
theorem dX9_led_31 : decode cX9_led 31 = .ok (.iconst 1, 1) := by decide +kernel
theorem dX9_led_32 : decode cX9_led 32 = .ok (.iaload, 1) := by decide +kernel
theorem dX9_led_33 : decode cX9_led 33 = .ok (.if_icmp .ge 43, 3) := by decide +kernel
theorem dX9_led_76 : decode cX9_led 76 = .ok (.iinc 4 1, 3) := by decide +kernel
theorem dX9_led_79 : decode cX9_led 79 = .ok (.goto (-65), 3) := by decide +kernel
theorem dX9_led_82 : decode cX9_led 82 = .ok (.iconst (-1), 1) := by decide +kernel
theorem dX9_led_83 : decode cX9_led 83 = .ok (.ireturn, 1) := by decide +kernel
theorem dX9_answer_0 : decode cX9_answer 0 = .ok (.aload_n 0, 1) := by decide +kernel
theorem dX9_answer_1 : decode cX9_answer 1 = .ok (.iload_n 1, 1) := by decide +kernel
theorem dX9_answer_2 : decode cX9_answer 2 = .ok (.iconst 0, 1) := by decide +kernel
theorem dX9_answer_3 : decode cX9_answer 3 = .ok (.invokevirtual 416, 3) := by decide +kernel
theorem dX9_answer_6 : decode cX9_answer 6 = .ok (.istore_n 2, 1) := by decide +kernel
theorem dX9_answer_7 : decode cX9_answer 7 = .ok (.iload_n 2, 1) := by decide +kernel
theorem dX9_answer_8 : decode cX9_answer 8 = .ok (.iconst (-1), 1) := by decide +kernel
theorem dX9_answer_9 : decode cX9_answer 9 = .ok (.if_icmp .ne 7, 3) := by decide +kernel
theorem dX9_answer_12 : decode cX9_answer 12 = .ok (.iconst (-1), 1) := by decide +kernel
theorem dX9_answer_13 : decode cX9_answer 13 = .ok (.goto 27, 3) := by decide +kernel
theorem dX9_answer_40 : decode cX9_answer 40 = .ok (.ireturn, 1) := by decide +kernel
theorem dX9_plucks_0 : decode cX9_plucks 0 = .ok (.aload_n 0, 1) := by decide +kernel
theorem dX9_plucks_1 : decode cX9_plucks 1 = .ok (.iload_n 1, 1) := by decide +kernel
theorem dX9_plucks_2 : decode cX9_plucks 2 = .ok (.invokevirtual 134, 3) := by decide +kernel
theorem dX9_plucks_5 : decode cX9_plucks 5 = .ok (.ifCond .ne 5, 3) := by decide +kernel
theorem dX9_plucks_8 : decode cX9_plucks 8 = .ok (.iconst (-1), 1) := by decide +kernel
theorem dX9_plucks_9 : decode cX9_plucks 9 = .ok (.ireturn, 1) := by decide +kernel
theorem dX9_startsMany_0 : decode cX9_startsMany 0 = .ok (.iconst 0, 1) := by decide +kernel
theorem dX9_startsMany_1 : decode cX9_startsMany 1 = .ok (.istore_n 3, 1) := by decide +kernel
theorem dX9_startsMany_2 : decode cX9_startsMany 2 = .ok (.iload_n 3, 1) := by decide +kernel
theorem dX9_startsMany_3 : decode cX9_startsMany 3 = .ok (.bipush 16, 2) := by decide +kernel
theorem dX9_startsMany_5 : decode cX9_startsMany 5 = .ok (.if_icmp .ge 29, 3) := by decide +kernel
theorem dX9_startsMany_8 : decode cX9_startsMany 8 = .ok (.aload_n 0, 1) := by decide +kernel
theorem dX9_startsMany_9 : decode cX9_startsMany 9 = .ok (.getfield 91, 3) := by decide +kernel
theorem dX9_startsMany_12 : decode cX9_startsMany 12 = .ok (.iload_n 3, 1) := by decide +kernel
theorem dX9_startsMany_13 : decode cX9_startsMany 13 = .ok (.iload_n 3, 1) := by decide +kernel
theorem dX9_startsMany_14 : decode cX9_startsMany 14 = .ok (.iload_n 1, 1) := by decide +kernel
theorem dX9_startsMany_15 : decode cX9_startsMany 15 = .ok (.iconst 4, 1) := by decide +kernel
theorem dX9_startsMany_16 : decode cX9_startsMany 16 = .ok (.iload_n 2, 1) := by decide +kernel
theorem dX9_startsMany_17 : decode cX9_startsMany 17 = .ok (.imul, 1) := by decide +kernel
theorem dX9_startsMany_18 : decode cX9_startsMany 18 = .ok (.iadd, 1) := by decide +kernel
theorem dX9_startsMany_19 : decode cX9_startsMany 19 = .ok (.if_icmp .ne 7, 3) := by decide +kernel
theorem dX9_startsMany_22 : decode cX9_startsMany 22 = .ok (.lconst 1, 1) := by decide +kernel
theorem dX9_startsMany_23 : decode cX9_startsMany 23 = .ok (.goto 4, 3) := by decide +kernel
theorem dX9_startsMany_26 : decode cX9_startsMany 26 = .ok (.lconst 0, 1) := by decide +kernel
theorem dX9_startsMany_27 : decode cX9_startsMany 27 = .ok (.lastore, 1) := by decide +kernel
theorem dX9_startsMany_28 : decode cX9_startsMany 28 = .ok (.iinc 3 1, 3) := by decide +kernel
theorem dX9_startsMany_31 : decode cX9_startsMany 31 = .ok (.goto (-29), 3) := by decide +kernel
theorem dX9_startsMany_34 : decode cX9_startsMany 34 = .ok (.return_, 1) := by decide +kernel
theorem dX9_manyOf_0 : decode cX9_manyOf 0 = .ok (.lconst 0, 1) := by decide +kernel
theorem dX9_manyOf_1 : decode cX9_manyOf 1 = .ok (.lstore_n 2, 1) := by decide +kernel
theorem dX9_manyOf_2 : decode cX9_manyOf 2 = .ok (.iconst 0, 1) := by decide +kernel
theorem dX9_manyOf_3 : decode cX9_manyOf 3 = .ok (.istore 4, 2) := by decide +kernel
theorem dX9_manyOf_5 : decode cX9_manyOf 5 = .ok (.iload 4, 2) := by decide +kernel
theorem dX9_manyOf_7 : decode cX9_manyOf 7 = .ok (.bipush 16, 2) := by decide +kernel
theorem dX9_manyOf_9 : decode cX9_manyOf 9 = .ok (.if_icmp .ge 88, 3) := by decide +kernel
theorem dX9_manyOf_12 : decode cX9_manyOf 12 = .ok (.iload 4, 2) := by decide +kernel
theorem dX9_manyOf_14 : decode cX9_manyOf 14 = .ok (.iconst 4, 1) := by decide +kernel
theorem dX9_manyOf_15 : decode cX9_manyOf 15 = .ok (.irem, 1) := by decide +kernel
theorem dX9_manyOf_16 : decode cX9_manyOf 16 = .ok (.iconst 3, 1) := by decide +kernel
theorem dX9_manyOf_17 : decode cX9_manyOf 17 = .ok (.if_icmp .ne 7, 3) := by decide +kernel
theorem dX9_manyOf_20 : decode cX9_manyOf 20 = .ok (.iconst 1, 1) := by decide +kernel
theorem dX9_manyOf_21 : decode cX9_manyOf 21 = .ok (.goto 4, 3) := by decide +kernel
theorem dX9_manyOf_24 : decode cX9_manyOf 24 = .ok (.iconst 0, 1) := by decide +kernel
theorem dX9_manyOf_25 : decode cX9_manyOf 25 = .ok (.istore 5, 2) := by decide +kernel
theorem dX9_manyOf_27 : decode cX9_manyOf 27 = .ok (.iload 4, 2) := by decide +kernel
theorem dX9_manyOf_29 : decode cX9_manyOf 29 = .ok (.iconst 4, 1) := by decide +kernel
theorem dX9_manyOf_30 : decode cX9_manyOf 30 = .ok (.idiv, 1) := by decide +kernel
theorem dX9_manyOf_31 : decode cX9_manyOf 31 = .ok (.iconst 3, 1) := by decide +kernel
theorem dX9_manyOf_32 : decode cX9_manyOf 32 = .ok (.if_icmp .ne 7, 3) := by decide +kernel
theorem dX9_manyOf_35 : decode cX9_manyOf 35 = .ok (.iconst 1, 1) := by decide +kernel
theorem dX9_manyOf_36 : decode cX9_manyOf 36 = .ok (.goto 4, 3) := by decide +kernel
theorem dX9_manyOf_39 : decode cX9_manyOf 39 = .ok (.iconst 0, 1) := by decide +kernel
theorem dX9_manyOf_40 : decode cX9_manyOf 40 = .ok (.istore 6, 2) := by decide +kernel
theorem dX9_manyOf_42 : decode cX9_manyOf 42 = .ok (.lload_n 2, 1) := by decide +kernel
theorem dX9_manyOf_43 : decode cX9_manyOf 43 = .ok (.iload_n 1, 1) := by decide +kernel
theorem dX9_manyOf_44 : decode cX9_manyOf 44 = .ok (.ifCond .ne 11, 3) := by decide +kernel
theorem dX9_manyOf_47 : decode cX9_manyOf 47 = .ok (.iload 5, 2) := by decide +kernel
theorem dX9_manyOf_49 : decode cX9_manyOf 49 = .ok (.ifCond .eq 39, 3) := by decide +kernel
theorem dX9_manyOf_52 : decode cX9_manyOf 52 = .ok (.goto 26, 3) := by decide +kernel
theorem dX9_manyOf_55 : decode cX9_manyOf 55 = .ok (.iload_n 1, 1) := by decide +kernel
theorem dX9_manyOf_56 : decode cX9_manyOf 56 = .ok (.iconst 1, 1) := by decide +kernel
theorem dX9_manyOf_57 : decode cX9_manyOf 57 = .ok (.if_icmp .ne 11, 3) := by decide +kernel
theorem dX9_manyOf_60 : decode cX9_manyOf 60 = .ok (.iload 6, 2) := by decide +kernel
theorem dX9_manyOf_62 : decode cX9_manyOf 62 = .ok (.ifCond .eq 26, 3) := by decide +kernel
theorem dX9_manyOf_65 : decode cX9_manyOf 65 = .ok (.goto 13, 3) := by decide +kernel
theorem dX9_manyOf_68 : decode cX9_manyOf 68 = .ok (.iload 5, 2) := by decide +kernel
theorem dX9_manyOf_70 : decode cX9_manyOf 70 = .ok (.ifCond .eq 18, 3) := by decide +kernel
theorem dX9_manyOf_73 : decode cX9_manyOf 73 = .ok (.iload 6, 2) := by decide +kernel
theorem dX9_manyOf_75 : decode cX9_manyOf 75 = .ok (.ifCond .ne 13, 3) := by decide +kernel
theorem dX9_manyOf_78 : decode cX9_manyOf 78 = .ok (.aload_n 0, 1) := by decide +kernel
theorem dX9_manyOf_79 : decode cX9_manyOf 79 = .ok (.getfield 91, 3) := by decide +kernel
theorem dX9_manyOf_82 : decode cX9_manyOf 82 = .ok (.iload 4, 2) := by decide +kernel
theorem dX9_manyOf_84 : decode cX9_manyOf 84 = .ok (.laload, 1) := by decide +kernel
theorem dX9_manyOf_85 : decode cX9_manyOf 85 = .ok (.goto 4, 3) := by decide +kernel
theorem dX9_manyOf_88 : decode cX9_manyOf 88 = .ok (.lconst 0, 1) := by decide +kernel
theorem dX9_manyOf_89 : decode cX9_manyOf 89 = .ok (.ladd, 1) := by decide +kernel
theorem dX9_manyOf_90 : decode cX9_manyOf 90 = .ok (.lstore_n 2, 1) := by decide +kernel
theorem dX9_manyOf_91 : decode cX9_manyOf 91 = .ok (.iinc 4 1, 3) := by decide +kernel
theorem dX9_manyOf_94 : decode cX9_manyOf 94 = .ok (.goto (-89), 3) := by decide +kernel
theorem dX9_manyOf_97 : decode cX9_manyOf 97 = .ok (.lload_n 2, 1) := by decide +kernel
theorem dX9_manyOf_98 : decode cX9_manyOf 98 = .ok (.lreturn, 1) := by decide +kernel
theorem dX9_odds_0 : decode cX9_odds 0 = .ok (.iload_n 1, 1) := by decide +kernel
theorem dX9_odds_1 : decode cX9_odds 1 = .ok (.invokestatic 409, 3) := by decide +kernel
theorem dX9_odds_4 : decode cX9_odds 4 = .ok (.ifCond .eq 12, 3) := by decide +kernel
theorem dX9_odds_7 : decode cX9_odds 7 = .ok (.iload_n 2, 1) := by decide +kernel
theorem dX9_odds_8 : decode cX9_odds 8 = .ok (.iconst 0, 1) := by decide +kernel
theorem dX9_odds_9 : decode cX9_odds 9 = .ok (.iconst 2, 1) := by decide +kernel
theorem dX9_odds_10 : decode cX9_odds 10 = .ok (.invokestatic 126, 3) := by decide +kernel
theorem dX9_odds_13 : decode cX9_odds 13 = .ok (.ifCond .ne 7, 3) := by decide +kernel
theorem dX9_odds_16 : decode cX9_odds 16 = .ok (.ldc2_w 422, 3) := by decide +kernel
theorem dX9_odds_19 : decode cX9_odds 19 = .ok (.lreturn, 1) := by decide +kernel
theorem dX9_odds_20 : decode cX9_odds 20 = .ok (.aload_n 0, 1) := by decide +kernel
theorem dX9_odds_21 : decode cX9_odds 21 = .ok (.aload_n 0, 1) := by decide +kernel
theorem dX9_odds_22 : decode cX9_odds 22 = .ok (.iload_n 1, 1) := by decide +kernel
theorem dX9_odds_23 : decode cX9_odds 23 = .ok (.sipush 999, 3) := by decide +kernel
theorem dX9_odds_26 : decode cX9_odds 26 = .ok (.iconst 0, 1) := by decide +kernel
theorem dX9_odds_27 : decode cX9_odds 27 = .ok (.invokevirtual 412, 3) := by decide +kernel
theorem dX9_odds_30 : decode cX9_odds 30 = .ok (.aload_n 0, 1) := by decide +kernel
theorem dX9_odds_31 : decode cX9_odds 31 = .ok (.iload_n 1, 1) := by decide +kernel
theorem dX9_odds_32 : decode cX9_odds 32 = .ok (.sipush 999, 3) := by decide +kernel
theorem dX9_odds_35 : decode cX9_odds 35 = .ok (.iconst 1, 1) := by decide +kernel
theorem dX9_odds_36 : decode cX9_odds 36 = .ok (.invokevirtual 412, 3) := by decide +kernel
theorem dX9_odds_39 : decode cX9_odds 39 = .ok (.invokevirtual 424, 3) := by decide +kernel
theorem dX9_odds_42 : decode cX9_odds 42 = .ok (.iconst 0, 1) := by decide +kernel
theorem dX9_odds_43 : decode cX9_odds 43 = .ok (.istore 4, 2) := by decide +kernel

theorem dX9_odds_45 : decode cX9_odds 45 = .ok (.lconst 1, 1) := by decide +kernel
theorem dX9_odds_46 : decode cX9_odds 46 = .ok (.lstore 5, 2) := by decide +kernel
theorem dX9_odds_48 : decode cX9_odds 48 = .ok (.iconst 0, 1) := by decide +kernel
theorem dX9_odds_49 : decode cX9_odds 49 = .ok (.istore 7, 2) := by decide +kernel
theorem dX9_odds_51 : decode cX9_odds 51 = .ok (.iload 7, 2) := by decide +kernel
theorem dX9_odds_53 : decode cX9_odds 53 = .ok (.aload_n 0, 1) := by decide +kernel
theorem dX9_odds_54 : decode cX9_odds 54 = .ok (.getfield 7, 3) := by decide +kernel
theorem dX9_odds_57 : decode cX9_odds 57 = .ok (.iconst 1, 1) := by decide +kernel
theorem dX9_odds_58 : decode cX9_odds 58 = .ok (.iaload, 1) := by decide +kernel
theorem dX9_odds_59 : decode cX9_odds 59 = .ok (.if_icmp .ge 96, 3) := by decide +kernel
theorem dX9_odds_155 : decode cX9_odds 155 = .ok (.aload_n 0, 1) := by decide +kernel
theorem dX9_odds_156 : decode cX9_odds 156 = .ok (.iload_n 2, 1) := by decide +kernel
theorem dX9_odds_157 : decode cX9_odds 157 = .ok (.invokevirtual 433, 3) := by decide +kernel
theorem dX9_odds_160 : decode cX9_odds 160 = .ok (.lstore 7, 2) := by decide +kernel
theorem dX9_odds_162 : decode cX9_odds 162 = .ok (.lload 5, 2) := by decide +kernel
theorem dX9_odds_164 : decode cX9_odds 164 = .ok (.lstore 9, 2) := by decide +kernel
theorem dX9_odds_166 : decode cX9_odds 166 = .ok (.lload 7, 2) := by decide +kernel
theorem dX9_odds_168 : decode cX9_odds 168 = .ok (.lstore 11, 2) := by decide +kernel
theorem dX9_odds_170 : decode cX9_odds 170 = .ok (.lload 11, 2) := by decide +kernel
theorem dX9_odds_172 : decode cX9_odds 172 = .ok (.lconst 0, 1) := by decide +kernel
theorem dX9_odds_173 : decode cX9_odds 173 = .ok (.lcmp, 1) := by decide +kernel
theorem dX9_odds_174 : decode cX9_odds 174 = .ok (.ifCond .eq 21, 3) := by decide +kernel
theorem dX9_odds_195 : decode cX9_odds 195 = .ok (.iload_n 3, 1) := by decide +kernel
theorem dX9_odds_196 : decode cX9_odds 196 = .ok (.ifCond .eq 11, 3) := by decide +kernel
theorem dX9_odds_199 : decode cX9_odds 199 = .ok (.lload 5, 2) := by decide +kernel
theorem dX9_odds_201 : decode cX9_odds 201 = .ok (.lload 9, 2) := by decide +kernel
theorem dX9_odds_203 : decode cX9_odds 203 = .ok (.ldiv, 1) := by decide +kernel
theorem dX9_odds_204 : decode cX9_odds 204 = .ok (.goto 8, 3) := by decide +kernel
theorem dX9_odds_207 : decode cX9_odds 207 = .ok (.lload 7, 2) := by decide +kernel
theorem dX9_odds_209 : decode cX9_odds 209 = .ok (.lload 9, 2) := by decide +kernel
theorem dX9_odds_211 : decode cX9_odds 211 = .ok (.ldiv, 1) := by decide +kernel
theorem dX9_odds_212 : decode cX9_odds 212 = .ok (.lreturn, 1) := by decide +kernel
theorem dX9_laysFlock_0 : decode cX9_laysFlock 0 = .ok (.aload_n 0, 1) := by decide +kernel
theorem dX9_laysFlock_1 : decode cX9_laysFlock 1 = .ok (.iconst 0, 1) := by decide +kernel
theorem dX9_laysFlock_2 : decode cX9_laysFlock 2 = .ok (.putfield 436, 3) := by decide +kernel
theorem dX9_laysFlock_5 : decode cX9_laysFlock 5 = .ok (.iconst 0, 1) := by decide +kernel
theorem dX9_laysFlock_6 : decode cX9_laysFlock 6 = .ok (.istore_n 2, 1) := by decide +kernel
theorem dX9_laysFlock_7 : decode cX9_laysFlock 7 = .ok (.iload_n 2, 1) := by decide +kernel
theorem dX9_laysFlock_8 : decode cX9_laysFlock 8 = .ok (.aload_n 0, 1) := by decide +kernel
theorem dX9_laysFlock_9 : decode cX9_laysFlock 9 = .ok (.getfield 7, 3) := by decide +kernel
theorem dX9_laysFlock_12 : decode cX9_laysFlock 12 = .ok (.iconst 1, 1) := by decide +kernel
theorem dX9_laysFlock_13 : decode cX9_laysFlock 13 = .ok (.iaload, 1) := by decide +kernel
theorem dX9_laysFlock_14 : decode cX9_laysFlock 14 = .ok (.if_icmp .ge 180, 3) := by decide +kernel
theorem dX9_laysFlock_194 : decode cX9_laysFlock 194 = .ok (.return_, 1) := by decide +kernel
theorem dX9_plansOf_0 : decode cX9_plansOf 0 = .ok (.aload_n 0, 1) := by decide +kernel
theorem dX9_plansOf_1 : decode cX9_plansOf 1 = .ok (.ldc2_w 422, 3) := by decide +kernel
theorem dX9_plansOf_4 : decode cX9_plansOf 4 = .ok (.putfield 439, 3) := by decide +kernel
theorem dX9_plansOf_7 : decode cX9_plansOf 7 = .ok (.iconst 0, 1) := by decide +kernel
theorem dX9_plansOf_8 : decode cX9_plansOf 8 = .ok (.istore_n 3, 1) := by decide +kernel
theorem dX9_plansOf_9 : decode cX9_plansOf 9 = .ok (.iload_n 3, 1) := by decide +kernel
theorem dX9_plansOf_10 : decode cX9_plansOf 10 = .ok (.sipush 1024, 3) := by decide +kernel
theorem dX9_plansOf_13 : decode cX9_plansOf 13 = .ok (.if_icmp .ge 138, 3) := by decide +kernel
theorem dX9_plansOf_16 : decode cX9_plansOf 16 = .ok (.iconst 0, 1) := by decide +kernel
theorem dX9_plansOf_17 : decode cX9_plansOf 17 = .ok (.istore 4, 2) := by decide +kernel
theorem dX9_plansOf_19 : decode cX9_plansOf 19 = .ok (.iconst 1, 1) := by decide +kernel
theorem dX9_plansOf_20 : decode cX9_plansOf 20 = .ok (.istore 5, 2) := by decide +kernel
theorem dX9_plansOf_22 : decode cX9_plansOf 22 = .ok (.iconst 0, 1) := by decide +kernel
theorem dX9_plansOf_23 : decode cX9_plansOf 23 = .ok (.istore 6, 2) := by decide +kernel
theorem dX9_plansOf_25 : decode cX9_plansOf 25 = .ok (.iload 6, 2) := by decide +kernel
theorem dX9_plansOf_27 : decode cX9_plansOf 27 = .ok (.bipush 10, 2) := by decide +kernel
theorem dX9_plansOf_29 : decode cX9_plansOf 29 = .ok (.if_icmp .ge 99, 3) := by decide +kernel
theorem dX9_plansOf_32 : decode cX9_plansOf 32 = .ok (.iload_n 3, 1) := by decide +kernel
theorem dX9_plansOf_33 : decode cX9_plansOf 33 = .ok (.iload 6, 2) := by decide +kernel
theorem dX9_plansOf_35 : decode cX9_plansOf 35 = .ok (.ishr, 1) := by decide +kernel
theorem dX9_plansOf_36 : decode cX9_plansOf 36 = .ok (.iconst 1, 1) := by decide +kernel
theorem dX9_plansOf_37 : decode cX9_plansOf 37 = .ok (.iand, 1) := by decide +kernel
theorem dX9_plansOf_38 : decode cX9_plansOf 38 = .ok (.iconst 1, 1) := by decide +kernel
theorem dX9_plansOf_39 : decode cX9_plansOf 39 = .ok (.if_icmp .ne 83, 3) := by decide +kernel
theorem dX9_plansOf_42 : decode cX9_plansOf 42 = .ok (.iconst 0, 1) := by decide +kernel
theorem dX9_plansOf_43 : decode cX9_plansOf 43 = .ok (.istore 7, 2) := by decide +kernel
theorem dX9_plansOf_45 : decode cX9_plansOf 45 = .ok (.iconst 0, 1) := by decide +kernel
theorem dX9_plansOf_46 : decode cX9_plansOf 46 = .ok (.istore 8, 2) := by decide +kernel
theorem dX9_plansOf_48 : decode cX9_plansOf 48 = .ok (.iload 8, 2) := by decide +kernel
theorem dX9_plansOf_50 : decode cX9_plansOf 50 = .ok (.aload_n 0, 1) := by decide +kernel
theorem dX9_plansOf_51 : decode cX9_plansOf 51 = .ok (.getfield 436, 3) := by decide +kernel
theorem dX9_plansOf_54 : decode cX9_plansOf 54 = .ok (.if_icmp .ge 33, 3) := by decide +kernel
theorem dX9_plansOf_87 : decode cX9_plansOf 87 = .ok (.iload 5, 2) := by decide +kernel
theorem dX9_plansOf_89 : decode cX9_plansOf 89 = .ok (.ifCond .eq 12, 3) := by decide +kernel
theorem dX9_plansOf_92 : decode cX9_plansOf 92 = .ok (.iload 7, 2) := by decide +kernel
theorem dX9_plansOf_94 : decode cX9_plansOf 94 = .ok (.ifCond .eq 7, 3) := by decide +kernel
theorem dX9_plansOf_101 : decode cX9_plansOf 101 = .ok (.iconst 0, 1) := by decide +kernel
theorem dX9_plansOf_102 : decode cX9_plansOf 102 = .ok (.istore 5, 2) := by decide +kernel
theorem dX9_plansOf_104 : decode cX9_plansOf 104 = .ok (.iload 4, 2) := by decide +kernel
theorem dX9_plansOf_106 : decode cX9_plansOf 106 = .ok (.iconst 3, 1) := by decide +kernel
theorem dX9_plansOf_107 : decode cX9_plansOf 107 = .ok (.if_icmp .ge 12, 3) := by decide +kernel
theorem dX9_plansOf_110 : decode cX9_plansOf 110 = .ok (.aload_n 0, 1) := by decide +kernel
theorem dX9_plansOf_111 : decode cX9_plansOf 111 = .ok (.getfield 110, 3) := by decide +kernel
theorem dX9_plansOf_114 : decode cX9_plansOf 114 = .ok (.iload 4, 2) := by decide +kernel
theorem dX9_plansOf_116 : decode cX9_plansOf 116 = .ok (.iload 6, 2) := by decide +kernel
theorem dX9_plansOf_118 : decode cX9_plansOf 118 = .ok (.iastore, 1) := by decide +kernel
theorem dX9_plansOf_119 : decode cX9_plansOf 119 = .ok (.iinc 4 1, 3) := by decide +kernel
theorem dX9_plansOf_122 : decode cX9_plansOf 122 = .ok (.iinc 6 1, 3) := by decide +kernel
theorem dX9_plansOf_125 : decode cX9_plansOf 125 = .ok (.goto (-100), 3) := by decide +kernel
theorem dX9_plansOf_128 : decode cX9_plansOf 128 = .ok (.iload 5, 2) := by decide +kernel
theorem dX9_plansOf_130 : decode cX9_plansOf 130 = .ok (.ifCond .eq 15, 3) := by decide +kernel
theorem dX9_plansOf_133 : decode cX9_plansOf 133 = .ok (.iload 4, 2) := by decide +kernel
theorem dX9_plansOf_135 : decode cX9_plansOf 135 = .ok (.iload_n 1, 1) := by decide +kernel
theorem dX9_plansOf_136 : decode cX9_plansOf 136 = .ok (.if_icmp .ne 9, 3) := by decide +kernel
theorem dX9_plansOf_145 : decode cX9_plansOf 145 = .ok (.iinc 3 1, 3) := by decide +kernel
theorem dX9_plansOf_148 : decode cX9_plansOf 148 = .ok (.goto (-139), 3) := by decide +kernel
theorem dX9_plansOf_151 : decode cX9_plansOf 151 = .ok (.aload_n 0, 1) := by decide +kernel
theorem dX9_plansOf_152 : decode cX9_plansOf 152 = .ok (.getfield 439, 3) := by decide +kernel
theorem dX9_plansOf_155 : decode cX9_plansOf 155 = .ok (.ldc2_w 422, 3) := by decide +kernel
theorem dX9_plansOf_158 : decode cX9_plansOf 158 = .ok (.lcmp, 1) := by decide +kernel
theorem dX9_plansOf_159 : decode cX9_plansOf 159 = .ok (.ifCond .eq 7, 3) := by decide +kernel
theorem dX9_plansOf_166 : decode cX9_plansOf 166 = .ok (.iconst 0, 1) := by decide +kernel
theorem dX9_plansOf_167 : decode cX9_plansOf 167 = .ok (.ireturn, 1) := by decide +kernel
theorem dX9_plan_0 : decode cX9_plan 0 = .ok (.iload_n 1, 1) := by decide +kernel
theorem dX9_plan_1 : decode cX9_plan 1 = .ok (.invokestatic 409, 3) := by decide +kernel
theorem dX9_plan_4 : decode cX9_plan 4 = .ok (.ifCond .eq 26, 3) := by decide +kernel
theorem dX9_plan_7 : decode cX9_plan 7 = .ok (.iload_n 2, 1) := by decide +kernel
theorem dX9_plan_8 : decode cX9_plan 8 = .ok (.iconst 1, 1) := by decide +kernel
theorem dX9_plan_9 : decode cX9_plan 9 = .ok (.bipush 100, 2) := by decide +kernel
theorem dX9_plan_11 : decode cX9_plan 11 = .ok (.invokestatic 126, 3) := by decide +kernel
theorem dX9_plan_14 : decode cX9_plan 14 = .ok (.ifCond .eq 16, 3) := by decide +kernel
theorem dX9_plan_17 : decode cX9_plan 17 = .ok (.iload_n 3, 1) := by decide +kernel
theorem dX9_plan_18 : decode cX9_plan 18 = .ok (.iconst (-1), 1) := by decide +kernel
theorem dX9_plan_19 : decode cX9_plan 19 = .ok (.if_icmp .eq 14, 3) := by decide +kernel
theorem dX9_plan_22 : decode cX9_plan 22 = .ok (.aload_n 0, 1) := by decide +kernel
theorem dX9_plan_23 : decode cX9_plan 23 = .ok (.iload_n 3, 1) := by decide +kernel
theorem dX9_plan_24 : decode cX9_plan 24 = .ok (.invokevirtual 134, 3) := by decide +kernel
theorem dX9_plan_27 : decode cX9_plan 27 = .ok (.ifCond .ne 6, 3) := by decide +kernel
theorem dX9_plan_30 : decode cX9_plan 30 = .ok (.bipush (-2), 2) := by decide +kernel
theorem dX9_plan_32 : decode cX9_plan 32 = .ok (.ireturn, 1) := by decide +kernel
theorem dX9_plan_33 : decode cX9_plan 33 = .ok (.aload_n 0, 1) := by decide +kernel
theorem dX9_plan_34 : decode cX9_plan 34 = .ok (.iload_n 1, 1) := by decide +kernel
theorem dX9_plan_35 : decode cX9_plan 35 = .ok (.invokevirtual 449, 3) := by decide +kernel
theorem dX9_plan_38 : decode cX9_plan 38 = .ok (.iconst 1, 1) := by decide +kernel
theorem dX9_plan_39 : decode cX9_plan 39 = .ok (.istore 4, 2) := by decide +kernel
theorem dX9_plan_41 : decode cX9_plan 41 = .ok (.iload 4, 2) := by decide +kernel
theorem dX9_plan_43 : decode cX9_plan 43 = .ok (.iconst 4, 1) := by decide +kernel
theorem dX9_plan_44 : decode cX9_plan 44 = .ok (.if_icmp .ge 96, 3) := by decide +kernel
theorem dX9_plan_47 : decode cX9_plan 47 = .ok (.aload_n 0, 1) := by decide +kernel
theorem dX9_plan_48 : decode cX9_plan 48 = .ok (.iload 4, 2) := by decide +kernel
theorem dX9_plan_50 : decode cX9_plan 50 = .ok (.iload_n 2, 1) := by decide +kernel
theorem dX9_plan_51 : decode cX9_plan 51 = .ok (.invokevirtual 452, 3) := by decide +kernel
theorem dX9_plan_54 : decode cX9_plan 54 = .ok (.ifCond .eq 80, 3) := by decide +kernel
theorem dX9_plan_134 : decode cX9_plan 134 = .ok (.iinc 4 1, 3) := by decide +kernel
theorem dX9_plan_137 : decode cX9_plan 137 = .ok (.goto (-96), 3) := by decide +kernel
theorem dX9_plan_140 : decode cX9_plan 140 = .ok (.bipush (-2), 2) := by decide +kernel
theorem dX9_plan_142 : decode cX9_plan 142 = .ok (.ireturn, 1) := by decide +kernel
theorem dX9_holds_0 : decode cX9_holds 0 = .ok (.aload_n 0, 1) := by decide +kernel
theorem dX9_holds_1 : decode cX9_holds 1 = .ok (.getfield 7, 3) := by decide +kernel
theorem dX9_holds_4 : decode cX9_holds 4 = .ok (.iconst 2, 1) := by decide +kernel
theorem dX9_holds_5 : decode cX9_holds 5 = .ok (.iaload, 1) := by decide +kernel
theorem dX9_holds_6 : decode cX9_holds 6 = .ok (.aload_n 0, 1) := by decide +kernel
theorem dX9_holds_7 : decode cX9_holds 7 = .ok (.iconst 0, 1) := by decide +kernel
theorem dX9_holds_8 : decode cX9_holds 8 = .ok (.invokevirtual 378, 3) := by decide +kernel
theorem dX9_holds_11 : decode cX9_holds 11 = .ok (.iadd, 1) := by decide +kernel
theorem dX9_holds_12 : decode cX9_holds 12 = .ok (.istore_n 1, 1) := by decide +kernel
theorem dX9_holds_13 : decode cX9_holds 13 = .ok (.iload_n 1, 1) := by decide +kernel
theorem dX9_holds_14 : decode cX9_holds 14 = .ok (.ifCond .ne 7, 3) := by decide +kernel
theorem dX9_holds_17 : decode cX9_holds 17 = .ok (.sipush 999, 3) := by decide +kernel
theorem dX9_holds_20 : decode cX9_holds 20 = .ok (.ireturn, 1) := by decide +kernel
theorem dX9_image_0 : decode cX9_image 0 = .ok (.aload_n 0, 1) := by decide +kernel
theorem dX9_image_1 : decode cX9_image 1 = .ok (.iconst 1, 1) := by decide +kernel
theorem dX9_image_2 : decode cX9_image 2 = .ok (.invokevirtual 122, 3) := by decide +kernel
theorem dX9_image_5 : decode cX9_image 5 = .ok (.aload_n 0, 1) := by decide +kernel
theorem dX9_image_6 : decode cX9_image 6 = .ok (.getfield 7, 3) := by decide +kernel
theorem dX9_image_9 : decode cX9_image 9 = .ok (.bipush 121, 2) := by decide +kernel
theorem dX9_image_11 : decode cX9_image 11 = .ok (.iaload, 1) := by decide +kernel
theorem dX9_image_12 : decode cX9_image 12 = .ok (.ireturn, 1) := by decide +kernel
theorem dX9_back_0 : decode cX9_back 0 = .ok (.aload_n 0, 1) := by decide +kernel
theorem dX9_back_1 : decode cX9_back 1 = .ok (.iconst 0, 1) := by decide +kernel
theorem dX9_back_2 : decode cX9_back 2 = .ok (.invokevirtual 122, 3) := by decide +kernel
theorem dX9_back_5 : decode cX9_back 5 = .ok (.aload_n 0, 1) := by decide +kernel
theorem dX9_back_6 : decode cX9_back 6 = .ok (.getfield 7, 3) := by decide +kernel
theorem dX9_back_9 : decode cX9_back 9 = .ok (.bipush 121, 2) := by decide +kernel
theorem dX9_back_11 : decode cX9_back 11 = .ok (.iaload, 1) := by decide +kernel
theorem dX9_back_12 : decode cX9_back 12 = .ok (.ireturn, 1) := by decide +kernel
theorem dX9_about_0 : decode cX9_about 0 = .ok (.iload_n 1, 1) := by decide +kernel
theorem dX9_about_1 : decode cX9_about 1 = .ok (.tableswitch 126 0 9 #[55, 62, 69, 77, 84, 92, 100, 107, 114, 121], 55) := by decide +kernel
theorem dX9_about_56 : decode cX9_about 56 = .ok (.aload_n 0, 1) := by decide +kernel
theorem dX9_about_57 : decode cX9_about 57 = .ok (.getfield 7, 3) := by decide +kernel
theorem dX9_about_60 : decode cX9_about 60 = .ok (.iconst 0, 1) := by decide +kernel
theorem dX9_about_61 : decode cX9_about 61 = .ok (.iaload, 1) := by decide +kernel
theorem dX9_about_62 : decode cX9_about 62 = .ok (.ireturn, 1) := by decide +kernel
theorem dX9_about_63 : decode cX9_about 63 = .ok (.aload_n 0, 1) := by decide +kernel
theorem dX9_about_64 : decode cX9_about 64 = .ok (.getfield 7, 3) := by decide +kernel
theorem dX9_about_67 : decode cX9_about 67 = .ok (.iconst 1, 1) := by decide +kernel
theorem dX9_about_68 : decode cX9_about 68 = .ok (.iaload, 1) := by decide +kernel
theorem dX9_about_69 : decode cX9_about 69 = .ok (.ireturn, 1) := by decide +kernel
theorem dX9_about_70 : decode cX9_about 70 = .ok (.aload_n 0, 1) := by decide +kernel
theorem dX9_about_71 : decode cX9_about 71 = .ok (.getfield 7, 3) := by decide +kernel
theorem dX9_about_74 : decode cX9_about 74 = .ok (.bipush 120, 2) := by decide +kernel
theorem dX9_about_76 : decode cX9_about 76 = .ok (.iaload, 1) := by decide +kernel
theorem dX9_about_77 : decode cX9_about 77 = .ok (.ireturn, 1) := by decide +kernel
theorem dX9_about_78 : decode cX9_about 78 = .ok (.aload_n 0, 1) := by decide +kernel
theorem dX9_about_79 : decode cX9_about 79 = .ok (.getfield 7, 3) := by decide +kernel
theorem dX9_about_82 : decode cX9_about 82 = .ok (.iconst 2, 1) := by decide +kernel
theorem dX9_about_83 : decode cX9_about 83 = .ok (.iaload, 1) := by decide +kernel
theorem dX9_about_84 : decode cX9_about 84 = .ok (.ireturn, 1) := by decide +kernel
theorem dX9_about_85 : decode cX9_about 85 = .ok (.aload_n 0, 1) := by decide +kernel
theorem dX9_about_86 : decode cX9_about 86 = .ok (.getfield 7, 3) := by decide +kernel
theorem dX9_about_89 : decode cX9_about 89 = .ok (.bipush 121, 2) := by decide +kernel
theorem dX9_about_91 : decode cX9_about 91 = .ok (.iaload, 1) := by decide +kernel
theorem dX9_about_92 : decode cX9_about 92 = .ok (.ireturn, 1) := by decide +kernel
theorem dX9_about_93 : decode cX9_about 93 = .ok (.aload_n 0, 1) := by decide +kernel
theorem dX9_about_94 : decode cX9_about 94 = .ok (.getfield 7, 3) := by decide +kernel
theorem dX9_about_97 : decode cX9_about 97 = .ok (.bipush 122, 2) := by decide +kernel
theorem dX9_about_99 : decode cX9_about 99 = .ok (.iaload, 1) := by decide +kernel
theorem dX9_about_100 : decode cX9_about 100 = .ok (.ireturn, 1) := by decide +kernel
theorem dX9_about_101 : decode cX9_about 101 = .ok (.aload_n 0, 1) := by decide +kernel
theorem dX9_about_102 : decode cX9_about 102 = .ok (.getfield 7, 3) := by decide +kernel
theorem dX9_about_105 : decode cX9_about 105 = .ok (.iconst 3, 1) := by decide +kernel
theorem dX9_about_106 : decode cX9_about 106 = .ok (.iaload, 1) := by decide +kernel
theorem dX9_about_107 : decode cX9_about 107 = .ok (.ireturn, 1) := by decide +kernel
theorem dX9_about_108 : decode cX9_about 108 = .ok (.aload_n 0, 1) := by decide +kernel
theorem dX9_about_109 : decode cX9_about 109 = .ok (.getfield 7, 3) := by decide +kernel
theorem dX9_about_112 : decode cX9_about 112 = .ok (.iconst 4, 1) := by decide +kernel
theorem dX9_about_113 : decode cX9_about 113 = .ok (.iaload, 1) := by decide +kernel
theorem dX9_about_114 : decode cX9_about 114 = .ok (.ireturn, 1) := by decide +kernel
theorem dX9_about_115 : decode cX9_about 115 = .ok (.aload_n 0, 1) := by decide +kernel
theorem dX9_about_116 : decode cX9_about 116 = .ok (.getfield 7, 3) := by decide +kernel
theorem dX9_about_119 : decode cX9_about 119 = .ok (.iconst 5, 1) := by decide +kernel
theorem dX9_about_120 : decode cX9_about 120 = .ok (.iaload, 1) := by decide +kernel
theorem dX9_about_121 : decode cX9_about 121 = .ok (.ireturn, 1) := by decide +kernel
theorem dX9_about_122 : decode cX9_about 122 = .ok (.aload_n 0, 1) := by decide +kernel
theorem dX9_about_123 : decode cX9_about 123 = .ok (.getfield 163, 3) := by decide +kernel
theorem dX9_about_126 : decode cX9_about 126 = .ok (.ireturn, 1) := by decide +kernel
theorem dX9_about_127 : decode cX9_about 127 = .ok (.aload_n 0, 1) := by decide +kernel
theorem dX9_about_128 : decode cX9_about 128 = .ok (.iload_n 1, 1) := by decide +kernel
theorem dX9_about_129 : decode cX9_about 129 = .ok (.bipush 10, 2) := by decide +kernel
theorem dX9_about_131 : decode cX9_about 131 = .ok (.isub, 1) := by decide +kernel
theorem dX9_about_132 : decode cX9_about 132 = .ok (.invokevirtual 160, 3) := by decide +kernel
theorem dX9_about_135 : decode cX9_about 135 = .ok (.ifCond .eq 44, 3) := by decide +kernel
theorem dX9_about_179 : decode cX9_about 179 = .ok (.iload_n 1, 1) := by decide +kernel
theorem dX9_about_180 : decode cX9_about 180 = .ok (.bipush 20, 2) := by decide +kernel
theorem dX9_about_182 : decode cX9_about 182 = .ok (.bipush 25, 2) := by decide +kernel
theorem dX9_about_184 : decode cX9_about 184 = .ok (.invokestatic 126, 3) := by decide +kernel
theorem dX9_about_187 : decode cX9_about 187 = .ok (.ifCond .eq 14, 3) := by decide +kernel
theorem dX9_about_190 : decode cX9_about 190 = .ok (.aload_n 0, 1) := by decide +kernel
theorem dX9_about_191 : decode cX9_about 191 = .ok (.iload_n 1, 1) := by decide +kernel
theorem dX9_about_192 : decode cX9_about 192 = .ok (.bipush 20, 2) := by decide +kernel
theorem dX9_about_194 : decode cX9_about 194 = .ok (.isub, 1) := by decide +kernel
theorem dX9_about_195 : decode cX9_about 195 = .ok (.invokevirtual 378, 3) := by decide +kernel
theorem dX9_about_198 : decode cX9_about 198 = .ok (.goto 5, 3) := by decide +kernel
theorem dX9_about_201 : decode cX9_about 201 = .ok (.bipush (-2), 2) := by decide +kernel
theorem dX9_about_203 : decode cX9_about 203 = .ok (.ireturn, 1) := by decide +kernel
