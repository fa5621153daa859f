theorem dX9_clause_1 : decode cX9_clause 1 = .ok (.getfield 223, 3) := by decide +kernel
theorem dX9_clause_4 : decode cX9_clause 4 = .ok (.iconst 1, 1) := by decide +kernel
theorem dX9_clause_5 : decode cX9_clause 5 = .ok (.if_icmp .ne 12, 3) := by decide +kernel
theorem dX9_clause_8 : decode cX9_clause 8 = .ok (.aload_n 0, 1) := by decide +kernel
theorem dX9_clause_9 : decode cX9_clause 9 = .ok (.getfield 235, 3) := by decide +kernel
theorem dX9_clause_12 : decode cX9_clause 12 = .ok (.bipush 7, 2) := by decide +kernel
theorem dX9_clause_14 : decode cX9_clause 14 = .ok (.if_icmp .le 9, 3) := by decide +kernel
theorem dX9_clause_17 : decode cX9_clause 17 = .ok (.aload_n 0, 1) := by decide +kernel
theorem dX9_clause_18 : decode cX9_clause 18 = .ok (.iconst 1, 1) := by decide +kernel
theorem dX9_clause_19 : decode cX9_clause 19 = .ok (.invokevirtual 254, 3) := by decide +kernel
theorem dX9_clause_22 : decode cX9_clause 22 = .ok (.return_, 1) := by decide +kernel
theorem dX9_clause_23 : decode cX9_clause 23 = .ok (.aload_n 0, 1) := by decide +kernel
theorem dX9_clause_24 : decode cX9_clause 24 = .ok (.aload_n 0, 1) := by decide +kernel
theorem dX9_clause_25 : decode cX9_clause 25 = .ok (.getfield 235, 3) := by decide +kernel
theorem dX9_clause_28 : decode cX9_clause 28 = .ok (.putfield 289, 3) := by decide +kernel
theorem dX9_clause_31 : decode cX9_clause 31 = .ok (.aload_n 0, 1) := by decide +kernel
theorem dX9_clause_32 : decode cX9_clause 32 = .ok (.getfield 289, 3) := by decide +kernel
theorem dX9_clause_35 : decode cX9_clause 35 = .ok (.iconst 3, 1) := by decide +kernel
theorem dX9_clause_36 : decode cX9_clause 36 = .ok (.if_icmp .gt 22, 3) := by decide +kernel
theorem dX9_clause_39 : decode cX9_clause 39 = .ok (.aload_n 0, 1) := by decide +kernel
theorem dX9_clause_40 : decode cX9_clause 40 = .ok (.aload_n 0, 1) := by decide +kernel
theorem dX9_clause_41 : decode cX9_clause 41 = .ok (.getfield 289, 3) := by decide +kernel
theorem dX9_clause_44 : decode cX9_clause 44 = .ok (.invokevirtual 314, 3) := by decide +kernel
theorem dX9_clause_47 : decode cX9_clause 47 = .ok (.ifCond .eq 11, 3) := by decide +kernel
theorem dX9_clause_50 : decode cX9_clause 50 = .ok (.aload_n 0, 1) := by decide +kernel
theorem dX9_clause_51 : decode cX9_clause 51 = .ok (.iconst 4, 1) := by decide +kernel
theorem dX9_clause_52 : decode cX9_clause 52 = .ok (.invokevirtual 254, 3) := by decide +kernel
theorem dX9_clause_55 : decode cX9_clause 55 = .ok (.goto 18, 3) := by decide +kernel
theorem dX9_clause_58 : decode cX9_clause 58 = .ok (.aload_n 0, 1) := by decide +kernel
theorem dX9_clause_59 : decode cX9_clause 59 = .ok (.getfield 311, 3) := by decide +kernel
theorem dX9_clause_62 : decode cX9_clause 62 = .ok (.bipush 24, 2) := by decide +kernel
theorem dX9_clause_64 : decode cX9_clause 64 = .ok (.if_icmp .ne 9, 3) := by decide +kernel
theorem dX9_clause_67 : decode cX9_clause 67 = .ok (.aload_n 0, 1) := by decide +kernel
theorem dX9_clause_68 : decode cX9_clause 68 = .ok (.bipush 6, 2) := by decide +kernel
theorem dX9_clause_70 : decode cX9_clause 70 = .ok (.invokevirtual 254, 3) := by decide +kernel
theorem dX9_clause_73 : decode cX9_clause 73 = .ok (.aload_n 0, 1) := by decide +kernel
theorem dX9_clause_74 : decode cX9_clause 74 = .ok (.getfield 239, 3) := by decide +kernel
theorem dX9_clause_77 : decode cX9_clause 77 = .ok (.ifCond .le 4, 3) := by decide +kernel
theorem dX9_clause_80 : decode cX9_clause 80 = .ok (.return_, 1) := by decide +kernel
theorem dX9_clause_81 : decode cX9_clause 81 = .ok (.aload_n 0, 1) := by decide +kernel
theorem dX9_clause_82 : decode cX9_clause 82 = .ok (.getfield 63, 3) := by decide +kernel
theorem dX9_clause_85 : decode cX9_clause 85 = .ok (.aload_n 0, 1) := by decide +kernel
theorem dX9_clause_86 : decode cX9_clause 86 = .ok (.getfield 311, 3) := by decide +kernel
theorem dX9_clause_89 : decode cX9_clause 89 = .ok (.aload_n 0, 1) := by decide +kernel
theorem dX9_clause_90 : decode cX9_clause 90 = .ok (.getfield 289, 3) := by decide +kernel
theorem dX9_clause_93 : decode cX9_clause 93 = .ok (.iastore, 1) := by decide +kernel
theorem dX9_clause_94 : decode cX9_clause 94 = .ok (.aload_n 0, 1) := by decide +kernel
theorem dX9_clause_95 : decode cX9_clause 95 = .ok (.getfield 66, 3) := by decide +kernel
theorem dX9_clause_98 : decode cX9_clause 98 = .ok (.aload_n 0, 1) := by decide +kernel
theorem dX9_clause_99 : decode cX9_clause 99 = .ok (.getfield 311, 3) := by decide +kernel
theorem dX9_clause_102 : decode cX9_clause 102 = .ok (.aload_n 0, 1) := by decide +kernel
theorem dX9_clause_103 : decode cX9_clause 103 = .ok (.getfield 245, 3) := by decide +kernel
theorem dX9_clause_106 : decode cX9_clause 106 = .ok (.iastore, 1) := by decide +kernel
theorem dX9_clause_107 : decode cX9_clause 107 = .ok (.aload_n 0, 1) := by decide +kernel
theorem dX9_clause_108 : decode cX9_clause 108 = .ok (.getfield 69, 3) := by decide +kernel
theorem dX9_clause_111 : decode cX9_clause 111 = .ok (.aload_n 0, 1) := by decide +kernel
theorem dX9_clause_112 : decode cX9_clause 112 = .ok (.getfield 311, 3) := by decide +kernel
theorem dX9_clause_115 : decode cX9_clause 115 = .ok (.iconst (-1), 1) := by decide +kernel
theorem dX9_clause_116 : decode cX9_clause 116 = .ok (.iastore, 1) := by decide +kernel
theorem dX9_clause_117 : decode cX9_clause 117 = .ok (.aload_n 0, 1) := by decide +kernel
theorem dX9_clause_118 : decode cX9_clause 118 = .ok (.getfield 72, 3) := by decide +kernel
theorem dX9_clause_121 : decode cX9_clause 121 = .ok (.aload_n 0, 1) := by decide +kernel
theorem dX9_clause_122 : decode cX9_clause 122 = .ok (.getfield 311, 3) := by decide +kernel
theorem dX9_clause_125 : decode cX9_clause 125 = .ok (.iconst (-1), 1) := by decide +kernel
theorem dX9_clause_126 : decode cX9_clause 126 = .ok (.iastore, 1) := by decide +kernel
theorem dX9_clause_127 : decode cX9_clause 127 = .ok (.aload_n 0, 1) := by decide +kernel
theorem dX9_clause_128 : decode cX9_clause 128 = .ok (.getfield 75, 3) := by decide +kernel
theorem dX9_clause_131 : decode cX9_clause 131 = .ok (.aload_n 0, 1) := by decide +kernel
theorem dX9_clause_132 : decode cX9_clause 132 = .ok (.getfield 311, 3) := by decide +kernel
theorem dX9_clause_135 : decode cX9_clause 135 = .ok (.iconst (-1), 1) := by decide +kernel
theorem dX9_clause_136 : decode cX9_clause 136 = .ok (.iastore, 1) := by decide +kernel
theorem dX9_clause_137 : decode cX9_clause 137 = .ok (.aload_n 0, 1) := by decide +kernel
theorem dX9_clause_138 : decode cX9_clause 138 = .ok (.invokevirtual 260, 3) := by decide +kernel
theorem dX9_clause_141 : decode cX9_clause 141 = .ok (.aload_n 0, 1) := by decide +kernel
theorem dX9_clause_142 : decode cX9_clause 142 = .ok (.getfield 289, 3) := by decide +kernel
theorem dX9_clause_145 : decode cX9_clause 145 = .ok (.iconst 3, 1) := by decide +kernel
theorem dX9_clause_146 : decode cX9_clause 146 = .ok (.if_icmp .gt 38, 3) := by decide +kernel
theorem dX9_clause_149 : decode cX9_clause 149 = .ok (.aload_n 0, 1) := by decide +kernel
theorem dX9_clause_150 : decode cX9_clause 150 = .ok (.aload_n 0, 1) := by decide +kernel
theorem dX9_clause_151 : decode cX9_clause 151 = .ok (.getfield 289, 3) := by decide +kernel
theorem dX9_clause_154 : decode cX9_clause 154 = .ok (.iconst 3, 1) := by decide +kernel
theorem dX9_clause_155 : decode cX9_clause 155 = .ok (.if_icmp .ne 7, 3) := by decide +kernel
theorem dX9_clause_158 : decode cX9_clause 158 = .ok (.iconst 2, 1) := by decide +kernel
theorem dX9_clause_159 : decode cX9_clause 159 = .ok (.goto 4, 3) := by decide +kernel
theorem dX9_clause_162 : decode cX9_clause 162 = .ok (.iconst 1, 1) := by decide +kernel
theorem dX9_clause_163 : decode cX9_clause 163 = .ok (.invokevirtual 257, 3) := by decide +kernel
theorem dX9_clause_166 : decode cX9_clause 166 = .ok (.aload_n 0, 1) := by decide +kernel
theorem dX9_clause_167 : decode cX9_clause 167 = .ok (.aload_n 0, 1) := by decide +kernel
theorem dX9_clause_168 : decode cX9_clause 168 = .ok (.getfield 289, 3) := by decide +kernel
theorem dX9_clause_171 : decode cX9_clause 171 = .ok (.iconst 3, 1) := by decide +kernel
theorem dX9_clause_172 : decode cX9_clause 172 = .ok (.if_icmp .ne 7, 3) := by decide +kernel
theorem dX9_clause_175 : decode cX9_clause 175 = .ok (.iconst 0, 1) := by decide +kernel
theorem dX9_clause_176 : decode cX9_clause 176 = .ok (.goto 4, 3) := by decide +kernel
theorem dX9_clause_179 : decode cX9_clause 179 = .ok (.iconst 1, 1) := by decide +kernel
theorem dX9_clause_180 : decode cX9_clause 180 = .ok (.putfield 283, 3) := by decide +kernel
theorem dX9_clause_183 : decode cX9_clause 183 = .ok (.return_, 1) := by decide +kernel
theorem dX9_clause_184 : decode cX9_clause 184 = .ok (.aload_n 0, 1) := by decide +kernel
theorem dX9_clause_185 : decode cX9_clause 185 = .ok (.getfield 69, 3) := by decide +kernel
theorem dX9_clause_188 : decode cX9_clause 188 = .ok (.aload_n 0, 1) := by decide +kernel
theorem dX9_clause_189 : decode cX9_clause 189 = .ok (.getfield 311, 3) := by decide +kernel
theorem dX9_clause_192 : decode cX9_clause 192 = .ok (.aload_n 0, 1) := by decide +kernel
theorem dX9_clause_193 : decode cX9_clause 193 = .ok (.getfield 289, 3) := by decide +kernel
theorem dX9_clause_196 : decode cX9_clause 196 = .ok (.bipush 7, 2) := by decide +kernel
theorem dX9_clause_198 : decode cX9_clause 198 = .ok (.if_icmp .ne 13, 3) := by decide +kernel
theorem dX9_clause_201 : decode cX9_clause 201 = .ok (.aload_n 0, 1) := by decide +kernel
theorem dX9_clause_202 : decode cX9_clause 202 = .ok (.iconst 1, 1) := by decide +kernel
theorem dX9_clause_203 : decode cX9_clause 203 = .ok (.bipush 99, 2) := by decide +kernel
theorem dX9_clause_205 : decode cX9_clause 205 = .ok (.invokevirtual 317, 3) := by decide +kernel
theorem dX9_clause_208 : decode cX9_clause 208 = .ok (.goto 10, 3) := by decide +kernel
theorem dX9_clause_211 : decode cX9_clause 211 = .ok (.aload_n 0, 1) := by decide +kernel
theorem dX9_clause_212 : decode cX9_clause 212 = .ok (.iconst 0, 1) := by decide +kernel
theorem dX9_clause_213 : decode cX9_clause 213 = .ok (.bipush 9, 2) := by decide +kernel
theorem dX9_clause_215 : decode cX9_clause 215 = .ok (.invokevirtual 317, 3) := by decide +kernel
theorem dX9_clause_218 : decode cX9_clause 218 = .ok (.iastore, 1) := by decide +kernel
theorem dX9_clause_219 : decode cX9_clause 219 = .ok (.aload_n 0, 1) := by decide +kernel
theorem dX9_clause_220 : decode cX9_clause 220 = .ok (.getfield 289, 3) := by decide +kernel
theorem dX9_clause_223 : decode cX9_clause 223 = .ok (.iconst 4, 1) := by decide +kernel
theorem dX9_clause_224 : decode cX9_clause 224 = .ok (.if_icmp .ne 48, 3) := by decide +kernel
theorem dX9_clause_227 : decode cX9_clause 227 = .ok (.aload_n 0, 1) := by decide +kernel
theorem dX9_clause_228 : decode cX9_clause 228 = .ok (.bipush 8, 2) := by decide +kernel
theorem dX9_clause_230 : decode cX9_clause 230 = .ok (.invokevirtual 320, 3) := by decide +kernel
theorem dX9_clause_233 : decode cX9_clause 233 = .ok (.aload_n 0, 1) := by decide +kernel
theorem dX9_clause_234 : decode cX9_clause 234 = .ok (.getfield 72, 3) := by decide +kernel
theorem dX9_clause_237 : decode cX9_clause 237 = .ok (.aload_n 0, 1) := by decide +kernel
theorem dX9_clause_238 : decode cX9_clause 238 = .ok (.getfield 311, 3) := by decide +kernel
theorem dX9_clause_241 : decode cX9_clause 241 = .ok (.aload_n 0, 1) := by decide +kernel
theorem dX9_clause_242 : decode cX9_clause 242 = .ok (.iconst 0, 1) := by decide +kernel
theorem dX9_clause_243 : decode cX9_clause 243 = .ok (.iconst 5, 1) := by decide +kernel
theorem dX9_clause_244 : decode cX9_clause 244 = .ok (.invokevirtual 317, 3) := by decide +kernel
theorem dX9_clause_247 : decode cX9_clause 247 = .ok (.iastore, 1) := by decide +kernel
theorem dX9_clause_248 : decode cX9_clause 248 = .ok (.aload_n 0, 1) := by decide +kernel
theorem dX9_clause_249 : decode cX9_clause 249 = .ok (.bipush 17, 2) := by decide +kernel
theorem dX9_clause_251 : decode cX9_clause 251 = .ok (.invokevirtual 320, 3) := by decide +kernel
theorem dX9_clause_254 : decode cX9_clause 254 = .ok (.aload_n 0, 1) := by decide +kernel
theorem dX9_clause_255 : decode cX9_clause 255 = .ok (.getfield 75, 3) := by decide +kernel
theorem dX9_clause_258 : decode cX9_clause 258 = .ok (.aload_n 0, 1) := by decide +kernel
theorem dX9_clause_259 : decode cX9_clause 259 = .ok (.getfield 311, 3) := by decide +kernel
theorem dX9_clause_262 : decode cX9_clause 262 = .ok (.aload_n 0, 1) := by decide +kernel
theorem dX9_clause_263 : decode cX9_clause 263 = .ok (.iconst 0, 1) := by decide +kernel
theorem dX9_clause_264 : decode cX9_clause 264 = .ok (.iconst 2, 1) := by decide +kernel
theorem dX9_clause_265 : decode cX9_clause 265 = .ok (.invokevirtual 317, 3) := by decide +kernel
theorem dX9_clause_268 : decode cX9_clause 268 = .ok (.iastore, 1) := by decide +kernel
theorem dX9_clause_269 : decode cX9_clause 269 = .ok (.goto 32, 3) := by decide +kernel
theorem dX9_clause_272 : decode cX9_clause 272 = .ok (.aload_n 0, 1) := by decide +kernel
theorem dX9_clause_273 : decode cX9_clause 273 = .ok (.getfield 289, 3) := by decide +kernel
theorem dX9_clause_276 : decode cX9_clause 276 = .ok (.iconst 5, 1) := by decide +kernel
theorem dX9_clause_277 : decode cX9_clause 277 = .ok (.if_icmp .ne 24, 3) := by decide +kernel
theorem dX9_clause_280 : decode cX9_clause 280 = .ok (.aload_n 0, 1) := by decide +kernel
theorem dX9_clause_281 : decode cX9_clause 281 = .ok (.bipush 9, 2) := by decide +kernel
theorem dX9_clause_283 : decode cX9_clause 283 = .ok (.invokevirtual 320, 3) := by decide +kernel
theorem dX9_clause_286 : decode cX9_clause 286 = .ok (.aload_n 0, 1) := by decide +kernel
theorem dX9_clause_287 : decode cX9_clause 287 = .ok (.getfield 72, 3) := by decide +kernel
theorem dX9_clause_290 : decode cX9_clause 290 = .ok (.aload_n 0, 1) := by decide +kernel
theorem dX9_clause_291 : decode cX9_clause 291 = .ok (.getfield 311, 3) := by decide +kernel
theorem dX9_clause_294 : decode cX9_clause 294 = .ok (.aload_n 0, 1) := by decide +kernel
theorem dX9_clause_295 : decode cX9_clause 295 = .ok (.iconst 0, 1) := by decide +kernel
theorem dX9_clause_296 : decode cX9_clause 296 = .ok (.iconst 3, 1) := by decide +kernel
theorem dX9_clause_297 : decode cX9_clause 297 = .ok (.invokevirtual 317, 3) := by decide +kernel
theorem dX9_clause_300 : decode cX9_clause 300 = .ok (.iastore, 1) := by decide +kernel
theorem dX9_clause_301 : decode cX9_clause 301 = .ok (.aload_n 0, 1) := by decide +kernel
theorem dX9_clause_302 : decode cX9_clause 302 = .ok (.getfield 239, 3) := by decide +kernel
theorem dX9_clause_305 : decode cX9_clause 305 = .ok (.ifCond .ne 17, 3) := by decide +kernel
theorem dX9_clause_308 : decode cX9_clause 308 = .ok (.aload_n 0, 1) := by decide +kernel
theorem dX9_clause_309 : decode cX9_clause 309 = .ok (.bipush 59, 2) := by decide +kernel
theorem dX9_clause_311 : decode cX9_clause 311 = .ok (.invokevirtual 292, 3) := by decide +kernel
theorem dX9_clause_314 : decode cX9_clause 314 = .ok (.ifCond .ne 8, 3) := by decide +kernel
theorem dX9_clause_317 : decode cX9_clause 317 = .ok (.aload_n 0, 1) := by decide +kernel
theorem dX9_clause_318 : decode cX9_clause 318 = .ok (.iconst 1, 1) := by decide +kernel
theorem dX9_clause_319 : decode cX9_clause 319 = .ok (.invokevirtual 254, 3) := by decide +kernel
theorem dX9_clause_322 : decode cX9_clause 322 = .ok (.aload_n 0, 1) := by decide +kernel
theorem dX9_clause_323 : decode cX9_clause 323 = .ok (.getfield 239, 3) := by decide +kernel
theorem dX9_clause_326 : decode cX9_clause 326 = .ok (.ifCond .ne 7, 3) := by decide +kernel
theorem dX9_clause_329 : decode cX9_clause 329 = .ok (.aload_n 0, 1) := by decide +kernel
theorem dX9_clause_330 : decode cX9_clause 330 = .ok (.invokevirtual 308, 3) := by decide +kernel
theorem dX9_clause_333 : decode cX9_clause 333 = .ok (.return_, 1) := by decide +kernel
set_option maxRecDepth 20000 in
theorem ggX9_text_X9_next : GoodIn wsX9_text wsX9_next := goodIn_r _ [35, 4, 3, 36, 37, 13, 38, 39, 40, 41, 42, 34, 43, 44, 45, 46, 47, 48, 49, 50, 51, 52, 53, 54, 55, 56, 57, 58, 59, 60, 61, 62, 63, 64, 65, 66, 67, 68, 69, 70, 71, 163, 164, 165, 166, 167, 168, 169, 170, 171, 172, 173, 174, 175, 176, 177, 178, 179, 180, 181, 182, 183, 184, 185, 186, 187, 188, 189, 190, 191, 192, 193, 194, 195, 196, 197, 198, 199, 200, 201, 202, 203, 204, 205, 206, 207, 208, 209, 210, 211, 212, 213, 214, 215] (by decide +kernel) (by decide +kernel)
set_option maxRecDepth 20000 in
theorem gX9_text_X9_next : GoodIn wsX9_text (wsV RX9 260 RX9 yX9_next wsX9_next) := goodIn_app (goodIn_of _ (by decide +kernel)) ggX9_text_X9_next
set_option maxRecDepth 20000 in
theorem ggX9_text_X9_asks : GoodIn wsX9_text wsX9_asks := goodIn_r _ [75, 10, 76, 77, 78, 34, 79, 13, 39, 80, 81, 82, 83, 7, 84, 85, 86, 87, 5, 37, 6, 88, 89, 90, 91, 92, 8, 31, 32, 33, 35, 4, 3, 36, 38, 40, 41, 42, 43, 44, 45, 46, 47, 48, 49, 50, 51, 52, 53, 54, 55, 56, 57, 58, 59, 60, 61, 62, 63, 64, 65, 66, 67, 68, 69, 70, 71, 163, 164, 165, 166, 167, 168, 169, 170, 171, 172, 173, 174, 175, 176, 177, 178, 179, 180, 181, 182, 183, 184, 185, 186, 187, 188, 189, 190, 191, 192, 193, 194, 195, 196, 197, 198, 199, 200, 201, 202, 203, 204, 205, 206, 207, 208, 209, 210, 211, 212, 213, 214, 215] (by decide +kernel) (by decide +kernel)
set_option maxRecDepth 20000 in
theorem gX9_text_X9_asks : GoodIn wsX9_text (wsV RX9 323 RX9 yX9_asks wsX9_asks) := goodIn_app (goodIn_of _ (by decide +kernel)) ggX9_text_X9_asks
set_option maxRecDepth 20000 in
theorem ggX9_text_X9_begins : GoodIn wsX9_text wsX9_begins := goodIn_r _ [96, 13, 39, 97, 84, 85, 86, 34, 87, 5, 37, 6, 98, 99, 100, 101, 28, 12, 30, 31, 32, 33, 35, 4, 3, 36, 38, 40, 41, 42, 43, 44, 45, 46, 47, 48, 49, 50, 51, 52, 53, 54, 55, 56, 57, 58, 59, 60, 61, 62, 63, 64, 65, 66, 67, 68, 69, 70, 71, 102, 103, 104, 105, 8, 7, 10, 106, 107, 108, 109, 92, 110, 111, 112, 113, 80, 81, 82, 83, 88, 89, 90, 91, 163, 164, 165, 166, 167, 168, 169, 170, 171, 172, 173, 174, 175, 176, 177, 178, 179, 180, 181, 182, 183, 184, 185, 186, 187, 188, 189, 190, 191, 192, 193, 194, 195, 196, 197, 198, 199, 200, 201, 202, 203, 204, 205, 206, 207, 208, 209, 210, 211, 212, 213, 214, 215] (by decide +kernel) (by decide +kernel)
set_option maxRecDepth 20000 in
theorem gX9_text_X9_begins : GoodIn wsX9_text (wsV RX9 326 RX9 yX9_begins wsX9_begins) := goodIn_app (goodIn_of _ (by decide +kernel)) ggX9_text_X9_begins
set_option maxRecDepth 20000 in
theorem ggX9_text_X9_goesOn : GoodIn wsX9_text wsX9_goesOn := goodIn_r _ [117, 13, 39, 10, 8, 7, 118, 92, 106, 107, 108, 34, 109, 119, 120, 121, 122, 123, 9, 124, 125, 126, 127, 128, 129, 130, 131, 98, 99, 100, 101, 28, 12, 30, 31, 32, 33, 35, 4, 3, 36, 37, 38, 40, 41, 42, 43, 44, 45, 46, 47, 48, 49, 50, 51, 52, 53, 54, 55, 56, 57, 58, 59, 60, 61, 62, 63, 64, 65, 66, 67, 68, 69, 70, 71, 110, 111, 112, 113, 102, 103, 104, 105, 132, 133, 134, 135, 136, 137, 138, 139, 140, 141, 142, 11, 84, 85, 86, 87, 5, 6, 163, 164, 165, 166, 167, 168, 169, 170, 171, 172, 173, 174, 175, 176, 177, 178, 179, 180, 181, 182, 183, 184, 185, 186, 187, 188, 189, 190, 191, 192, 193, 194, 195, 196, 197, 198, 199, 200, 201, 202, 203, 204, 205, 206, 207, 208, 209, 210, 211, 212, 213, 214, 215] (by decide +kernel) (by decide +kernel)
set_option maxRecDepth 20000 in
theorem gX9_text_X9_goesOn : GoodIn wsX9_text (wsV RX9 329 RX9 yX9_goesOn wsX9_goesOn) := goodIn_app (goodIn_of _ (by decide +kernel)) ggX9_text_X9_goesOn
set_option maxRecDepth 20000 in
theorem ggX9_text_X9_asksOn : GoodIn wsX9_text wsX9_asksOn := goodIn_r _ [146, 10, 76, 77, 78, 34, 79, 13, 39, 119, 120, 121, 122, 123, 9, 124, 8, 125, 126, 127, 128, 129, 130, 131, 98, 99, 100, 101, 28, 12, 30, 31, 32, 33, 35, 4, 3, 36, 37, 38, 40, 41, 42, 43, 44, 45, 46, 47, 48, 49, 50, 51, 52, 53, 54, 55, 56, 57, 58, 59, 60, 61, 62, 63, 64, 65, 66, 67, 68, 69, 70, 71, 106, 107, 108, 109, 92, 110, 111, 112, 113, 139, 140, 141, 142, 11, 84, 85, 86, 87, 5, 6, 163, 164, 165, 166, 167, 168, 169, 170, 171, 172, 173, 174, 175, 176, 177, 178, 179, 180, 181, 182, 183, 184, 185, 186, 187, 188, 189, 190, 191, 192, 193, 194, 195, 196, 197, 198, 199, 200, 201, 202, 203, 204, 205, 206, 207, 208, 209, 210, 211, 212, 213, 214, 215] (by decide +kernel) (by decide +kernel)
set_option maxRecDepth 20000 in
theorem gX9_text_X9_asksOn : GoodIn wsX9_text (wsV RX9 332 RX9 yX9_asksOn wsX9_asksOn) := goodIn_app (goodIn_of _ (by decide +kernel)) ggX9_text_X9_asksOn
set_option maxRecDepth 20000 in
theorem ggX9_text_X9_clause : GoodIn wsX9_text wsX9_clause := goodIn_r _ [150, 13, 39, 97, 11, 5, 18, 20, 12, 22, 24, 26, 10, 84, 85, 86, 34, 87, 37, 6, 151, 152, 153, 154, 31, 32, 33, 35, 4, 3, 36, 38, 40, 41, 42, 43, 44, 45, 46, 47, 48, 49, 50, 51, 52, 53, 54, 55, 56, 57, 58, 59, 60, 61, 62, 63, 64, 65, 66, 67, 68, 69, 70, 71, 88, 89, 90, 91, 92, 8, 155, 156, 157, 158, 159, 160, 161, 162, 76, 77, 78, 79, 110, 111, 112, 113, 139, 140, 141, 142, 128, 129, 130, 131, 9, 124, 123, 125, 126, 127, 98, 99, 100, 101, 28, 30, 163, 164, 165, 166, 167, 168, 169, 170, 171, 172, 173, 174, 175, 176, 177, 178, 179, 180, 181, 182, 183, 184, 185, 186, 187, 188, 189, 190, 191, 192, 193, 194, 195, 196, 197, 198, 199, 200, 201, 202, 203, 204, 205, 206, 207, 208, 209, 210, 211, 212, 213, 214, 215] (by decide +kernel) (by decide +kernel)
set_option maxRecDepth 20000 in
theorem gX9_text_X9_clause : GoodIn wsX9_text (wsV RX9 335 RX9 yX9_clause wsX9_clause) := goodIn_app (goodIn_of _ (by decide +kernel)) ggX9_text_X9_clause
theorem dX9_text_0 : decode cX9_text 0 = .ok (.aload_n 0, 1) := by decide +kernel
theorem dX9_text_1 : decode cX9_text 1 = .ok (.getfield 7, 3) := by decide +kernel
theorem dX9_text_4 : decode cX9_text 4 = .ok (.iconst 3, 1) := by decide +kernel
theorem dX9_text_5 : decode cX9_text 5 = .ok (.iaload, 1) := by decide +kernel
theorem dX9_text_6 : decode cX9_text 6 = .ok (.iconst 4, 1) := by decide +kernel
theorem dX9_text_7 : decode cX9_text 7 = .ok (.if_icmp .ne 5, 3) := by decide +kernel
theorem dX9_text_10 : decode cX9_text 10 = .ok (.iconst (-1), 1) := by decide +kernel
theorem dX9_text_11 : decode cX9_text 11 = .ok (.ireturn, 1) := by decide +kernel
theorem dX9_text_12 : decode cX9_text 12 = .ok (.aload_n 0, 1) := by decide +kernel
theorem dX9_text_13 : decode cX9_text 13 = .ok (.aload_n 0, 1) := by decide +kernel
theorem dX9_text_14 : decode cX9_text 14 = .ok (.getfield 163, 3) := by decide +kernel
theorem dX9_text_17 : decode cX9_text 17 = .ok (.putfield 217, 3) := by decide +kernel
theorem dX9_text_20 : decode cX9_text 20 = .ok (.aload_n 0, 1) := by decide +kernel
theorem dX9_text_21 : decode cX9_text 21 = .ok (.iconst 0, 1) := by decide +kernel
theorem dX9_text_22 : decode cX9_text 22 = .ok (.putfield 163, 3) := by decide +kernel
theorem dX9_text_25 : decode cX9_text 25 = .ok (.aload_n 0, 1) := by decide +kernel
theorem dX9_text_26 : decode cX9_text 26 = .ok (.iconst 0, 1) := by decide +kernel
theorem dX9_text_27 : decode cX9_text 27 = .ok (.putfield 214, 3) := by decide +kernel
theorem dX9_text_30 : decode cX9_text 30 = .ok (.aload_n 0, 1) := by decide +kernel
theorem dX9_text_31 : decode cX9_text 31 = .ok (.iconst 0, 1) := by decide +kernel
theorem dX9_text_32 : decode cX9_text 32 = .ok (.putfield 239, 3) := by decide +kernel
theorem dX9_text_35 : decode cX9_text 35 = .ok (.aload_n 0, 1) := by decide +kernel
theorem dX9_text_36 : decode cX9_text 36 = .ok (.iconst (-1), 1) := by decide +kernel
theorem dX9_text_37 : decode cX9_text 37 = .ok (.putfield 242, 3) := by decide +kernel
theorem dX9_text_40 : decode cX9_text 40 = .ok (.aload_n 0, 1) := by decide +kernel
theorem dX9_text_41 : decode cX9_text 41 = .ok (.iconst 0, 1) := by decide +kernel
theorem dX9_text_42 : decode cX9_text 42 = .ok (.putfield 251, 3) := by decide +kernel
theorem dX9_text_45 : decode cX9_text 45 = .ok (.aload_n 0, 1) := by decide +kernel
theorem dX9_text_46 : decode cX9_text 46 = .ok (.iconst 0, 1) := by decide +kernel
theorem dX9_text_47 : decode cX9_text 47 = .ok (.putfield 248, 3) := by decide +kernel
theorem dX9_text_50 : decode cX9_text 50 = .ok (.aload_n 0, 1) := by decide +kernel
theorem dX9_text_51 : decode cX9_text 51 = .ok (.iconst 0, 1) := by decide +kernel
theorem dX9_text_52 : decode cX9_text 52 = .ok (.putfield 263, 3) := by decide +kernel
theorem dX9_text_55 : decode cX9_text 55 = .ok (.aload_n 0, 1) := by decide +kernel
theorem dX9_text_56 : decode cX9_text 56 = .ok (.iconst 4, 1) := by decide +kernel
theorem dX9_text_57 : decode cX9_text 57 = .ok (.putfield 283, 3) := by decide +kernel
theorem dX9_text_60 : decode cX9_text 60 = .ok (.aload_n 0, 1) := by decide +kernel
theorem dX9_text_61 : decode cX9_text 61 = .ok (.iconst 0, 1) := by decide +kernel
theorem dX9_text_62 : decode cX9_text 62 = .ok (.putfield 311, 3) := by decide +kernel
theorem dX9_text_65 : decode cX9_text 65 = .ok (.aload_n 0, 1) := by decide +kernel
theorem dX9_text_66 : decode cX9_text 66 = .ok (.iconst 0, 1) := by decide +kernel
theorem dX9_text_67 : decode cX9_text 67 = .ok (.putfield 245, 3) := by decide +kernel
theorem dX9_text_70 : decode cX9_text 70 = .ok (.aload_n 0, 1) := by decide +kernel
theorem dX9_text_71 : decode cX9_text 71 = .ok (.invokevirtual 260, 3) := by decide +kernel
theorem dX9_text_74 : decode cX9_text 74 = .ok (.aload_n 0, 1) := by decide +kernel
theorem dX9_text_75 : decode cX9_text 75 = .ok (.getfield 239, 3) := by decide +kernel
theorem dX9_text_78 : decode cX9_text 78 = .ok (.ifCond .ne 89, 3) := by decide +kernel
theorem dX9_text_81 : decode cX9_text 81 = .ok (.aload_n 0, 1) := by decide +kernel
theorem dX9_text_82 : decode cX9_text 82 = .ok (.getfield 283, 3) := by decide +kernel
theorem dX9_text_85 : decode cX9_text 85 = .ok (.iconst 4, 1) := by decide +kernel
theorem dX9_text_86 : decode cX9_text 86 = .ok (.if_icmp .ne 10, 3) := by decide +kernel
theorem dX9_text_89 : decode cX9_text 89 = .ok (.aload_n 0, 1) := by decide +kernel
theorem dX9_text_90 : decode cX9_text 90 = .ok (.getfield 223, 3) := by decide +kernel
theorem dX9_text_93 : decode cX9_text 93 = .ok (.ifCond .eq 74, 3) := by decide +kernel
theorem dX9_text_96 : decode cX9_text 96 = .ok (.aload_n 0, 1) := by decide +kernel
theorem dX9_text_97 : decode cX9_text 97 = .ok (.getfield 283, 3) := by decide +kernel
theorem dX9_text_100 : decode cX9_text 100 = .ok (.tableswitch 60 0 3 #[32, 39, 46, 53], 32) := by decide +kernel
theorem dX9_text_132 : decode cX9_text 132 = .ok (.aload_n 0, 1) := by decide +kernel
theorem dX9_text_133 : decode cX9_text 133 = .ok (.invokevirtual 323, 3) := by decide +kernel
theorem dX9_text_136 : decode cX9_text 136 = .ok (.goto (-62), 3) := by decide +kernel
theorem dX9_text_139 : decode cX9_text 139 = .ok (.aload_n 0, 1) := by decide +kernel
theorem dX9_text_140 : decode cX9_text 140 = .ok (.invokevirtual 326, 3) := by decide +kernel
theorem dX9_text_143 : decode cX9_text 143 = .ok (.goto (-69), 3) := by decide +kernel
theorem dX9_text_146 : decode cX9_text 146 = .ok (.aload_n 0, 1) := by decide +kernel
theorem dX9_text_147 : decode cX9_text 147 = .ok (.invokevirtual 329, 3) := by decide +kernel
theorem dX9_text_150 : decode cX9_text 150 = .ok (.goto (-76), 3) := by decide +kernel
theorem dX9_text_153 : decode cX9_text 153 = .ok (.aload_n 0, 1) := by decide +kernel
theorem dX9_text_154 : decode cX9_text 154 = .ok (.invokevirtual 332, 3) := by decide +kernel
theorem dX9_text_157 : decode cX9_text 157 = .ok (.goto (-83), 3) := by decide +kernel
theorem dX9_text_160 : decode cX9_text 160 = .ok (.aload_n 0, 1) := by decide +kernel
theorem dX9_text_161 : decode cX9_text 161 = .ok (.invokevirtual 335, 3) := by decide +kernel
theorem dX9_text_164 : decode cX9_text 164 = .ok (.goto (-90), 3) := by decide +kernel
theorem dX9_text_167 : decode cX9_text 167 = .ok (.aload_n 0, 1) := by decide +kernel
theorem dX9_text_168 : decode cX9_text 168 = .ok (.aload_n 0, 1) := by decide +kernel
theorem dX9_text_169 : decode cX9_text 169 = .ok (.getfield 239, 3) := by decide +kernel
theorem dX9_text_172 : decode cX9_text 172 = .ok (.putfield 20, 3) := by decide +kernel
theorem dX9_text_175 : decode cX9_text 175 = .ok (.aload_n 0, 1) := by decide +kernel
theorem dX9_text_176 : decode cX9_text 176 = .ok (.aload_n 0, 1) := by decide +kernel
theorem dX9_text_177 : decode cX9_text 177 = .ok (.getfield 242, 3) := by decide +kernel
theorem dX9_text_180 : decode cX9_text 180 = .ok (.putfield 24, 3) := by decide +kernel
theorem dX9_text_183 : decode cX9_text 183 = .ok (.aload_n 0, 1) := by decide +kernel
theorem dX9_text_184 : decode cX9_text 184 = .ok (.getfield 239, 3) := by decide +kernel
theorem dX9_text_187 : decode cX9_text 187 = .ok (.ifCond .le 5, 3) := by decide +kernel
theorem dX9_text_190 : decode cX9_text 190 = .ok (.iconst (-1), 1) := by decide +kernel
theorem dX9_text_191 : decode cX9_text 191 = .ok (.ireturn, 1) := by decide +kernel
theorem dX9_text_192 : decode cX9_text 192 = .ok (.aload_n 0, 1) := by decide +kernel
theorem dX9_text_193 : decode cX9_text 193 = .ok (.getfield 7, 3) := by decide +kernel
theorem dX9_text_196 : decode cX9_text 196 = .ok (.iconst 3, 1) := by decide +kernel
theorem dX9_text_197 : decode cX9_text 197 = .ok (.iaload, 1) := by decide +kernel
theorem dX9_text_198 : decode cX9_text 198 = .ok (.istore_n 1, 1) := by decide +kernel
theorem dX9_text_199 : decode cX9_text 199 = .ok (.aload_n 0, 1) := by decide +kernel
theorem dX9_text_200 : decode cX9_text 200 = .ok (.getfield 27, 3) := by decide +kernel
theorem dX9_text_203 : decode cX9_text 203 = .ok (.iload_n 1, 1) := by decide +kernel
theorem dX9_text_204 : decode cX9_text 204 = .ok (.aload_n 0, 1) := by decide +kernel
theorem dX9_text_205 : decode cX9_text 205 = .ok (.getfield 311, 3) := by decide +kernel
theorem dX9_text_208 : decode cX9_text 208 = .ok (.iastore, 1) := by decide +kernel
theorem dX9_text_209 : decode cX9_text 209 = .ok (.iconst 0, 1) := by decide +kernel
theorem dX9_text_210 : decode cX9_text 210 = .ok (.istore_n 2, 1) := by decide +kernel
theorem dX9_text_211 : decode cX9_text 211 = .ok (.iload_n 2, 1) := by decide +kernel
theorem dX9_text_212 : decode cX9_text 212 = .ok (.aload_n 0, 1) := by decide +kernel
theorem dX9_text_213 : decode cX9_text 213 = .ok (.getfield 311, 3) := by decide +kernel
theorem dX9_text_216 : decode cX9_text 216 = .ok (.if_icmp .ge 100, 3) := by decide +kernel
theorem dX9_text_219 : decode cX9_text 219 = .ok (.aload_n 0, 1) := by decide +kernel
theorem dX9_text_220 : decode cX9_text 220 = .ok (.getfield 30, 3) := by decide +kernel
theorem dX9_text_223 : decode cX9_text 223 = .ok (.bipush 24, 2) := by decide +kernel
theorem dX9_text_225 : decode cX9_text 225 = .ok (.iload_n 1, 1) := by decide +kernel
theorem dX9_text_226 : decode cX9_text 226 = .ok (.imul, 1) := by decide +kernel
theorem dX9_text_227 : decode cX9_text 227 = .ok (.iload_n 2, 1) := by decide +kernel
theorem dX9_text_228 : decode cX9_text 228 = .ok (.iadd, 1) := by decide +kernel
theorem dX9_text_229 : decode cX9_text 229 = .ok (.aload_n 0, 1) := by decide +kernel
theorem dX9_text_230 : decode cX9_text 230 = .ok (.getfield 63, 3) := by decide +kernel
theorem dX9_text_233 : decode cX9_text 233 = .ok (.iload_n 2, 1) := by decide +kernel
theorem dX9_text_234 : decode cX9_text 234 = .ok (.iaload, 1) := by decide +kernel
theorem dX9_text_235 : decode cX9_text 235 = .ok (.iastore, 1) := by decide +kernel
theorem dX9_text_236 : decode cX9_text 236 = .ok (.aload_n 0, 1) := by decide +kernel
theorem dX9_text_237 : decode cX9_text 237 = .ok (.getfield 33, 3) := by decide +kernel
theorem dX9_text_240 : decode cX9_text 240 = .ok (.bipush 24, 2) := by decide +kernel
theorem dX9_text_242 : decode cX9_text 242 = .ok (.iload_n 1, 1) := by decide +kernel
theorem dX9_text_243 : decode cX9_text 243 = .ok (.imul, 1) := by decide +kernel
theorem dX9_text_244 : decode cX9_text 244 = .ok (.iload_n 2, 1) := by decide +kernel
theorem dX9_text_245 : decode cX9_text 245 = .ok (.iadd, 1) := by decide +kernel
theorem dX9_text_246 : decode cX9_text 246 = .ok (.sipush 400, 3) := by decide +kernel
theorem dX9_text_249 : decode cX9_text 249 = .ok (.iload_n 1, 1) := by decide +kernel
theorem dX9_text_250 : decode cX9_text 250 = .ok (.imul, 1) := by decide +kernel
theorem dX9_text_251 : decode cX9_text 251 = .ok (.aload_n 0, 1) := by decide +kernel
theorem dX9_text_252 : decode cX9_text 252 = .ok (.getfield 66, 3) := by decide +kernel
theorem dX9_text_255 : decode cX9_text 255 = .ok (.iload_n 2, 1) := by decide +kernel
theorem dX9_text_256 : decode cX9_text 256 = .ok (.iaload, 1) := by decide +kernel
theorem dX9_text_257 : decode cX9_text 257 = .ok (.iadd, 1) := by decide +kernel
theorem dX9_text_258 : decode cX9_text 258 = .ok (.iastore, 1) := by decide +kernel
theorem dX9_text_259 : decode cX9_text 259 = .ok (.aload_n 0, 1) := by decide +kernel
theorem dX9_text_260 : decode cX9_text 260 = .ok (.getfield 36, 3) := by decide +kernel
theorem dX9_text_263 : decode cX9_text 263 = .ok (.bipush 24, 2) := by decide +kernel
theorem dX9_text_265 : decode cX9_text 265 = .ok (.iload_n 1, 1) := by decide +kernel
theorem dX9_text_266 : decode cX9_text 266 = .ok (.imul, 1) := by decide +kernel
theorem dX9_text_267 : decode cX9_text 267 = .ok (.iload_n 2, 1) := by decide +kernel
theorem dX9_text_268 : decode cX9_text 268 = .ok (.iadd, 1) := by decide +kernel
theorem dX9_text_269 : decode cX9_text 269 = .ok (.aload_n 0, 1) := by decide +kernel
theorem dX9_text_270 : decode cX9_text 270 = .ok (.getfield 69, 3) := by decide +kernel
theorem dX9_text_273 : decode cX9_text 273 = .ok (.iload_n 2, 1) := by decide +kernel
theorem dX9_text_274 : decode cX9_text 274 = .ok (.iaload, 1) := by decide +kernel
theorem dX9_text_275 : decode cX9_text 275 = .ok (.iastore, 1) := by decide +kernel
theorem dX9_text_276 : decode cX9_text 276 = .ok (.aload_n 0, 1) := by decide +kernel
theorem dX9_text_277 : decode cX9_text 277 = .ok (.getfield 39, 3) := by decide +kernel
theorem dX9_text_280 : decode cX9_text 280 = .ok (.bipush 24, 2) := by decide +kernel
theorem dX9_text_282 : decode cX9_text 282 = .ok (.iload_n 1, 1) := by decide +kernel
theorem dX9_text_283 : decode cX9_text 283 = .ok (.imul, 1) := by decide +kernel
theorem dX9_text_284 : decode cX9_text 284 = .ok (.iload_n 2, 1) := by decide +kernel
theorem dX9_text_285 : decode cX9_text 285 = .ok (.iadd, 1) := by decide +kernel
theorem dX9_text_286 : decode cX9_text 286 = .ok (.aload_n 0, 1) := by decide +kernel
theorem dX9_text_287 : decode cX9_text 287 = .ok (.getfield 72, 3) := by decide +kernel
theorem dX9_text_290 : decode cX9_text 290 = .ok (.iload_n 2, 1) := by decide +kernel
theorem dX9_text_291 : decode cX9_text 291 = .ok (.iaload, 1) := by decide +kernel
theorem dX9_text_292 : decode cX9_text 292 = .ok (.iastore, 1) := by decide +kernel
theorem dX9_text_293 : decode cX9_text 293 = .ok (.aload_n 0, 1) := by decide +kernel
theorem dX9_text_294 : decode cX9_text 294 = .ok (.getfield 42, 3) := by decide +kernel
theorem dX9_text_297 : decode cX9_text 297 = .ok (.bipush 24, 2) := by decide +kernel
theorem dX9_text_299 : decode cX9_text 299 = .ok (.iload_n 1, 1) := by decide +kernel
theorem dX9_text_300 : decode cX9_text 300 = .ok (.imul, 1) := by decide +kernel
theorem dX9_text_301 : decode cX9_text 301 = .ok (.iload_n 2, 1) := by decide +kernel
theorem dX9_text_302 : decode cX9_text 302 = .ok (.iadd, 1) := by decide +kernel
theorem dX9_text_303 : decode cX9_text 303 = .ok (.aload_n 0, 1) := by decide +kernel
theorem dX9_text_304 : decode cX9_text 304 = .ok (.getfield 75, 3) := by decide +kernel
theorem dX9_text_307 : decode cX9_text 307 = .ok (.iload_n 2, 1) := by decide +kernel
theorem dX9_text_308 : decode cX9_text 308 = .ok (.iaload, 1) := by decide +kernel
theorem dX9_text_309 : decode cX9_text 309 = .ok (.iastore, 1) := by decide +kernel
theorem dX9_text_310 : decode cX9_text 310 = .ok (.iinc 2 1, 3) := by decide +kernel
theorem dX9_text_313 : decode cX9_text 313 = .ok (.goto (-102), 3) := by decide +kernel
theorem dX9_text_316 : decode cX9_text 316 = .ok (.iconst 0, 1) := by decide +kernel
theorem dX9_text_317 : decode cX9_text 317 = .ok (.istore_n 2, 1) := by decide +kernel
theorem dX9_text_318 : decode cX9_text 318 = .ok (.iload_n 2, 1) := by decide +kernel
theorem dX9_text_319 : decode cX9_text 319 = .ok (.aload_n 0, 1) := by decide +kernel
theorem dX9_text_320 : decode cX9_text 320 = .ok (.getfield 245, 3) := by decide +kernel
theorem dX9_text_323 : decode cX9_text 323 = .ok (.if_icmp .ge 45, 3) := by decide +kernel
theorem dX9_text_326 : decode cX9_text 326 = .ok (.aload_n 0, 1) := by decide +kernel
theorem dX9_text_327 : decode cX9_text 327 = .ok (.getfield 45, 3) := by decide +kernel
theorem dX9_text_330 : decode cX9_text 330 = .ok (.sipush 400, 3) := by decide +kernel
theorem dX9_text_333 : decode cX9_text 333 = .ok (.iload_n 1, 1) := by decide +kernel
theorem dX9_text_334 : decode cX9_text 334 = .ok (.imul, 1) := by decide +kernel
theorem dX9_text_335 : decode cX9_text 335 = .ok (.iload_n 2, 1) := by decide +kernel
theorem dX9_text_336 : decode cX9_text 336 = .ok (.iadd, 1) := by decide +kernel
theorem dX9_text_337 : decode cX9_text 337 = .ok (.aload_n 0, 1) := by decide +kernel
theorem dX9_text_338 : decode cX9_text 338 = .ok (.getfield 78, 3) := by decide +kernel
theorem dX9_text_341 : decode cX9_text 341 = .ok (.iload_n 2, 1) := by decide +kernel
theorem dX9_text_342 : decode cX9_text 342 = .ok (.iaload, 1) := by decide +kernel
theorem dX9_text_343 : decode cX9_text 343 = .ok (.iastore, 1) := by decide +kernel
theorem dX9_text_344 : decode cX9_text 344 = .ok (.aload_n 0, 1) := by decide +kernel
theorem dX9_text_345 : decode cX9_text 345 = .ok (.getfield 48, 3) := by decide +kernel
theorem dX9_text_348 : decode cX9_text 348 = .ok (.sipush 400, 3) := by decide +kernel
theorem dX9_text_351 : decode cX9_text 351 = .ok (.iload_n 1, 1) := by decide +kernel
theorem dX9_text_352 : decode cX9_text 352 = .ok (.imul, 1) := by decide +kernel
theorem dX9_text_353 : decode cX9_text 353 = .ok (.iload_n 2, 1) := by decide +kernel
theorem dX9_text_354 : decode cX9_text 354 = .ok (.iadd, 1) := by decide +kernel
theorem dX9_text_355 : decode cX9_text 355 = .ok (.aload_n 0, 1) := by decide +kernel
theorem dX9_text_356 : decode cX9_text 356 = .ok (.getfield 81, 3) := by decide +kernel
theorem dX9_text_359 : decode cX9_text 359 = .ok (.iload_n 2, 1) := by decide +kernel
theorem dX9_text_360 : decode cX9_text 360 = .ok (.iaload, 1) := by decide +kernel
theorem dX9_text_361 : decode cX9_text 361 = .ok (.iastore, 1) := by decide +kernel
theorem dX9_text_362 : decode cX9_text 362 = .ok (.iinc 2 1, 3) := by decide +kernel
theorem dX9_text_365 : decode cX9_text 365 = .ok (.goto (-47), 3) := by decide +kernel
theorem dX9_text_368 : decode cX9_text 368 = .ok (.aload_n 0, 1) := by decide +kernel
theorem dX9_text_369 : decode cX9_text 369 = .ok (.getfield 7, 3) := by decide +kernel
theorem dX9_text_372 : decode cX9_text 372 = .ok (.iconst 3, 1) := by decide +kernel
theorem dX9_text_373 : decode cX9_text 373 = .ok (.dup2, 1) := by decide +kernel
theorem dX9_text_374 : decode cX9_text 374 = .ok (.iaload, 1) := by decide +kernel
theorem dX9_text_375 : decode cX9_text 375 = .ok (.iconst 1, 1) := by decide +kernel
theorem dX9_text_376 : decode cX9_text 376 = .ok (.iadd, 1) := by decide +kernel
theorem dX9_text_377 : decode cX9_text 377 = .ok (.iastore, 1) := by decide +kernel
theorem dX9_text_378 : decode cX9_text 378 = .ok (.iload_n 1, 1) := by decide +kernel
theorem dX9_text_379 : decode cX9_text 379 = .ok (.ireturn, 1) := by decide +kernel
theorem dX9_fault_0 : decode cX9_fault 0 = .ok (.iload_n 1, 1) := by decide +kernel
theorem dX9_fault_1 : decode cX9_fault 1 = .ok (.ifCond .ne 10, 3) := by decide +kernel
theorem dX9_fault_4 : decode cX9_fault 4 = .ok (.aload_n 0, 1) := by decide +kernel
theorem dX9_fault_5 : decode cX9_fault 5 = .ok (.getfield 20, 3) := by decide +kernel
theorem dX9_fault_8 : decode cX9_fault 8 = .ok (.goto 16, 3) := by decide +kernel
theorem dX9_fault_11 : decode cX9_fault 11 = .ok (.iload_n 1, 1) := by decide +kernel
theorem dX9_fault_12 : decode cX9_fault 12 = .ok (.iconst 1, 1) := by decide +kernel
theorem dX9_fault_13 : decode cX9_fault 13 = .ok (.if_icmp .ne 10, 3) := by decide +kernel
theorem dX9_fault_16 : decode cX9_fault 16 = .ok (.aload_n 0, 1) := by decide +kernel
theorem dX9_fault_17 : decode cX9_fault 17 = .ok (.getfield 24, 3) := by decide +kernel
theorem dX9_fault_20 : decode cX9_fault 20 = .ok (.goto 4, 3) := by decide +kernel
theorem dX9_fault_23 : decode cX9_fault 23 = .ok (.iconst (-1), 1) := by decide +kernel
theorem dX9_fault_24 : decode cX9_fault 24 = .ok (.ireturn, 1) := by decide +kernel
theorem dX9_bound_0 : decode cX9_bound 0 = .ok (.lload_n 0, 1) := by decide +kernel
theorem dX9_bound_1 : decode cX9_bound 1 = .ok (.ldc2_w 338, 3) := by decide +kernel
theorem dX9_bound_4 : decode cX9_bound 4 = .ok (.lcmp, 1) := by decide +kernel
theorem dX9_bound_5 : decode cX9_bound 5 = .ok (.ifCond .le 9, 3) := by decide +kernel
theorem dX9_bound_8 : decode cX9_bound 8 = .ok (.ldc2_w 338, 3) := by decide +kernel
theorem dX9_bound_11 : decode cX9_bound 11 = .ok (.goto 18, 3) := by decide +kernel
theorem dX9_bound_14 : decode cX9_bound 14 = .ok (.lload_n 0, 1) := by decide +kernel
theorem dX9_bound_15 : decode cX9_bound 15 = .ok (.ldc2_w 340, 3) := by decide +kernel
theorem dX9_bound_18 : decode cX9_bound 18 = .ok (.lcmp, 1) := by decide +kernel
theorem dX9_bound_19 : decode cX9_bound 19 = .ok (.ifCond .ge 9, 3) := by decide +kernel
theorem dX9_bound_22 : decode cX9_bound 22 = .ok (.ldc2_w 340, 3) := by decide +kernel
theorem dX9_bound_25 : decode cX9_bound 25 = .ok (.goto 4, 3) := by decide +kernel
theorem dX9_bound_28 : decode cX9_bound 28 = .ok (.lload_n 0, 1) := by decide +kernel
theorem dX9_bound_29 : decode cX9_bound 29 = .ok (.lreturn, 1) := by decide +kernel
set_option maxRecDepth 20000 in
theorem ggX9_worked_X9_bound : GoodIn wsX9_worked wsX9_bound := goodIn_r _ [4, 5, 6] (by decide +kernel) (by decide +kernel)
set_option maxRecDepth 20000 in
theorem gX9_worked_X9_bound : GoodIn wsX9_worked (va_wsS RX9 342 yX9_bound wsX9_bound) := goodIn_app (goodIn_of _ (by decide +kernel)) ggX9_worked_X9_bound
theorem dX9_worked_0 : decode cX9_worked 0 = .ok (.iload_n 0, 1) := by decide +kernel
theorem dX9_worked_1 : decode cX9_worked 1 = .ok (.lookupswitch 210 #[(35, 170), (42, 113), (43, 99), (45, 106), (47, 120), (60, 134), (61, 158), (62, 146), (300, 182), (301, 194), (406, 206)], 99) := by decide +kernel
theorem dX9_worked_100 : decode cX9_worked 100 = .ok (.lload_n 1, 1) := by decide +kernel
theorem dX9_worked_101 : decode cX9_worked 101 = .ok (.lload_n 3, 1) := by decide +kernel
theorem dX9_worked_102 : decode cX9_worked 102 = .ok (.ladd, 1) := by decide +kernel
theorem dX9_worked_103 : decode cX9_worked 103 = .ok (.invokestatic 342, 3) := by decide +kernel
theorem dX9_worked_106 : decode cX9_worked 106 = .ok (.lreturn, 1) := by decide +kernel
theorem dX9_worked_107 : decode cX9_worked 107 = .ok (.lload_n 1, 1) := by decide +kernel
theorem dX9_worked_108 : decode cX9_worked 108 = .ok (.lload_n 3, 1) := by decide +kernel
theorem dX9_worked_109 : decode cX9_worked 109 = .ok (.lsub, 1) := by decide +kernel
theorem dX9_worked_110 : decode cX9_worked 110 = .ok (.invokestatic 342, 3) := by decide +kernel
theorem dX9_worked_113 : decode cX9_worked 113 = .ok (.lreturn, 1) := by decide +kernel
theorem dX9_worked_114 : decode cX9_worked 114 = .ok (.lload_n 1, 1) := by decide +kernel
theorem dX9_worked_115 : decode cX9_worked 115 = .ok (.lload_n 3, 1) := by decide +kernel
theorem dX9_worked_116 : decode cX9_worked 116 = .ok (.lmul, 1) := by decide +kernel
theorem dX9_worked_117 : decode cX9_worked 117 = .ok (.invokestatic 342, 3) := by decide +kernel
theorem dX9_worked_120 : decode cX9_worked 120 = .ok (.lreturn, 1) := by decide +kernel
theorem dX9_worked_121 : decode cX9_worked 121 = .ok (.lload_n 3, 1) := by decide +kernel
theorem dX9_worked_122 : decode cX9_worked 122 = .ok (.lconst 0, 1) := by decide +kernel
theorem dX9_worked_123 : decode cX9_worked 123 = .ok (.lcmp, 1) := by decide +kernel
theorem dX9_worked_124 : decode cX9_worked 124 = .ok (.ifCond .ne 7, 3) := by decide +kernel
theorem dX9_worked_127 : decode cX9_worked 127 = .ok (.lconst 0, 1) := by decide +kernel
theorem dX9_worked_128 : decode cX9_worked 128 = .ok (.goto 6, 3) := by decide +kernel
theorem dX9_worked_131 : decode cX9_worked 131 = .ok (.lload_n 1, 1) := by decide +kernel
theorem dX9_worked_132 : decode cX9_worked 132 = .ok (.lload_n 3, 1) := by decide +kernel
theorem dX9_worked_133 : decode cX9_worked 133 = .ok (.ldiv, 1) := by decide +kernel
theorem dX9_worked_134 : decode cX9_worked 134 = .ok (.lreturn, 1) := by decide +kernel
theorem dX9_worked_135 : decode cX9_worked 135 = .ok (.lload_n 1, 1) := by decide +kernel
theorem dX9_worked_136 : decode cX9_worked 136 = .ok (.lload_n 3, 1) := by decide +kernel
theorem dX9_worked_137 : decode cX9_worked 137 = .ok (.lcmp, 1) := by decide +kernel
theorem dX9_worked_138 : decode cX9_worked 138 = .ok (.ifCond .ge 7, 3) := by decide +kernel
theorem dX9_worked_141 : decode cX9_worked 141 = .ok (.lconst 1, 1) := by decide +kernel
theorem dX9_worked_142 : decode cX9_worked 142 = .ok (.goto 4, 3) := by decide +kernel
theorem dX9_worked_145 : decode cX9_worked 145 = .ok (.lconst 0, 1) := by decide +kernel
theorem dX9_worked_146 : decode cX9_worked 146 = .ok (.lreturn, 1) := by decide +kernel
theorem dX9_worked_147 : decode cX9_worked 147 = .ok (.lload_n 1, 1) := by decide +kernel
theorem dX9_worked_148 : decode cX9_worked 148 = .ok (.lload_n 3, 1) := by decide +kernel
theorem dX9_worked_149 : decode cX9_worked 149 = .ok (.lcmp, 1) := by decide +kernel
theorem dX9_worked_150 : decode cX9_worked 150 = .ok (.ifCond .le 7, 3) := by decide +kernel
theorem dX9_worked_153 : decode cX9_worked 153 = .ok (.lconst 1, 1) := by decide +kernel
theorem dX9_worked_154 : decode cX9_worked 154 = .ok (.goto 4, 3) := by decide +kernel
theorem dX9_worked_157 : decode cX9_worked 157 = .ok (.lconst 0, 1) := by decide +kernel
theorem dX9_worked_158 : decode cX9_worked 158 = .ok (.lreturn, 1) := by decide +kernel
theorem dX9_worked_159 : decode cX9_worked 159 = .ok (.lload_n 1, 1) := by decide +kernel
theorem dX9_worked_160 : decode cX9_worked 160 = .ok (.lload_n 3, 1) := by decide +kernel
theorem dX9_worked_161 : decode cX9_worked 161 = .ok (.lcmp, 1) := by decide +kernel
theorem dX9_worked_162 : decode cX9_worked 162 = .ok (.ifCond .ne 7, 3) := by decide +kernel
theorem dX9_worked_165 : decode cX9_worked 165 = .ok (.lconst 1, 1) := by decide +kernel
theorem dX9_worked_166 : decode cX9_worked 166 = .ok (.goto 4, 3) := by decide +kernel
theorem dX9_worked_169 : decode cX9_worked 169 = .ok (.lconst 0, 1) := by decide +kernel
theorem dX9_worked_170 : decode cX9_worked 170 = .ok (.lreturn, 1) := by decide +kernel
theorem dX9_worked_171 : decode cX9_worked 171 = .ok (.lload_n 1, 1) := by decide +kernel
theorem dX9_worked_172 : decode cX9_worked 172 = .ok (.lload_n 3, 1) := by decide +kernel
theorem dX9_worked_173 : decode cX9_worked 173 = .ok (.lcmp, 1) := by decide +kernel
theorem dX9_worked_174 : decode cX9_worked 174 = .ok (.ifCond .eq 7, 3) := by decide +kernel
theorem dX9_worked_177 : decode cX9_worked 177 = .ok (.lconst 1, 1) := by decide +kernel
theorem dX9_worked_178 : decode cX9_worked 178 = .ok (.goto 4, 3) := by decide +kernel
theorem dX9_worked_181 : decode cX9_worked 181 = .ok (.lconst 0, 1) := by decide +kernel
theorem dX9_worked_182 : decode cX9_worked 182 = .ok (.lreturn, 1) := by decide +kernel
theorem dX9_worked_183 : decode cX9_worked 183 = .ok (.lload_n 1, 1) := by decide +kernel
theorem dX9_worked_184 : decode cX9_worked 184 = .ok (.lload_n 3, 1) := by decide +kernel
theorem dX9_worked_185 : decode cX9_worked 185 = .ok (.lcmp, 1) := by decide +kernel
theorem dX9_worked_186 : decode cX9_worked 186 = .ok (.ifCond .gt 7, 3) := by decide +kernel
theorem dX9_worked_189 : decode cX9_worked 189 = .ok (.lconst 1, 1) := by decide +kernel
theorem dX9_worked_190 : decode cX9_worked 190 = .ok (.goto 4, 3) := by decide +kernel
theorem dX9_worked_193 : decode cX9_worked 193 = .ok (.lconst 0, 1) := by decide +kernel
theorem dX9_worked_194 : decode cX9_worked 194 = .ok (.lreturn, 1) := by decide +kernel
theorem dX9_worked_195 : decode cX9_worked 195 = .ok (.lload_n 1, 1) := by decide +kernel
theorem dX9_worked_196 : decode cX9_worked 196 = .ok (.lload_n 3, 1) := by decide +kernel
theorem dX9_worked_197 : decode cX9_worked 197 = .ok (.lcmp, 1) := by decide +kernel
theorem dX9_worked_198 : decode cX9_worked 198 = .ok (.ifCond .lt 7, 3) := by decide +kernel
theorem dX9_worked_201 : decode cX9_worked 201 = .ok (.lconst 1, 1) := by decide +kernel
theorem dX9_worked_202 : decode cX9_worked 202 = .ok (.goto 4, 3) := by decide +kernel
theorem dX9_worked_205 : decode cX9_worked 205 = .ok (.lconst 0, 1) := by decide +kernel
theorem dX9_worked_206 : decode cX9_worked 206 = .ok (.lreturn, 1) := by decide +kernel
theorem dX9_worked_207 : decode cX9_worked 207 = .ok (.lload_n 1, 1) := by decide +kernel
theorem dX9_worked_208 : decode cX9_worked 208 = .ok (.lload_n 3, 1) := by decide +kernel
theorem dX9_worked_209 : decode cX9_worked 209 = .ok (.lmul, 1) := by decide +kernel
theorem dX9_worked_210 : decode cX9_worked 210 = .ok (.lreturn, 1) := by decide +kernel
theorem dX9_worked_211 : decode cX9_worked 211 = .ok (.lload_n 1, 1) := by decide +kernel
theorem dX9_worked_212 : decode cX9_worked 212 = .ok (.lload_n 3, 1) := by decide +kernel
theorem dX9_worked_213 : decode cX9_worked 213 = .ok (.ladd, 1) := by decide +kernel
theorem dX9_worked_214 : decode cX9_worked 214 = .ok (.lconst 0, 1) := by decide +kernel
theorem dX9_worked_215 : decode cX9_worked 215 = .ok (.lcmp, 1) := by decide +kernel
theorem dX9_worked_216 : decode cX9_worked 216 = .ok (.ifCond .le 7, 3) := by decide +kernel
theorem dX9_worked_219 : decode cX9_worked 219 = .ok (.lconst 1, 1) := by decide +kernel
theorem dX9_worked_220 : decode cX9_worked 220 = .ok (.goto 4, 3) := by decide +kernel
theorem dX9_worked_223 : decode cX9_worked 223 = .ok (.lconst 0, 1) := by decide +kernel
theorem dX9_worked_224 : decode cX9_worked 224 = .ok (.lreturn, 1) := by decide +kernel
set_option maxRecDepth 20000 in
theorem ggX9_saysOf_X9_worked : GoodIn wsX9_saysOf wsX9_worked := goodIn_r _ [8, 9, 10, 7, 11, 12, 13] (by decide +kernel) (by decide +kernel)
set_option maxRecDepth 20000 in
theorem gX9_saysOf_X9_worked : GoodIn wsX9_saysOf (va_wsS RX9 346 yX9_worked wsX9_worked) := goodIn_app (goodIn_of _ (by decide +kernel)) ggX9_saysOf_X9_worked
theorem dX9_saysOf_0 : decode cX9_saysOf 0 = .ok (.iconst 0, 1) := by decide +kernel
theorem dX9_saysOf_1 : decode cX9_saysOf 1 = .ok (.istore_n 2, 1) := by decide +kernel
theorem dX9_saysOf_2 : decode cX9_saysOf 2 = .ok (.iload_n 1, 1) := by decide +kernel
theorem dX9_saysOf_3 : decode cX9_saysOf 3 = .ok (.istore_n 3, 1) := by decide +kernel
theorem dX9_saysOf_4 : decode cX9_saysOf 4 = .ok (.aload_n 0, 1) := by decide +kernel
theorem dX9_saysOf_5 : decode cX9_saysOf 5 = .ok (.getfield 45, 3) := by decide +kernel
theorem dX9_saysOf_8 : decode cX9_saysOf 8 = .ok (.iload_n 3, 1) := by decide +kernel
theorem dX9_saysOf_9 : decode cX9_saysOf 9 = .ok (.iaload, 1) := by decide +kernel
theorem dX9_saysOf_10 : decode cX9_saysOf 10 = .ok (.sipush 408, 3) := by decide +kernel
theorem dX9_saysOf_13 : decode cX9_saysOf 13 = .ok (.if_icmp .eq 162, 3) := by decide +kernel
theorem dX9_saysOf_16 : decode cX9_saysOf 16 = .ok (.aload_n 0, 1) := by decide +kernel
theorem dX9_saysOf_17 : decode cX9_saysOf 17 = .ok (.getfield 45, 3) := by decide +kernel
theorem dX9_saysOf_20 : decode cX9_saysOf 20 = .ok (.iload_n 3, 1) := by decide +kernel
theorem dX9_saysOf_21 : decode cX9_saysOf 21 = .ok (.iaload, 1) := by decide +kernel
theorem dX9_saysOf_22 : decode cX9_saysOf 22 = .ok (.istore 4, 2) := by decide +kernel
theorem dX9_saysOf_24 : decode cX9_saysOf 24 = .ok (.iload 4, 2) := by decide +kernel
theorem dX9_saysOf_26 : decode cX9_saysOf 26 = .ok (.sipush 400, 3) := by decide +kernel
theorem dX9_saysOf_29 : decode cX9_saysOf 29 = .ok (.if_icmp .eq 11, 3) := by decide +kernel
theorem dX9_saysOf_32 : decode cX9_saysOf 32 = .ok (.iload 4, 2) := by decide +kernel
theorem dX9_saysOf_34 : decode cX9_saysOf 34 = .ok (.sipush 401, 3) := by decide +kernel
theorem dX9_saysOf_37 : decode cX9_saysOf 37 = .ok (.if_icmp .ne 45, 3) := by decide +kernel
theorem dX9_saysOf_40 : decode cX9_saysOf 40 = .ok (.aload_n 0, 1) := by decide +kernel
theorem dX9_saysOf_41 : decode cX9_saysOf 41 = .ok (.getfield 87, 3) := by decide +kernel
theorem dX9_saysOf_44 : decode cX9_saysOf 44 = .ok (.iload_n 2, 1) := by decide +kernel
theorem dX9_saysOf_45 : decode cX9_saysOf 45 = .ok (.iload 4, 2) := by decide +kernel
theorem dX9_saysOf_47 : decode cX9_saysOf 47 = .ok (.sipush 400, 3) := by decide +kernel
theorem dX9_saysOf_50 : decode cX9_saysOf 50 = .ok (.if_icmp .ne 13, 3) := by decide +kernel
theorem dX9_saysOf_53 : decode cX9_saysOf 53 = .ok (.aload_n 0, 1) := by decide +kernel
theorem dX9_saysOf_54 : decode cX9_saysOf 54 = .ok (.getfield 48, 3) := by decide +kernel
theorem dX9_saysOf_57 : decode cX9_saysOf 57 = .ok (.iload_n 3, 1) := by decide +kernel
theorem dX9_saysOf_58 : decode cX9_saysOf 58 = .ok (.iaload, 1) := by decide +kernel
theorem dX9_saysOf_59 : decode cX9_saysOf 59 = .ok (.i2l, 1) := by decide +kernel
theorem dX9_saysOf_60 : decode cX9_saysOf 60 = .ok (.goto 15, 3) := by decide +kernel
theorem dX9_saysOf_63 : decode cX9_saysOf 63 = .ok (.aload_n 0, 1) := by decide +kernel
theorem dX9_saysOf_64 : decode cX9_saysOf 64 = .ok (.getfield 84, 3) := by decide +kernel
theorem dX9_saysOf_67 : decode cX9_saysOf 67 = .ok (.aload_n 0, 1) := by decide +kernel
theorem dX9_saysOf_68 : decode cX9_saysOf 68 = .ok (.getfield 48, 3) := by decide +kernel
theorem dX9_saysOf_71 : decode cX9_saysOf 71 = .ok (.iload_n 3, 1) := by decide +kernel
theorem dX9_saysOf_72 : decode cX9_saysOf 72 = .ok (.iaload, 1) := by decide +kernel
theorem dX9_saysOf_73 : decode cX9_saysOf 73 = .ok (.iaload, 1) := by decide +kernel
theorem dX9_saysOf_74 : decode cX9_saysOf 74 = .ok (.i2l, 1) := by decide +kernel
theorem dX9_saysOf_75 : decode cX9_saysOf 75 = .ok (.lastore, 1) := by decide +kernel
theorem dX9_saysOf_76 : decode cX9_saysOf 76 = .ok (.iinc 2 1, 3) := by decide +kernel
theorem dX9_saysOf_79 : decode cX9_saysOf 79 = .ok (.goto 90, 3) := by decide +kernel
theorem dX9_saysOf_82 : decode cX9_saysOf 82 = .ok (.iload 4, 2) := by decide +kernel
theorem dX9_saysOf_84 : decode cX9_saysOf 84 = .ok (.sipush 402, 3) := by decide +kernel
theorem dX9_saysOf_87 : decode cX9_saysOf 87 = .ok (.if_icmp .ne 23, 3) := by decide +kernel
theorem dX9_saysOf_90 : decode cX9_saysOf 90 = .ok (.aload_n 0, 1) := by decide +kernel
theorem dX9_saysOf_91 : decode cX9_saysOf 91 = .ok (.getfield 87, 3) := by decide +kernel
theorem dX9_saysOf_94 : decode cX9_saysOf 94 = .ok (.iload_n 2, 1) := by decide +kernel
theorem dX9_saysOf_95 : decode cX9_saysOf 95 = .ok (.iconst 1, 1) := by decide +kernel
theorem dX9_saysOf_96 : decode cX9_saysOf 96 = .ok (.isub, 1) := by decide +kernel
theorem dX9_saysOf_97 : decode cX9_saysOf 97 = .ok (.aload_n 0, 1) := by decide +kernel
theorem dX9_saysOf_98 : decode cX9_saysOf 98 = .ok (.getfield 87, 3) := by decide +kernel
theorem dX9_saysOf_101 : decode cX9_saysOf 101 = .ok (.iload_n 2, 1) := by decide +kernel
theorem dX9_saysOf_102 : decode cX9_saysOf 102 = .ok (.iconst 1, 1) := by decide +kernel
theorem dX9_saysOf_103 : decode cX9_saysOf 103 = .ok (.isub, 1) := by decide +kernel
theorem dX9_saysOf_104 : decode cX9_saysOf 104 = .ok (.laload, 1) := by decide +kernel
theorem dX9_saysOf_105 : decode cX9_saysOf 105 = .ok (.lneg, 1) := by decide +kernel
theorem dX9_saysOf_106 : decode cX9_saysOf 106 = .ok (.lastore, 1) := by decide +kernel
theorem dX9_saysOf_107 : decode cX9_saysOf 107 = .ok (.goto 62, 3) := by decide +kernel
theorem dX9_saysOf_110 : decode cX9_saysOf 110 = .ok (.iload 4, 2) := by decide +kernel
theorem dX9_saysOf_112 : decode cX9_saysOf 112 = .ok (.sipush 405, 3) := by decide +kernel
theorem dX9_saysOf_115 : decode cX9_saysOf 115 = .ok (.if_icmp .ne 24, 3) := by decide +kernel
theorem dX9_saysOf_118 : decode cX9_saysOf 118 = .ok (.aload_n 0, 1) := by decide +kernel
theorem dX9_saysOf_119 : decode cX9_saysOf 119 = .ok (.getfield 87, 3) := by decide +kernel
theorem dX9_saysOf_122 : decode cX9_saysOf 122 = .ok (.iload_n 2, 1) := by decide +kernel
theorem dX9_saysOf_123 : decode cX9_saysOf 123 = .ok (.iconst 1, 1) := by decide +kernel
theorem dX9_saysOf_124 : decode cX9_saysOf 124 = .ok (.isub, 1) := by decide +kernel
theorem dX9_saysOf_125 : decode cX9_saysOf 125 = .ok (.lconst 1, 1) := by decide +kernel
theorem dX9_saysOf_126 : decode cX9_saysOf 126 = .ok (.aload_n 0, 1) := by decide +kernel
theorem dX9_saysOf_127 : decode cX9_saysOf 127 = .ok (.getfield 87, 3) := by decide +kernel
theorem dX9_saysOf_130 : decode cX9_saysOf 130 = .ok (.iload_n 2, 1) := by decide +kernel
theorem dX9_saysOf_131 : decode cX9_saysOf 131 = .ok (.iconst 1, 1) := by decide +kernel
theorem dX9_saysOf_132 : decode cX9_saysOf 132 = .ok (.isub, 1) := by decide +kernel
theorem dX9_saysOf_133 : decode cX9_saysOf 133 = .ok (.laload, 1) := by decide +kernel
theorem dX9_saysOf_134 : decode cX9_saysOf 134 = .ok (.lsub, 1) := by decide +kernel
theorem dX9_saysOf_135 : decode cX9_saysOf 135 = .ok (.lastore, 1) := by decide +kernel
theorem dX9_saysOf_136 : decode cX9_saysOf 136 = .ok (.goto 33, 3) := by decide +kernel
theorem dX9_saysOf_139 : decode cX9_saysOf 139 = .ok (.iinc 2 (-1), 3) := by decide +kernel
theorem dX9_saysOf_142 : decode cX9_saysOf 142 = .ok (.aload_n 0, 1) := by decide +kernel
theorem dX9_saysOf_143 : decode cX9_saysOf 143 = .ok (.getfield 87, 3) := by decide +kernel
theorem dX9_saysOf_146 : decode cX9_saysOf 146 = .ok (.iload_n 2, 1) := by decide +kernel
theorem dX9_saysOf_147 : decode cX9_saysOf 147 = .ok (.iconst 1, 1) := by decide +kernel
theorem dX9_saysOf_148 : decode cX9_saysOf 148 = .ok (.isub, 1) := by decide +kernel
theorem dX9_saysOf_149 : decode cX9_saysOf 149 = .ok (.iload 4, 2) := by decide +kernel
theorem dX9_saysOf_151 : decode cX9_saysOf 151 = .ok (.aload_n 0, 1) := by decide +kernel
theorem dX9_saysOf_152 : decode cX9_saysOf 152 = .ok (.getfield 87, 3) := by decide +kernel
theorem dX9_saysOf_155 : decode cX9_saysOf 155 = .ok (.iload_n 2, 1) := by decide +kernel
theorem dX9_saysOf_156 : decode cX9_saysOf 156 = .ok (.iconst 1, 1) := by decide +kernel
theorem dX9_saysOf_157 : decode cX9_saysOf 157 = .ok (.isub, 1) := by decide +kernel
theorem dX9_saysOf_158 : decode cX9_saysOf 158 = .ok (.laload, 1) := by decide +kernel
theorem dX9_saysOf_159 : decode cX9_saysOf 159 = .ok (.aload_n 0, 1) := by decide +kernel
theorem dX9_saysOf_160 : decode cX9_saysOf 160 = .ok (.getfield 87, 3) := by decide +kernel
theorem dX9_saysOf_163 : decode cX9_saysOf 163 = .ok (.iload_n 2, 1) := by decide +kernel
theorem dX9_saysOf_164 : decode cX9_saysOf 164 = .ok (.laload, 1) := by decide +kernel
theorem dX9_saysOf_165 : decode cX9_saysOf 165 = .ok (.invokestatic 346, 3) := by decide +kernel
theorem dX9_saysOf_168 : decode cX9_saysOf 168 = .ok (.lastore, 1) := by decide +kernel
theorem dX9_saysOf_169 : decode cX9_saysOf 169 = .ok (.iinc 3 1, 3) := by decide +kernel
theorem dX9_saysOf_172 : decode cX9_saysOf 172 = .ok (.goto (-168), 3) := by decide +kernel
theorem dX9_saysOf_175 : decode cX9_saysOf 175 = .ok (.aload_n 0, 1) := by decide +kernel
theorem dX9_saysOf_176 : decode cX9_saysOf 176 = .ok (.getfield 87, 3) := by decide +kernel
theorem dX9_saysOf_179 : decode cX9_saysOf 179 = .ok (.iconst 0, 1) := by decide +kernel
theorem dX9_saysOf_180 : decode cX9_saysOf 180 = .ok (.laload, 1) := by decide +kernel
theorem dX9_saysOf_181 : decode cX9_saysOf 181 = .ok (.lreturn, 1) := by decide +kernel
set_option maxRecDepth 20000 in
theorem ggX9_by_X9_in : GoodIn wsX9_by wsX9_in := goodIn_r _ [5] (by decide +kernel) (by decide +kernel)
set_option maxRecDepth 20000 in
theorem gX9_by_X9_in : GoodIn wsX9_by (va_wsS RX9 126 yX9_in wsX9_in) := goodIn_app (goodIn_of _ (by decide +kernel)) ggX9_by_X9_in
theorem dX9_by_0 : decode cX9_by 0 = .ok (.iload_n 1, 1) := by decide +kernel
theorem dX9_by_1 : decode cX9_by 1 = .ok (.iconst (-1), 1) := by decide +kernel
theorem dX9_by_2 : decode cX9_by 2 = .ok (.if_icmp .eq 21, 3) := by decide +kernel
theorem dX9_by_5 : decode cX9_by 5 = .ok (.iload_n 1, 1) := by decide +kernel
theorem dX9_by_6 : decode cX9_by 6 = .ok (.iconst 0, 1) := by decide +kernel
theorem dX9_by_7 : decode cX9_by 7 = .ok (.aload_n 0, 1) := by decide +kernel
theorem dX9_by_8 : decode cX9_by 8 = .ok (.getfield 7, 3) := by decide +kernel
theorem dX9_by_11 : decode cX9_by 11 = .ok (.iconst 3, 1) := by decide +kernel
theorem dX9_by_12 : decode cX9_by 12 = .ok (.iaload, 1) := by decide +kernel
theorem dX9_by_13 : decode cX9_by 13 = .ok (.iconst 1, 1) := by decide +kernel
theorem dX9_by_14 : decode cX9_by 14 = .ok (.isub, 1) := by decide +kernel
theorem dX9_by_15 : decode cX9_by 15 = .ok (.invokestatic 126, 3) := by decide +kernel
theorem dX9_by_18 : decode cX9_by 18 = .ok (.ifCond .ne 5, 3) := by decide +kernel
theorem dX9_by_21 : decode cX9_by 21 = .ok (.iconst 0, 1) := by decide +kernel
theorem dX9_by_22 : decode cX9_by 22 = .ok (.ireturn, 1) := by decide +kernel
theorem dX9_by_23 : decode cX9_by 23 = .ok (.aload_n 0, 1) := by decide +kernel
theorem dX9_by_24 : decode cX9_by 24 = .ok (.getfield 7, 3) := by decide +kernel
theorem dX9_by_27 : decode cX9_by 27 = .ok (.iconst 4, 1) := by decide +kernel
theorem dX9_by_28 : decode cX9_by 28 = .ok (.iload_n 1, 1) := by decide +kernel
theorem dX9_by_29 : decode cX9_by 29 = .ok (.iastore, 1) := by decide +kernel
theorem dX9_by_30 : decode cX9_by 30 = .ok (.iconst 1, 1) := by decide +kernel
theorem dX9_by_31 : decode cX9_by 31 = .ok (.ireturn, 1) := by decide +kernel
theorem dX9_ordersOf_0 : decode cX9_ordersOf 0 = .ok (.iconst (-1), 1) := by decide +kernel
theorem dX9_ordersOf_1 : decode cX9_ordersOf 1 = .ok (.istore_n 2, 1) := by decide +kernel
theorem dX9_ordersOf_2 : decode cX9_ordersOf 2 = .ok (.iconst 0, 1) := by decide +kernel
theorem dX9_ordersOf_3 : decode cX9_ordersOf 3 = .ok (.istore_n 3, 1) := by decide +kernel
theorem dX9_ordersOf_4 : decode cX9_ordersOf 4 = .ok (.aload_n 0, 1) := by decide +kernel
theorem dX9_ordersOf_5 : decode cX9_ordersOf 5 = .ok (.getfield 7, 3) := by decide +kernel
theorem dX9_ordersOf_8 : decode cX9_ordersOf 8 = .ok (.iconst 4, 1) := by decide +kernel
theorem dX9_ordersOf_9 : decode cX9_ordersOf 9 = .ok (.iaload, 1) := by decide +kernel
theorem dX9_ordersOf_10 : decode cX9_ordersOf 10 = .ok (.iconst (-1), 1) := by decide +kernel
theorem dX9_ordersOf_11 : decode cX9_ordersOf 11 = .ok (.if_icmp .eq 60, 3) := by decide +kernel
theorem dX9_ordersOf_14 : decode cX9_ordersOf 14 = .ok (.iload_n 3, 1) := by decide +kernel
theorem dX9_ordersOf_15 : decode cX9_ordersOf 15 = .ok (.aload_n 0, 1) := by decide +kernel
theorem dX9_ordersOf_16 : decode cX9_ordersOf 16 = .ok (.getfield 27, 3) := by decide +kernel
theorem dX9_ordersOf_19 : decode cX9_ordersOf 19 = .ok (.aload_n 0, 1) := by decide +kernel
theorem dX9_ordersOf_20 : decode cX9_ordersOf 20 = .ok (.getfield 7, 3) := by decide +kernel
theorem dX9_ordersOf_23 : decode cX9_ordersOf 23 = .ok (.iconst 4, 1) := by decide +kernel
theorem dX9_ordersOf_24 : decode cX9_ordersOf 24 = .ok (.iaload, 1) := by decide +kernel
theorem dX9_ordersOf_25 : decode cX9_ordersOf 25 = .ok (.iaload, 1) := by decide +kernel
theorem dX9_ordersOf_26 : decode cX9_ordersOf 26 = .ok (.if_icmp .ge 45, 3) := by decide +kernel
theorem dX9_ordersOf_29 : decode cX9_ordersOf 29 = .ok (.bipush 24, 2) := by decide +kernel
theorem dX9_ordersOf_31 : decode cX9_ordersOf 31 = .ok (.aload_n 0, 1) := by decide +kernel
theorem dX9_ordersOf_32 : decode cX9_ordersOf 32 = .ok (.getfield 7, 3) := by decide +kernel
theorem dX9_ordersOf_35 : decode cX9_ordersOf 35 = .ok (.iconst 4, 1) := by decide +kernel
theorem dX9_ordersOf_36 : decode cX9_ordersOf 36 = .ok (.iaload, 1) := by decide +kernel
theorem dX9_ordersOf_37 : decode cX9_ordersOf 37 = .ok (.imul, 1) := by decide +kernel
theorem dX9_ordersOf_38 : decode cX9_ordersOf 38 = .ok (.iload_n 3, 1) := by decide +kernel
theorem dX9_ordersOf_39 : decode cX9_ordersOf 39 = .ok (.iadd, 1) := by decide +kernel
theorem dX9_ordersOf_40 : decode cX9_ordersOf 40 = .ok (.istore 4, 2) := by decide +kernel
theorem dX9_ordersOf_42 : decode cX9_ordersOf 42 = .ok (.aload_n 0, 1) := by decide +kernel
theorem dX9_ordersOf_43 : decode cX9_ordersOf 43 = .ok (.getfield 30, 3) := by decide +kernel
theorem dX9_ordersOf_46 : decode cX9_ordersOf 46 = .ok (.iload 4, 2) := by decide +kernel
theorem dX9_ordersOf_48 : decode cX9_ordersOf 48 = .ok (.iaload, 1) := by decide +kernel
theorem dX9_ordersOf_49 : decode cX9_ordersOf 49 = .ok (.iload_n 1, 1) := by decide +kernel
theorem dX9_ordersOf_50 : decode cX9_ordersOf 50 = .ok (.if_icmp .ne 13, 3) := by decide +kernel
theorem dX9_ordersOf_53 : decode cX9_ordersOf 53 = .ok (.aload_n 0, 1) := by decide +kernel
theorem dX9_ordersOf_54 : decode cX9_ordersOf 54 = .ok (.getfield 33, 3) := by decide +kernel
theorem dX9_ordersOf_57 : decode cX9_ordersOf 57 = .ok (.iload 4, 2) := by decide +kernel
theorem dX9_ordersOf_59 : decode cX9_ordersOf 59 = .ok (.iaload, 1) := by decide +kernel
theorem dX9_ordersOf_60 : decode cX9_ordersOf 60 = .ok (.goto 4, 3) := by decide +kernel
theorem dX9_ordersOf_63 : decode cX9_ordersOf 63 = .ok (.iload_n 2, 1) := by decide +kernel
theorem dX9_ordersOf_64 : decode cX9_ordersOf 64 = .ok (.istore_n 2, 1) := by decide +kernel
theorem dX9_ordersOf_65 : decode cX9_ordersOf 65 = .ok (.iinc 3 1, 3) := by decide +kernel
theorem dX9_ordersOf_68 : decode cX9_ordersOf 68 = .ok (.goto (-64), 3) := by decide +kernel
theorem dX9_ordersOf_71 : decode cX9_ordersOf 71 = .ok (.iload_n 2, 1) := by decide +kernel
theorem dX9_ordersOf_72 : decode cX9_ordersOf 72 = .ok (.ireturn, 1) := by decide +kernel
set_option maxRecDepth 20000 in
theorem ggX9_names_X9_ofGoose : GoodIn wsX9_names wsX9_ofGoose := goodIn_r _ [6, 7, 8, 9, 10, 11, 12, 13, 14, 15, 16, 17, 18, 19, 20, 21, 22, 23, 24, 25, 26, 27, 28, 29, 30, 31, 32, 33, 34, 35, 36, 37, 38, 39, 40, 41, 42, 43, 44, 45, 46, 47, 48, 49, 50, 51, 52, 53, 54, 55, 56, 57, 58, 59, 60] (by decide +kernel) (by decide +kernel)
set_option maxRecDepth 20000 in
theorem gX9_names_X9_ofGoose : GoodIn wsX9_names (wsV RX9 138 RX9 yX9_ofGoose wsX9_ofGoose) := goodIn_app (goodIn_of _ (by decide +kernel)) ggX9_names_X9_ofGoose
theorem dX9_names_0 : decode cX9_names 0 = .ok (.aload_n 0, 1) := by decide +kernel
theorem dX9_names_1 : decode cX9_names 1 = .ok (.getfield 84, 3) := by decide +kernel
theorem dX9_names_4 : decode cX9_names 4 = .ok (.iconst 0, 1) := by decide +kernel
theorem dX9_names_5 : decode cX9_names 5 = .ok (.iload_n 1, 1) := by decide +kernel
theorem dX9_names_6 : decode cX9_names 6 = .ok (.iastore, 1) := by decide +kernel
theorem dX9_names_7 : decode cX9_names 7 = .ok (.aload_n 0, 1) := by decide +kernel
theorem dX9_names_8 : decode cX9_names 8 = .ok (.getfield 84, 3) := by decide +kernel
theorem dX9_names_11 : decode cX9_names 11 = .ok (.iconst 1, 1) := by decide +kernel
theorem dX9_names_12 : decode cX9_names 12 = .ok (.aload_n 0, 1) := by decide +kernel
theorem dX9_names_13 : decode cX9_names 13 = .ok (.iload_n 1, 1) := by decide +kernel
theorem dX9_names_14 : decode cX9_names 14 = .ok (.iconst 0, 1) := by decide +kernel
theorem dX9_names_15 : decode cX9_names 15 = .ok (.invokevirtual 138, 3) := by decide +kernel
theorem dX9_names_18 : decode cX9_names 18 = .ok (.iastore, 1) := by decide +kernel
theorem dX9_names_19 : decode cX9_names 19 = .ok (.aload_n 0, 1) := by decide +kernel
theorem dX9_names_20 : decode cX9_names 20 = .ok (.getfield 84, 3) := by decide +kernel
theorem dX9_names_23 : decode cX9_names 23 = .ok (.iconst 2, 1) := by decide +kernel
theorem dX9_names_24 : decode cX9_names 24 = .ok (.aload_n 0, 1) := by decide +kernel
theorem dX9_names_25 : decode cX9_names 25 = .ok (.iload_n 1, 1) := by decide +kernel
theorem dX9_names_26 : decode cX9_names 26 = .ok (.iconst 1, 1) := by decide +kernel
theorem dX9_names_27 : decode cX9_names 27 = .ok (.invokevirtual 138, 3) := by decide +kernel
theorem dX9_names_30 : decode cX9_names 30 = .ok (.iastore, 1) := by decide +kernel
theorem dX9_names_31 : decode cX9_names 31 = .ok (.aload_n 0, 1) := by decide +kernel
theorem dX9_names_32 : decode cX9_names 32 = .ok (.getfield 84, 3) := by decide +kernel
theorem dX9_names_35 : decode cX9_names 35 = .ok (.iconst 3, 1) := by decide +kernel
theorem dX9_names_36 : decode cX9_names 36 = .ok (.iload_n 2, 1) := by decide +kernel
theorem dX9_names_37 : decode cX9_names 37 = .ok (.iastore, 1) := by decide +kernel
theorem dX9_names_38 : decode cX9_names 38 = .ok (.aload_n 0, 1) := by decide +kernel
theorem dX9_names_39 : decode cX9_names 39 = .ok (.getfield 84, 3) := by decide +kernel
theorem dX9_names_42 : decode cX9_names 42 = .ok (.iconst 4, 1) := by decide +kernel
theorem dX9_names_43 : decode cX9_names 43 = .ok (.iload_n 3, 1) := by decide +kernel
theorem dX9_names_44 : decode cX9_names 44 = .ok (.iastore, 1) := by decide +kernel
theorem dX9_names_45 : decode cX9_names 45 = .ok (.aload_n 0, 1) := by decide +kernel
theorem dX9_names_46 : decode cX9_names 46 = .ok (.getfield 84, 3) := by decide +kernel
theorem dX9_names_49 : decode cX9_names 49 = .ok (.iconst 5, 1) := by decide +kernel
theorem dX9_names_50 : decode cX9_names 50 = .ok (.iload 4, 2) := by decide +kernel
theorem dX9_names_52 : decode cX9_names 52 = .ok (.iastore, 1) := by decide +kernel
theorem dX9_names_53 : decode cX9_names 53 = .ok (.return_, 1) := by decide +kernel
theorem dX9_held_0 : decode cX9_held 0 = .ok (.lload_n 0, 1) := by decide +kernel
theorem dX9_held_1 : decode cX9_held 1 = .ok (.iload_n 2, 1) := by decide +kernel
theorem dX9_held_2 : decode cX9_held 2 = .ok (.i2l, 1) := by decide +kernel
theorem dX9_held_3 : decode cX9_held 3 = .ok (.lcmp, 1) := by decide +kernel
theorem dX9_held_4 : decode cX9_held 4 = .ok (.ifCond .ge 7, 3) := by decide +kernel
theorem dX9_held_7 : decode cX9_held 7 = .ok (.iload_n 2, 1) := by decide +kernel
theorem dX9_held_8 : decode cX9_held 8 = .ok (.goto 16, 3) := by decide +kernel
theorem dX9_held_11 : decode cX9_held 11 = .ok (.lload_n 0, 1) := by decide +kernel
theorem dX9_held_12 : decode cX9_held 12 = .ok (.iload_n 3, 1) := by decide +kernel
theorem dX9_held_13 : decode cX9_held 13 = .ok (.i2l, 1) := by decide +kernel
theorem dX9_held_14 : decode cX9_held 14 = .ok (.lcmp, 1) := by decide +kernel
theorem dX9_held_15 : decode cX9_held 15 = .ok (.ifCond .le 7, 3) := by decide +kernel
theorem dX9_held_18 : decode cX9_held 18 = .ok (.iload_n 3, 1) := by decide +kernel
theorem dX9_held_19 : decode cX9_held 19 = .ok (.goto 5, 3) := by decide +kernel
theorem dX9_held_22 : decode cX9_held 22 = .ok (.lload_n 0, 1) := by decide +kernel
theorem dX9_held_23 : decode cX9_held 23 = .ok (.l2i, 1) := by decide +kernel
theorem dX9_held_24 : decode cX9_held 24 = .ok (.ireturn, 1) := by decide +kernel
set_option maxRecDepth 20000 in
theorem ggX9_inkOf_X9_ordersOf : GoodIn wsX9_inkOf wsX9_ordersOf := goodIn_r _ [6, 1, 7, 8, 9, 37, 38, 39, 40, 41, 42, 43, 44, 45, 46, 47, 48, 49, 50, 51, 52, 53, 54, 55, 56, 57, 58, 59, 60, 61, 62, 63, 64, 65, 66, 67, 68, 69, 70, 71, 72, 73, 74, 75, 76, 77, 78, 79, 80, 81, 82, 83, 84, 85, 86, 87, 88, 89] (by decide +kernel) (by decide +kernel)
set_option maxRecDepth 20000 in
theorem gX9_inkOf_X9_ordersOf : GoodIn wsX9_inkOf (wsV RX9 350 RX9 yX9_ordersOf wsX9_ordersOf) := goodIn_app (goodIn_of _ (by decide +kernel)) ggX9_inkOf_X9_ordersOf
set_option maxRecDepth 20000 in
theorem ggX9_inkOf_X9_names : GoodIn wsX9_inkOf wsX9_names := goodIn_r _ [13, 14, 15, 16, 17, 5, 18, 1, 37, 38, 39, 40, 41, 42, 43, 44, 45, 46, 47, 48, 49, 50, 51, 52, 53, 54, 55, 56, 57, 58, 59, 60, 61, 62, 63, 64, 65, 66, 67, 68, 69, 70, 71, 72, 73, 74, 75, 76, 77, 78, 79, 80, 81, 82, 83, 84, 85, 86, 87, 88, 89] (by decide +kernel) (by decide +kernel)
set_option maxRecDepth 20000 in
theorem gX9_inkOf_X9_names : GoodIn wsX9_inkOf (wsV RX9 353 RX9 yX9_names wsX9_names) := goodIn_app (goodIn_of _ (by decide +kernel)) ggX9_inkOf_X9_names
set_option maxRecDepth 20000 in
theorem ggX9_inkOf_X9_saysOf : GoodIn wsX9_inkOf wsX9_saysOf := goodIn_r _ [22, 23, 24, 25, 14, 26, 27, 5, 28, 29, 30, 31, 32, 33, 37, 38, 39, 40, 41, 42, 43, 44, 45, 46, 47, 48, 49, 50, 51, 52, 53, 54, 55, 56, 57, 58, 59, 60, 61, 62, 63, 64, 65, 66, 67, 68, 69, 70, 71, 72, 73, 74, 75, 76, 77, 78, 79, 80, 81, 82, 83, 84, 85, 86, 87, 88, 89] (by decide +kernel) (by decide +kernel)
set_option maxRecDepth 20000 in
theorem gX9_inkOf_X9_saysOf : GoodIn wsX9_inkOf (wsV RX9 356 RX9 yX9_saysOf wsX9_saysOf) := goodIn_app (goodIn_of _ (by decide +kernel)) ggX9_inkOf_X9_saysOf
set_option maxRecDepth 20000 in
theorem ggX9_inkOf_X9_held : GoodIn wsX9_inkOf wsX9_held := goodIn_r _ [36] (by decide +kernel) (by decide +kernel)
set_option maxRecDepth 20000 in
theorem gX9_inkOf_X9_held : GoodIn wsX9_inkOf (va_wsS RX9 360 yX9_held wsX9_held) := goodIn_app (goodIn_of _ (by decide +kernel)) ggX9_inkOf_X9_held
theorem dX9_inkOf_0 : decode cX9_inkOf 0 = .ok (.aload_n 0, 1) := by decide +kernel
theorem dX9_inkOf_1 : decode cX9_inkOf 1 = .ok (.iconst 2, 1) := by decide +kernel
theorem dX9_inkOf_2 : decode cX9_inkOf 2 = .ok (.invokevirtual 350, 3) := by decide +kernel
theorem dX9_inkOf_5 : decode cX9_inkOf 5 = .ok (.istore 4, 2) := by decide +kernel
theorem dX9_inkOf_7 : decode cX9_inkOf 7 = .ok (.iload 4, 2) := by decide +kernel
theorem dX9_inkOf_9 : decode cX9_inkOf 9 = .ok (.iconst (-1), 1) := by decide +kernel
theorem dX9_inkOf_10 : decode cX9_inkOf 10 = .ok (.if_icmp .ne 5, 3) := by decide +kernel
theorem dX9_inkOf_13 : decode cX9_inkOf 13 = .ok (.iconst 1, 1) := by decide +kernel
theorem dX9_inkOf_14 : decode cX9_inkOf 14 = .ok (.ireturn, 1) := by decide +kernel
theorem dX9_inkOf_15 : decode cX9_inkOf 15 = .ok (.aload_n 0, 1) := by decide +kernel
theorem dX9_inkOf_16 : decode cX9_inkOf 16 = .ok (.iload_n 1, 1) := by decide +kernel
theorem dX9_inkOf_17 : decode cX9_inkOf 17 = .ok (.iload_n 2, 1) := by decide +kernel
theorem dX9_inkOf_18 : decode cX9_inkOf 18 = .ok (.iload_n 3, 1) := by decide +kernel
theorem dX9_inkOf_19 : decode cX9_inkOf 19 = .ok (.aload_n 0, 1) := by decide +kernel
theorem dX9_inkOf_20 : decode cX9_inkOf 20 = .ok (.getfield 7, 3) := by decide +kernel
theorem dX9_inkOf_23 : decode cX9_inkOf 23 = .ok (.bipush 121, 2) := by decide +kernel
theorem dX9_inkOf_25 : decode cX9_inkOf 25 = .ok (.iaload, 1) := by decide +kernel
theorem dX9_inkOf_26 : decode cX9_inkOf 26 = .ok (.invokevirtual 353, 3) := by decide +kernel
theorem dX9_inkOf_29 : decode cX9_inkOf 29 = .ok (.aload_n 0, 1) := by decide +kernel
theorem dX9_inkOf_30 : decode cX9_inkOf 30 = .ok (.iload 4, 2) := by decide +kernel
theorem dX9_inkOf_32 : decode cX9_inkOf 32 = .ok (.invokevirtual 356, 3) := by decide +kernel
theorem dX9_inkOf_35 : decode cX9_inkOf 35 = .ok (.iconst 0, 1) := by decide +kernel
theorem dX9_inkOf_36 : decode cX9_inkOf 36 = .ok (.bipush 99, 2) := by decide +kernel
theorem dX9_inkOf_38 : decode cX9_inkOf 38 = .ok (.invokestatic 360, 3) := by decide +kernel
theorem dX9_inkOf_41 : decode cX9_inkOf 41 = .ok (.ireturn, 1) := by decide +kernel
set_option maxRecDepth 20000 in
theorem ggX9_ink_X9_isGoose : GoodIn wsX9_ink wsX9_isGoose := goodIn_r _ [5, 6, 7, 8, 4, 9, 51, 52, 53, 54, 55, 56, 57, 58, 59, 60, 61, 62, 63, 64, 65, 66, 67, 68, 69, 70, 71, 72, 73, 74, 75, 76, 77, 78, 79, 80, 81, 82, 83, 84, 85, 86, 87, 88, 89, 90, 91, 92, 93, 94, 95, 96, 97, 98, 99, 100, 101, 102, 103] (by decide +kernel) (by decide +kernel)
set_option maxRecDepth 20000 in
theorem gX9_ink_X9_isGoose : GoodIn wsX9_ink (wsV RX9 134 RX9 yX9_isGoose wsX9_isGoose) := goodIn_app (goodIn_of _ (by decide +kernel)) ggX9_ink_X9_isGoose
set_option maxRecDepth 20000 in
theorem ggX9_ink_X9_isQuill : GoodIn wsX9_ink wsX9_isQuill := goodIn_r _ [12, 7, 8, 4, 9] (by decide +kernel) (by decide +kernel)
set_option maxRecDepth 20000 in
theorem gX9_ink_X9_isQuill : GoodIn wsX9_ink (va_wsS RX9 145 yX9_isQuill wsX9_isQuill) := goodIn_app (goodIn_of _ (by decide +kernel)) ggX9_ink_X9_isQuill
set_option maxRecDepth 20000 in
theorem ggX9_ink_X9_inkOf : GoodIn wsX9_ink wsX9_inkOf := goodIn_r _ [16, 6, 17, 18, 19, 4, 20, 21, 22, 23, 24, 25, 26, 27, 28, 29, 30, 31, 32, 33, 34, 35, 36, 37, 38, 39, 40, 41, 42, 43, 44, 45, 46, 47, 48, 49, 50, 51, 52, 53, 54, 55, 56, 57, 58, 59, 60, 61, 62, 63, 64, 65, 66, 67, 68, 69, 70, 71, 72, 73, 74, 75, 76, 77, 78, 79, 80, 81, 82, 83, 84, 85, 86, 87, 88, 89, 90, 91, 92, 93, 94, 95, 96, 97, 98, 99, 100, 101, 102, 103] (by decide +kernel) (by decide +kernel)
set_option maxRecDepth 20000 in
theorem gX9_ink_X9_inkOf : GoodIn wsX9_ink (wsV RX9 149 RX9 yX9_inkOf wsX9_inkOf) := goodIn_app (goodIn_of _ (by decide +kernel)) ggX9_ink_X9_inkOf
theorem dX9_ink_0 : decode cX9_ink 0 = .ok (.aload_n 0, 1) := by decide +kernel
theorem dX9_ink_1 : decode cX9_ink 1 = .ok (.iload_n 1, 1) := by decide +kernel
theorem dX9_ink_2 : decode cX9_ink 2 = .ok (.invokevirtual 134, 3) := by decide +kernel
theorem dX9_ink_5 : decode cX9_ink 5 = .ok (.ifCond .eq 21, 3) := by decide +kernel
theorem dX9_ink_8 : decode cX9_ink 8 = .ok (.iload_n 2, 1) := by decide +kernel
theorem dX9_ink_9 : decode cX9_ink 9 = .ok (.iload_n 3, 1) := by decide +kernel
theorem dX9_ink_10 : decode cX9_ink 10 = .ok (.invokestatic 145, 3) := by decide +kernel
theorem dX9_ink_13 : decode cX9_ink 13 = .ok (.ifCond .eq 13, 3) := by decide +kernel
theorem dX9_ink_16 : decode cX9_ink 16 = .ok (.aload_n 0, 1) := by decide +kernel
theorem dX9_ink_17 : decode cX9_ink 17 = .ok (.iload_n 1, 1) := by decide +kernel
theorem dX9_ink_18 : decode cX9_ink 18 = .ok (.iload_n 2, 1) := by decide +kernel
theorem dX9_ink_19 : decode cX9_ink 19 = .ok (.iload_n 3, 1) := by decide +kernel
theorem dX9_ink_20 : decode cX9_ink 20 = .ok (.invokevirtual 149, 3) := by decide +kernel
theorem dX9_ink_23 : decode cX9_ink 23 = .ok (.goto 4, 3) := by decide +kernel
theorem dX9_ink_26 : decode cX9_ink 26 = .ok (.iconst (-1), 1) := by decide +kernel
theorem dX9_ink_27 : decode cX9_ink 27 = .ok (.ireturn, 1) := by decide +kernel
set_option maxRecDepth 20000 in
theorem ggX9_marketTells_X9_ordersOf : GoodIn wsX9_marketTells wsX9_ordersOf := goodIn_r _ [7, 1, 8, 9, 10, 37, 38, 39, 40, 41, 42, 43, 44, 45, 46, 47, 48, 49, 50, 51, 52, 53, 54, 55, 56, 57, 58, 59, 60, 61, 62, 63, 64, 65, 66, 67, 68, 69, 70, 71, 72, 73, 74, 75, 76, 77, 78, 79, 80, 81, 82, 83, 84, 85, 86, 87, 88, 89] (by decide +kernel) (by decide +kernel)
set_option maxRecDepth 20000 in
theorem gX9_marketTells_X9_ordersOf : GoodIn wsX9_marketTells (wsV RX9 350 RX9 yX9_ordersOf wsX9_ordersOf) := goodIn_app (goodIn_of _ (by decide +kernel)) ggX9_marketTells_X9_ordersOf
set_option maxRecDepth 20000 in
theorem ggX9_marketTells_X9_names : GoodIn wsX9_marketTells wsX9_names := goodIn_r _ [14, 2, 15, 16, 17, 6, 18, 1, 37, 38, 39, 40, 41, 42, 43, 44, 45, 46, 47, 48, 49, 50, 51, 52, 53, 54, 55, 56, 57, 58, 59, 60, 61, 62, 63, 64, 65, 66, 67, 68, 69, 70, 71, 72, 73, 74, 75, 76, 77, 78, 79, 80, 81, 82, 83, 84, 85, 86, 87, 88, 89] (by decide +kernel) (by decide +kernel)
set_option maxRecDepth 20000 in
theorem gX9_marketTells_X9_names : GoodIn wsX9_marketTells (wsV RX9 353 RX9 yX9_names wsX9_names) := goodIn_app (goodIn_of _ (by decide +kernel)) ggX9_marketTells_X9_names
set_option maxRecDepth 20000 in
theorem ggX9_marketTells_X9_saysOf : GoodIn wsX9_marketTells wsX9_saysOf := goodIn_r _ [22, 23, 24, 25, 2, 26, 27, 6, 28, 29, 30, 31, 32, 33, 37, 38, 39, 40, 41, 42, 43, 44, 45, 46, 47, 48, 49, 50, 51, 52, 53, 54, 55, 56, 57, 58, 59, 60, 61, 62, 63, 64, 65, 66, 67, 68, 69, 70, 71, 72, 73, 74, 75, 76, 77, 78, 79, 80, 81, 82, 83, 84, 85, 86, 87, 88, 89] (by decide +kernel) (by decide +kernel)
set_option maxRecDepth 20000 in
theorem gX9_marketTells_X9_saysOf : GoodIn wsX9_marketTells (wsV RX9 356 RX9 yX9_saysOf wsX9_saysOf) := goodIn_app (goodIn_of _ (by decide +kernel)) ggX9_marketTells_X9_saysOf
set_option maxRecDepth 20000 in
theorem ggX9_marketTells_X9_held : GoodIn wsX9_marketTells wsX9_held := goodIn_r _ [36] (by decide +kernel) (by decide +kernel)
set_option maxRecDepth 20000 in
theorem gX9_marketTells_X9_held : GoodIn wsX9_marketTells (va_wsS RX9 360 yX9_held wsX9_held) := goodIn_app (goodIn_of _ (by decide +kernel)) ggX9_marketTells_X9_held
theorem dX9_marketTells_0 : decode cX9_marketTells 0 = .ok (.aload_n 0, 1) := by decide +kernel
theorem dX9_marketTells_1 : decode cX9_marketTells 1 = .ok (.getfield 7, 3) := by decide +kernel
theorem dX9_marketTells_4 : decode cX9_marketTells 4 = .ok (.bipush 10, 2) := by decide +kernel
theorem dX9_marketTells_6 : decode cX9_marketTells 6 = .ok (.iconst 3, 1) := by decide +kernel
theorem dX9_marketTells_7 : decode cX9_marketTells 7 = .ok (.iload 5, 2) := by decide +kernel
theorem dX9_marketTells_9 : decode cX9_marketTells 9 = .ok (.imul, 1) := by decide +kernel
theorem dX9_marketTells_10 : decode cX9_marketTells 10 = .ok (.iadd, 1) := by decide +kernel
theorem dX9_marketTells_11 : decode cX9_marketTells 11 = .ok (.iconst 1, 1) := by decide +kernel
theorem dX9_marketTells_12 : decode cX9_marketTells 12 = .ok (.iadd, 1) := by decide +kernel
theorem dX9_marketTells_13 : decode cX9_marketTells 13 = .ok (.iaload, 1) := by decide +kernel
theorem dX9_marketTells_14 : decode cX9_marketTells 14 = .ok (.istore 7, 2) := by decide +kernel
theorem dX9_marketTells_16 : decode cX9_marketTells 16 = .ok (.aload_n 0, 1) := by decide +kernel
theorem dX9_marketTells_17 : decode cX9_marketTells 17 = .ok (.getfield 7, 3) := by decide +kernel
theorem dX9_marketTells_20 : decode cX9_marketTells 20 = .ok (.bipush 10, 2) := by decide +kernel
theorem dX9_marketTells_22 : decode cX9_marketTells 22 = .ok (.iconst 3, 1) := by decide +kernel
theorem dX9_marketTells_23 : decode cX9_marketTells 23 = .ok (.iload 5, 2) := by decide +kernel
theorem dX9_marketTells_25 : decode cX9_marketTells 25 = .ok (.imul, 1) := by decide +kernel
theorem dX9_marketTells_26 : decode cX9_marketTells 26 = .ok (.iadd, 1) := by decide +kernel
theorem dX9_marketTells_27 : decode cX9_marketTells 27 = .ok (.iconst 2, 1) := by decide +kernel
theorem dX9_marketTells_28 : decode cX9_marketTells 28 = .ok (.iadd, 1) := by decide +kernel
theorem dX9_marketTells_29 : decode cX9_marketTells 29 = .ok (.iaload, 1) := by decide +kernel
theorem dX9_marketTells_30 : decode cX9_marketTells 30 = .ok (.istore 8, 2) := by decide +kernel
theorem dX9_marketTells_32 : decode cX9_marketTells 32 = .ok (.aload_n 0, 1) := by decide +kernel
theorem dX9_marketTells_33 : decode cX9_marketTells 33 = .ok (.iload_n 1, 1) := by decide +kernel
theorem dX9_marketTells_34 : decode cX9_marketTells 34 = .ok (.invokevirtual 350, 3) := by decide +kernel
theorem dX9_marketTells_37 : decode cX9_marketTells 37 = .ok (.istore 9, 2) := by decide +kernel
theorem dX9_marketTells_39 : decode cX9_marketTells 39 = .ok (.iload 9, 2) := by decide +kernel
theorem dX9_marketTells_41 : decode cX9_marketTells 41 = .ok (.iconst (-1), 1) := by decide +kernel
theorem dX9_marketTells_42 : decode cX9_marketTells 42 = .ok (.if_icmp .ne 15, 3) := by decide +kernel
theorem dX9_marketTells_45 : decode cX9_marketTells 45 = .ok (.iload_n 1, 1) := by decide +kernel
theorem dX9_marketTells_46 : decode cX9_marketTells 46 = .ok (.ifCond .ne 8, 3) := by decide +kernel
theorem dX9_marketTells_49 : decode cX9_marketTells 49 = .ok (.iload 7, 2) := by decide +kernel
theorem dX9_marketTells_51 : decode cX9_marketTells 51 = .ok (.goto 5, 3) := by decide +kernel
theorem dX9_marketTells_54 : decode cX9_marketTells 54 = .ok (.iload 8, 2) := by decide +kernel
theorem dX9_marketTells_56 : decode cX9_marketTells 56 = .ok (.ireturn, 1) := by decide +kernel
theorem dX9_marketTells_57 : decode cX9_marketTells 57 = .ok (.aload_n 0, 1) := by decide +kernel
theorem dX9_marketTells_58 : decode cX9_marketTells 58 = .ok (.iload_n 2, 1) := by decide +kernel
theorem dX9_marketTells_59 : decode cX9_marketTells 59 = .ok (.iload_n 3, 1) := by decide +kernel
theorem dX9_marketTells_60 : decode cX9_marketTells 60 = .ok (.iload 4, 2) := by decide +kernel
theorem dX9_marketTells_62 : decode cX9_marketTells 62 = .ok (.iload 6, 2) := by decide +kernel
theorem dX9_marketTells_64 : decode cX9_marketTells 64 = .ok (.invokevirtual 353, 3) := by decide +kernel
theorem dX9_marketTells_67 : decode cX9_marketTells 67 = .ok (.aload_n 0, 1) := by decide +kernel
theorem dX9_marketTells_68 : decode cX9_marketTells 68 = .ok (.getfield 84, 3) := by decide +kernel
theorem dX9_marketTells_71 : decode cX9_marketTells 71 = .ok (.bipush 6, 2) := by decide +kernel
theorem dX9_marketTells_73 : decode cX9_marketTells 73 = .ok (.iload 5, 2) := by decide +kernel
theorem dX9_marketTells_75 : decode cX9_marketTells 75 = .ok (.iastore, 1) := by decide +kernel
theorem dX9_marketTells_76 : decode cX9_marketTells 76 = .ok (.aload_n 0, 1) := by decide +kernel
theorem dX9_marketTells_77 : decode cX9_marketTells 77 = .ok (.getfield 84, 3) := by decide +kernel
theorem dX9_marketTells_80 : decode cX9_marketTells 80 = .ok (.bipush 7, 2) := by decide +kernel
theorem dX9_marketTells_82 : decode cX9_marketTells 82 = .ok (.iload 7, 2) := by decide +kernel
theorem dX9_marketTells_84 : decode cX9_marketTells 84 = .ok (.iastore, 1) := by decide +kernel
theorem dX9_marketTells_85 : decode cX9_marketTells 85 = .ok (.aload_n 0, 1) := by decide +kernel
theorem dX9_marketTells_86 : decode cX9_marketTells 86 = .ok (.getfield 84, 3) := by decide +kernel
theorem dX9_marketTells_89 : decode cX9_marketTells 89 = .ok (.bipush 8, 2) := by decide +kernel
theorem dX9_marketTells_91 : decode cX9_marketTells 91 = .ok (.iload 8, 2) := by decide +kernel
theorem dX9_marketTells_93 : decode cX9_marketTells 93 = .ok (.iastore, 1) := by decide +kernel
theorem dX9_marketTells_94 : decode cX9_marketTells 94 = .ok (.aload_n 0, 1) := by decide +kernel
theorem dX9_marketTells_95 : decode cX9_marketTells 95 = .ok (.iload 9, 2) := by decide +kernel
theorem dX9_marketTells_97 : decode cX9_marketTells 97 = .ok (.invokevirtual 356, 3) := by decide +kernel
theorem dX9_marketTells_100 : decode cX9_marketTells 100 = .ok (.iconst 0, 1) := by decide +kernel
theorem dX9_marketTells_101 : decode cX9_marketTells 101 = .ok (.bipush 10, 2) := by decide +kernel
theorem dX9_marketTells_103 : decode cX9_marketTells 103 = .ok (.invokestatic 360, 3) := by decide +kernel
theorem dX9_marketTells_106 : decode cX9_marketTells 106 = .ok (.ireturn, 1) := by decide +kernel
set_option maxRecDepth 20000 in
theorem ggX9_marketOf_X9_ofGoose : GoodIn wsX9_marketOf wsX9_ofGoose := goodIn_r _ [5, 6, 41, 42, 43, 44, 45, 46, 47, 48, 49, 50, 51, 52, 53, 54, 55, 56, 57, 58, 59, 60, 61, 62, 63, 64, 65, 66, 67, 68, 69, 70, 71, 72, 73, 74, 75, 76, 77, 78, 79, 80, 81, 82, 83, 84, 85, 86, 87, 88, 89, 90, 91, 92, 93] (by decide +kernel) (by decide +kernel)
set_option maxRecDepth 20000 in
theorem gX9_marketOf_X9_ofGoose : GoodIn wsX9_marketOf (wsV RX9 138 RX9 yX9_ofGoose wsX9_ofGoose) := goodIn_app (goodIn_of _ (by decide +kernel)) ggX9_marketOf_X9_ofGoose
set_option maxRecDepth 20000 in
theorem ggX9_marketOf_X9_marketTells : GoodIn wsX9_marketOf wsX9_marketTells := goodIn_r _ [10, 6, 11, 12, 13, 14, 4, 15, 16, 17, 18, 19, 20, 21, 22, 1, 2, 3, 5, 23, 24, 25, 26, 27, 28, 29, 30, 31, 32, 33, 34, 35, 36, 37, 38, 39, 40, 41, 42, 43, 44, 45, 46, 47, 48, 49, 50, 51, 52, 53, 54, 55, 56, 57, 58, 59, 60, 61, 62, 63, 64, 65, 66, 67, 68, 69, 70, 71, 72, 73, 74, 75, 76, 77, 78, 79, 80, 81, 82, 83, 84, 85, 86, 87, 88, 89, 90, 91, 92, 93] (by decide +kernel) (by decide +kernel)
set_option maxRecDepth 20000 in
theorem gX9_marketOf_X9_marketTells : GoodIn wsX9_marketOf (wsV RX9 364 RX9 yX9_marketTells wsX9_marketTells) := goodIn_app (goodIn_of _ (by decide +kernel)) ggX9_marketOf_X9_marketTells
theorem dX9_marketOf_0 : decode cX9_marketOf 0 = .ok (.aload_n 0, 1) := by decide +kernel
theorem dX9_marketOf_1 : decode cX9_marketOf 1 = .ok (.iload_n 1, 1) := by decide +kernel
theorem dX9_marketOf_2 : decode cX9_marketOf 2 = .ok (.iload_n 2, 1) := by decide +kernel
theorem dX9_marketOf_3 : decode cX9_marketOf 3 = .ok (.aload_n 0, 1) := by decide +kernel
theorem dX9_marketOf_4 : decode cX9_marketOf 4 = .ok (.iload_n 2, 1) := by decide +kernel
theorem dX9_marketOf_5 : decode cX9_marketOf 5 = .ok (.iconst 2, 1) := by decide +kernel
theorem dX9_marketOf_6 : decode cX9_marketOf 6 = .ok (.invokevirtual 138, 3) := by decide +kernel
theorem dX9_marketOf_9 : decode cX9_marketOf 9 = .ok (.aload_n 0, 1) := by decide +kernel
theorem dX9_marketOf_10 : decode cX9_marketOf 10 = .ok (.iload_n 2, 1) := by decide +kernel
theorem dX9_marketOf_11 : decode cX9_marketOf 11 = .ok (.iconst 3, 1) := by decide +kernel
theorem dX9_marketOf_12 : decode cX9_marketOf 12 = .ok (.invokevirtual 138, 3) := by decide +kernel
theorem dX9_marketOf_15 : decode cX9_marketOf 15 = .ok (.aload_n 0, 1) := by decide +kernel
theorem dX9_marketOf_16 : decode cX9_marketOf 16 = .ok (.iload_n 2, 1) := by decide +kernel
theorem dX9_marketOf_17 : decode cX9_marketOf 17 = .ok (.iconst 5, 1) := by decide +kernel
theorem dX9_marketOf_18 : decode cX9_marketOf 18 = .ok (.invokevirtual 138, 3) := by decide +kernel
theorem dX9_marketOf_21 : decode cX9_marketOf 21 = .ok (.aload_n 0, 1) := by decide +kernel
theorem dX9_marketOf_22 : decode cX9_marketOf 22 = .ok (.iload_n 2, 1) := by decide +kernel
theorem dX9_marketOf_23 : decode cX9_marketOf 23 = .ok (.bipush 6, 2) := by decide +kernel
theorem dX9_marketOf_25 : decode cX9_marketOf 25 = .ok (.invokevirtual 138, 3) := by decide +kernel
theorem dX9_marketOf_28 : decode cX9_marketOf 28 = .ok (.invokevirtual 364, 3) := by decide +kernel
theorem dX9_marketOf_31 : decode cX9_marketOf 31 = .ok (.ireturn, 1) := by decide +kernel
set_option maxRecDepth 20000 in
theorem ggX9_isTrueBy_X9_ordersOf : GoodIn wsX9_isTrueBy wsX9_ordersOf := goodIn_r _ [7, 1, 8, 9, 10, 34, 35, 36, 37, 38, 39, 40, 41, 42, 43, 44, 45, 46, 47, 48, 49, 50, 51, 52, 53, 54, 55, 56, 57, 58, 59, 60, 61, 62, 63, 64, 65, 66, 67, 68, 69, 70, 71, 72, 73, 74, 75, 76, 77, 78, 79, 80, 81, 82, 83, 84, 85, 86] (by decide +kernel) (by decide +kernel)
set_option maxRecDepth 20000 in
theorem gX9_isTrueBy_X9_ordersOf : GoodIn wsX9_isTrueBy (wsV RX9 350 RX9 yX9_ordersOf wsX9_ordersOf) := goodIn_app (goodIn_of _ (by decide +kernel)) ggX9_isTrueBy_X9_ordersOf
set_option maxRecDepth 20000 in
theorem ggX9_isTrueBy_X9_names : GoodIn wsX9_isTrueBy wsX9_names := goodIn_r _ [14, 2, 15, 16, 17, 6, 18, 1, 34, 35, 36, 37, 38, 39, 40, 41, 42, 43, 44, 45, 46, 47, 48, 49, 50, 51, 52, 53, 54, 55, 56, 57, 58, 59, 60, 61, 62, 63, 64, 65, 66, 67, 68, 69, 70, 71, 72, 73, 74, 75, 76, 77, 78, 79, 80, 81, 82, 83, 84, 85, 86] (by decide +kernel) (by decide +kernel)
set_option maxRecDepth 20000 in
theorem gX9_isTrueBy_X9_names : GoodIn wsX9_isTrueBy (wsV RX9 353 RX9 yX9_names wsX9_names) := goodIn_app (goodIn_of _ (by decide +kernel)) ggX9_isTrueBy_X9_names
set_option maxRecDepth 20000 in
theorem ggX9_isTrueBy_X9_saysOf : GoodIn wsX9_isTrueBy wsX9_saysOf := goodIn_r _ [22, 23, 24, 25, 2, 26, 27, 6, 28, 29, 30, 31, 32, 33, 34, 35, 36, 37, 38, 39, 40, 41, 42, 43, 44, 45, 46, 47, 48, 49, 50, 51, 52, 53, 54, 55, 56, 57, 58, 59, 60, 61, 62, 63, 64, 65, 66, 67, 68, 69, 70, 71, 72, 73, 74, 75, 76, 77, 78, 79, 80, 81, 82, 83, 84, 85, 86] (by decide +kernel) (by decide +kernel)
set_option maxRecDepth 20000 in
theorem gX9_isTrueBy_X9_saysOf : GoodIn wsX9_isTrueBy (wsV RX9 356 RX9 yX9_saysOf wsX9_saysOf) := goodIn_app (goodIn_of _ (by decide +kernel)) ggX9_isTrueBy_X9_saysOf
theorem dX9_isTrueBy_0 : decode cX9_isTrueBy 0 = .ok (.aload_n 0, 1) := by decide +kernel
theorem dX9_isTrueBy_1 : decode cX9_isTrueBy 1 = .ok (.iconst 3, 1) := by decide +kernel
theorem dX9_isTrueBy_2 : decode cX9_isTrueBy 2 = .ok (.invokevirtual 350, 3) := by decide +kernel
theorem dX9_isTrueBy_5 : decode cX9_isTrueBy 5 = .ok (.istore 5, 2) := by decide +kernel
theorem dX9_isTrueBy_7 : decode cX9_isTrueBy 7 = .ok (.iload 5, 2) := by decide +kernel
theorem dX9_isTrueBy_9 : decode cX9_isTrueBy 9 = .ok (.iconst (-1), 1) := by decide +kernel
theorem dX9_isTrueBy_10 : decode cX9_isTrueBy 10 = .ok (.if_icmp .ne 5, 3) := by decide +kernel
theorem dX9_isTrueBy_13 : decode cX9_isTrueBy 13 = .ok (.iconst 1, 1) := by decide +kernel
theorem dX9_isTrueBy_14 : decode cX9_isTrueBy 14 = .ok (.ireturn, 1) := by decide +kernel
theorem dX9_isTrueBy_15 : decode cX9_isTrueBy 15 = .ok (.aload_n 0, 1) := by decide +kernel
theorem dX9_isTrueBy_16 : decode cX9_isTrueBy 16 = .ok (.iload_n 1, 1) := by decide +kernel
theorem dX9_isTrueBy_17 : decode cX9_isTrueBy 17 = .ok (.iload_n 2, 1) := by decide +kernel
theorem dX9_isTrueBy_18 : decode cX9_isTrueBy 18 = .ok (.iload_n 3, 1) := by decide +kernel
theorem dX9_isTrueBy_19 : decode cX9_isTrueBy 19 = .ok (.aload_n 0, 1) := by decide +kernel
theorem dX9_isTrueBy_20 : decode cX9_isTrueBy 20 = .ok (.getfield 7, 3) := by decide +kernel
theorem dX9_isTrueBy_23 : decode cX9_isTrueBy 23 = .ok (.bipush 121, 2) := by decide +kernel
theorem dX9_isTrueBy_25 : decode cX9_isTrueBy 25 = .ok (.iaload, 1) := by decide +kernel
theorem dX9_isTrueBy_26 : decode cX9_isTrueBy 26 = .ok (.invokevirtual 353, 3) := by decide +kernel
theorem dX9_isTrueBy_29 : decode cX9_isTrueBy 29 = .ok (.aload_n 0, 1) := by decide +kernel
theorem dX9_isTrueBy_30 : decode cX9_isTrueBy 30 = .ok (.getfield 84, 3) := by decide +kernel
theorem dX9_isTrueBy_33 : decode cX9_isTrueBy 33 = .ok (.iconst 2, 1) := by decide +kernel
theorem dX9_isTrueBy_34 : decode cX9_isTrueBy 34 = .ok (.iload 4, 2) := by decide +kernel
theorem dX9_isTrueBy_36 : decode cX9_isTrueBy 36 = .ok (.iastore, 1) := by decide +kernel
theorem dX9_isTrueBy_37 : decode cX9_isTrueBy 37 = .ok (.aload_n 0, 1) := by decide +kernel
theorem dX9_isTrueBy_38 : decode cX9_isTrueBy 38 = .ok (.iload 5, 2) := by decide +kernel
theorem dX9_isTrueBy_40 : decode cX9_isTrueBy 40 = .ok (.invokevirtual 356, 3) := by decide +kernel
theorem dX9_isTrueBy_43 : decode cX9_isTrueBy 43 = .ok (.lconst 0, 1) := by decide +kernel
theorem dX9_isTrueBy_44 : decode cX9_isTrueBy 44 = .ok (.lcmp, 1) := by decide +kernel
theorem dX9_isTrueBy_45 : decode cX9_isTrueBy 45 = .ok (.ifCond .le 7, 3) := by decide +kernel
theorem dX9_isTrueBy_48 : decode cX9_isTrueBy 48 = .ok (.iconst 1, 1) := by decide +kernel
theorem dX9_isTrueBy_49 : decode cX9_isTrueBy 49 = .ok (.goto 4, 3) := by decide +kernel
theorem dX9_isTrueBy_52 : decode cX9_isTrueBy 52 = .ok (.iconst 0, 1) := by decide +kernel
theorem dX9_isTrueBy_53 : decode cX9_isTrueBy 53 = .ok (.ireturn, 1) := by decide +kernel
set_option maxRecDepth 20000 in
theorem ggX9_isTrue_X9_ofGoose : GoodIn wsX9_isTrue wsX9_ofGoose := goodIn_r _ [5, 6, 38, 39, 40, 41, 42, 43, 44, 45, 46, 47, 48, 49, 50, 51, 52, 53, 54, 55, 56, 57, 58, 59, 60, 61, 62, 63, 64, 65, 66, 67, 68, 69, 70, 71, 72, 73, 74, 75, 76, 77, 78, 79, 80, 81, 82, 83, 84, 85, 86, 87, 88, 89, 90] (by decide +kernel) (by decide +kernel)
set_option maxRecDepth 20000 in
theorem gX9_isTrue_X9_ofGoose : GoodIn wsX9_isTrue (wsV RX9 138 RX9 yX9_ofGoose wsX9_ofGoose) := goodIn_app (goodIn_of _ (by decide +kernel)) ggX9_isTrue_X9_ofGoose
set_option maxRecDepth 20000 in
theorem ggX9_isTrue_X9_isTrueBy : GoodIn wsX9_isTrue wsX9_isTrueBy := goodIn_r _ [10, 6, 11, 12, 13, 14, 4, 15, 16, 17, 18, 19, 20, 21, 22, 1, 2, 3, 5, 23, 24, 25, 26, 27, 28, 29, 30, 31, 32, 33, 34, 35, 36, 37, 38, 39, 40, 41, 42, 43, 44, 45, 46, 47, 48, 49, 50, 51, 52, 53, 54, 55, 56, 57, 58, 59, 60, 61, 62, 63, 64, 65, 66, 67, 68, 69, 70, 71, 72, 73, 74, 75, 76, 77, 78, 79, 80, 81, 82, 83, 84, 85, 86, 87, 88, 89, 90] (by decide +kernel) (by decide +kernel)
set_option maxRecDepth 20000 in
theorem gX9_isTrue_X9_isTrueBy : GoodIn wsX9_isTrue (wsV RX9 368 RX9 yX9_isTrueBy wsX9_isTrueBy) := goodIn_app (goodIn_of _ (by decide +kernel)) ggX9_isTrue_X9_isTrueBy
theorem dX9_isTrue_0 : decode cX9_isTrue 0 = .ok (.aload_n 0, 1) := by decide +kernel
theorem dX9_isTrue_1 : decode cX9_isTrue 1 = .ok (.iload_n 1, 1) := by decide +kernel
theorem dX9_isTrue_2 : decode cX9_isTrue 2 = .ok (.aload_n 0, 1) := by decide +kernel
theorem dX9_isTrue_3 : decode cX9_isTrue 3 = .ok (.iload_n 1, 1) := by decide +kernel
theorem dX9_isTrue_4 : decode cX9_isTrue 4 = .ok (.iconst 2, 1) := by decide +kernel
theorem dX9_isTrue_5 : decode cX9_isTrue 5 = .ok (.invokevirtual 138, 3) := by decide +kernel
theorem dX9_isTrue_8 : decode cX9_isTrue 8 = .ok (.aload_n 0, 1) := by decide +kernel
theorem dX9_isTrue_9 : decode cX9_isTrue 9 = .ok (.iload_n 1, 1) := by decide +kernel
theorem dX9_isTrue_10 : decode cX9_isTrue 10 = .ok (.iconst 3, 1) := by decide +kernel
theorem dX9_isTrue_11 : decode cX9_isTrue 11 = .ok (.invokevirtual 138, 3) := by decide +kernel
theorem dX9_isTrue_14 : decode cX9_isTrue 14 = .ok (.aload_n 0, 1) := by decide +kernel
theorem dX9_isTrue_15 : decode cX9_isTrue 15 = .ok (.iload_n 1, 1) := by decide +kernel
theorem dX9_isTrue_16 : decode cX9_isTrue 16 = .ok (.iconst 1, 1) := by decide +kernel
theorem dX9_isTrue_17 : decode cX9_isTrue 17 = .ok (.invokevirtual 138, 3) := by decide +kernel
theorem dX9_isTrue_20 : decode cX9_isTrue 20 = .ok (.invokevirtual 368, 3) := by decide +kernel
theorem dX9_isTrue_23 : decode cX9_isTrue 23 = .ok (.ireturn, 1) := by decide +kernel
theorem dX9_draw_0 : decode cX9_draw 0 = .ok (.aload_n 0, 1) := by decide +kernel
theorem dX9_draw_1 : decode cX9_draw 1 = .ok (.getfield 7, 3) := by decide +kernel
theorem dX9_draw_4 : decode cX9_draw 4 = .ok (.bipush 122, 2) := by decide +kernel
theorem dX9_draw_6 : decode cX9_draw 6 = .ok (.iaload, 1) := by decide +kernel
theorem dX9_draw_7 : decode cX9_draw 7 = .ok (.bipush 10, 2) := by decide +kernel
theorem dX9_draw_9 : decode cX9_draw 9 = .ok (.irem, 1) := by decide +kernel
theorem dX9_draw_10 : decode cX9_draw 10 = .ok (.istore_n 1, 1) := by decide +kernel
theorem dX9_draw_11 : decode cX9_draw 11 = .ok (.aload_n 0, 1) := by decide +kernel
theorem dX9_draw_12 : decode cX9_draw 12 = .ok (.getfield 7, 3) := by decide +kernel
theorem dX9_draw_15 : decode cX9_draw 15 = .ok (.bipush 122, 2) := by decide +kernel
theorem dX9_draw_17 : decode cX9_draw 17 = .ok (.aload_n 0, 1) := by decide +kernel
theorem dX9_draw_18 : decode cX9_draw 18 = .ok (.getfield 7, 3) := by decide +kernel
theorem dX9_draw_21 : decode cX9_draw 21 = .ok (.bipush 122, 2) := by decide +kernel
theorem dX9_draw_23 : decode cX9_draw 23 = .ok (.iaload, 1) := by decide +kernel
theorem dX9_draw_24 : decode cX9_draw 24 = .ok (.sipush 157, 3) := by decide +kernel
theorem dX9_draw_27 : decode cX9_draw 27 = .ok (.imul, 1) := by decide +kernel
theorem dX9_draw_28 : decode cX9_draw 28 = .ok (.bipush 61, 2) := by decide +kernel
theorem dX9_draw_30 : decode cX9_draw 30 = .ok (.iadd, 1) := by decide +kernel
theorem dX9_draw_31 : decode cX9_draw 31 = .ok (.sipush 30071, 3) := by decide +kernel
theorem dX9_draw_34 : decode cX9_draw 34 = .ok (.irem, 1) := by decide +kernel
theorem dX9_draw_35 : decode cX9_draw 35 = .ok (.iastore, 1) := by decide +kernel
theorem dX9_draw_36 : decode cX9_draw 36 = .ok (.iload_n 1, 1) := by decide +kernel
theorem dX9_draw_37 : decode cX9_draw 37 = .ok (.ireturn, 1) := by decide +kernel
set_option maxRecDepth 20000 in
theorem ggX9_geeseOf_X9_ofGoose : GoodIn wsX9_geeseOf wsX9_ofGoose := goodIn_r _ [6, 1, 7, 8, 9, 10, 11, 12, 13, 14, 15, 16, 17, 18, 19, 20, 21, 22, 23, 24, 25, 26, 27, 28, 29, 30, 31, 32, 33, 34, 35, 36, 37, 38, 39, 40, 41, 42, 43, 44, 45, 46, 47, 48, 49, 50, 51, 52, 53, 54, 55, 56, 57, 58, 59] (by decide +kernel) (by decide +kernel)
set_option maxRecDepth 20000 in
theorem gX9_geeseOf_X9_ofGoose : GoodIn wsX9_geeseOf (wsV RX9 138 RX9 yX9_ofGoose wsX9_ofGoose) := goodIn_app (goodIn_of _ (by decide +kernel)) ggX9_geeseOf_X9_ofGoose
theorem dX9_geeseOf_0 : decode cX9_geeseOf 0 = .ok (.iconst 0, 1) := by decide +kernel
theorem dX9_geeseOf_1 : decode cX9_geeseOf 1 = .ok (.istore_n 2, 1) := by decide +kernel
theorem dX9_geeseOf_2 : decode cX9_geeseOf 2 = .ok (.iconst 0, 1) := by decide +kernel
theorem dX9_geeseOf_3 : decode cX9_geeseOf 3 = .ok (.istore_n 3, 1) := by decide +kernel
theorem dX9_geeseOf_4 : decode cX9_geeseOf 4 = .ok (.iload_n 3, 1) := by decide +kernel
theorem dX9_geeseOf_5 : decode cX9_geeseOf 5 = .ok (.aload_n 0, 1) := by decide +kernel
theorem dX9_geeseOf_6 : decode cX9_geeseOf 6 = .ok (.getfield 7, 3) := by decide +kernel
theorem dX9_geeseOf_9 : decode cX9_geeseOf 9 = .ok (.iconst 1, 1) := by decide +kernel
theorem dX9_geeseOf_10 : decode cX9_geeseOf 10 = .ok (.iaload, 1) := by decide +kernel
theorem dX9_geeseOf_11 : decode cX9_geeseOf 11 = .ok (.if_icmp .ge 27, 3) := by decide +kernel
theorem dX9_geeseOf_14 : decode cX9_geeseOf 14 = .ok (.iload_n 2, 1) := by decide +kernel
theorem dX9_geeseOf_15 : decode cX9_geeseOf 15 = .ok (.aload_n 0, 1) := by decide +kernel
theorem dX9_geeseOf_16 : decode cX9_geeseOf 16 = .ok (.iload_n 3, 1) := by decide +kernel
theorem dX9_geeseOf_17 : decode cX9_geeseOf 17 = .ok (.iconst 4, 1) := by decide +kernel
theorem dX9_geeseOf_18 : decode cX9_geeseOf 18 = .ok (.invokevirtual 138, 3) := by decide +kernel
theorem dX9_geeseOf_21 : decode cX9_geeseOf 21 = .ok (.iload_n 1, 1) := by decide +kernel
theorem dX9_geeseOf_22 : decode cX9_geeseOf 22 = .ok (.if_icmp .ne 7, 3) := by decide +kernel
theorem dX9_geeseOf_25 : decode cX9_geeseOf 25 = .ok (.iconst 1, 1) := by decide +kernel
theorem dX9_geeseOf_26 : decode cX9_geeseOf 26 = .ok (.goto 4, 3) := by decide +kernel
theorem dX9_geeseOf_29 : decode cX9_geeseOf 29 = .ok (.iconst 0, 1) := by decide +kernel
theorem dX9_geeseOf_30 : decode cX9_geeseOf 30 = .ok (.iadd, 1) := by decide +kernel
theorem dX9_geeseOf_31 : decode cX9_geeseOf 31 = .ok (.istore_n 2, 1) := by decide +kernel
theorem dX9_geeseOf_32 : decode cX9_geeseOf 32 = .ok (.iinc 3 1, 3) := by decide +kernel
theorem dX9_geeseOf_35 : decode cX9_geeseOf 35 = .ok (.goto (-31), 3) := by decide +kernel
theorem dX9_geeseOf_38 : decode cX9_geeseOf 38 = .ok (.iload_n 2, 1) := by decide +kernel
theorem dX9_geeseOf_39 : decode cX9_geeseOf 39 = .ok (.ireturn, 1) := by decide +kernel
set_option maxRecDepth 20000 in
theorem ggX9_comesThere_X9_draw : GoodIn wsX9_comesThere wsX9_draw := goodIn_r _ [6, 1, 53, 54, 55, 56, 57, 58, 59, 60, 61, 62, 63, 64, 65, 66, 67, 68, 69, 70, 71, 72, 73, 74, 75, 76, 77, 78, 79, 80, 81, 82, 83, 84, 85, 86, 87, 88, 89, 90, 91, 92, 93, 94, 95, 96, 97, 98, 99, 100, 101, 102, 103, 104, 105] (by decide +kernel) (by decide +kernel)
set_option maxRecDepth 20000 in
theorem gX9_comesThere_X9_draw : GoodIn wsX9_comesThere (wsV RX9 372 RX9 yX9_draw wsX9_draw) := goodIn_app (goodIn_of _ (by decide +kernel)) ggX9_comesThere_X9_draw
set_option maxRecDepth 20000 in
theorem ggX9_comesThere_X9_marketOf : GoodIn wsX9_comesThere wsX9_marketOf := goodIn_r _ [10, 11, 12, 13, 5, 14, 1, 15, 16, 17, 18, 19, 20, 21, 22, 23, 24, 25, 26, 27, 28, 29, 30, 31, 32, 33, 34, 35, 36, 37, 38, 39, 40, 41, 42, 43, 44, 45, 46, 47, 48, 53, 54, 55, 56, 57, 58, 59, 60, 61, 62, 63, 64, 65, 66, 67, 68, 69, 70, 71, 72, 73, 74, 75, 76, 77, 78, 79, 80, 81, 82, 83, 84, 85, 86, 87, 88, 89, 90, 91, 92, 93, 94, 95, 96, 97, 98, 99, 100, 101, 102, 103, 104, 105] (by decide +kernel) (by decide +kernel)
set_option maxRecDepth 20000 in
theorem gX9_comesThere_X9_marketOf : GoodIn wsX9_comesThere (wsV RX9 375 RX9 yX9_marketOf wsX9_marketOf) := goodIn_app (goodIn_of _ (by decide +kernel)) ggX9_comesThere_X9_marketOf
set_option maxRecDepth 20000 in
theorem ggX9_comesThere_X9_ofGoose : GoodIn wsX9_comesThere wsX9_ofGoose := goodIn_r _ [14, 1, 53, 54, 55, 56, 57, 58, 59, 60, 61, 62, 63, 64, 65, 66, 67, 68, 69, 70, 71, 72, 73, 74, 75, 76, 77, 78, 79, 80, 81, 82, 83, 84, 85, 86, 87, 88, 89, 90, 91, 92, 93, 94, 95, 96, 97, 98, 99, 100, 101, 102, 103, 104, 105] (by decide +kernel) (by decide +kernel)
set_option maxRecDepth 20000 in
theorem gX9_comesThere_X9_ofGoose : GoodIn wsX9_comesThere (wsV RX9 138 RX9 yX9_ofGoose wsX9_ofGoose) := goodIn_app (goodIn_of _ (by decide +kernel)) ggX9_comesThere_X9_ofGoose
set_option maxRecDepth 20000 in
theorem ggX9_comesThere_X9_puts : GoodIn wsX9_comesThere wsX9_puts := goodIn_r _ [52, 1, 53, 54, 55, 56, 57, 58, 59, 60, 61, 62, 63, 64, 65, 66, 67, 68, 69, 70, 71, 72, 73, 74, 75, 76, 77, 78, 79, 80, 81, 82, 83, 84, 85, 86, 87, 88, 89, 90, 91, 92, 93, 94, 95, 96, 97, 98, 99, 100, 101, 102, 103, 104, 105] (by decide +kernel) (by decide +kernel)
set_option maxRecDepth 20000 in
theorem gX9_comesThere_X9_puts : GoodIn wsX9_comesThere (wsV RX9 156 RX9 yX9_puts wsX9_puts) := goodIn_app (goodIn_of _ (by decide +kernel)) ggX9_comesThere_X9_puts
theorem dX9_comesThere_0 : decode cX9_comesThere 0 = .ok (.iconst 2, 1) := by decide +kernel
theorem dX9_comesThere_1 : decode cX9_comesThere 1 = .ok (.istore_n 2, 1) := by decide +kernel
theorem dX9_comesThere_2 : decode cX9_comesThere 2 = .ok (.aload_n 0, 1) := by decide +kernel
theorem dX9_comesThere_3 : decode cX9_comesThere 3 = .ok (.invokevirtual 372, 3) := by decide +kernel
theorem dX9_comesThere_6 : decode cX9_comesThere 6 = .ok (.istore_n 3, 1) := by decide +kernel
theorem dX9_comesThere_7 : decode cX9_comesThere 7 = .ok (.iload_n 3, 1) := by decide +kernel
theorem dX9_comesThere_8 : decode cX9_comesThere 8 = .ok (.aload_n 0, 1) := by decide +kernel
theorem dX9_comesThere_9 : decode cX9_comesThere 9 = .ok (.iconst 0, 1) := by decide +kernel
theorem dX9_comesThere_10 : decode cX9_comesThere 10 = .ok (.iload_n 1, 1) := by decide +kernel
theorem dX9_comesThere_11 : decode cX9_comesThere 11 = .ok (.invokevirtual 375, 3) := by decide +kernel
theorem dX9_comesThere_14 : decode cX9_comesThere 14 = .ok (.if_icmp .ge 36, 3) := by decide +kernel
theorem dX9_comesThere_17 : decode cX9_comesThere 17 = .ok (.iconst 3, 1) := by decide +kernel
theorem dX9_comesThere_18 : decode cX9_comesThere 18 = .ok (.istore_n 2, 1) := by decide +kernel
theorem dX9_comesThere_19 : decode cX9_comesThere 19 = .ok (.aload_n 0, 1) := by decide +kernel
theorem dX9_comesThere_20 : decode cX9_comesThere 20 = .ok (.iload_n 1, 1) := by decide +kernel
theorem dX9_comesThere_21 : decode cX9_comesThere 21 = .ok (.iconst 2, 1) := by decide +kernel
theorem dX9_comesThere_22 : decode cX9_comesThere 22 = .ok (.invokevirtual 138, 3) := by decide +kernel
theorem dX9_comesThere_25 : decode cX9_comesThere 25 = .ok (.iconst (-1), 1) := by decide +kernel
theorem dX9_comesThere_26 : decode cX9_comesThere 26 = .ok (.if_icmp .eq 24, 3) := by decide +kernel
theorem dX9_comesThere_29 : decode cX9_comesThere 29 = .ok (.aload_n 0, 1) := by decide +kernel
theorem dX9_comesThere_30 : decode cX9_comesThere 30 = .ok (.invokevirtual 372, 3) := by decide +kernel
theorem dX9_comesThere_33 : decode cX9_comesThere 33 = .ok (.istore_n 3, 1) := by decide +kernel
theorem dX9_comesThere_34 : decode cX9_comesThere 34 = .ok (.iload_n 3, 1) := by decide +kernel
theorem dX9_comesThere_35 : decode cX9_comesThere 35 = .ok (.aload_n 0, 1) := by decide +kernel
theorem dX9_comesThere_36 : decode cX9_comesThere 36 = .ok (.iconst 1, 1) := by decide +kernel
theorem dX9_comesThere_37 : decode cX9_comesThere 37 = .ok (.iload_n 1, 1) := by decide +kernel
theorem dX9_comesThere_38 : decode cX9_comesThere 38 = .ok (.invokevirtual 375, 3) := by decide +kernel
theorem dX9_comesThere_41 : decode cX9_comesThere 41 = .ok (.if_icmp .ge 7, 3) := by decide +kernel
theorem dX9_comesThere_44 : decode cX9_comesThere 44 = .ok (.iconst 4, 1) := by decide +kernel
theorem dX9_comesThere_45 : decode cX9_comesThere 45 = .ok (.goto 4, 3) := by decide +kernel
theorem dX9_comesThere_48 : decode cX9_comesThere 48 = .ok (.iconst 3, 1) := by decide +kernel
theorem dX9_comesThere_49 : decode cX9_comesThere 49 = .ok (.istore_n 2, 1) := by decide +kernel
theorem dX9_comesThere_50 : decode cX9_comesThere 50 = .ok (.aload_n 0, 1) := by decide +kernel
theorem dX9_comesThere_51 : decode cX9_comesThere 51 = .ok (.iload_n 1, 1) := by decide +kernel
theorem dX9_comesThere_52 : decode cX9_comesThere 52 = .ok (.iconst 4, 1) := by decide +kernel
theorem dX9_comesThere_53 : decode cX9_comesThere 53 = .ok (.iload_n 2, 1) := by decide +kernel
theorem dX9_comesThere_54 : decode cX9_comesThere 54 = .ok (.invokevirtual 156, 3) := by decide +kernel
theorem dX9_comesThere_57 : decode cX9_comesThere 57 = .ok (.aload_n 0, 1) := by decide +kernel
theorem dX9_comesThere_58 : decode cX9_comesThere 58 = .ok (.iload_n 1, 1) := by decide +kernel
theorem dX9_comesThere_59 : decode cX9_comesThere 59 = .ok (.bipush 7, 2) := by decide +kernel
theorem dX9_comesThere_61 : decode cX9_comesThere 61 = .ok (.aload_n 0, 1) := by decide +kernel
theorem dX9_comesThere_62 : decode cX9_comesThere 62 = .ok (.getfield 7, 3) := by decide +kernel
theorem dX9_comesThere_65 : decode cX9_comesThere 65 = .ok (.bipush 121, 2) := by decide +kernel
theorem dX9_comesThere_67 : decode cX9_comesThere 67 = .ok (.iaload, 1) := by decide +kernel
theorem dX9_comesThere_68 : decode cX9_comesThere 68 = .ok (.invokevirtual 156, 3) := by decide +kernel
theorem dX9_comesThere_71 : decode cX9_comesThere 71 = .ok (.return_, 1) := by decide +kernel
set_option maxRecDepth 20000 in
theorem ggX9_hungers_X9_geeseOf : GoodIn wsX9_hungers wsX9_geeseOf := goodIn_r _ [6, 1, 7, 8, 9, 5, 10, 15, 16, 17, 18, 19, 20, 21, 22, 23, 24, 25, 26, 27, 28, 29, 30, 31, 32, 33, 34, 35, 36, 37, 38, 39, 40, 41, 42, 43, 44, 45, 46, 47, 48, 49, 50, 51, 52, 53, 54, 55, 56, 57, 58, 59, 60, 61, 62, 63, 64, 65, 66, 67] (by decide +kernel) (by decide +kernel)
set_option maxRecDepth 20000 in
theorem gX9_hungers_X9_geeseOf : GoodIn wsX9_hungers (wsV RX9 378 RX9 yX9_geeseOf wsX9_geeseOf) := goodIn_app (goodIn_of _ (by decide +kernel)) ggX9_hungers_X9_geeseOf
set_option maxRecDepth 20000 in
theorem ggX9_hungers_X9_ofGoose : GoodIn wsX9_hungers wsX9_ofGoose := goodIn_r _ [10, 1, 15, 16, 17, 18, 19, 20, 21, 22, 23, 24, 25, 26, 27, 28, 29, 30, 31, 32, 33, 34, 35, 36, 37, 38, 39, 40, 41, 42, 43, 44, 45, 46, 47, 48, 49, 50, 51, 52, 53, 54, 55, 56, 57, 58, 59, 60, 61, 62, 63, 64, 65, 66, 67] (by decide +kernel) (by decide +kernel)
set_option maxRecDepth 20000 in
theorem gX9_hungers_X9_ofGoose : GoodIn wsX9_hungers (wsV RX9 138 RX9 yX9_ofGoose wsX9_ofGoose) := goodIn_app (goodIn_of _ (by decide +kernel)) ggX9_hungers_X9_ofGoose
set_option maxRecDepth 20000 in
theorem ggX9_hungers_X9_puts : GoodIn wsX9_hungers wsX9_puts := goodIn_r _ [14, 1, 15, 16, 17, 18, 19, 20, 21, 22, 23, 24, 25, 26, 27, 28, 29, 30, 31, 32, 33, 34, 35, 36, 37, 38, 39, 40, 41, 42, 43, 44, 45, 46, 47, 48, 49, 50, 51, 52, 53, 54, 55, 56, 57, 58, 59, 60, 61, 62, 63, 64, 65, 66, 67] (by decide +kernel) (by decide +kernel)
set_option maxRecDepth 20000 in
theorem gX9_hungers_X9_puts : GoodIn wsX9_hungers (wsV RX9 156 RX9 yX9_puts wsX9_puts) := goodIn_app (goodIn_of _ (by decide +kernel)) ggX9_hungers_X9_puts
theorem dX9_hungers_0 : decode cX9_hungers 0 = .ok (.aload_n 0, 1) := by decide +kernel
theorem dX9_hungers_1 : decode cX9_hungers 1 = .ok (.getfield 7, 3) := by decide +kernel
theorem dX9_hungers_4 : decode cX9_hungers 4 = .ok (.iconst 2, 1) := by decide +kernel
theorem dX9_hungers_5 : decode cX9_hungers 5 = .ok (.iaload, 1) := by decide +kernel
theorem dX9_hungers_6 : decode cX9_hungers 6 = .ok (.aload_n 0, 1) := by decide +kernel
theorem dX9_hungers_7 : decode cX9_hungers 7 = .ok (.iconst 0, 1) := by decide +kernel
theorem dX9_hungers_8 : decode cX9_hungers 8 = .ok (.invokevirtual 378, 3) := by decide +kernel
theorem dX9_hungers_11 : decode cX9_hungers 11 = .ok (.iadd, 1) := by decide +kernel
theorem dX9_hungers_12 : decode cX9_hungers 12 = .ok (.istore_n 1, 1) := by decide +kernel
theorem dX9_hungers_13 : decode cX9_hungers 13 = .ok (.aload_n 0, 1) := by decide +kernel
theorem dX9_hungers_14 : decode cX9_hungers 14 = .ok (.getfield 7, 3) := by decide +kernel
theorem dX9_hungers_17 : decode cX9_hungers 17 = .ok (.bipush 120, 2) := by decide +kernel
theorem dX9_hungers_19 : decode cX9_hungers 19 = .ok (.iaload, 1) := by decide +kernel
theorem dX9_hungers_20 : decode cX9_hungers 20 = .ok (.iload_n 1, 1) := by decide +kernel
theorem dX9_hungers_21 : decode cX9_hungers 21 = .ok (.if_icmp .lt 15, 3) := by decide +kernel
theorem dX9_hungers_24 : decode cX9_hungers 24 = .ok (.aload_n 0, 1) := by decide +kernel
theorem dX9_hungers_25 : decode cX9_hungers 25 = .ok (.getfield 7, 3) := by decide +kernel
theorem dX9_hungers_28 : decode cX9_hungers 28 = .ok (.bipush 120, 2) := by decide +kernel
theorem dX9_hungers_30 : decode cX9_hungers 30 = .ok (.dup2, 1) := by decide +kernel
theorem dX9_hungers_31 : decode cX9_hungers 31 = .ok (.iaload, 1) := by decide +kernel
theorem dX9_hungers_32 : decode cX9_hungers 32 = .ok (.iload_n 1, 1) := by decide +kernel
theorem dX9_hungers_33 : decode cX9_hungers 33 = .ok (.isub, 1) := by decide +kernel
theorem dX9_hungers_34 : decode cX9_hungers 34 = .ok (.iastore, 1) := by decide +kernel
theorem dX9_hungers_35 : decode cX9_hungers 35 = .ok (.return_, 1) := by decide +kernel
theorem dX9_hungers_36 : decode cX9_hungers 36 = .ok (.iconst 0, 1) := by decide +kernel
theorem dX9_hungers_37 : decode cX9_hungers 37 = .ok (.istore_n 2, 1) := by decide +kernel
theorem dX9_hungers_38 : decode cX9_hungers 38 = .ok (.iload_n 2, 1) := by decide +kernel
theorem dX9_hungers_39 : decode cX9_hungers 39 = .ok (.aload_n 0, 1) := by decide +kernel
theorem dX9_hungers_40 : decode cX9_hungers 40 = .ok (.getfield 7, 3) := by decide +kernel
theorem dX9_hungers_43 : decode cX9_hungers 43 = .ok (.iconst 1, 1) := by decide +kernel
theorem dX9_hungers_44 : decode cX9_hungers 44 = .ok (.iaload, 1) := by decide +kernel
theorem dX9_hungers_45 : decode cX9_hungers 45 = .ok (.if_icmp .ge 29, 3) := by decide +kernel
theorem dX9_hungers_48 : decode cX9_hungers 48 = .ok (.aload_n 0, 1) := by decide +kernel
theorem dX9_hungers_49 : decode cX9_hungers 49 = .ok (.iload_n 2, 1) := by decide +kernel
theorem dX9_hungers_50 : decode cX9_hungers 50 = .ok (.iconst 4, 1) := by decide +kernel
theorem dX9_hungers_51 : decode cX9_hungers 51 = .ok (.invokevirtual 138, 3) := by decide +kernel
theorem dX9_hungers_54 : decode cX9_hungers 54 = .ok (.ifCond .ne 14, 3) := by decide +kernel
theorem dX9_hungers_57 : decode cX9_hungers 57 = .ok (.aload_n 0, 1) := by decide +kernel
theorem dX9_hungers_58 : decode cX9_hungers 58 = .ok (.iload_n 2, 1) := by decide +kernel
theorem dX9_hungers_59 : decode cX9_hungers 59 = .ok (.bipush 8, 2) := by decide +kernel
theorem dX9_hungers_61 : decode cX9_hungers 61 = .ok (.invokevirtual 138, 3) := by decide +kernel
theorem dX9_hungers_64 : decode cX9_hungers 64 = .ok (.iconst 1, 1) := by decide +kernel
theorem dX9_hungers_65 : decode cX9_hungers 65 = .ok (.if_icmp .ne 9, 3) := by decide +kernel
theorem dX9_hungers_68 : decode cX9_hungers 68 = .ok (.iinc 2 1, 3) := by decide +kernel
theorem dX9_hungers_71 : decode cX9_hungers 71 = .ok (.goto (-33), 3) := by decide +kernel
theorem dX9_hungers_74 : decode cX9_hungers 74 = .ok (.aload_n 0, 1) := by decide +kernel
theorem dX9_hungers_75 : decode cX9_hungers 75 = .ok (.getfield 7, 3) := by decide +kernel
theorem dX9_hungers_78 : decode cX9_hungers 78 = .ok (.bipush 120, 2) := by decide +kernel
theorem dX9_hungers_80 : decode cX9_hungers 80 = .ok (.iload_n 2, 1) := by decide +kernel
theorem dX9_hungers_81 : decode cX9_hungers 81 = .ok (.aload_n 0, 1) := by decide +kernel
theorem dX9_hungers_82 : decode cX9_hungers 82 = .ok (.getfield 7, 3) := by decide +kernel
theorem dX9_hungers_85 : decode cX9_hungers 85 = .ok (.iconst 1, 1) := by decide +kernel
theorem dX9_hungers_86 : decode cX9_hungers 86 = .ok (.iaload, 1) := by decide +kernel
theorem dX9_hungers_87 : decode cX9_hungers 87 = .ok (.if_icmp .ge 12, 3) := by decide +kernel
theorem dX9_hungers_90 : decode cX9_hungers 90 = .ok (.aload_n 0, 1) := by decide +kernel
theorem dX9_hungers_91 : decode cX9_hungers 91 = .ok (.iload_n 2, 1) := by decide +kernel
theorem dX9_hungers_92 : decode cX9_hungers 92 = .ok (.iconst 0, 1) := by decide +kernel
theorem dX9_hungers_93 : decode cX9_hungers 93 = .ok (.invokevirtual 138, 3) := by decide +kernel
theorem dX9_hungers_96 : decode cX9_hungers 96 = .ok (.goto 4, 3) := by decide +kernel
theorem dX9_hungers_99 : decode cX9_hungers 99 = .ok (.iconst 0, 1) := by decide +kernel
theorem dX9_hungers_100 : decode cX9_hungers 100 = .ok (.iastore, 1) := by decide +kernel
theorem dX9_hungers_101 : decode cX9_hungers 101 = .ok (.iload_n 2, 1) := by decide +kernel
theorem dX9_hungers_102 : decode cX9_hungers 102 = .ok (.aload_n 0, 1) := by decide +kernel
theorem dX9_hungers_103 : decode cX9_hungers 103 = .ok (.getfield 7, 3) := by decide +kernel
theorem dX9_hungers_106 : decode cX9_hungers 106 = .ok (.iconst 1, 1) := by decide +kernel
theorem dX9_hungers_107 : decode cX9_hungers 107 = .ok (.iaload, 1) := by decide +kernel
theorem dX9_hungers_108 : decode cX9_hungers 108 = .ok (.if_icmp .ge 24, 3) := by decide +kernel
theorem dX9_hungers_111 : decode cX9_hungers 111 = .ok (.aload_n 0, 1) := by decide +kernel
theorem dX9_hungers_112 : decode cX9_hungers 112 = .ok (.iload_n 2, 1) := by decide +kernel
theorem dX9_hungers_113 : decode cX9_hungers 113 = .ok (.iconst 4, 1) := by decide +kernel
theorem dX9_hungers_114 : decode cX9_hungers 114 = .ok (.iconst 5, 1) := by decide +kernel
theorem dX9_hungers_115 : decode cX9_hungers 115 = .ok (.invokevirtual 156, 3) := by decide +kernel
theorem dX9_hungers_118 : decode cX9_hungers 118 = .ok (.aload_n 0, 1) := by decide +kernel
theorem dX9_hungers_119 : decode cX9_hungers 119 = .ok (.iload_n 2, 1) := by decide +kernel
theorem dX9_hungers_120 : decode cX9_hungers 120 = .ok (.bipush 7, 2) := by decide +kernel
theorem dX9_hungers_122 : decode cX9_hungers 122 = .ok (.aload_n 0, 1) := by decide +kernel
theorem dX9_hungers_123 : decode cX9_hungers 123 = .ok (.getfield 7, 3) := by decide +kernel
theorem dX9_hungers_126 : decode cX9_hungers 126 = .ok (.bipush 121, 2) := by decide +kernel
theorem dX9_hungers_128 : decode cX9_hungers 128 = .ok (.iaload, 1) := by decide +kernel
theorem dX9_hungers_129 : decode cX9_hungers 129 = .ok (.invokevirtual 156, 3) := by decide +kernel
theorem dX9_hungers_132 : decode cX9_hungers 132 = .ok (.return_, 1) := by decide +kernel
set_option maxRecDepth 20000 in
theorem ggX9_pass_X9_in : GoodIn wsX9_pass wsX9_in := goodIn_r _ [5] (by decide +kernel) (by decide +kernel)
set_option maxRecDepth 20000 in
theorem gX9_pass_X9_in : GoodIn wsX9_pass (va_wsS RX9 126 yX9_in wsX9_in) := goodIn_app (goodIn_of _ (by decide +kernel)) ggX9_pass_X9_in
set_option maxRecDepth 20000 in
theorem ggX9_pass_X9_keepsStep : GoodIn wsX9_pass wsX9_keepsStep := goodIn_r _ [9, 1, 72, 73, 74, 75, 76, 77, 78, 79, 80, 81, 82, 83, 84, 85, 86, 87, 88, 89, 90, 91, 92, 93, 94, 95, 96, 97, 98, 99, 100, 101, 102, 103, 104, 105, 106, 107, 108, 109, 110, 111, 112, 113, 114, 115, 116, 117, 118, 119, 120, 121, 122, 123, 124] (by decide +kernel) (by decide +kernel)
set_option maxRecDepth 20000 in
theorem gX9_pass_X9_keepsStep : GoodIn wsX9_pass (wsV RX9 153 RX9 yX9_keepsStep wsX9_keepsStep) := goodIn_app (goodIn_of _ (by decide +kernel)) ggX9_pass_X9_keepsStep
set_option maxRecDepth 20000 in
theorem ggX9_pass_X9_ofGoose : GoodIn wsX9_pass wsX9_ofGoose := goodIn_r _ [13, 1, 72, 73, 74, 75, 76, 77, 78, 79, 80, 81, 82, 83, 84, 85, 86, 87, 88, 89, 90, 91, 92, 93, 94, 95, 96, 97, 98, 99, 100, 101, 102, 103, 104, 105, 106, 107, 108, 109, 110, 111, 112, 113, 114, 115, 116, 117, 118, 119, 120, 121, 122, 123, 124] (by decide +kernel) (by decide +kernel)
set_option maxRecDepth 20000 in
theorem gX9_pass_X9_ofGoose : GoodIn wsX9_pass (wsV RX9 138 RX9 yX9_ofGoose wsX9_ofGoose) := goodIn_app (goodIn_of _ (by decide +kernel)) ggX9_pass_X9_ofGoose
set_option maxRecDepth 20000 in
theorem ggX9_pass_X9_comesThere : GoodIn wsX9_pass wsX9_comesThere := goodIn_r _ [17, 1, 18, 19, 20, 4, 21, 22, 23, 24, 25, 10, 11, 12, 13, 26, 27, 28, 29, 30, 31, 32, 33, 34, 35, 36, 37, 38, 39, 40, 41, 42, 43, 44, 45, 46, 47, 48, 49, 50, 51, 52, 53, 54, 55, 56, 57, 58, 59, 60, 61, 62, 63, 72, 73, 74, 75, 76, 77, 78, 79, 80, 81, 82, 83, 84, 85, 86, 87, 88, 89, 90, 91, 92, 93, 94, 95, 96, 97, 98, 99, 100, 101, 102, 103, 104, 105, 106, 107, 108, 109, 110, 111, 112, 113, 114, 115, 116, 117, 118, 119, 120, 121, 122, 123, 124] (by decide +kernel) (by decide +kernel)
set_option maxRecDepth 20000 in
theorem gX9_pass_X9_comesThere : GoodIn wsX9_pass (wsV RX9 381 RX9 yX9_comesThere wsX9_comesThere) := goodIn_app (goodIn_of _ (by decide +kernel)) ggX9_pass_X9_comesThere
set_option maxRecDepth 20000 in
theorem ggX9_pass_X9_hungers : GoodIn wsX9_pass wsX9_hungers := goodIn_r _ [67, 1, 68, 69, 70, 4, 71, 10, 11, 12, 13, 60, 61, 62, 63, 72, 73, 74, 75, 76, 77, 78, 79, 80, 81, 82, 83, 84, 85, 86, 87, 88, 89, 90, 91, 92, 93, 94, 95, 96, 97, 98, 99, 100, 101, 102, 103, 104, 105, 106, 107, 108, 109, 110, 111, 112, 113, 114, 115, 116, 117, 118, 119, 120, 121, 122, 123, 124] (by decide +kernel) (by decide +kernel)
set_option maxRecDepth 20000 in
theorem gX9_pass_X9_hungers : GoodIn wsX9_pass (wsV RX9 384 RX9 yX9_hungers wsX9_hungers) := goodIn_app (goodIn_of _ (by decide +kernel)) ggX9_pass_X9_hungers
theorem dX9_pass_0 : decode cX9_pass 0 = .ok (.iload_n 1, 1) := by decide +kernel
theorem dX9_pass_1 : decode cX9_pass 1 = .ok (.iconst 1, 1) := by decide +kernel
theorem dX9_pass_2 : decode cX9_pass 2 = .ok (.bipush 99, 2) := by decide +kernel
theorem dX9_pass_4 : decode cX9_pass 4 = .ok (.invokestatic 126, 3) := by decide +kernel
theorem dX9_pass_7 : decode cX9_pass 7 = .ok (.ifCond .eq 18, 3) := by decide +kernel
theorem dX9_pass_10 : decode cX9_pass 10 = .ok (.aload_n 0, 1) := by decide +kernel
theorem dX9_pass_11 : decode cX9_pass 11 = .ok (.getfield 7, 3) := by decide +kernel
theorem dX9_pass_14 : decode cX9_pass 14 = .ok (.bipush 121, 2) := by decide +kernel
theorem dX9_pass_16 : decode cX9_pass 16 = .ok (.iaload, 1) := by decide +kernel
theorem dX9_pass_17 : decode cX9_pass 17 = .ok (.iload_n 1, 1) := by decide +kernel
theorem dX9_pass_18 : decode cX9_pass 18 = .ok (.iadd, 1) := by decide +kernel
theorem dX9_pass_19 : decode cX9_pass 19 = .ok (.sipush 999, 3) := by decide +kernel
theorem dX9_pass_22 : decode cX9_pass 22 = .ok (.if_icmp .le 5, 3) := by decide +kernel
theorem dX9_pass_25 : decode cX9_pass 25 = .ok (.iconst (-1), 1) := by decide +kernel
theorem dX9_pass_26 : decode cX9_pass 26 = .ok (.ireturn, 1) := by decide +kernel
theorem dX9_pass_27 : decode cX9_pass 27 = .ok (.aload_n 0, 1) := by decide +kernel
theorem dX9_pass_28 : decode cX9_pass 28 = .ok (.invokevirtual 153, 3) := by decide +kernel
theorem dX9_pass_31 : decode cX9_pass 31 = .ok (.iconst 0, 1) := by decide +kernel
theorem dX9_pass_32 : decode cX9_pass 32 = .ok (.istore_n 2, 1) := by decide +kernel
theorem dX9_pass_33 : decode cX9_pass 33 = .ok (.iload_n 2, 1) := by decide +kernel
theorem dX9_pass_34 : decode cX9_pass 34 = .ok (.iload_n 1, 1) := by decide +kernel
theorem dX9_pass_35 : decode cX9_pass 35 = .ok (.if_icmp .ge 74, 3) := by decide +kernel
theorem dX9_pass_38 : decode cX9_pass 38 = .ok (.aload_n 0, 1) := by decide +kernel
theorem dX9_pass_39 : decode cX9_pass 39 = .ok (.getfield 7, 3) := by decide +kernel
theorem dX9_pass_42 : decode cX9_pass 42 = .ok (.bipush 121, 2) := by decide +kernel
theorem dX9_pass_44 : decode cX9_pass 44 = .ok (.dup2, 1) := by decide +kernel
theorem dX9_pass_45 : decode cX9_pass 45 = .ok (.iaload, 1) := by decide +kernel
theorem dX9_pass_46 : decode cX9_pass 46 = .ok (.iconst 1, 1) := by decide +kernel
theorem dX9_pass_47 : decode cX9_pass 47 = .ok (.iadd, 1) := by decide +kernel
theorem dX9_pass_48 : decode cX9_pass 48 = .ok (.iastore, 1) := by decide +kernel
theorem dX9_pass_49 : decode cX9_pass 49 = .ok (.iconst 0, 1) := by decide +kernel
theorem dX9_pass_50 : decode cX9_pass 50 = .ok (.istore_n 3, 1) := by decide +kernel
theorem dX9_pass_51 : decode cX9_pass 51 = .ok (.iload_n 3, 1) := by decide +kernel
theorem dX9_pass_52 : decode cX9_pass 52 = .ok (.aload_n 0, 1) := by decide +kernel
theorem dX9_pass_53 : decode cX9_pass 53 = .ok (.getfield 7, 3) := by decide +kernel
theorem dX9_pass_56 : decode cX9_pass 56 = .ok (.iconst 1, 1) := by decide +kernel
theorem dX9_pass_57 : decode cX9_pass 57 = .ok (.iaload, 1) := by decide +kernel
theorem dX9_pass_58 : decode cX9_pass 58 = .ok (.if_icmp .ge 41, 3) := by decide +kernel
theorem dX9_pass_61 : decode cX9_pass 61 = .ok (.aload_n 0, 1) := by decide +kernel
theorem dX9_pass_62 : decode cX9_pass 62 = .ok (.iload_n 3, 1) := by decide +kernel
theorem dX9_pass_63 : decode cX9_pass 63 = .ok (.iconst 4, 1) := by decide +kernel
theorem dX9_pass_64 : decode cX9_pass 64 = .ok (.invokevirtual 138, 3) := by decide +kernel
theorem dX9_pass_67 : decode cX9_pass 67 = .ok (.iconst 1, 1) := by decide +kernel
theorem dX9_pass_68 : decode cX9_pass 68 = .ok (.if_icmp .ne 25, 3) := by decide +kernel
theorem dX9_pass_71 : decode cX9_pass 71 = .ok (.aload_n 0, 1) := by decide +kernel
theorem dX9_pass_72 : decode cX9_pass 72 = .ok (.iload_n 3, 1) := by decide +kernel
theorem dX9_pass_73 : decode cX9_pass 73 = .ok (.bipush 6, 2) := by decide +kernel
theorem dX9_pass_75 : decode cX9_pass 75 = .ok (.invokevirtual 138, 3) := by decide +kernel
theorem dX9_pass_78 : decode cX9_pass 78 = .ok (.aload_n 0, 1) := by decide +kernel
theorem dX9_pass_79 : decode cX9_pass 79 = .ok (.getfield 7, 3) := by decide +kernel
theorem dX9_pass_82 : decode cX9_pass 82 = .ok (.bipush 121, 2) := by decide +kernel
theorem dX9_pass_84 : decode cX9_pass 84 = .ok (.iaload, 1) := by decide +kernel
theorem dX9_pass_85 : decode cX9_pass 85 = .ok (.if_icmp .ne 8, 3) := by decide +kernel
theorem dX9_pass_88 : decode cX9_pass 88 = .ok (.aload_n 0, 1) := by decide +kernel
theorem dX9_pass_89 : decode cX9_pass 89 = .ok (.iload_n 3, 1) := by decide +kernel
theorem dX9_pass_90 : decode cX9_pass 90 = .ok (.invokevirtual 381, 3) := by decide +kernel
theorem dX9_pass_93 : decode cX9_pass 93 = .ok (.iinc 3 1, 3) := by decide +kernel
theorem dX9_pass_96 : decode cX9_pass 96 = .ok (.goto (-45), 3) := by decide +kernel
theorem dX9_pass_99 : decode cX9_pass 99 = .ok (.aload_n 0, 1) := by decide +kernel
theorem dX9_pass_100 : decode cX9_pass 100 = .ok (.invokevirtual 384, 3) := by decide +kernel
theorem dX9_pass_103 : decode cX9_pass 103 = .ok (.iinc 2 1, 3) := by decide +kernel
theorem dX9_pass_106 : decode cX9_pass 106 = .ok (.goto (-73), 3) := by decide +kernel
theorem dX9_pass_109 : decode cX9_pass 109 = .ok (.aload_n 0, 1) := by decide +kernel
theorem dX9_pass_110 : decode cX9_pass 110 = .ok (.getfield 7, 3) := by decide +kernel
theorem dX9_pass_113 : decode cX9_pass 113 = .ok (.bipush 121, 2) := by decide +kernel
theorem dX9_pass_115 : decode cX9_pass 115 = .ok (.iaload, 1) := by decide +kernel
theorem dX9_pass_116 : decode cX9_pass 116 = .ok (.ireturn, 1) := by decide +kernel
set_option maxRecDepth 20000 in
theorem ggX9_played_X9_in : GoodIn wsX9_played wsX9_in := goodIn_r _ [10] (by decide +kernel) (by decide +kernel)
set_option maxRecDepth 20000 in
theorem gX9_played_X9_in : GoodIn wsX9_played (va_wsS RX9 126 yX9_in wsX9_in) := goodIn_app (goodIn_of _ (by decide +kernel)) ggX9_played_X9_in
set_option maxRecDepth 20000 in
theorem ggX9_played_X9_fill : GoodIn wsX9_played wsX9_fill := goodIn_r _ [14, 1, 15, 16, 17, 9, 18, 19, 20, 21, 22, 7, 8, 10, 23, 24, 25, 26, 27, 28, 29, 30, 31, 32, 33, 34, 35, 36, 37, 2, 3, 38, 39, 40, 41, 42, 43, 44, 45, 46, 47, 48, 49, 50, 51, 52, 53, 54, 55, 56, 57, 58, 59, 60, 61, 62, 63, 64, 65, 66, 67, 68, 69, 110, 111, 112, 113, 114, 115, 116, 117, 118, 119, 120, 121, 122, 123, 124, 125, 126, 127, 128, 129, 130, 131, 132, 133, 134, 135, 136, 137, 138, 139, 140, 141, 142, 143, 144, 145, 146, 147, 148, 149, 150, 151, 152, 153, 154, 155, 156, 157, 158, 159, 160, 161, 162] (by decide +kernel) (by decide +kernel)
set_option maxRecDepth 20000 in
theorem gX9_played_X9_fill : GoodIn wsX9_played (wsV RX9 387 RX9 yX9_fill wsX9_fill) := goodIn_app (goodIn_of _ (by decide +kernel)) ggX9_played_X9_fill
set_option maxRecDepth 20000 in
theorem ggX9_played_X9_send : GoodIn wsX9_played wsX9_send := goodIn_r _ [73, 1, 15, 16, 17, 9, 18, 19, 20, 21, 22, 7, 8, 10, 23, 24, 25, 26, 74, 75, 76, 77, 62, 63, 64, 65, 66, 67, 68, 69, 110, 111, 112, 113, 114, 115, 116, 117, 118, 119, 120, 121, 122, 123, 124, 125, 126, 127, 128, 129, 130, 131, 132, 133, 134, 135, 136, 137, 138, 139, 140, 141, 142, 143, 144, 145, 146, 147, 148, 149, 150, 151, 152, 153, 154, 155, 156, 157, 158, 159, 160, 161, 162] (by decide +kernel) (by decide +kernel)
set_option maxRecDepth 20000 in
theorem gX9_played_X9_send : GoodIn wsX9_played (wsV RX9 390 RX9 yX9_send wsX9_send) := goodIn_app (goodIn_of _ (by decide +kernel)) ggX9_played_X9_send
set_option maxRecDepth 20000 in
theorem ggX9_played_X9_fatten : GoodIn wsX9_played wsX9_fatten := goodIn_r _ [81, 1, 15, 16, 17, 9, 18, 19, 20, 21, 22, 7, 8, 10, 23, 24, 25, 26, 62, 63, 64, 65, 66, 67, 68, 69, 110, 111, 112, 113, 114, 115, 116, 117, 118, 119, 120, 121, 122, 123, 124, 125, 126, 127, 128, 129, 130, 131, 132, 133, 134, 135, 136, 137, 138, 139, 140, 141, 142, 143, 144, 145, 146, 147, 148, 149, 150, 151, 152, 153, 154, 155, 156, 157, 158, 159, 160, 161, 162] (by decide +kernel) (by decide +kernel)
set_option maxRecDepth 20000 in
theorem gX9_played_X9_fatten : GoodIn wsX9_played (wsV RX9 393 RX9 yX9_fatten wsX9_fatten) := goodIn_app (goodIn_of _ (by decide +kernel)) ggX9_played_X9_fatten
set_option maxRecDepth 20000 in
theorem ggX9_played_X9_pass : GoodIn wsX9_played wsX9_pass := goodIn_r _ [85, 1, 7, 8, 9, 10, 62, 63, 64, 65, 23, 24, 25, 26, 86, 87, 88, 89, 90, 91, 92, 93, 94, 95, 96, 97, 98, 99, 100, 101, 43, 34, 35, 36, 37, 2, 3, 38, 39, 40, 41, 42, 44, 45, 46, 47, 48, 49, 50, 51, 52, 53, 54, 55, 56, 57, 58, 59, 60, 61, 66, 67, 68, 69, 102, 103, 104, 105, 106, 107, 108, 109, 110, 111, 112, 113, 114, 115, 116, 117, 118, 119, 120, 121, 122, 123, 124, 125, 126, 127, 128, 129, 130, 131, 132, 133, 134, 135, 136, 137, 138, 139, 140, 141, 142, 143, 144, 145, 146, 147, 148, 149, 150, 151, 152, 153, 154, 155, 156, 157, 158, 159, 160, 161, 162] (by decide +kernel) (by decide +kernel)
set_option maxRecDepth 20000 in
theorem gX9_played_X9_pass : GoodIn wsX9_played (wsV RX9 396 RX9 yX9_pass wsX9_pass) := goodIn_app (goodIn_of _ (by decide +kernel)) ggX9_played_X9_pass
theorem dX9_played_0 : decode cX9_played 0 = .ok (.iload_n 1, 1) := by decide +kernel
theorem dX9_played_1 : decode cX9_played 1 = .ok (.iconst 0, 1) := by decide +kernel
theorem dX9_played_2 : decode cX9_played 2 = .ok (.aload_n 0, 1) := by decide +kernel
theorem dX9_played_3 : decode cX9_played 3 = .ok (.getfield 7, 3) := by decide +kernel
theorem dX9_played_6 : decode cX9_played 6 = .ok (.iconst 3, 1) := by decide +kernel
theorem dX9_played_7 : decode cX9_played 7 = .ok (.iaload, 1) := by decide +kernel
theorem dX9_played_8 : decode cX9_played 8 = .ok (.iconst 1, 1) := by decide +kernel
theorem dX9_played_9 : decode cX9_played 9 = .ok (.isub, 1) := by decide +kernel
theorem dX9_played_10 : decode cX9_played 10 = .ok (.invokestatic 126, 3) := by decide +kernel
theorem dX9_played_13 : decode cX9_played 13 = .ok (.ifCond .ne 6, 3) := by decide +kernel
theorem dX9_played_16 : decode cX9_played 16 = .ok (.bipush (-2), 2) := by decide +kernel
theorem dX9_played_18 : decode cX9_played 18 = .ok (.ireturn, 1) := by decide +kernel
theorem dX9_played_19 : decode cX9_played 19 = .ok (.iconst 0, 1) := by decide +kernel
theorem dX9_played_20 : decode cX9_played 20 = .ok (.istore_n 2, 1) := by decide +kernel
theorem dX9_played_21 : decode cX9_played 21 = .ok (.iload_n 2, 1) := by decide +kernel
theorem dX9_played_22 : decode cX9_played 22 = .ok (.aload_n 0, 1) := by decide +kernel
theorem dX9_played_23 : decode cX9_played 23 = .ok (.getfield 27, 3) := by decide +kernel
theorem dX9_played_26 : decode cX9_played 26 = .ok (.iload_n 1, 1) := by decide +kernel
theorem dX9_played_27 : decode cX9_played 27 = .ok (.iaload, 1) := by decide +kernel
theorem dX9_played_28 : decode cX9_played 28 = .ok (.if_icmp .ge 140, 3) := by decide +kernel
theorem dX9_played_31 : decode cX9_played 31 = .ok (.bipush 24, 2) := by decide +kernel
theorem dX9_played_33 : decode cX9_played 33 = .ok (.iload_n 1, 1) := by decide +kernel
theorem dX9_played_34 : decode cX9_played 34 = .ok (.imul, 1) := by decide +kernel
theorem dX9_played_35 : decode cX9_played 35 = .ok (.iload_n 2, 1) := by decide +kernel
theorem dX9_played_36 : decode cX9_played 36 = .ok (.iadd, 1) := by decide +kernel
theorem dX9_played_37 : decode cX9_played 37 = .ok (.istore_n 3, 1) := by decide +kernel
theorem dX9_played_38 : decode cX9_played 38 = .ok (.iconst 0, 1) := by decide +kernel
theorem dX9_played_39 : decode cX9_played 39 = .ok (.istore 4, 2) := by decide +kernel
theorem dX9_played_41 : decode cX9_played 41 = .ok (.aload_n 0, 1) := by decide +kernel
theorem dX9_played_42 : decode cX9_played 42 = .ok (.getfield 30, 3) := by decide +kernel
theorem dX9_played_45 : decode cX9_played 45 = .ok (.iload_n 3, 1) := by decide +kernel
theorem dX9_played_46 : decode cX9_played 46 = .ok (.iaload, 1) := by decide +kernel
theorem dX9_played_47 : decode cX9_played 47 = .ok (.tableswitch 107 4 7 #[29, 56, 77, 92], 29) := by decide +kernel
theorem dX9_played_76 : decode cX9_played 76 = .ok (.aload_n 0, 1) := by decide +kernel
theorem dX9_played_77 : decode cX9_played 77 = .ok (.aload_n 0, 1) := by decide +kernel
theorem dX9_played_78 : decode cX9_played 78 = .ok (.getfield 36, 3) := by decide +kernel
theorem dX9_played_81 : decode cX9_played 81 = .ok (.iload_n 3, 1) := by decide +kernel
theorem dX9_played_82 : decode cX9_played 82 = .ok (.iaload, 1) := by decide +kernel
theorem dX9_played_83 : decode cX9_played 83 = .ok (.aload_n 0, 1) := by decide +kernel
theorem dX9_played_84 : decode cX9_played 84 = .ok (.getfield 39, 3) := by decide +kernel
theorem dX9_played_87 : decode cX9_played 87 = .ok (.iload_n 3, 1) := by decide +kernel
theorem dX9_played_88 : decode cX9_played 88 = .ok (.iaload, 1) := by decide +kernel
theorem dX9_played_89 : decode cX9_played 89 = .ok (.aload_n 0, 1) := by decide +kernel
theorem dX9_played_90 : decode cX9_played 90 = .ok (.getfield 42, 3) := by decide +kernel
theorem dX9_played_93 : decode cX9_played 93 = .ok (.iload_n 3, 1) := by decide +kernel
theorem dX9_played_94 : decode cX9_played 94 = .ok (.iaload, 1) := by decide +kernel
theorem dX9_played_95 : decode cX9_played 95 = .ok (.invokevirtual 387, 3) := by decide +kernel
theorem dX9_played_98 : decode cX9_played 98 = .ok (.istore 4, 2) := by decide +kernel
theorem dX9_played_100 : decode cX9_played 100 = .ok (.goto 54, 3) := by decide +kernel
theorem dX9_played_103 : decode cX9_played 103 = .ok (.aload_n 0, 1) := by decide +kernel
theorem dX9_played_104 : decode cX9_played 104 = .ok (.aload_n 0, 1) := by decide +kernel
theorem dX9_played_105 : decode cX9_played 105 = .ok (.getfield 36, 3) := by decide +kernel
theorem dX9_played_108 : decode cX9_played 108 = .ok (.iload_n 3, 1) := by decide +kernel
theorem dX9_played_109 : decode cX9_played 109 = .ok (.iaload, 1) := by decide +kernel
theorem dX9_played_110 : decode cX9_played 110 = .ok (.aload_n 0, 1) := by decide +kernel
theorem dX9_played_111 : decode cX9_played 111 = .ok (.getfield 39, 3) := by decide +kernel
theorem dX9_played_114 : decode cX9_played 114 = .ok (.iload_n 3, 1) := by decide +kernel
theorem dX9_played_115 : decode cX9_played 115 = .ok (.iaload, 1) := by decide +kernel
theorem dX9_played_116 : decode cX9_played 116 = .ok (.invokevirtual 390, 3) := by decide +kernel
theorem dX9_played_119 : decode cX9_played 119 = .ok (.istore 4, 2) := by decide +kernel
theorem dX9_played_121 : decode cX9_played 121 = .ok (.goto 33, 3) := by decide +kernel
theorem dX9_played_124 : decode cX9_played 124 = .ok (.aload_n 0, 1) := by decide +kernel
theorem dX9_played_125 : decode cX9_played 125 = .ok (.aload_n 0, 1) := by decide +kernel
theorem dX9_played_126 : decode cX9_played 126 = .ok (.getfield 36, 3) := by decide +kernel
theorem dX9_played_129 : decode cX9_played 129 = .ok (.iload_n 3, 1) := by decide +kernel
theorem dX9_played_130 : decode cX9_played 130 = .ok (.iaload, 1) := by decide +kernel
theorem dX9_played_131 : decode cX9_played 131 = .ok (.invokevirtual 393, 3) := by decide +kernel
theorem dX9_played_134 : decode cX9_played 134 = .ok (.istore 4, 2) := by decide +kernel
theorem dX9_played_136 : decode cX9_played 136 = .ok (.goto 18, 3) := by decide +kernel
theorem dX9_played_139 : decode cX9_played 139 = .ok (.aload_n 0, 1) := by decide +kernel
theorem dX9_played_140 : decode cX9_played 140 = .ok (.aload_n 0, 1) := by decide +kernel
theorem dX9_played_141 : decode cX9_played 141 = .ok (.getfield 36, 3) := by decide +kernel
theorem dX9_played_144 : decode cX9_played 144 = .ok (.iload_n 3, 1) := by decide +kernel
theorem dX9_played_145 : decode cX9_played 145 = .ok (.iaload, 1) := by decide +kernel
theorem dX9_played_146 : decode cX9_played 146 = .ok (.invokevirtual 396, 3) := by decide +kernel
theorem dX9_played_149 : decode cX9_played 149 = .ok (.istore 4, 2) := by decide +kernel
theorem dX9_played_151 : decode cX9_played 151 = .ok (.goto 3, 3) := by decide +kernel
theorem dX9_played_154 : decode cX9_played 154 = .ok (.iload 4, 2) := by decide +kernel
theorem dX9_played_156 : decode cX9_played 156 = .ok (.iconst (-1), 1) := by decide +kernel
theorem dX9_played_157 : decode cX9_played 157 = .ok (.if_icmp .ne 5, 3) := by decide +kernel
theorem dX9_played_160 : decode cX9_played 160 = .ok (.iload_n 2, 1) := by decide +kernel
theorem dX9_played_161 : decode cX9_played 161 = .ok (.ireturn, 1) := by decide +kernel
theorem dX9_played_162 : decode cX9_played 162 = .ok (.iinc 2 1, 3) := by decide +kernel
theorem dX9_played_165 : decode cX9_played 165 = .ok (.goto (-144), 3) := by decide +kernel
theorem dX9_played_168 : decode cX9_played 168 = .ok (.iconst (-1), 1) := by decide +kernel
theorem dX9_played_169 : decode cX9_played 169 = .ok (.ireturn, 1) := by decide +kernel
set_option maxRecDepth 20000 in
theorem ggX9_of_X9_isGoose : GoodIn wsX9_of wsX9_isGoose := goodIn_r _ [5, 6, 7, 8, 4, 9, 49, 50, 51, 52, 53, 54, 55, 56, 57, 58, 59, 60, 61, 62, 63, 64, 65, 66, 67, 68, 69, 70, 71, 72, 73, 74, 75, 76, 77, 78, 79, 80, 81, 82, 83, 84, 85, 86, 87, 88, 89, 90, 91, 92, 93, 94, 95, 96, 97, 98, 99, 100, 101] (by decide +kernel) (by decide +kernel)
set_option maxRecDepth 20000 in
theorem gX9_of_X9_isGoose : GoodIn wsX9_of (wsV RX9 134 RX9 yX9_isGoose wsX9_isGoose) := goodIn_app (goodIn_of _ (by decide +kernel)) ggX9_of_X9_isGoose
set_option maxRecDepth 20000 in
theorem ggX9_of_X9_in : GoodIn wsX9_of wsX9_in := goodIn_r _ [9] (by decide +kernel) (by decide +kernel)
set_option maxRecDepth 20000 in
theorem gX9_of_X9_in : GoodIn wsX9_of (va_wsS RX9 126 yX9_in wsX9_in) := goodIn_app (goodIn_of _ (by decide +kernel)) ggX9_of_X9_in
set_option maxRecDepth 20000 in
theorem ggX9_of_X9_ofGoose : GoodIn wsX9_of wsX9_ofGoose := goodIn_r _ [13, 6, 49, 50, 51, 52, 53, 54, 55, 56, 57, 58, 59, 60, 61, 62, 63, 64, 65, 66, 67, 68, 69, 70, 71, 72, 73, 74, 75, 76, 77, 78, 79, 80, 81, 82, 83, 84, 85, 86, 87, 88, 89, 90, 91, 92, 93, 94, 95, 96, 97, 98, 99, 100, 101] (by decide +kernel) (by decide +kernel)
set_option maxRecDepth 20000 in
theorem gX9_of_X9_ofGoose : GoodIn wsX9_of (wsV RX9 138 RX9 yX9_ofGoose wsX9_ofGoose) := goodIn_app (goodIn_of _ (by decide +kernel)) ggX9_of_X9_ofGoose
set_option maxRecDepth 20000 in
theorem ggX9_of_X9_isTrue : GoodIn wsX9_of wsX9_isTrue := goodIn_r _ [17, 10, 11, 12, 4, 13, 6, 18, 19, 20, 21, 22, 23, 24, 25, 26, 27, 28, 29, 30, 31, 32, 33, 34, 35, 36, 37, 38, 39, 40, 41, 42, 43, 44, 45, 46, 47, 48, 49, 50, 51, 52, 53, 54, 55, 56, 57, 58, 59, 60, 61, 62, 63, 64, 65, 66, 67, 68, 69, 70, 71, 72, 73, 74, 75, 76, 77, 78, 79, 80, 81, 82, 83, 84, 85, 86, 87, 88, 89, 90, 91, 92, 93, 94, 95, 96, 97, 98, 99, 100, 101] (by decide +kernel) (by decide +kernel)
set_option maxRecDepth 20000 in
theorem gX9_of_X9_isTrue : GoodIn wsX9_of (wsV RX9 399 RX9 yX9_isTrue wsX9_isTrue) := goodIn_app (goodIn_of _ (by decide +kernel)) ggX9_of_X9_isTrue
theorem dX9_of_0 : decode cX9_of 0 = .ok (.aload_n 0, 1) := by decide +kernel
theorem dX9_of_1 : decode cX9_of 1 = .ok (.iload_n 1, 1) := by decide +kernel
theorem dX9_of_2 : decode cX9_of 2 = .ok (.invokevirtual 134, 3) := by decide +kernel
theorem dX9_of_5 : decode cX9_of 5 = .ok (.ifCond .eq 13, 3) := by decide +kernel
theorem dX9_of_8 : decode cX9_of 8 = .ok (.iload_n 2, 1) := by decide +kernel
theorem dX9_of_9 : decode cX9_of 9 = .ok (.iconst 0, 1) := by decide +kernel
theorem dX9_of_10 : decode cX9_of 10 = .ok (.bipush 9, 2) := by decide +kernel
theorem dX9_of_12 : decode cX9_of 12 = .ok (.invokestatic 126, 3) := by decide +kernel
theorem dX9_of_15 : decode cX9_of 15 = .ok (.ifCond .ne 6, 3) := by decide +kernel
theorem dX9_of_18 : decode cX9_of 18 = .ok (.bipush (-2), 2) := by decide +kernel
theorem dX9_of_20 : decode cX9_of 20 = .ok (.ireturn, 1) := by decide +kernel
theorem dX9_of_21 : decode cX9_of 21 = .ok (.iload_n 2, 1) := by decide +kernel
theorem dX9_of_22 : decode cX9_of 22 = .ok (.bipush 9, 2) := by decide +kernel
theorem dX9_of_24 : decode cX9_of 24 = .ok (.if_icmp .ge 10, 3) := by decide +kernel
theorem dX9_of_27 : decode cX9_of 27 = .ok (.aload_n 0, 1) := by decide +kernel
theorem dX9_of_28 : decode cX9_of 28 = .ok (.iload_n 1, 1) := by decide +kernel
theorem dX9_of_29 : decode cX9_of 29 = .ok (.iload_n 2, 1) := by decide +kernel
theorem dX9_of_30 : decode cX9_of 30 = .ok (.invokevirtual 138, 3) := by decide +kernel
theorem dX9_of_33 : decode cX9_of 33 = .ok (.ireturn, 1) := by decide +kernel
theorem dX9_of_34 : decode cX9_of 34 = .ok (.aload_n 0, 1) := by decide +kernel
theorem dX9_of_35 : decode cX9_of 35 = .ok (.iload_n 1, 1) := by decide +kernel
theorem dX9_of_36 : decode cX9_of 36 = .ok (.invokevirtual 399, 3) := by decide +kernel
theorem dX9_of_39 : decode cX9_of 39 = .ok (.ifCond .eq 7, 3) := by decide +kernel
theorem dX9_of_42 : decode cX9_of 42 = .ok (.iconst 1, 1) := by decide +kernel
theorem dX9_of_43 : decode cX9_of 43 = .ok (.goto 4, 3) := by decide +kernel
theorem dX9_of_46 : decode cX9_of 46 = .ok (.iconst 0, 1) := by decide +kernel
theorem dX9_of_47 : decode cX9_of 47 = .ok (.ireturn, 1) := by decide +kernel
theorem dX9_halves_0 : decode cX9_halves 0 = .ok (.iload_n 0, 1) := by decide +kernel
theorem dX9_halves_1 : decode cX9_halves 1 = .ok (.ifCond .ne 7, 3) := by decide +kernel
theorem dX9_halves_4 : decode cX9_halves 4 = .ok (.iconst 3, 1) := by decide +kernel
theorem dX9_halves_5 : decode cX9_halves 5 = .ok (.goto 4, 3) := by decide +kernel
theorem dX9_halves_8 : decode cX9_halves 8 = .ok (.iload_n 0, 1) := by decide +kernel
theorem dX9_halves_9 : decode cX9_halves 9 = .ok (.ireturn, 1) := by decide +kernel
set_option maxRecDepth 20000 in
theorem ggX9_brought_X9_ofGoose : GoodIn wsX9_brought wsX9_ofGoose := goodIn_r _ [5, 6, 45, 46, 47, 48, 49, 50, 51, 52, 53, 54, 55, 56, 57, 58, 59, 60, 61, 62, 63, 64, 65, 66, 67, 68, 69, 70, 71, 72, 73, 74, 75, 76, 77, 78, 79, 80, 81, 82, 83, 84, 85, 86, 87, 88, 89, 90, 91, 92, 93, 94, 95, 96, 97] (by decide +kernel) (by decide +kernel)
set_option maxRecDepth 20000 in
theorem gX9_brought_X9_ofGoose : GoodIn wsX9_brought (wsV RX9 138 RX9 yX9_ofGoose wsX9_ofGoose) := goodIn_app (goodIn_of _ (by decide +kernel)) ggX9_brought_X9_ofGoose
set_option maxRecDepth 20000 in
theorem ggX9_brought_X9_isTrue : GoodIn wsX9_brought wsX9_isTrue := goodIn_r _ [10, 1, 2, 3, 4, 5, 6, 11, 12, 13, 14, 15, 16, 17, 18, 19, 20, 21, 22, 23, 24, 25, 26, 27, 28, 29, 30, 31, 32, 33, 34, 35, 36, 37, 38, 39, 40, 41, 45, 46, 47, 48, 49, 50, 51, 52, 53, 54, 55, 56, 57, 58, 59, 60, 61, 62, 63, 64, 65, 66, 67, 68, 69, 70, 71, 72, 73, 74, 75, 76, 77, 78, 79, 80, 81, 82, 83, 84, 85, 86, 87, 88, 89, 90, 91, 92, 93, 94, 95, 96, 97] (by decide +kernel) (by decide +kernel)
set_option maxRecDepth 20000 in
theorem gX9_brought_X9_isTrue : GoodIn wsX9_brought (wsV RX9 399 RX9 yX9_isTrue wsX9_isTrue) := goodIn_app (goodIn_of _ (by decide +kernel)) ggX9_brought_X9_isTrue
set_option maxRecDepth 20000 in
theorem ggX9_brought_X9_halves : GoodIn wsX9_brought wsX9_halves := goodIn_r _ [44] (by decide +kernel) (by decide +kernel)
set_option maxRecDepth 20000 in
theorem gX9_brought_X9_halves : GoodIn wsX9_brought (va_wsS RX9 402 yX9_halves wsX9_halves) := goodIn_app (goodIn_of _ (by decide +kernel)) ggX9_brought_X9_halves
theorem dX9_brought_0 : decode cX9_brought 0 = .ok (.aload_n 0, 1) := by decide +kernel
theorem dX9_brought_1 : decode cX9_brought 1 = .ok (.iload_n 1, 1) := by decide +kernel
theorem dX9_brought_2 : decode cX9_brought 2 = .ok (.iconst 2, 1) := by decide +kernel
theorem dX9_brought_3 : decode cX9_brought 3 = .ok (.invokevirtual 138, 3) := by decide +kernel
theorem dX9_brought_6 : decode cX9_brought 6 = .ok (.iload_n 2, 1) := by decide +kernel
theorem dX9_brought_7 : decode cX9_brought 7 = .ok (.if_icmp .ne 44, 3) := by decide +kernel
theorem dX9_brought_10 : decode cX9_brought 10 = .ok (.aload_n 0, 1) := by decide +kernel
theorem dX9_brought_11 : decode cX9_brought 11 = .ok (.iload_n 1, 1) := by decide +kernel
theorem dX9_brought_12 : decode cX9_brought 12 = .ok (.bipush 7, 2) := by decide +kernel
theorem dX9_brought_14 : decode cX9_brought 14 = .ok (.invokevirtual 138, 3) := by decide +kernel
theorem dX9_brought_17 : decode cX9_brought 17 = .ok (.iconst (-1), 1) := by decide +kernel
theorem dX9_brought_18 : decode cX9_brought 18 = .ok (.if_icmp .eq 33, 3) := by decide +kernel
theorem dX9_brought_21 : decode cX9_brought 21 = .ok (.aload_n 0, 1) := by decide +kernel
theorem dX9_brought_22 : decode cX9_brought 22 = .ok (.iload_n 1, 1) := by decide +kernel
theorem dX9_brought_23 : decode cX9_brought 23 = .ok (.bipush 7, 2) := by decide +kernel
theorem dX9_brought_25 : decode cX9_brought 25 = .ok (.invokevirtual 138, 3) := by decide +kernel
theorem dX9_brought_28 : decode cX9_brought 28 = .ok (.iload_n 3, 1) := by decide +kernel
theorem dX9_brought_29 : decode cX9_brought 29 = .ok (.if_icmp .gt 22, 3) := by decide +kernel
theorem dX9_brought_32 : decode cX9_brought 32 = .ok (.aload_n 0, 1) := by decide +kernel
theorem dX9_brought_33 : decode cX9_brought 33 = .ok (.iload_n 1, 1) := by decide +kernel
theorem dX9_brought_34 : decode cX9_brought 34 = .ok (.iconst 4, 1) := by decide +kernel
theorem dX9_brought_35 : decode cX9_brought 35 = .ok (.invokevirtual 138, 3) := by decide +kernel
theorem dX9_brought_38 : decode cX9_brought 38 = .ok (.iload 4, 2) := by decide +kernel
theorem dX9_brought_40 : decode cX9_brought 40 = .ok (.ifCond .eq 7, 3) := by decide +kernel
theorem dX9_brought_43 : decode cX9_brought 43 = .ok (.iconst 4, 1) := by decide +kernel
theorem dX9_brought_44 : decode cX9_brought 44 = .ok (.goto 4, 3) := by decide +kernel
theorem dX9_brought_47 : decode cX9_brought 47 = .ok (.iconst 2, 1) := by decide +kernel
theorem dX9_brought_48 : decode cX9_brought 48 = .ok (.if_icmp .eq 5, 3) := by decide +kernel
theorem dX9_brought_51 : decode cX9_brought 51 = .ok (.iconst 0, 1) := by decide +kernel
theorem dX9_brought_52 : decode cX9_brought 52 = .ok (.ireturn, 1) := by decide +kernel
theorem dX9_brought_53 : decode cX9_brought 53 = .ok (.iload 4, 2) := by decide +kernel
theorem dX9_brought_55 : decode cX9_brought 55 = .ok (.ifCond .ne 11, 3) := by decide +kernel
theorem dX9_brought_58 : decode cX9_brought 58 = .ok (.aload_n 0, 1) := by decide +kernel
theorem dX9_brought_59 : decode cX9_brought 59 = .ok (.iload_n 1, 1) := by decide +kernel
theorem dX9_brought_60 : decode cX9_brought 60 = .ok (.invokevirtual 399, 3) := by decide +kernel
theorem dX9_brought_63 : decode cX9_brought 63 = .ok (.ifCond .eq 15, 3) := by decide +kernel
theorem dX9_brought_66 : decode cX9_brought 66 = .ok (.aload_n 0, 1) := by decide +kernel
theorem dX9_brought_67 : decode cX9_brought 67 = .ok (.iload_n 1, 1) := by decide +kernel
theorem dX9_brought_68 : decode cX9_brought 68 = .ok (.iconst 3, 1) := by decide +kernel
theorem dX9_brought_69 : decode cX9_brought 69 = .ok (.invokevirtual 138, 3) := by decide +kernel
theorem dX9_brought_72 : decode cX9_brought 72 = .ok (.invokestatic 402, 3) := by decide +kernel
theorem dX9_brought_75 : decode cX9_brought 75 = .ok (.goto 4, 3) := by decide +kernel
theorem dX9_brought_78 : decode cX9_brought 78 = .ok (.iconst 0, 1) := by decide +kernel
theorem dX9_brought_79 : decode cX9_brought 79 = .ok (.ireturn, 1) := by decide +kernel
set_option maxRecDepth 20000 in
theorem ggX9_knownBy_X9_brought : GoodIn wsX9_knownBy wsX9_brought := goodIn_r _ [6, 7, 8, 9, 5, 10, 1, 11, 12, 13, 14, 15, 16, 17, 18, 19, 20, 21, 22, 23, 24, 25, 26, 27, 28, 29, 30, 31, 32, 33, 34, 35, 36, 37, 38, 39, 40, 41, 42, 43, 44, 45, 46, 47, 48, 49, 50, 51, 52, 53, 54, 55, 56, 57, 58, 59, 60, 61, 62, 63, 64, 65, 66, 67, 68, 69, 70, 71, 72, 73, 74, 75, 76, 77, 78, 79, 80, 81, 82, 83, 84, 85, 86, 87, 88, 89, 90, 91, 92, 93, 94, 95, 96, 97, 98, 99, 100, 101] (by decide +kernel) (by decide +kernel)
set_option maxRecDepth 20000 in
theorem gX9_knownBy_X9_brought : GoodIn wsX9_knownBy (wsV RX9 405 RX9 yX9_brought wsX9_brought) := goodIn_app (goodIn_of _ (by decide +kernel)) ggX9_knownBy_X9_brought
theorem dX9_knownBy_0 : decode cX9_knownBy 0 = .ok (.iconst 0, 1) := by decide +kernel
theorem dX9_knownBy_1 : decode cX9_knownBy 1 = .ok (.istore 4, 2) := by decide +kernel
theorem dX9_knownBy_3 : decode cX9_knownBy 3 = .ok (.iconst 0, 1) := by decide +kernel
theorem dX9_knownBy_4 : decode cX9_knownBy 4 = .ok (.istore 5, 2) := by decide +kernel
theorem dX9_knownBy_6 : decode cX9_knownBy 6 = .ok (.iload 5, 2) := by decide +kernel
theorem dX9_knownBy_8 : decode cX9_knownBy 8 = .ok (.aload_n 0, 1) := by decide +kernel
theorem dX9_knownBy_9 : decode cX9_knownBy 9 = .ok (.getfield 7, 3) := by decide +kernel
theorem dX9_knownBy_12 : decode cX9_knownBy 12 = .ok (.iconst 1, 1) := by decide +kernel
theorem dX9_knownBy_13 : decode cX9_knownBy 13 = .ok (.iaload, 1) := by decide +kernel
theorem dX9_knownBy_14 : decode cX9_knownBy 14 = .ok (.if_icmp .ge 23, 3) := by decide +kernel
theorem dX9_knownBy_17 : decode cX9_knownBy 17 = .ok (.iload 4, 2) := by decide +kernel
theorem dX9_knownBy_19 : decode cX9_knownBy 19 = .ok (.aload_n 0, 1) := by decide +kernel
theorem dX9_knownBy_20 : decode cX9_knownBy 20 = .ok (.iload 5, 2) := by decide +kernel
theorem dX9_knownBy_22 : decode cX9_knownBy 22 = .ok (.iload_n 1, 1) := by decide +kernel
theorem dX9_knownBy_23 : decode cX9_knownBy 23 = .ok (.iload_n 2, 1) := by decide +kernel
theorem dX9_knownBy_24 : decode cX9_knownBy 24 = .ok (.iload_n 3, 1) := by decide +kernel
theorem dX9_knownBy_25 : decode cX9_knownBy 25 = .ok (.invokevirtual 405, 3) := by decide +kernel
theorem dX9_knownBy_28 : decode cX9_knownBy 28 = .ok (.ior, 1) := by decide +kernel
theorem dX9_knownBy_29 : decode cX9_knownBy 29 = .ok (.istore 4, 2) := by decide +kernel
theorem dX9_knownBy_31 : decode cX9_knownBy 31 = .ok (.iinc 5 1, 3) := by decide +kernel
theorem dX9_knownBy_34 : decode cX9_knownBy 34 = .ok (.goto (-28), 3) := by decide +kernel
theorem dX9_knownBy_37 : decode cX9_knownBy 37 = .ok (.iload 4, 2) := by decide +kernel
theorem dX9_knownBy_39 : decode cX9_knownBy 39 = .ok (.ireturn, 1) := by decide +kernel
set_option maxRecDepth 20000 in
theorem ggX9_isLetterNumber_X9_in : GoodIn wsX9_isLetterNumber wsX9_in := goodIn_r _ [4] (by decide +kernel) (by decide +kernel)
set_option maxRecDepth 20000 in
theorem gX9_isLetterNumber_X9_in : GoodIn wsX9_isLetterNumber (va_wsS RX9 126 yX9_in wsX9_in) := goodIn_app (goodIn_of _ (by decide +kernel)) ggX9_isLetterNumber_X9_in
theorem dX9_isLetterNumber_0 : decode cX9_isLetterNumber 0 = .ok (.iload_n 0, 1) := by decide +kernel
theorem dX9_isLetterNumber_1 : decode cX9_isLetterNumber 1 = .ok (.iconst 0, 1) := by decide +kernel
theorem dX9_isLetterNumber_2 : decode cX9_isLetterNumber 2 = .ok (.iconst 5, 1) := by decide +kernel
theorem dX9_isLetterNumber_3 : decode cX9_isLetterNumber 3 = .ok (.invokestatic 126, 3) := by decide +kernel
theorem dX9_isLetterNumber_6 : decode cX9_isLetterNumber 6 = .ok (.ireturn, 1) := by decide +kernel
set_option maxRecDepth 20000 in
theorem ggX9_known_X9_isLetterNumber : GoodIn wsX9_known wsX9_isLetterNumber := goodIn_r _ [4, 5, 6, 3, 7] (by decide +kernel) (by decide +kernel)
set_option maxRecDepth 20000 in
theorem gX9_known_X9_isLetterNumber : GoodIn wsX9_known (va_wsS RX9 409 yX9_isLetterNumber wsX9_isLetterNumber) := goodIn_app (goodIn_of _ (by decide +kernel)) ggX9_known_X9_isLetterNumber
set_option maxRecDepth 20000 in
theorem ggX9_known_X9_in : GoodIn wsX9_known wsX9_in := goodIn_r _ [7] (by decide +kernel) (by decide +kernel)
set_option maxRecDepth 20000 in
theorem gX9_known_X9_in : GoodIn wsX9_known (va_wsS RX9 126 yX9_in wsX9_in) := goodIn_app (goodIn_of _ (by decide +kernel)) ggX9_known_X9_in
set_option maxRecDepth 20000 in
theorem ggX9_known_X9_knownBy : GoodIn wsX9_known wsX9_knownBy := goodIn_r _ [11, 12, 13, 14, 15, 3, 16, 17, 18, 19, 20, 21, 22, 23, 24, 25, 26, 27, 28, 29, 30, 31, 32, 33, 34, 35, 36, 37, 38, 39, 40, 41, 42, 43, 44, 45, 46, 47, 48, 49, 50, 51, 52, 53, 54, 55, 56, 57, 58, 59, 60, 61, 62, 63, 64, 65, 66, 67, 68, 69, 70, 71, 72, 73, 74, 75, 76, 77, 78, 79, 80, 81, 82, 83, 84, 85, 86, 87, 88, 89, 90, 91, 92, 93, 94, 95, 96, 97, 98, 99, 100, 101, 102, 103, 104, 105, 106, 107, 108, 109, 110, 111] (by decide +kernel) (by decide +kernel)
set_option maxRecDepth 20000 in
theorem gX9_known_X9_knownBy : GoodIn wsX9_known (wsV RX9 412 RX9 yX9_knownBy wsX9_knownBy) := goodIn_app (goodIn_of _ (by decide +kernel)) ggX9_known_X9_knownBy
theorem dX9_known_0 : decode cX9_known 0 = .ok (.iload_n 1, 1) := by decide +kernel
theorem dX9_known_1 : decode cX9_known 1 = .ok (.invokestatic 409, 3) := by decide +kernel
theorem dX9_known_4 : decode cX9_known 4 = .ok (.ifCond .eq 14, 3) := by decide +kernel
theorem dX9_known_7 : decode cX9_known 7 = .ok (.iload_n 2, 1) := by decide +kernel
theorem dX9_known_8 : decode cX9_known 8 = .ok (.iconst 0, 1) := by decide +kernel
theorem dX9_known_9 : decode cX9_known 9 = .ok (.sipush 999, 3) := by decide +kernel
theorem dX9_known_12 : decode cX9_known 12 = .ok (.invokestatic 126, 3) := by decide +kernel
theorem dX9_known_15 : decode cX9_known 15 = .ok (.ifCond .ne 5, 3) := by decide +kernel
theorem dX9_known_18 : decode cX9_known 18 = .ok (.iconst (-1), 1) := by decide +kernel
theorem dX9_known_19 : decode cX9_known 19 = .ok (.ireturn, 1) := by decide +kernel
theorem dX9_known_20 : decode cX9_known 20 = .ok (.aload_n 0, 1) := by decide +kernel
theorem dX9_known_21 : decode cX9_known 21 = .ok (.iload_n 1, 1) := by decide +kernel
theorem dX9_known_22 : decode cX9_known 22 = .ok (.iload_n 2, 1) := by decide +kernel
theorem dX9_known_23 : decode cX9_known 23 = .ok (.iconst 0, 1) := by decide +kernel
theorem dX9_known_24 : decode cX9_known 24 = .ok (.invokevirtual 412, 3) := by decide +kernel
theorem dX9_known_27 : decode cX9_known 27 = .ok (.iconst 3, 1) := by decide +kernel
theorem dX9_known_28 : decode cX9_known 28 = .ok (.if_icmp .ne 7, 3) := by decide +kernel
theorem dX9_known_31 : decode cX9_known 31 = .ok (.iconst 1, 1) := by decide +kernel
theorem dX9_known_32 : decode cX9_known 32 = .ok (.goto 4, 3) := by decide +kernel
theorem dX9_known_35 : decode cX9_known 35 = .ok (.iconst 0, 1) := by decide +kernel
theorem dX9_known_36 : decode cX9_known 36 = .ok (.aload_n 0, 1) := by decide +kernel
theorem dX9_known_37 : decode cX9_known 37 = .ok (.iload_n 1, 1) := by decide +kernel
theorem dX9_known_38 : decode cX9_known 38 = .ok (.iload_n 2, 1) := by decide +kernel
theorem dX9_known_39 : decode cX9_known 39 = .ok (.iconst 1, 1) := by decide +kernel
theorem dX9_known_40 : decode cX9_known 40 = .ok (.invokevirtual 412, 3) := by decide +kernel
theorem dX9_known_43 : decode cX9_known 43 = .ok (.iconst 3, 1) := by decide +kernel
theorem dX9_known_44 : decode cX9_known 44 = .ok (.if_icmp .ne 7, 3) := by decide +kernel
theorem dX9_known_47 : decode cX9_known 47 = .ok (.iconst 2, 1) := by decide +kernel
theorem dX9_known_48 : decode cX9_known 48 = .ok (.goto 4, 3) := by decide +kernel
theorem dX9_known_51 : decode cX9_known 51 = .ok (.iconst 0, 1) := by decide +kernel
theorem dX9_known_52 : decode cX9_known 52 = .ok (.iadd, 1) := by decide +kernel
theorem dX9_known_53 : decode cX9_known 53 = .ok (.ireturn, 1) := by decide +kernel
set_option maxRecDepth 20000 in
theorem ggX9_led_X9_isLetterNumber : GoodIn wsX9_led wsX9_isLetterNumber := goodIn_r _ [5, 6, 7, 4, 8] (by decide +kernel) (by decide +kernel)
set_option maxRecDepth 20000 in
theorem gX9_led_X9_isLetterNumber : GoodIn wsX9_led (va_wsS RX9 409 yX9_isLetterNumber wsX9_isLetterNumber) := goodIn_app (goodIn_of _ (by decide +kernel)) ggX9_led_X9_isLetterNumber
set_option maxRecDepth 20000 in
theorem ggX9_led_X9_ofGoose : GoodIn wsX9_led wsX9_ofGoose := goodIn_r _ [12, 1, 55, 56, 57, 58, 59, 60, 61, 62, 63, 64, 65, 66, 67, 68, 69, 70, 71, 72, 73, 74, 75, 76, 77, 78, 79, 80, 81, 82, 83, 84, 85, 86, 87, 88, 89, 90, 91, 92, 93, 94, 95, 96, 97, 98, 99, 100, 101, 102, 103, 104, 105, 106, 107] (by decide +kernel) (by decide +kernel)
set_option maxRecDepth 20000 in
theorem gX9_led_X9_ofGoose : GoodIn wsX9_led (wsV RX9 138 RX9 yX9_ofGoose wsX9_ofGoose) := goodIn_app (goodIn_of _ (by decide +kernel)) ggX9_led_X9_ofGoose
set_option maxRecDepth 20000 in
theorem ggX9_led_X9_brought : GoodIn wsX9_led wsX9_brought := goodIn_r _ [16, 9, 10, 11, 4, 12, 1, 17, 18, 19, 20, 21, 22, 23, 24, 25, 26, 27, 28, 29, 30, 31, 32, 33, 34, 35, 36, 37, 38, 39, 40, 41, 42, 43, 44, 45, 46, 47, 48, 49, 50, 51, 52, 53, 54, 55, 56, 57, 58, 59, 60, 61, 62, 63, 64, 65, 66, 67, 68, 69, 70, 71, 72, 73, 74, 75, 76, 77, 78, 79, 80, 81, 82, 83, 84, 85, 86, 87, 88, 89, 90, 91, 92, 93, 94, 95, 96, 97, 98, 99, 100, 101, 102, 103, 104, 105, 106, 107] (by decide +kernel) (by decide +kernel)
set_option maxRecDepth 20000 in
theorem gX9_led_X9_brought : GoodIn wsX9_led (wsV RX9 405 RX9 yX9_brought wsX9_brought) := goodIn_app (goodIn_of _ (by decide +kernel)) ggX9_led_X9_brought
theorem dX9_led_0 : decode cX9_led 0 = .ok (.iload_n 1, 1) := by decide +kernel
theorem dX9_led_1 : decode cX9_led 1 = .ok (.invokestatic 409, 3) := by decide +kernel
theorem dX9_led_4 : decode cX9_led 4 = .ok (.ifCond .ne 5, 3) := by decide +kernel
theorem dX9_led_7 : decode cX9_led 7 = .ok (.iconst (-1), 1) := by decide +kernel
theorem dX9_led_8 : decode cX9_led 8 = .ok (.ireturn, 1) := by decide +kernel
theorem dX9_led_9 : decode cX9_led 9 = .ok (.iconst 0, 1) := by decide +kernel
theorem dX9_led_10 : decode cX9_led 10 = .ok (.istore_n 3, 1) := by decide +kernel
theorem dX9_led_11 : decode cX9_led 11 = .ok (.iconst 0, 1) := by decide +kernel
theorem dX9_led_12 : decode cX9_led 12 = .ok (.istore 4, 2) := by decide +kernel
theorem dX9_led_14 : decode cX9_led 14 = .ok (.iload 4, 2) := by decide +kernel
theorem dX9_led_16 : decode cX9_led 16 = .ok (.sipush 1000, 3) := by decide +kernel
theorem dX9_led_19 : decode cX9_led 19 = .ok (.if_icmp .ge 63, 3) := by decide +kernel
theorem dX9_led_22 : decode cX9_led 22 = .ok (.iconst 0, 1) := by decide +kernel
theorem dX9_led_23 : decode cX9_led 23 = .ok (.istore 5, 2) := by decide +kernel
theorem dX9_led_25 : decode cX9_led 25 = .ok (.iload 5, 2) := by decide +kernel
theorem dX9_led_27 : decode cX9_led 27 = .ok (.aload_n 0, 1) := by decide +kernel
theorem dX9_led_28 : decode cX9_led 28 = .ok (.getfield 7, 3) := by decide +kernel
theorem dX9_led_31 : decode cX9_led 31 = .ok (.iconst 1, 1) := by decide +kernel
theorem dX9_led_32 : decode cX9_led 32 = .ok (.iaload, 1) := by decide +kernel
theorem dX9_led_33 : decode cX9_led 33 = .ok (.if_icmp .ge 43, 3) := by decide +kernel
theorem dX9_led_36 : decode cX9_led 36 = .ok (.aload_n 0, 1) := by decide +kernel
theorem dX9_led_37 : decode cX9_led 37 = .ok (.iload 5, 2) := by decide +kernel
theorem dX9_led_39 : decode cX9_led 39 = .ok (.bipush 7, 2) := by decide +kernel
theorem dX9_led_41 : decode cX9_led 41 = .ok (.invokevirtual 138, 3) := by decide +kernel
theorem dX9_led_44 : decode cX9_led 44 = .ok (.iload 4, 2) := by decide +kernel
theorem dX9_led_46 : decode cX9_led 46 = .ok (.if_icmp .ne 24, 3) := by decide +kernel
theorem dX9_led_49 : decode cX9_led 49 = .ok (.iload_n 3, 1) := by decide +kernel
theorem dX9_led_50 : decode cX9_led 50 = .ok (.aload_n 0, 1) := by decide +kernel
theorem dX9_led_51 : decode cX9_led 51 = .ok (.iload 5, 2) := by decide +kernel
theorem dX9_led_53 : decode cX9_led 53 = .ok (.iload_n 1, 1) := by decide +kernel
theorem dX9_led_54 : decode cX9_led 54 = .ok (.iload 4, 2) := by decide +kernel
theorem dX9_led_56 : decode cX9_led 56 = .ok (.iload_n 2, 1) := by decide +kernel
theorem dX9_led_57 : decode cX9_led 57 = .ok (.invokevirtual 405, 3) := by decide +kernel
theorem dX9_led_60 : decode cX9_led 60 = .ok (.ior, 1) := by decide +kernel
theorem dX9_led_61 : decode cX9_led 61 = .ok (.istore_n 3, 1) := by decide +kernel
theorem dX9_led_62 : decode cX9_led 62 = .ok (.iload_n 3, 1) := by decide +kernel
theorem dX9_led_63 : decode cX9_led 63 = .ok (.iconst 3, 1) := by decide +kernel
theorem dX9_led_64 : decode cX9_led 64 = .ok (.if_icmp .ne 6, 3) := by decide +kernel
theorem dX9_led_67 : decode cX9_led 67 = .ok (.iload 5, 2) := by decide +kernel
theorem dX9_led_69 : decode cX9_led 69 = .ok (.ireturn, 1) := by decide +kernel
theorem dX9_led_70 : decode cX9_led 70 = .ok (.iinc 5 1, 3) := by decide +kernel
theorem dX9_led_73 : decode cX9_led 73 = .ok (.goto (-48), 3) := by decide +kernel
theorem dX9_led_76 : decode cX9_led 76 = .ok (.iinc 4 1, 3) := by decide +kernel
theorem dX9_led_79 : decode cX9_led 79 = .ok (.goto (-65), 3) := by decide +kernel
theorem dX9_led_82 : decode cX9_led 82 = .ok (.iconst (-1), 1) := by decide +kernel
theorem dX9_led_83 : decode cX9_led 83 = .ok (.ireturn, 1) := by decide +kernel
set_option maxRecDepth 20000 in
theorem ggX9_answer_X9_led : GoodIn wsX9_answer wsX9_led := goodIn_r _ [6, 1, 7, 8, 5, 9, 10, 11, 12, 13, 14, 15, 16, 17, 18, 19, 20, 21, 22, 23, 24, 25, 26, 27, 28, 29, 30, 31, 32, 33, 34, 35, 36, 37, 38, 39, 40, 41, 42, 43, 44, 45, 46, 47, 48, 49, 50, 51, 52, 53, 54, 55, 56, 57, 58, 59, 60, 61, 62, 63, 64, 65, 66, 67, 68, 69, 70, 71, 72, 73, 74, 75, 76, 77, 78, 79, 80, 81, 82, 83, 84, 85, 86, 87, 88, 89, 90, 91, 92, 93, 94, 95, 96, 97, 98, 99, 100, 101, 102, 103, 104, 105, 106, 107, 108, 109, 110, 111] (by decide +kernel) (by decide +kernel)
set_option maxRecDepth 20000 in
theorem gX9_answer_X9_led : GoodIn wsX9_answer (wsV RX9 416 RX9 yX9_led wsX9_led) := goodIn_app (goodIn_of _ (by decide +kernel)) ggX9_answer_X9_led
set_option maxRecDepth 20000 in
theorem ggX9_answer_X9_ofGoose : GoodIn wsX9_answer wsX9_ofGoose := goodIn_r _ [16, 1, 59, 60, 61, 62, 63, 64, 65, 66, 67, 68, 69, 70, 71, 72, 73, 74, 75, 76, 77, 78, 79, 80, 81, 82, 83, 84, 85, 86, 87, 88, 89, 90, 91, 92, 93, 94, 95, 96, 97, 98, 99, 100, 101, 102, 103, 104, 105, 106, 107, 108, 109, 110, 111] (by decide +kernel) (by decide +kernel)
set_option maxRecDepth 20000 in
theorem gX9_answer_X9_ofGoose : GoodIn wsX9_answer (wsV RX9 138 RX9 yX9_ofGoose wsX9_ofGoose) := goodIn_app (goodIn_of _ (by decide +kernel)) ggX9_answer_X9_ofGoose
theorem dX9_answer_0 : decode cX9_answer 0 = .ok (.aload_n 0, 1) := by decide +kernel
theorem dX9_answer_1 : decode cX9_answer 1 = .ok (.iload_n 1, 1) := by decide +kernel
theorem dX9_answer_2 : decode cX9_answer 2 = .ok (.iconst 0, 1) := by decide +kernel
theorem dX9_answer_3 : decode cX9_answer 3 = .ok (.invokevirtual 416, 3) := by decide +kernel
theorem dX9_answer_6 : decode cX9_answer 6 = .ok (.istore_n 2, 1) := by decide +kernel
theorem dX9_answer_7 : decode cX9_answer 7 = .ok (.iload_n 2, 1) := by decide +kernel
theorem dX9_answer_8 : decode cX9_answer 8 = .ok (.iconst (-1), 1) := by decide +kernel
theorem dX9_answer_9 : decode cX9_answer 9 = .ok (.if_icmp .ne 7, 3) := by decide +kernel
theorem dX9_answer_12 : decode cX9_answer 12 = .ok (.iconst (-1), 1) := by decide +kernel
theorem dX9_answer_13 : decode cX9_answer 13 = .ok (.goto 27, 3) := by decide +kernel
theorem dX9_answer_16 : decode cX9_answer 16 = .ok (.aload_n 0, 1) := by decide +kernel
theorem dX9_answer_17 : decode cX9_answer 17 = .ok (.iload_n 2, 1) := by decide +kernel
theorem dX9_answer_18 : decode cX9_answer 18 = .ok (.bipush 7, 2) := by decide +kernel
theorem dX9_answer_20 : decode cX9_answer 20 = .ok (.invokevirtual 138, 3) := by decide +kernel
theorem dX9_answer_23 : decode cX9_answer 23 = .ok (.aload_n 0, 1) := by decide +kernel
theorem dX9_answer_24 : decode cX9_answer 24 = .ok (.getfield 7, 3) := by decide +kernel
theorem dX9_answer_27 : decode cX9_answer 27 = .ok (.bipush 10, 2) := by decide +kernel
theorem dX9_answer_29 : decode cX9_answer 29 = .ok (.iconst 3, 1) := by decide +kernel
theorem dX9_answer_30 : decode cX9_answer 30 = .ok (.aload_n 0, 1) := by decide +kernel
theorem dX9_answer_31 : decode cX9_answer 31 = .ok (.iload_n 2, 1) := by decide +kernel
theorem dX9_answer_32 : decode cX9_answer 32 = .ok (.iconst 5, 1) := by decide +kernel
theorem dX9_answer_33 : decode cX9_answer 33 = .ok (.invokevirtual 138, 3) := by decide +kernel
theorem dX9_answer_36 : decode cX9_answer 36 = .ok (.imul, 1) := by decide +kernel
theorem dX9_answer_37 : decode cX9_answer 37 = .ok (.iadd, 1) := by decide +kernel
theorem dX9_answer_38 : decode cX9_answer 38 = .ok (.iaload, 1) := by decide +kernel
theorem dX9_answer_39 : decode cX9_answer 39 = .ok (.iadd, 1) := by decide +kernel
theorem dX9_answer_40 : decode cX9_answer 40 = .ok (.ireturn, 1) := by decide +kernel
set_option maxRecDepth 20000 in
theorem ggX9_plucks_X9_isGoose : GoodIn wsX9_plucks wsX9_isGoose := goodIn_r _ [5, 6, 7, 8, 4, 9, 45, 46, 47, 48, 49, 50, 51, 52, 53, 54, 55, 56, 57, 58, 59, 60, 61, 62, 63, 64, 65, 66, 67, 68, 69, 70, 71, 72, 73, 74, 75, 76, 77, 78, 79, 80, 81, 82, 83, 84, 85, 86, 87, 88, 89, 90, 91, 92, 93, 94, 95, 96, 97] (by decide +kernel) (by decide +kernel)
set_option maxRecDepth 20000 in
theorem gX9_plucks_X9_isGoose : GoodIn wsX9_plucks (wsV RX9 134 RX9 yX9_isGoose wsX9_isGoose) := goodIn_app (goodIn_of _ (by decide +kernel)) ggX9_plucks_X9_isGoose
set_option maxRecDepth 20000 in
theorem ggX9_plucks_X9_ofGoose : GoodIn wsX9_plucks wsX9_ofGoose := goodIn_r _ [13, 6, 45, 46, 47, 48, 49, 50, 51, 52, 53, 54, 55, 56, 57, 58, 59, 60, 61, 62, 63, 64, 65, 66, 67, 68, 69, 70, 71, 72, 73, 74, 75, 76, 77, 78, 79, 80, 81, 82, 83, 84, 85, 86, 87, 88, 89, 90, 91, 92, 93, 94, 95, 96, 97] (by decide +kernel) (by decide +kernel)
set_option maxRecDepth 20000 in
theorem gX9_plucks_X9_ofGoose : GoodIn wsX9_plucks (wsV RX9 138 RX9 yX9_ofGoose wsX9_ofGoose) := goodIn_app (goodIn_of _ (by decide +kernel)) ggX9_plucks_X9_ofGoose
set_option maxRecDepth 20000 in
theorem ggX9_plucks_X9_isTrueBy : GoodIn wsX9_plucks wsX9_isTrueBy := goodIn_r _ [17, 6, 18, 19, 20, 21, 4, 22, 23, 24, 25, 26, 27, 28, 29, 10, 11, 12, 13, 30, 31, 32, 33, 34, 35, 36, 37, 38, 39, 40, 41, 42, 43, 44, 45, 46, 47, 48, 49, 50, 51, 52, 53, 54, 55, 56, 57, 58, 59, 60, 61, 62, 63, 64, 65, 66, 67, 68, 69, 70, 71, 72, 73, 74, 75, 76, 77, 78, 79, 80, 81, 82, 83, 84, 85, 86, 87, 88, 89, 90, 91, 92, 93, 94, 95, 96, 97] (by decide +kernel) (by decide +kernel)
set_option maxRecDepth 20000 in
theorem gX9_plucks_X9_isTrueBy : GoodIn wsX9_plucks (wsV RX9 368 RX9 yX9_isTrueBy wsX9_isTrueBy) := goodIn_app (goodIn_of _ (by decide +kernel)) ggX9_plucks_X9_isTrueBy
theorem dX9_plucks_0 : decode cX9_plucks 0 = .ok (.aload_n 0, 1) := by decide +kernel
theorem dX9_plucks_1 : decode cX9_plucks 1 = .ok (.iload_n 1, 1) := by decide +kernel
theorem dX9_plucks_2 : decode cX9_plucks 2 = .ok (.invokevirtual 134, 3) := by decide +kernel
theorem dX9_plucks_5 : decode cX9_plucks 5 = .ok (.ifCond .ne 5, 3) := by decide +kernel
theorem dX9_plucks_8 : decode cX9_plucks 8 = .ok (.iconst (-1), 1) := by decide +kernel
theorem dX9_plucks_9 : decode cX9_plucks 9 = .ok (.ireturn, 1) := by decide +kernel
theorem dX9_plucks_10 : decode cX9_plucks 10 = .ok (.iconst 0, 1) := by decide +kernel
theorem dX9_plucks_11 : decode cX9_plucks 11 = .ok (.istore_n 2, 1) := by decide +kernel
theorem dX9_plucks_12 : decode cX9_plucks 12 = .ok (.iload_n 2, 1) := by decide +kernel
theorem dX9_plucks_13 : decode cX9_plucks 13 = .ok (.aload_n 0, 1) := by decide +kernel
theorem dX9_plucks_14 : decode cX9_plucks 14 = .ok (.iload_n 1, 1) := by decide +kernel
theorem dX9_plucks_15 : decode cX9_plucks 15 = .ok (.iconst 1, 1) := by decide +kernel
theorem dX9_plucks_16 : decode cX9_plucks 16 = .ok (.invokevirtual 138, 3) := by decide +kernel
theorem dX9_plucks_19 : decode cX9_plucks 19 = .ok (.if_icmp .gt 39, 3) := by decide +kernel
theorem dX9_plucks_22 : decode cX9_plucks 22 = .ok (.aload_n 0, 1) := by decide +kernel
theorem dX9_plucks_23 : decode cX9_plucks 23 = .ok (.iload_n 1, 1) := by decide +kernel
theorem dX9_plucks_24 : decode cX9_plucks 24 = .ok (.aload_n 0, 1) := by decide +kernel
theorem dX9_plucks_25 : decode cX9_plucks 25 = .ok (.iload_n 1, 1) := by decide +kernel
theorem dX9_plucks_26 : decode cX9_plucks 26 = .ok (.iconst 2, 1) := by decide +kernel
theorem dX9_plucks_27 : decode cX9_plucks 27 = .ok (.invokevirtual 138, 3) := by decide +kernel
theorem dX9_plucks_30 : decode cX9_plucks 30 = .ok (.aload_n 0, 1) := by decide +kernel
theorem dX9_plucks_31 : decode cX9_plucks 31 = .ok (.iload_n 1, 1) := by decide +kernel
theorem dX9_plucks_32 : decode cX9_plucks 32 = .ok (.iconst 3, 1) := by decide +kernel
theorem dX9_plucks_33 : decode cX9_plucks 33 = .ok (.invokevirtual 138, 3) := by decide +kernel
theorem dX9_plucks_36 : decode cX9_plucks 36 = .ok (.aload_n 0, 1) := by decide +kernel
theorem dX9_plucks_37 : decode cX9_plucks 37 = .ok (.iload_n 1, 1) := by decide +kernel
theorem dX9_plucks_38 : decode cX9_plucks 38 = .ok (.iconst 1, 1) := by decide +kernel
theorem dX9_plucks_39 : decode cX9_plucks 39 = .ok (.invokevirtual 138, 3) := by decide +kernel
theorem dX9_plucks_42 : decode cX9_plucks 42 = .ok (.iload_n 2, 1) := by decide +kernel
theorem dX9_plucks_43 : decode cX9_plucks 43 = .ok (.isub, 1) := by decide +kernel
theorem dX9_plucks_44 : decode cX9_plucks 44 = .ok (.invokevirtual 368, 3) := by decide +kernel
theorem dX9_plucks_47 : decode cX9_plucks 47 = .ok (.ifCond .eq 5, 3) := by decide +kernel
theorem dX9_plucks_50 : decode cX9_plucks 50 = .ok (.iload_n 2, 1) := by decide +kernel
theorem dX9_plucks_51 : decode cX9_plucks 51 = .ok (.ireturn, 1) := by decide +kernel
theorem dX9_plucks_52 : decode cX9_plucks 52 = .ok (.iinc 2 1, 3) := by decide +kernel
theorem dX9_plucks_55 : decode cX9_plucks 55 = .ok (.goto (-43), 3) := by decide +kernel
theorem dX9_plucks_58 : decode cX9_plucks 58 = .ok (.iconst (-1), 1) := by decide +kernel
theorem dX9_plucks_59 : decode cX9_plucks 59 = .ok (.ireturn, 1) := by decide +kernel
theorem dX9_startsMany_0 : decode cX9_startsMany 0 = .ok (.iconst 0, 1) := by decide +kernel
theorem dX9_startsMany_1 : decode cX9_startsMany 1 = .ok (.istore_n 3, 1) := by decide +kernel
theorem dX9_startsMany_2 : decode cX9_startsMany 2 = .ok (.iload_n 3, 1) := by decide +kernel
theorem dX9_startsMany_3 : decode cX9_startsMany 3 = .ok (.bipush 16, 2) := by decide +kernel
theorem dX9_startsMany_5 : decode cX9_startsMany 5 = .ok (.if_icmp .ge 29, 3) := by decide +kernel
theorem dX9_startsMany_8 : decode cX9_startsMany 8 = .ok (.aload_n 0, 1) := by decide +kernel
theorem dX9_startsMany_9 : decode cX9_startsMany 9 = .ok (.getfield 91, 3) := by decide +kernel
theorem dX9_startsMany_12 : decode cX9_startsMany 12 = .ok (.iload_n 3, 1) := by decide +kernel
theorem dX9_startsMany_13 : decode cX9_startsMany 13 = .ok (.iload_n 3, 1) := by decide +kernel
theorem dX9_startsMany_14 : decode cX9_startsMany 14 = .ok (.iload_n 1, 1) := by decide +kernel
theorem dX9_startsMany_15 : decode cX9_startsMany 15 = .ok (.iconst 4, 1) := by decide +kernel
theorem dX9_startsMany_16 : decode cX9_startsMany 16 = .ok (.iload_n 2, 1) := by decide +kernel
theorem dX9_startsMany_17 : decode cX9_startsMany 17 = .ok (.imul, 1) := by decide +kernel
theorem dX9_startsMany_18 : decode cX9_startsMany 18 = .ok (.iadd, 1) := by decide +kernel
theorem dX9_startsMany_19 : decode cX9_startsMany 19 = .ok (.if_icmp .ne 7, 3) := by decide +kernel
theorem dX9_startsMany_22 : decode cX9_startsMany 22 = .ok (.lconst 1, 1) := by decide +kernel
theorem dX9_startsMany_23 : decode cX9_startsMany 23 = .ok (.goto 4, 3) := by decide +kernel
theorem dX9_startsMany_26 : decode cX9_startsMany 26 = .ok (.lconst 0, 1) := by decide +kernel
theorem dX9_startsMany_27 : decode cX9_startsMany 27 = .ok (.lastore, 1) := by decide +kernel
theorem dX9_startsMany_28 : decode cX9_startsMany 28 = .ok (.iinc 3 1, 3) := by decide +kernel
theorem dX9_startsMany_31 : decode cX9_startsMany 31 = .ok (.goto (-29), 3) := by decide +kernel
theorem dX9_startsMany_34 : decode cX9_startsMany 34 = .ok (.return_, 1) := by decide +kernel
set_option maxRecDepth 20000 in
theorem ggX9_comesMany_X9_halves : GoodIn wsX9_comesMany wsX9_halves := goodIn_r _ [7] (by decide +kernel) (by decide +kernel)
set_option maxRecDepth 20000 in
theorem gX9_comesMany_X9_halves : GoodIn wsX9_comesMany (va_wsS RX9 402 yX9_halves wsX9_halves) := goodIn_app (goodIn_of _ (by decide +kernel)) ggX9_comesMany_X9_halves
theorem dX9_comesMany_0 : decode cX9_comesMany 0 = .ok (.iconst 0, 1) := by decide +kernel
theorem dX9_comesMany_1 : decode cX9_comesMany 1 = .ok (.istore 5, 2) := by decide +kernel
theorem dX9_comesMany_3 : decode cX9_comesMany 3 = .ok (.iload 5, 2) := by decide +kernel
theorem dX9_comesMany_5 : decode cX9_comesMany 5 = .ok (.bipush 16, 2) := by decide +kernel
theorem dX9_comesMany_7 : decode cX9_comesMany 7 = .ok (.if_icmp .ge 17, 3) := by decide +kernel
theorem dX9_comesMany_10 : decode cX9_comesMany 10 = .ok (.aload_n 0, 1) := by decide +kernel
theorem dX9_comesMany_11 : decode cX9_comesMany 11 = .ok (.getfield 94, 3) := by decide +kernel
theorem dX9_comesMany_14 : decode cX9_comesMany 14 = .ok (.iload 5, 2) := by decide +kernel
theorem dX9_comesMany_16 : decode cX9_comesMany 16 = .ok (.lconst 0, 1) := by decide +kernel
theorem dX9_comesMany_17 : decode cX9_comesMany 17 = .ok (.lastore, 1) := by decide +kernel
theorem dX9_comesMany_18 : decode cX9_comesMany 18 = .ok (.iinc 5 1, 3) := by decide +kernel
theorem dX9_comesMany_21 : decode cX9_comesMany 21 = .ok (.goto (-18), 3) := by decide +kernel
theorem dX9_comesMany_24 : decode cX9_comesMany 24 = .ok (.iconst 0, 1) := by decide +kernel
theorem dX9_comesMany_25 : decode cX9_comesMany 25 = .ok (.istore 5, 2) := by decide +kernel
theorem dX9_comesMany_27 : decode cX9_comesMany 27 = .ok (.iload 5, 2) := by decide +kernel
theorem dX9_comesMany_29 : decode cX9_comesMany 29 = .ok (.bipush 16, 2) := by decide +kernel
theorem dX9_comesMany_31 : decode cX9_comesMany 31 = .ok (.if_icmp .ge 130, 3) := by decide +kernel
theorem dX9_comesMany_34 : decode cX9_comesMany 34 = .ok (.iload 5, 2) := by decide +kernel
theorem dX9_comesMany_36 : decode cX9_comesMany 36 = .ok (.iconst 4, 1) := by decide +kernel
theorem dX9_comesMany_37 : decode cX9_comesMany 37 = .ok (.irem, 1) := by decide +kernel
theorem dX9_comesMany_38 : decode cX9_comesMany 38 = .ok (.iload 4, 2) := by decide +kernel
theorem dX9_comesMany_40 : decode cX9_comesMany 40 = .ok (.ifCond .eq 10, 3) := by decide +kernel
theorem dX9_comesMany_43 : decode cX9_comesMany 43 = .ok (.iload_n 3, 1) := by decide +kernel
theorem dX9_comesMany_44 : decode cX9_comesMany 44 = .ok (.invokestatic 402, 3) := by decide +kernel
theorem dX9_comesMany_47 : decode cX9_comesMany 47 = .ok (.goto 4, 3) := by decide +kernel
theorem dX9_comesMany_50 : decode cX9_comesMany 50 = .ok (.iconst 0, 1) := by decide +kernel
theorem dX9_comesMany_51 : decode cX9_comesMany 51 = .ok (.ior, 1) := by decide +kernel
theorem dX9_comesMany_52 : decode cX9_comesMany 52 = .ok (.istore 6, 2) := by decide +kernel
theorem dX9_comesMany_54 : decode cX9_comesMany 54 = .ok (.iload 5, 2) := by decide +kernel
theorem dX9_comesMany_56 : decode cX9_comesMany 56 = .ok (.iconst 4, 1) := by decide +kernel
theorem dX9_comesMany_57 : decode cX9_comesMany 57 = .ok (.idiv, 1) := by decide +kernel
theorem dX9_comesMany_58 : decode cX9_comesMany 58 = .ok (.iload_n 3, 1) := by decide +kernel
theorem dX9_comesMany_59 : decode cX9_comesMany 59 = .ok (.invokestatic 402, 3) := by decide +kernel
theorem dX9_comesMany_62 : decode cX9_comesMany 62 = .ok (.ior, 1) := by decide +kernel
theorem dX9_comesMany_63 : decode cX9_comesMany 63 = .ok (.istore 7, 2) := by decide +kernel
theorem dX9_comesMany_65 : decode cX9_comesMany 65 = .ok (.aload_n 0, 1) := by decide +kernel
theorem dX9_comesMany_66 : decode cX9_comesMany 66 = .ok (.getfield 94, 3) := by decide +kernel
theorem dX9_comesMany_69 : decode cX9_comesMany 69 = .ok (.iload 5, 2) := by decide +kernel
theorem dX9_comesMany_71 : decode cX9_comesMany 71 = .ok (.iconst 4, 1) := by decide +kernel
theorem dX9_comesMany_72 : decode cX9_comesMany 72 = .ok (.idiv, 1) := by decide +kernel
theorem dX9_comesMany_73 : decode cX9_comesMany 73 = .ok (.iconst 4, 1) := by decide +kernel
theorem dX9_comesMany_74 : decode cX9_comesMany 74 = .ok (.imul, 1) := by decide +kernel
theorem dX9_comesMany_75 : decode cX9_comesMany 75 = .ok (.iload 6, 2) := by decide +kernel
theorem dX9_comesMany_77 : decode cX9_comesMany 77 = .ok (.iadd, 1) := by decide +kernel
theorem dX9_comesMany_78 : decode cX9_comesMany 78 = .ok (.dup2, 1) := by decide +kernel
theorem dX9_comesMany_79 : decode cX9_comesMany 79 = .ok (.laload, 1) := by decide +kernel
theorem dX9_comesMany_80 : decode cX9_comesMany 80 = .ok (.aload_n 0, 1) := by decide +kernel
theorem dX9_comesMany_81 : decode cX9_comesMany 81 = .ok (.getfield 91, 3) := by decide +kernel
theorem dX9_comesMany_84 : decode cX9_comesMany 84 = .ok (.iload 5, 2) := by decide +kernel
theorem dX9_comesMany_86 : decode cX9_comesMany 86 = .ok (.laload, 1) := by decide +kernel
theorem dX9_comesMany_87 : decode cX9_comesMany 87 = .ok (.bipush 10, 2) := by decide +kernel
theorem dX9_comesMany_89 : decode cX9_comesMany 89 = .ok (.iload_n 1, 1) := by decide +kernel
theorem dX9_comesMany_90 : decode cX9_comesMany 90 = .ok (.isub, 1) := by decide +kernel
theorem dX9_comesMany_91 : decode cX9_comesMany 91 = .ok (.i2l, 1) := by decide +kernel
theorem dX9_comesMany_92 : decode cX9_comesMany 92 = .ok (.lmul, 1) := by decide +kernel
theorem dX9_comesMany_93 : decode cX9_comesMany 93 = .ok (.ldc2_w 420, 3) := by decide +kernel
theorem dX9_comesMany_96 : decode cX9_comesMany 96 = .ok (.lmul, 1) := by decide +kernel
theorem dX9_comesMany_97 : decode cX9_comesMany 97 = .ok (.ladd, 1) := by decide +kernel
theorem dX9_comesMany_98 : decode cX9_comesMany 98 = .ok (.lastore, 1) := by decide +kernel
theorem dX9_comesMany_99 : decode cX9_comesMany 99 = .ok (.aload_n 0, 1) := by decide +kernel
theorem dX9_comesMany_100 : decode cX9_comesMany 100 = .ok (.getfield 94, 3) := by decide +kernel
theorem dX9_comesMany_103 : decode cX9_comesMany 103 = .ok (.iload 5, 2) := by decide +kernel
theorem dX9_comesMany_105 : decode cX9_comesMany 105 = .ok (.dup2, 1) := by decide +kernel
theorem dX9_comesMany_106 : decode cX9_comesMany 106 = .ok (.laload, 1) := by decide +kernel
theorem dX9_comesMany_107 : decode cX9_comesMany 107 = .ok (.aload_n 0, 1) := by decide +kernel
theorem dX9_comesMany_108 : decode cX9_comesMany 108 = .ok (.getfield 91, 3) := by decide +kernel
theorem dX9_comesMany_111 : decode cX9_comesMany 111 = .ok (.iload 5, 2) := by decide +kernel
theorem dX9_comesMany_113 : decode cX9_comesMany 113 = .ok (.laload, 1) := by decide +kernel
theorem dX9_comesMany_114 : decode cX9_comesMany 114 = .ok (.iload_n 1, 1) := by decide +kernel
theorem dX9_comesMany_115 : decode cX9_comesMany 115 = .ok (.i2l, 1) := by decide +kernel
theorem dX9_comesMany_116 : decode cX9_comesMany 116 = .ok (.lmul, 1) := by decide +kernel
theorem dX9_comesMany_117 : decode cX9_comesMany 117 = .ok (.bipush 10, 2) := by decide +kernel
theorem dX9_comesMany_119 : decode cX9_comesMany 119 = .ok (.iload_n 2, 1) := by decide +kernel
theorem dX9_comesMany_120 : decode cX9_comesMany 120 = .ok (.isub, 1) := by decide +kernel
theorem dX9_comesMany_121 : decode cX9_comesMany 121 = .ok (.i2l, 1) := by decide +kernel
theorem dX9_comesMany_122 : decode cX9_comesMany 122 = .ok (.lmul, 1) := by decide +kernel
theorem dX9_comesMany_123 : decode cX9_comesMany 123 = .ok (.ladd, 1) := by decide +kernel
theorem dX9_comesMany_124 : decode cX9_comesMany 124 = .ok (.lastore, 1) := by decide +kernel
theorem dX9_comesMany_125 : decode cX9_comesMany 125 = .ok (.aload_n 0, 1) := by decide +kernel
theorem dX9_comesMany_126 : decode cX9_comesMany 126 = .ok (.getfield 94, 3) := by decide +kernel
theorem dX9_comesMany_129 : decode cX9_comesMany 129 = .ok (.iconst 4, 1) := by decide +kernel
theorem dX9_comesMany_130 : decode cX9_comesMany 130 = .ok (.iload 7, 2) := by decide +kernel
theorem dX9_comesMany_132 : decode cX9_comesMany 132 = .ok (.imul, 1) := by decide +kernel
theorem dX9_comesMany_133 : decode cX9_comesMany 133 = .ok (.iload 5, 2) := by decide +kernel
theorem dX9_comesMany_135 : decode cX9_comesMany 135 = .ok (.iconst 4, 1) := by decide +kernel
theorem dX9_comesMany_136 : decode cX9_comesMany 136 = .ok (.irem, 1) := by decide +kernel
theorem dX9_comesMany_137 : decode cX9_comesMany 137 = .ok (.iadd, 1) := by decide +kernel
theorem dX9_comesMany_138 : decode cX9_comesMany 138 = .ok (.dup2, 1) := by decide +kernel
theorem dX9_comesMany_139 : decode cX9_comesMany 139 = .ok (.laload, 1) := by decide +kernel
theorem dX9_comesMany_140 : decode cX9_comesMany 140 = .ok (.aload_n 0, 1) := by decide +kernel
theorem dX9_comesMany_141 : decode cX9_comesMany 141 = .ok (.getfield 91, 3) := by decide +kernel
theorem dX9_comesMany_144 : decode cX9_comesMany 144 = .ok (.iload 5, 2) := by decide +kernel
theorem dX9_comesMany_146 : decode cX9_comesMany 146 = .ok (.laload, 1) := by decide +kernel
theorem dX9_comesMany_147 : decode cX9_comesMany 147 = .ok (.iload_n 1, 1) := by decide +kernel
theorem dX9_comesMany_148 : decode cX9_comesMany 148 = .ok (.i2l, 1) := by decide +kernel
theorem dX9_comesMany_149 : decode cX9_comesMany 149 = .ok (.lmul, 1) := by decide +kernel
theorem dX9_comesMany_150 : decode cX9_comesMany 150 = .ok (.iload_n 2, 1) := by decide +kernel
theorem dX9_comesMany_151 : decode cX9_comesMany 151 = .ok (.i2l, 1) := by decide +kernel
theorem dX9_comesMany_152 : decode cX9_comesMany 152 = .ok (.lmul, 1) := by decide +kernel
theorem dX9_comesMany_153 : decode cX9_comesMany 153 = .ok (.ladd, 1) := by decide +kernel
theorem dX9_comesMany_154 : decode cX9_comesMany 154 = .ok (.lastore, 1) := by decide +kernel
theorem dX9_comesMany_155 : decode cX9_comesMany 155 = .ok (.iinc 5 1, 3) := by decide +kernel
theorem dX9_comesMany_158 : decode cX9_comesMany 158 = .ok (.goto (-131), 3) := by decide +kernel
theorem dX9_comesMany_161 : decode cX9_comesMany 161 = .ok (.iconst 0, 1) := by decide +kernel
theorem dX9_comesMany_162 : decode cX9_comesMany 162 = .ok (.istore 5, 2) := by decide +kernel
theorem dX9_comesMany_164 : decode cX9_comesMany 164 = .ok (.iload 5, 2) := by decide +kernel
theorem dX9_comesMany_166 : decode cX9_comesMany 166 = .ok (.bipush 16, 2) := by decide +kernel
theorem dX9_comesMany_168 : decode cX9_comesMany 168 = .ok (.if_icmp .ge 23, 3) := by decide +kernel
theorem dX9_comesMany_171 : decode cX9_comesMany 171 = .ok (.aload_n 0, 1) := by decide +kernel
theorem dX9_comesMany_172 : decode cX9_comesMany 172 = .ok (.getfield 91, 3) := by decide +kernel
theorem dX9_comesMany_175 : decode cX9_comesMany 175 = .ok (.iload 5, 2) := by decide +kernel
theorem dX9_comesMany_177 : decode cX9_comesMany 177 = .ok (.aload_n 0, 1) := by decide +kernel
theorem dX9_comesMany_178 : decode cX9_comesMany 178 = .ok (.getfield 94, 3) := by decide +kernel
theorem dX9_comesMany_181 : decode cX9_comesMany 181 = .ok (.iload 5, 2) := by decide +kernel
theorem dX9_comesMany_183 : decode cX9_comesMany 183 = .ok (.laload, 1) := by decide +kernel
theorem dX9_comesMany_184 : decode cX9_comesMany 184 = .ok (.lastore, 1) := by decide +kernel
theorem dX9_comesMany_185 : decode cX9_comesMany 185 = .ok (.iinc 5 1, 3) := by decide +kernel
theorem dX9_comesMany_188 : decode cX9_comesMany 188 = .ok (.goto (-24), 3) := by decide +kernel
theorem dX9_comesMany_191 : decode cX9_comesMany 191 = .ok (.return_, 1) := by decide +kernel
theorem dX9_manyOf_0 : decode cX9_manyOf 0 = .ok (.lconst 0, 1) := by decide +kernel
theorem dX9_manyOf_1 : decode cX9_manyOf 1 = .ok (.lstore_n 2, 1) := by decide +kernel
theorem dX9_manyOf_2 : decode cX9_manyOf 2 = .ok (.iconst 0, 1) := by decide +kernel
theorem dX9_manyOf_3 : decode cX9_manyOf 3 = .ok (.istore 4, 2) := by decide +kernel
theorem dX9_manyOf_5 : decode cX9_manyOf 5 = .ok (.iload 4, 2) := by decide +kernel
theorem dX9_manyOf_7 : decode cX9_manyOf 7 = .ok (.bipush 16, 2) := by decide +kernel
theorem dX9_manyOf_9 : decode cX9_manyOf 9 = .ok (.if_icmp .ge 88, 3) := by decide +kernel
theorem dX9_manyOf_12 : decode cX9_manyOf 12 = .ok (.iload 4, 2) := by decide +kernel
theorem dX9_manyOf_14 : decode cX9_manyOf 14 = .ok (.iconst 4, 1) := by decide +kernel
theorem dX9_manyOf_15 : decode cX9_manyOf 15 = .ok (.irem, 1) := by decide +kernel
theorem dX9_manyOf_16 : decode cX9_manyOf 16 = .ok (.iconst 3, 1) := by decide +kernel
theorem dX9_manyOf_17 : decode cX9_manyOf 17 = .ok (.if_icmp .ne 7, 3) := by decide +kernel
theorem dX9_manyOf_20 : decode cX9_manyOf 20 = .ok (.iconst 1, 1) := by decide +kernel
theorem dX9_manyOf_21 : decode cX9_manyOf 21 = .ok (.goto 4, 3) := by decide +kernel
theorem dX9_manyOf_24 : decode cX9_manyOf 24 = .ok (.iconst 0, 1) := by decide +kernel
theorem dX9_manyOf_25 : decode cX9_manyOf 25 = .ok (.istore 5, 2) := by decide +kernel
theorem dX9_manyOf_27 : decode cX9_manyOf 27 = .ok (.iload 4, 2) := by decide +kernel
theorem dX9_manyOf_29 : decode cX9_manyOf 29 = .ok (.iconst 4, 1) := by decide +kernel
theorem dX9_manyOf_30 : decode cX9_manyOf 30 = .ok (.idiv, 1) := by decide +kernel
theorem dX9_manyOf_31 : decode cX9_manyOf 31 = .ok (.iconst 3, 1) := by decide +kernel
theorem dX9_manyOf_32 : decode cX9_manyOf 32 = .ok (.if_icmp .ne 7, 3) := by decide +kernel
theorem dX9_manyOf_35 : decode cX9_manyOf 35 = .ok (.iconst 1, 1) := by decide +kernel
theorem dX9_manyOf_36 : decode cX9_manyOf 36 = .ok (.goto 4, 3) := by decide +kernel
theorem dX9_manyOf_39 : decode cX9_manyOf 39 = .ok (.iconst 0, 1) := by decide +kernel
theorem dX9_manyOf_40 : decode cX9_manyOf 40 = .ok (.istore 6, 2) := by decide +kernel
theorem dX9_manyOf_42 : decode cX9_manyOf 42 = .ok (.lload_n 2, 1) := by decide +kernel
theorem dX9_manyOf_43 : decode cX9_manyOf 43 = .ok (.iload_n 1, 1) := by decide +kernel
theorem dX9_manyOf_44 : decode cX9_manyOf 44 = .ok (.ifCond .ne 11, 3) := by decide +kernel
theorem dX9_manyOf_47 : decode cX9_manyOf 47 = .ok (.iload 5, 2) := by decide +kernel
theorem dX9_manyOf_49 : decode cX9_manyOf 49 = .ok (.ifCond .eq 39, 3) := by decide +kernel
theorem dX9_manyOf_52 : decode cX9_manyOf 52 = .ok (.goto 26, 3) := by decide +kernel
theorem dX9_manyOf_55 : decode cX9_manyOf 55 = .ok (.iload_n 1, 1) := by decide +kernel
theorem dX9_manyOf_56 : decode cX9_manyOf 56 = .ok (.iconst 1, 1) := by decide +kernel
theorem dX9_manyOf_57 : decode cX9_manyOf 57 = .ok (.if_icmp .ne 11, 3) := by decide +kernel
theorem dX9_manyOf_60 : decode cX9_manyOf 60 = .ok (.iload 6, 2) := by decide +kernel
theorem dX9_manyOf_62 : decode cX9_manyOf 62 = .ok (.ifCond .eq 26, 3) := by decide +kernel
theorem dX9_manyOf_65 : decode cX9_manyOf 65 = .ok (.goto 13, 3) := by decide +kernel
theorem dX9_manyOf_68 : decode cX9_manyOf 68 = .ok (.iload 5, 2) := by decide +kernel
theorem dX9_manyOf_70 : decode cX9_manyOf 70 = .ok (.ifCond .eq 18, 3) := by decide +kernel
theorem dX9_manyOf_73 : decode cX9_manyOf 73 = .ok (.iload 6, 2) := by decide +kernel
theorem dX9_manyOf_75 : decode cX9_manyOf 75 = .ok (.ifCond .ne 13, 3) := by decide +kernel
theorem dX9_manyOf_78 : decode cX9_manyOf 78 = .ok (.aload_n 0, 1) := by decide +kernel
theorem dX9_manyOf_79 : decode cX9_manyOf 79 = .ok (.getfield 91, 3) := by decide +kernel
theorem dX9_manyOf_82 : decode cX9_manyOf 82 = .ok (.iload 4, 2) := by decide +kernel
theorem dX9_manyOf_84 : decode cX9_manyOf 84 = .ok (.laload, 1) := by decide +kernel
theorem dX9_manyOf_85 : decode cX9_manyOf 85 = .ok (.goto 4, 3) := by decide +kernel
theorem dX9_manyOf_88 : decode cX9_manyOf 88 = .ok (.lconst 0, 1) := by decide +kernel
theorem dX9_manyOf_89 : decode cX9_manyOf 89 = .ok (.ladd, 1) := by decide +kernel
theorem dX9_manyOf_90 : decode cX9_manyOf 90 = .ok (.lstore_n 2, 1) := by decide +kernel
theorem dX9_manyOf_91 : decode cX9_manyOf 91 = .ok (.iinc 4 1, 3) := by decide +kernel
theorem dX9_manyOf_94 : decode cX9_manyOf 94 = .ok (.goto (-89), 3) := by decide +kernel
theorem dX9_manyOf_97 : decode cX9_manyOf 97 = .ok (.lload_n 2, 1) := by decide +kernel
theorem dX9_manyOf_98 : decode cX9_manyOf 98 = .ok (.lreturn, 1) := by decide +kernel
set_option maxRecDepth 20000 in
theorem ggX9_odds_X9_isLetterNumber : GoodIn wsX9_odds wsX9_isLetterNumber := goodIn_r _ [7, 8, 9, 6, 10] (by decide +kernel) (by decide +kernel)
set_option maxRecDepth 20000 in
theorem gX9_odds_X9_isLetterNumber : GoodIn wsX9_odds (va_wsS RX9 409 yX9_isLetterNumber wsX9_isLetterNumber) := goodIn_app (goodIn_of _ (by decide +kernel)) ggX9_odds_X9_isLetterNumber
set_option maxRecDepth 20000 in
theorem ggX9_odds_X9_in : GoodIn wsX9_odds wsX9_in := goodIn_r _ [10] (by decide +kernel) (by decide +kernel)
set_option maxRecDepth 20000 in
theorem gX9_odds_X9_in : GoodIn wsX9_odds (va_wsS RX9 126 yX9_in wsX9_in) := goodIn_app (goodIn_of _ (by decide +kernel)) ggX9_odds_X9_in
set_option maxRecDepth 20000 in
theorem ggX9_odds_X9_knownBy : GoodIn wsX9_odds wsX9_knownBy := goodIn_r _ [14, 2, 15, 16, 17, 6, 18, 19, 20, 21, 22, 23, 24, 25, 26, 27, 28, 29, 30, 31, 32, 33, 34, 35, 36, 37, 38, 39, 40, 41, 42, 43, 44, 45, 46, 47, 48, 49, 50, 51, 52, 53, 54, 55, 56, 57, 58, 59, 60, 87, 88, 89, 90, 91, 92, 93, 94, 95, 96, 97, 98, 99, 100, 101, 102, 103, 104, 105, 106, 107, 108, 109, 110, 111, 112, 113, 114, 115, 116, 117, 118, 119, 120, 121, 122, 123, 124, 125, 126, 127, 128, 129, 130, 131, 132, 133, 134, 135, 136, 137, 138, 139] (by decide +kernel) (by decide +kernel)
set_option maxRecDepth 20000 in
theorem gX9_odds_X9_knownBy : GoodIn wsX9_odds (wsV RX9 412 RX9 yX9_knownBy wsX9_knownBy) := goodIn_app (goodIn_of _ (by decide +kernel)) ggX9_odds_X9_knownBy
set_option maxRecDepth 20000 in
theorem ggX9_odds_X9_startsMany : GoodIn wsX9_odds wsX9_startsMany := goodIn_r _ [64, 65, 87, 88, 89, 90, 91, 92, 93, 94, 95, 96, 97, 98, 99, 100, 101, 102, 103, 104, 105, 106, 107, 108, 109, 110, 111, 112, 113, 114, 115, 116, 117, 118, 119, 120, 121, 122, 123, 124, 125, 126, 127, 128, 129, 130, 131, 132, 133, 134, 135, 136, 137, 138, 139] (by decide +kernel) (by decide +kernel)
set_option maxRecDepth 20000 in
theorem gX9_odds_X9_startsMany : GoodIn wsX9_odds (wsV RX9 424 RX9 yX9_startsMany wsX9_startsMany) := goodIn_app (goodIn_of _ (by decide +kernel)) ggX9_odds_X9_startsMany
set_option maxRecDepth 20000 in
theorem ggX9_odds_X9_ofGoose : GoodIn wsX9_odds wsX9_ofGoose := goodIn_r _ [22, 2, 87, 88, 89, 90, 91, 92, 93, 94, 95, 96, 97, 98, 99, 100, 101, 102, 103, 104, 105, 106, 107, 108, 109, 110, 111, 112, 113, 114, 115, 116, 117, 118, 119, 120, 121, 122, 123, 124, 125, 126, 127, 128, 129, 130, 131, 132, 133, 134, 135, 136, 137, 138, 139] (by decide +kernel) (by decide +kernel)
set_option maxRecDepth 20000 in
theorem gX9_odds_X9_ofGoose : GoodIn wsX9_odds (wsV RX9 138 RX9 yX9_ofGoose wsX9_ofGoose) := goodIn_app (goodIn_of _ (by decide +kernel)) ggX9_odds_X9_ofGoose
set_option maxRecDepth 20000 in
theorem ggX9_odds_X9_marketOf : GoodIn wsX9_odds wsX9_marketOf := goodIn_r _ [69, 19, 20, 21, 6, 22, 2, 70, 71, 72, 73, 31, 32, 33, 34, 35, 36, 37, 38, 39, 40, 41, 42, 43, 44, 45, 46, 47, 48, 49, 50, 51, 52, 53, 54, 55, 56, 57, 74, 75, 76, 87, 88, 89, 90, 91, 92, 93, 94, 95, 96, 97, 98, 99, 100, 101, 102, 103, 104, 105, 106, 107, 108, 109, 110, 111, 112, 113, 114, 115, 116, 117, 118, 119, 120, 121, 122, 123, 124, 125, 126, 127, 128, 129, 130, 131, 132, 133, 134, 135, 136, 137, 138, 139] (by decide +kernel) (by decide +kernel)
set_option maxRecDepth 20000 in
theorem gX9_odds_X9_marketOf : GoodIn wsX9_odds (wsV RX9 375 RX9 yX9_marketOf wsX9_marketOf) := goodIn_app (goodIn_of _ (by decide +kernel)) ggX9_odds_X9_marketOf
set_option maxRecDepth 20000 in
theorem ggX9_odds_X9_isTrue : GoodIn wsX9_odds wsX9_isTrue := goodIn_r _ [26, 19, 20, 21, 6, 22, 2, 27, 28, 29, 30, 31, 32, 33, 34, 35, 36, 37, 38, 39, 40, 41, 42, 43, 44, 45, 46, 47, 48, 49, 50, 51, 52, 53, 54, 55, 56, 57, 87, 88, 89, 90, 91, 92, 93, 94, 95, 96, 97, 98, 99, 100, 101, 102, 103, 104, 105, 106, 107, 108, 109, 110, 111, 112, 113, 114, 115, 116, 117, 118, 119, 120, 121, 122, 123, 124, 125, 126, 127, 128, 129, 130, 131, 132, 133, 134, 135, 136, 137, 138, 139] (by decide +kernel) (by decide +kernel)
set_option maxRecDepth 20000 in
theorem gX9_odds_X9_isTrue : GoodIn wsX9_odds (wsV RX9 399 RX9 yX9_isTrue wsX9_isTrue) := goodIn_app (goodIn_of _ (by decide +kernel)) ggX9_odds_X9_isTrue
set_option maxRecDepth 20000 in
theorem ggX9_odds_X9_comesMany : GoodIn wsX9_odds wsX9_comesMany := goodIn_r _ [80, 81, 65, 82, 58, 59, 6, 60, 87, 88, 89, 90, 91, 92, 93, 94, 95, 96, 97, 98, 99, 100, 101, 102, 103, 104, 105, 106, 107, 108, 109, 110, 111, 112, 113, 114, 115, 116, 117, 118, 119, 120, 121, 122, 123, 124, 125, 126, 127, 128, 129, 130, 131, 132, 133, 134, 135, 136, 137, 138, 139] (by decide +kernel) (by decide +kernel)
set_option maxRecDepth 20000 in
theorem gX9_odds_X9_comesMany : GoodIn wsX9_odds (wsV RX9 427 RX9 yX9_comesMany wsX9_comesMany) := goodIn_app (goodIn_of _ (by decide +kernel)) ggX9_odds_X9_comesMany
set_option maxRecDepth 20000 in
theorem ggX9_odds_X9_manyOf : GoodIn wsX9_odds wsX9_manyOf := goodIn_r _ [86, 65, 87, 88, 89, 90, 91, 92, 93, 94, 95, 96, 97, 98, 99, 100, 101, 102, 103, 104, 105, 106, 107, 108, 109, 110, 111, 112, 113, 114, 115, 116, 117, 118, 119, 120, 121, 122, 123, 124, 125, 126, 127, 128, 129, 130, 131, 132, 133, 134, 135, 136, 137, 138, 139] (by decide +kernel) (by decide +kernel)
set_option maxRecDepth 20000 in
theorem gX9_odds_X9_manyOf : GoodIn wsX9_odds (wsV RX9 433 RX9 yX9_manyOf wsX9_manyOf) := goodIn_app (goodIn_of _ (by decide +kernel)) ggX9_odds_X9_manyOf
theorem dX9_odds_0 : decode cX9_odds 0 = .ok (.iload_n 1, 1) := by decide +kernel
theorem dX9_odds_1 : decode cX9_odds 1 = .ok (.invokestatic 409, 3) := by decide +kernel
theorem dX9_odds_4 : decode cX9_odds 4 = .ok (.ifCond .eq 12, 3) := by decide +kernel
theorem dX9_odds_7 : decode cX9_odds 7 = .ok (.iload_n 2, 1) := by decide +kernel
theorem dX9_odds_8 : decode cX9_odds 8 = .ok (.iconst 0, 1) := by decide +kernel
theorem dX9_odds_9 : decode cX9_odds 9 = .ok (.iconst 2, 1) := by decide +kernel
theorem dX9_odds_10 : decode cX9_odds 10 = .ok (.invokestatic 126, 3) := by decide +kernel
theorem dX9_odds_13 : decode cX9_odds 13 = .ok (.ifCond .ne 7, 3) := by decide +kernel
theorem dX9_odds_16 : decode cX9_odds 16 = .ok (.ldc2_w 422, 3) := by decide +kernel
theorem dX9_odds_19 : decode cX9_odds 19 = .ok (.lreturn, 1) := by decide +kernel
theorem dX9_odds_20 : decode cX9_odds 20 = .ok (.aload_n 0, 1) := by decide +kernel
theorem dX9_odds_21 : decode cX9_odds 21 = .ok (.aload_n 0, 1) := by decide +kernel
theorem dX9_odds_22 : decode cX9_odds 22 = .ok (.iload_n 1, 1) := by decide +kernel
theorem dX9_odds_23 : decode cX9_odds 23 = .ok (.sipush 999, 3) := by decide +kernel
theorem dX9_odds_26 : decode cX9_odds 26 = .ok (.iconst 0, 1) := by decide +kernel
theorem dX9_odds_27 : decode cX9_odds 27 = .ok (.invokevirtual 412, 3) := by decide +kernel
theorem dX9_odds_30 : decode cX9_odds 30 = .ok (.aload_n 0, 1) := by decide +kernel
theorem dX9_odds_31 : decode cX9_odds 31 = .ok (.iload_n 1, 1) := by decide +kernel
theorem dX9_odds_32 : decode cX9_odds 32 = .ok (.sipush 999, 3) := by decide +kernel
theorem dX9_odds_35 : decode cX9_odds 35 = .ok (.iconst 1, 1) := by decide +kernel
theorem dX9_odds_36 : decode cX9_odds 36 = .ok (.invokevirtual 412, 3) := by decide +kernel
theorem dX9_odds_39 : decode cX9_odds 39 = .ok (.invokevirtual 424, 3) := by decide +kernel
theorem dX9_odds_42 : decode cX9_odds 42 = .ok (.iconst 0, 1) := by decide +kernel
theorem dX9_odds_43 : decode cX9_odds 43 = .ok (.istore 4, 2) := by decide +kernel
