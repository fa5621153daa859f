theorem dX9_clause_185 : decode cX9_clause 185 = .ok (.getfield 69, 3) := by decide +kernel
theorem dX9_clause_188 : decode cX9_clause 188 = .ok (.aload_n 0, 1) := by decide +kernel
theorem dX9_clause_189 : decode cX9_clause 189 = .ok (.getfield 311, 3) := by decide +kernel
theorem dX9_clause_192 : decode cX9_clause 192 = .ok (.aload_n 0, 1) := by decide +kernel
theorem dX9_clause_193 : decode cX9_clause 193 = .ok (.getfield 289, 3) := by decide +kernel
theorem dX9_clause_196 : decode cX9_clause 196 = .ok (.bipush 7, 2) := by decide +kernel
theorem dX9_clause_198 : decode cX9_clause 198 = .ok (.if_icmp .ne 13, 3) := by decide +kernel
theorem dX9_clause_201 : decode cX9_clause 201 = .ok (.aload_n 0, 1) := by decide +kernel
theorem dX9_clause_202 : decode cX9_clause 202 = .ok (.iconst 1, 1) := by decide +kernel
theorem dX9_clause_203 : decode cX9_clause 203 = .ok (.bipush 99, 2) := by decide +kernel
theorem dX9_clause_205 : decode cX9_clause 205 = .ok (.invokevirtual 317, 3) := by decide +kernel
theorem dX9_clause_208 : decode cX9_clause 208 = .ok (.goto 10, 3) := by decide +kernel
theorem dX9_clause_211 : decode cX9_clause 211 = .ok (.aload_n 0, 1) := by decide +kernel
theorem dX9_clause_212 : decode cX9_clause 212 = .ok (.iconst 0, 1) := by decide +kernel
theorem dX9_clause_213 : decode cX9_clause 213 = .ok (.bipush 9, 2) := by decide +kernel
theorem dX9_clause_215 : decode cX9_clause 215 = .ok (.invokevirtual 317, 3) := by decide +kernel
theorem dX9_clause_218 : decode cX9_clause 218 = .ok (.iastore, 1) := by decide +kernel
theorem dX9_clause_219 : decode cX9_clause 219 = .ok (.aload_n 0, 1) := by decide +kernel
theorem dX9_clause_220 : decode cX9_clause 220 = .ok (.getfield 289, 3) := by decide +kernel
theorem dX9_clause_223 : decode cX9_clause 223 = .ok (.iconst 4, 1) := by decide +kernel
theorem dX9_clause_224 : decode cX9_clause 224 = .ok (.if_icmp .ne 48, 3) := by decide +kernel
theorem dX9_clause_227 : decode cX9_clause 227 = .ok (.aload_n 0, 1) := by decide +kernel
theorem dX9_clause_228 : decode cX9_clause 228 = .ok (.bipush 8, 2) := by decide +kernel
theorem dX9_clause_230 : decode cX9_clause 230 = .ok (.invokevirtual 320, 3) := by decide +kernel
theorem dX9_clause_233 : decode cX9_clause 233 = .ok (.aload_n 0, 1) := by decide +kernel
theorem dX9_clause_234 : decode cX9_clause 234 = .ok (.getfield 72, 3) := by decide +kernel
theorem dX9_clause_237 : decode cX9_clause 237 = .ok (.aload_n 0, 1) := by decide +kernel
theorem dX9_clause_238 : decode cX9_clause 238 = .ok (.getfield 311, 3) := by decide +kernel
theorem dX9_clause_241 : decode cX9_clause 241 = .ok (.aload_n 0, 1) := by decide +kernel
theorem dX9_clause_242 : decode cX9_clause 242 = .ok (.iconst 0, 1) := by decide +kernel
theorem dX9_clause_243 : decode cX9_clause 243 = .ok (.iconst 5, 1) := by decide +kernel
theorem dX9_clause_244 : decode cX9_clause 244 = .ok (.invokevirtual 317, 3) := by decide +kernel
theorem dX9_clause_247 : decode cX9_clause 247 = .ok (.iastore, 1) := by decide +kernel
theorem dX9_clause_248 : decode cX9_clause 248 = .ok (.aload_n 0, 1) := by decide +kernel
theorem dX9_clause_249 : decode cX9_clause 249 = .ok (.bipush 17, 2) := by decide +kernel
theorem dX9_clause_251 : decode cX9_clause 251 = .ok (.invokevirtual 320, 3) := by decide +kernel
theorem dX9_clause_254 : decode cX9_clause 254 = .ok (.aload_n 0, 1) := by decide +kernel
theorem dX9_clause_255 : decode cX9_clause 255 = .ok (.getfield 75, 3) := by decide +kernel
theorem dX9_clause_258 : decode cX9_clause 258 = .ok (.aload_n 0, 1) := by decide +kernel
theorem dX9_clause_259 : decode cX9_clause 259 = .ok (.getfield 311, 3) := by decide +kernel
theorem dX9_clause_262 : decode cX9_clause 262 = .ok (.aload_n 0, 1) := by decide +kernel
theorem dX9_clause_263 : decode cX9_clause 263 = .ok (.iconst 0, 1) := by decide +kernel
theorem dX9_clause_264 : decode cX9_clause 264 = .ok (.iconst 2, 1) := by decide +kernel
theorem dX9_clause_265 : decode cX9_clause 265 = .ok (.invokevirtual 317, 3) := by decide +kernel
theorem dX9_clause_268 : decode cX9_clause 268 = .ok (.iastore, 1) := by decide +kernel
theorem dX9_clause_269 : decode cX9_clause 269 = .ok (.goto 32, 3) := by decide +kernel
theorem dX9_clause_272 : decode cX9_clause 272 = .ok (.aload_n 0, 1) := by decide +kernel
theorem dX9_clause_273 : decode cX9_clause 273 = .ok (.getfield 289, 3) := by decide +kernel
theorem dX9_clause_276 : decode cX9_clause 276 = .ok (.iconst 5, 1) := by decide +kernel
theorem dX9_clause_277 : decode cX9_clause 277 = .ok (.if_icmp .ne 24, 3) := by decide +kernel
theorem dX9_clause_280 : decode cX9_clause 280 = .ok (.aload_n 0, 1) := by decide +kernel
theorem dX9_clause_281 : decode cX9_clause 281 = .ok (.bipush 9, 2) := by decide +kernel
theorem dX9_clause_283 : decode cX9_clause 283 = .ok (.invokevirtual 320, 3) := by decide +kernel
theorem dX9_clause_286 : decode cX9_clause 286 = .ok (.aload_n 0, 1) := by decide +kernel
theorem dX9_clause_287 : decode cX9_clause 287 = .ok (.getfield 72, 3) := by decide +kernel
theorem dX9_clause_290 : decode cX9_clause 290 = .ok (.aload_n 0, 1) := by decide +kernel
theorem dX9_clause_291 : decode cX9_clause 291 = .ok (.getfield 311, 3) := by decide +kernel
theorem dX9_clause_294 : decode cX9_clause 294 = .ok (.aload_n 0, 1) := by decide +kernel
theorem dX9_clause_295 : decode cX9_clause 295 = .ok (.iconst 0, 1) := by decide +kernel
theorem dX9_clause_296 : decode cX9_clause 296 = .ok (.iconst 3, 1) := by decide +kernel
theorem dX9_clause_297 : decode cX9_clause 297 = .ok (.invokevirtual 317, 3) := by decide +kernel
theorem dX9_clause_300 : decode cX9_clause 300 = .ok (.iastore, 1) := by decide +kernel
theorem dX9_clause_301 : decode cX9_clause 301 = .ok (.aload_n 0, 1) := by decide +kernel
theorem dX9_clause_302 : decode cX9_clause 302 = .ok (.getfield 239, 3) := by decide +kernel
theorem dX9_clause_305 : decode cX9_clause 305 = .ok (.ifCond .ne 17, 3) := by decide +kernel
theorem dX9_clause_308 : decode cX9_clause 308 = .ok (.aload_n 0, 1) := by decide +kernel
theorem dX9_clause_309 : decode cX9_clause 309 = .ok (.bipush 59, 2) := by decide +kernel
theorem dX9_clause_311 : decode cX9_clause 311 = .ok (.invokevirtual 292, 3) := by decide +kernel
theorem dX9_clause_314 : decode cX9_clause 314 = .ok (.ifCond .ne 8, 3) := by decide +kernel
theorem dX9_clause_317 : decode cX9_clause 317 = .ok (.aload_n 0, 1) := by decide +kernel
theorem dX9_clause_318 : decode cX9_clause 318 = .ok (.iconst 1, 1) := by decide +kernel
theorem dX9_clause_319 : decode cX9_clause 319 = .ok (.invokevirtual 254, 3) := by decide +kernel
theorem dX9_clause_322 : decode cX9_clause 322 = .ok (.aload_n 0, 1) := by decide +kernel
theorem dX9_clause_323 : decode cX9_clause 323 = .ok (.getfield 239, 3) := by decide +kernel
theorem dX9_clause_326 : decode cX9_clause 326 = .ok (.ifCond .ne 7, 3) := by decide +kernel
theorem dX9_clause_329 : decode cX9_clause 329 = .ok (.aload_n 0, 1) := by decide +kernel
theorem dX9_clause_330 : decode cX9_clause 330 = .ok (.invokevirtual 308, 3) := by decide +kernel
theorem dX9_clause_333 : decode cX9_clause 333 = .ok (.return_, 1) := by decide +kernel
theorem dX9_text_0 : decode cX9_text 0 = .ok (.aload_n 0, 1) := by decide +kernel
theorem dX9_text_1 : decode cX9_text 1 = .ok (.getfield 7, 3) := by decide +kernel
theorem dX9_text_4 : decode cX9_text 4 = .ok (.iconst 3, 1) := by decide +kernel
theorem dX9_text_5 : decode cX9_text 5 = .ok (.iaload, 1) := by decide +kernel
theorem dX9_text_6 : decode cX9_text 6 = .ok (.iconst 4, 1) := by decide +kernel
theorem dX9_text_7 : decode cX9_text 7 = .ok (.if_icmp .ne 5, 3) := by decide +kernel
theorem dX9_text_10 : decode cX9_text 10 = .ok (.iconst (-1), 1) := by decide +kernel
theorem dX9_text_11 : decode cX9_text 11 = .ok (.ireturn, 1) := by decide +kernel
theorem dX9_text_12 : decode cX9_text 12 = .ok (.aload_n 0, 1) := by decide +kernel
theorem dX9_text_13 : decode cX9_text 13 = .ok (.aload_n 0, 1) := by decide +kernel
theorem dX9_text_14 : decode cX9_text 14 = .ok (.getfield 163, 3) := by decide +kernel
theorem dX9_text_17 : decode cX9_text 17 = .ok (.putfield 217, 3) := by decide +kernel
theorem dX9_text_20 : decode cX9_text 20 = .ok (.aload_n 0, 1) := by decide +kernel
theorem dX9_text_21 : decode cX9_text 21 = .ok (.iconst 0, 1) := by decide +kernel
theorem dX9_text_22 : decode cX9_text 22 = .ok (.putfield 163, 3) := by decide +kernel
theorem dX9_text_25 : decode cX9_text 25 = .ok (.aload_n 0, 1) := by decide +kernel
theorem dX9_text_26 : decode cX9_text 26 = .ok (.iconst 0, 1) := by decide +kernel
theorem dX9_text_27 : decode cX9_text 27 = .ok (.putfield 214, 3) := by decide +kernel
theorem dX9_text_30 : decode cX9_text 30 = .ok (.aload_n 0, 1) := by decide +kernel
theorem dX9_text_31 : decode cX9_text 31 = .ok (.iconst 0, 1) := by decide +kernel
theorem dX9_text_32 : decode cX9_text 32 = .ok (.putfield 239, 3) := by decide +kernel
theorem dX9_text_35 : decode cX9_text 35 = .ok (.aload_n 0, 1) := by decide +kernel
theorem dX9_text_36 : decode cX9_text 36 = .ok (.iconst (-1), 1) := by decide +kernel
theorem dX9_text_37 : decode cX9_text 37 = .ok (.putfield 242, 3) := by decide +kernel
theorem dX9_text_40 : decode cX9_text 40 = .ok (.aload_n 0, 1) := by decide +kernel
theorem dX9_text_41 : decode cX9_text 41 = .ok (.iconst 0, 1) := by decide +kernel
theorem dX9_text_42 : decode cX9_text 42 = .ok (.putfield 251, 3) := by decide +kernel
theorem dX9_text_45 : decode cX9_text 45 = .ok (.aload_n 0, 1) := by decide +kernel
theorem dX9_text_46 : decode cX9_text 46 = .ok (.iconst 0, 1) := by decide +kernel
theorem dX9_text_47 : decode cX9_text 47 = .ok (.putfield 248, 3) := by decide +kernel
theorem dX9_text_50 : decode cX9_text 50 = .ok (.aload_n 0, 1) := by decide +kernel
theorem dX9_text_51 : decode cX9_text 51 = .ok (.iconst 0, 1) := by decide +kernel
theorem dX9_text_52 : decode cX9_text 52 = .ok (.putfield 263, 3) := by decide +kernel
theorem dX9_text_55 : decode cX9_text 55 = .ok (.aload_n 0, 1) := by decide +kernel
theorem dX9_text_56 : decode cX9_text 56 = .ok (.iconst 4, 1) := by decide +kernel
theorem dX9_text_57 : decode cX9_text 57 = .ok (.putfield 283, 3) := by decide +kernel
theorem dX9_text_60 : decode cX9_text 60 = .ok (.aload_n 0, 1) := by decide +kernel
theorem dX9_text_61 : decode cX9_text 61 = .ok (.iconst 0, 1) := by decide +kernel
theorem dX9_text_62 : decode cX9_text 62 = .ok (.putfield 311, 3) := by decide +kernel
theorem dX9_text_65 : decode cX9_text 65 = .ok (.aload_n 0, 1) := by decide +kernel
theorem dX9_text_66 : decode cX9_text 66 = .ok (.iconst 0, 1) := by decide +kernel
theorem dX9_text_67 : decode cX9_text 67 = .ok (.putfield 245, 3) := by decide +kernel
theorem dX9_text_70 : decode cX9_text 70 = .ok (.aload_n 0, 1) := by decide +kernel
theorem dX9_text_71 : decode cX9_text 71 = .ok (.invokevirtual 260, 3) := by decide +kernel
theorem dX9_text_74 : decode cX9_text 74 = .ok (.aload_n 0, 1) := by decide +kernel
theorem dX9_text_75 : decode cX9_text 75 = .ok (.getfield 239, 3) := by decide +kernel
theorem dX9_text_78 : decode cX9_text 78 = .ok (.ifCond .ne 89, 3) := by decide +kernel
theorem dX9_text_81 : decode cX9_text 81 = .ok (.aload_n 0, 1) := by decide +kernel
theorem dX9_text_82 : decode cX9_text 82 = .ok (.getfield 283, 3) := by decide +kernel
theorem dX9_text_85 : decode cX9_text 85 = .ok (.iconst 4, 1) := by decide +kernel
theorem dX9_text_86 : decode cX9_text 86 = .ok (.if_icmp .ne 10, 3) := by decide +kernel
theorem dX9_text_89 : decode cX9_text 89 = .ok (.aload_n 0, 1) := by decide +kernel
theorem dX9_text_90 : decode cX9_text 90 = .ok (.getfield 223, 3) := by decide +kernel
theorem dX9_text_93 : decode cX9_text 93 = .ok (.ifCond .eq 74, 3) := by decide +kernel
theorem dX9_text_96 : decode cX9_text 96 = .ok (.aload_n 0, 1) := by decide +kernel
theorem dX9_text_97 : decode cX9_text 97 = .ok (.getfield 283, 3) := by decide +kernel
theorem dX9_text_100 : decode cX9_text 100 = .ok (.tableswitch 60 0 3 #[32, 39, 46, 53], 32) := by decide +kernel
theorem dX9_text_132 : decode cX9_text 132 = .ok (.aload_n 0, 1) := by decide +kernel
theorem dX9_text_133 : decode cX9_text 133 = .ok (.invokevirtual 323, 3) := by decide +kernel
theorem dX9_text_136 : decode cX9_text 136 = .ok (.goto (-62), 3) := by decide +kernel
theorem dX9_text_139 : decode cX9_text 139 = .ok (.aload_n 0, 1) := by decide +kernel
theorem dX9_text_140 : decode cX9_text 140 = .ok (.invokevirtual 326, 3) := by decide +kernel
theorem dX9_text_143 : decode cX9_text 143 = .ok (.goto (-69), 3) := by decide +kernel
theorem dX9_text_146 : decode cX9_text 146 = .ok (.aload_n 0, 1) := by decide +kernel
theorem dX9_text_147 : decode cX9_text 147 = .ok (.invokevirtual 329, 3) := by decide +kernel
theorem dX9_text_150 : decode cX9_text 150 = .ok (.goto (-76), 3) := by decide +kernel
theorem dX9_text_153 : decode cX9_text 153 = .ok (.aload_n 0, 1) := by decide +kernel
theorem dX9_text_154 : decode cX9_text 154 = .ok (.invokevirtual 332, 3) := by decide +kernel
theorem dX9_text_157 : decode cX9_text 157 = .ok (.goto (-83), 3) := by decide +kernel
theorem dX9_text_160 : decode cX9_text 160 = .ok (.aload_n 0, 1) := by decide +kernel
theorem dX9_text_161 : decode cX9_text 161 = .ok (.invokevirtual 335, 3) := by decide +kernel
theorem dX9_text_164 : decode cX9_text 164 = .ok (.goto (-90), 3) := by decide +kernel
theorem dX9_text_167 : decode cX9_text 167 = .ok (.aload_n 0, 1) := by decide +kernel
theorem dX9_text_168 : decode cX9_text 168 = .ok (.aload_n 0, 1) := by decide +kernel
theorem dX9_text_169 : decode cX9_text 169 = .ok (.getfield 239, 3) := by decide +kernel
theorem dX9_text_172 : decode cX9_text 172 = .ok (.putfield 20, 3) := by decide +kernel
theorem dX9_text_175 : decode cX9_text 175 = .ok (.aload_n 0, 1) := by decide +kernel
theorem dX9_text_176 : decode cX9_text 176 = .ok (.aload_n 0, 1) := by decide +kernel
theorem dX9_text_177 : decode cX9_text 177 = .ok (.getfield 242, 3) := by decide +kernel
theorem dX9_text_180 : decode cX9_text 180 = .ok (.putfield 24, 3) := by decide +kernel
theorem dX9_text_183 : decode cX9_text 183 = .ok (.aload_n 0, 1) := by decide +kernel
theorem dX9_text_184 : decode cX9_text 184 = .ok (.getfield 239, 3) := by decide +kernel
theorem dX9_text_187 : decode cX9_text 187 = .ok (.ifCond .le 5, 3) := by decide +kernel
theorem dX9_text_190 : decode cX9_text 190 = .ok (.iconst (-1), 1) := by decide +kernel
theorem dX9_text_191 : decode cX9_text 191 = .ok (.ireturn, 1) := by decide +kernel
theorem dX9_text_192 : decode cX9_text 192 = .ok (.aload_n 0, 1) := by decide +kernel
theorem dX9_text_193 : decode cX9_text 193 = .ok (.getfield 7, 3) := by decide +kernel
theorem dX9_text_196 : decode cX9_text 196 = .ok (.iconst 3, 1) := by decide +kernel
theorem dX9_text_197 : decode cX9_text 197 = .ok (.iaload, 1) := by decide +kernel
theorem dX9_text_198 : decode cX9_text 198 = .ok (.istore_n 1, 1) := by decide +kernel
theorem dX9_text_199 : decode cX9_text 199 = .ok (.aload_n 0, 1) := by decide +kernel
theorem dX9_text_200 : decode cX9_text 200 = .ok (.getfield 27, 3) := by decide +kernel
theorem dX9_text_203 : decode cX9_text 203 = .ok (.iload_n 1, 1) := by decide +kernel
theorem dX9_text_204 : decode cX9_text 204 = .ok (.aload_n 0, 1) := by decide +kernel
theorem dX9_text_205 : decode cX9_text 205 = .ok (.getfield 311, 3) := by decide +kernel
theorem dX9_text_208 : decode cX9_text 208 = .ok (.iastore, 1) := by decide +kernel
theorem dX9_text_209 : decode cX9_text 209 = .ok (.iconst 0, 1) := by decide +kernel
theorem dX9_text_210 : decode cX9_text 210 = .ok (.istore_n 2, 1) := by decide +kernel
theorem dX9_text_211 : decode cX9_text 211 = .ok (.iload_n 2, 1) := by decide +kernel
theorem dX9_text_212 : decode cX9_text 212 = .ok (.aload_n 0, 1) := by decide +kernel
theorem dX9_text_213 : decode cX9_text 213 = .ok (.getfield 311, 3) := by decide +kernel
theorem dX9_text_216 : decode cX9_text 216 = .ok (.if_icmp .ge 100, 3) := by decide +kernel
theorem dX9_text_219 : decode cX9_text 219 = .ok (.aload_n 0, 1) := by decide +kernel
theorem dX9_text_220 : decode cX9_text 220 = .ok (.getfield 30, 3) := by decide +kernel
theorem dX9_text_223 : decode cX9_text 223 = .ok (.bipush 24, 2) := by decide +kernel
theorem dX9_text_225 : decode cX9_text 225 = .ok (.iload_n 1, 1) := by decide +kernel
theorem dX9_text_226 : decode cX9_text 226 = .ok (.imul, 1) := by decide +kernel
theorem dX9_text_227 : decode cX9_text 227 = .ok (.iload_n 2, 1) := by decide +kernel
theorem dX9_text_228 : decode cX9_text 228 = .ok (.iadd, 1) := by decide +kernel
theorem dX9_text_229 : decode cX9_text 229 = .ok (.aload_n 0, 1) := by decide +kernel
theorem dX9_text_230 : decode cX9_text 230 = .ok (.getfield 63, 3) := by decide +kernel
theorem dX9_text_233 : decode cX9_text 233 = .ok (.iload_n 2, 1) := by decide +kernel
theorem dX9_text_234 : decode cX9_text 234 = .ok (.iaload, 1) := by decide +kernel
theorem dX9_text_235 : decode cX9_text 235 = .ok (.iastore, 1) := by decide +kernel
theorem dX9_text_236 : decode cX9_text 236 = .ok (.aload_n 0, 1) := by decide +kernel
theorem dX9_text_237 : decode cX9_text 237 = .ok (.getfield 33, 3) := by decide +kernel
theorem dX9_text_240 : decode cX9_text 240 = .ok (.bipush 24, 2) := by decide +kernel
theorem dX9_text_242 : decode cX9_text 242 = .ok (.iload_n 1, 1) := by decide +kernel
theorem dX9_text_243 : decode cX9_text 243 = .ok (.imul, 1) := by decide +kernel
theorem dX9_text_244 : decode cX9_text 244 = .ok (.iload_n 2, 1) := by decide +kernel
theorem dX9_text_245 : decode cX9_text 245 = .ok (.iadd, 1) := by decide +kernel
theorem dX9_text_246 : decode cX9_text 246 = .ok (.sipush 400, 3) := by decide +kernel
theorem dX9_text_249 : decode cX9_text 249 = .ok (.iload_n 1, 1) := by decide +kernel
theorem dX9_text_250 : decode cX9_text 250 = .ok (.imul, 1) := by decide +kernel
theorem dX9_text_251 : decode cX9_text 251 = .ok (.aload_n 0, 1) := by decide +kernel
theorem dX9_text_252 : decode cX9_text 252 = .ok (.getfield 66, 3) := by decide +kernel
theorem dX9_text_255 : decode cX9_text 255 = .ok (.iload_n 2, 1) := by decide +kernel
theorem dX9_text_256 : decode cX9_text 256 = .ok (.iaload, 1) := by decide +kernel
theorem dX9_text_257 : decode cX9_text 257 = .ok (.iadd, 1) := by decide +kernel
theorem dX9_text_258 : decode cX9_text 258 = .ok (.iastore, 1) := by decide +kernel
theorem dX9_text_259 : decode cX9_text 259 = .ok (.aload_n 0, 1) := by decide +kernel
theorem dX9_text_260 : decode cX9_text 260 = .ok (.getfield 36, 3) := by decide +kernel
theorem dX9_text_263 : decode cX9_text 263 = .ok (.bipush 24, 2) := by decide +kernel
theorem dX9_text_265 : decode cX9_text 265 = .ok (.iload_n 1, 1) := by decide +kernel
theorem dX9_text_266 : decode cX9_text 266 = .ok (.imul, 1) := by decide +kernel
theorem dX9_text_267 : decode cX9_text 267 = .ok (.iload_n 2, 1) := by decide +kernel
theorem dX9_text_268 : decode cX9_text 268 = .ok (.iadd, 1) := by decide +kernel
theorem dX9_text_269 : decode cX9_text 269 = .ok (.aload_n 0, 1) := by decide +kernel
theorem dX9_text_270 : decode cX9_text 270 = .ok (.getfield 69, 3) := by decide +kernel
theorem dX9_text_273 : decode cX9_text 273 = .ok (.iload_n 2, 1) := by decide +kernel
theorem dX9_text_274 : decode cX9_text 274 = .ok (.iaload, 1) := by decide +kernel
theorem dX9_text_275 : decode cX9_text 275 = .ok (.iastore, 1) := by decide +kernel
theorem dX9_text_276 : decode cX9_text 276 = .ok (.aload_n 0, 1) := by decide +kernel
theorem dX9_text_277 : decode cX9_text 277 = .ok (.getfield 39, 3) := by decide +kernel
theorem dX9_text_280 : decode cX9_text 280 = .ok (.bipush 24, 2) := by decide +kernel
theorem dX9_text_282 : decode cX9_text 282 = .ok (.iload_n 1, 1) := by decide +kernel
theorem dX9_text_283 : decode cX9_text 283 = .ok (.imul, 1) := by decide +kernel
theorem dX9_text_284 : decode cX9_text 284 = .ok (.iload_n 2, 1) := by decide +kernel
theorem dX9_text_285 : decode cX9_text 285 = .ok (.iadd, 1) := by decide +kernel
theorem dX9_text_286 : decode cX9_text 286 = .ok (.aload_n 0, 1) := by decide +kernel
theorem dX9_text_287 : decode cX9_text 287 = .ok (.getfield 72, 3) := by decide +kernel
theorem dX9_text_290 : decode cX9_text 290 = .ok (.iload_n 2, 1) := by decide +kernel
theorem dX9_text_291 : decode cX9_text 291 = .ok (.iaload, 1) := by decide +kernel
theorem dX9_text_292 : decode cX9_text 292 = .ok (.iastore, 1) := by decide +kernel
theorem dX9_text_293 : decode cX9_text 293 = .ok (.aload_n 0, 1) := by decide +kernel
theorem dX9_text_294 : decode cX9_text 294 = .ok (.getfield 42, 3) := by decide +kernel
theorem dX9_text_297 : decode cX9_text 297 = .ok (.bipush 24, 2) := by decide +kernel
theorem dX9_text_299 : decode cX9_text 299 = .ok (.iload_n 1, 1) := by decide +kernel
theorem dX9_text_300 : decode cX9_text 300 = .ok (.imul, 1) := by decide +kernel
theorem dX9_text_301 : decode cX9_text 301 = .ok (.iload_n 2, 1) := by decide +kernel
theorem dX9_text_302 : decode cX9_text 302 = .ok (.iadd, 1) := by decide +kernel
theorem dX9_text_303 : decode cX9_text 303 = .ok (.aload_n 0, 1) := by decide +kernel
theorem dX9_text_304 : decode cX9_text 304 = .ok (.getfield 75, 3) := by decide +kernel
theorem dX9_text_307 : decode cX9_text 307 = .ok (.iload_n 2, 1) := by decide +kernel
theorem dX9_text_308 : decode cX9_text 308 = .ok (.iaload, 1) := by decide +kernel
theorem dX9_text_309 : decode cX9_text 309 = .ok (.iastore, 1) := by decide +kernel
theorem dX9_text_310 : decode cX9_text 310 = .ok (.iinc 2 1, 3) := by decide +kernel
theorem dX9_text_313 : decode cX9_text 313 = .ok (.goto (-102), 3) := by decide +kernel
theorem dX9_text_316 : decode cX9_text 316 = .ok (.iconst 0, 1) := by decide +kernel
theorem dX9_text_317 : decode cX9_text 317 = .ok (.istore_n 2, 1) := by decide +kernel
theorem dX9_text_318 : decode cX9_text 318 = .ok (.iload_n 2, 1) := by decide +kernel
theorem dX9_text_319 : decode cX9_text 319 = .ok (.aload_n 0, 1) := by decide +kernel
theorem dX9_text_320 : decode cX9_text 320 = .ok (.getfield 245, 3) := by decide +kernel
theorem dX9_text_323 : decode cX9_text 323 = .ok (.if_icmp .ge 45, 3) := by decide +kernel
theorem dX9_text_326 : decode cX9_text 326 = .ok (.aload_n 0, 1) := by decide +kernel
theorem dX9_text_327 : decode cX9_text 327 = .ok (.getfield 45, 3) := by decide +kernel
theorem dX9_text_330 : decode cX9_text 330 = .ok (.sipush 400, 3) := by decide +kernel
theorem dX9_text_333 : decode cX9_text 333 = .ok (.iload_n 1, 1) := by decide +kernel
theorem dX9_text_334 : decode cX9_text 334 = .ok (.imul, 1) := by decide +kernel
theorem dX9_text_335 : decode cX9_text 335 = .ok (.iload_n 2, 1) := by decide +kernel
theorem dX9_text_336 : decode cX9_text 336 = .ok (.iadd, 1) := by decide +kernel
theorem dX9_text_337 : decode cX9_text 337 = .ok (.aload_n 0, 1) := by decide +kernel
theorem dX9_text_338 : decode cX9_text 338 = .ok (.getfield 78, 3) := by decide +kernel
theorem dX9_text_341 : decode cX9_text 341 = .ok (.iload_n 2, 1) := by decide +kernel
theorem dX9_text_342 : decode cX9_text 342 = .ok (.iaload, 1) := by decide +kernel
theorem dX9_text_343 : decode cX9_text 343 = .ok (.iastore, 1) := by decide +kernel
theorem dX9_text_344 : decode cX9_text 344 = .ok (.aload_n 0, 1) := by decide +kernel
theorem dX9_text_345 : decode cX9_text 345 = .ok (.getfield 48, 3) := by decide +kernel
theorem dX9_text_348 : decode cX9_text 348 = .ok (.sipush 400, 3) := by decide +kernel
theorem dX9_text_351 : decode cX9_text 351 = .ok (.iload_n 1, 1) := by decide +kernel
theorem dX9_text_352 : decode cX9_text 352 = .ok (.imul, 1) := by decide +kernel
theorem dX9_text_353 : decode cX9_text 353 = .ok (.iload_n 2, 1) := by decide +kernel
theorem dX9_text_354 : decode cX9_text 354 = .ok (.iadd, 1) := by decide +kernel
theorem dX9_text_355 : decode cX9_text 355 = .ok (.aload_n 0, 1) := by decide +kernel
theorem dX9_text_356 : decode cX9_text 356 = .ok (.getfield 81, 3) := by decide +kernel
theorem dX9_text_359 : decode cX9_text 359 = .ok (.iload_n 2, 1) := by decide +kernel
theorem dX9_text_360 : decode cX9_text 360 = .ok (.iaload, 1) := by decide +kernel
theorem dX9_text_361 : decode cX9_text 361 = .ok (.iastore, 1) := by decide +kernel
theorem dX9_text_362 : decode cX9_text 362 = .ok (.iinc 2 1, 3) := by decide +kernel
theorem dX9_text_365 : decode cX9_text 365 = .ok (.goto (-47), 3) := by decide +kernel
theorem dX9_text_368 : decode cX9_text 368 = .ok (.aload_n 0, 1) := by decide +kernel
theorem dX9_text_369 : decode cX9_text 369 = .ok (.getfield 7, 3) := by decide +kernel
theorem dX9_text_372 : decode cX9_text 372 = .ok (.iconst 3, 1) := by decide +kernel
theorem dX9_text_373 : decode cX9_text 373 = .ok (.dup2, 1) := by decide +kernel
theorem dX9_text_374 : decode cX9_text 374 = .ok (.iaload, 1) := by decide +kernel
theorem dX9_text_375 : decode cX9_text 375 = .ok (.iconst 1, 1) := by decide +kernel
theorem dX9_text_376 : decode cX9_text 376 = .ok (.iadd, 1) := by decide +kernel
theorem dX9_text_377 : decode cX9_text 377 = .ok (.iastore, 1) := by decide +kernel
theorem dX9_text_378 : decode cX9_text 378 = .ok (.iload_n 1, 1) := by decide +kernel
theorem dX9_text_379 : decode cX9_text 379 = .ok (.ireturn, 1) := by decide +kernel
theorem dX9_fault_0 : decode cX9_fault 0 = .ok (.iload_n 1, 1) := by decide +kernel
theorem dX9_fault_1 : decode cX9_fault 1 = .ok (.ifCond .ne 10, 3) := by decide +kernel
theorem dX9_fault_4 : decode cX9_fault 4 = .ok (.aload_n 0, 1) := by decide +kernel
theorem dX9_fault_5 : decode cX9_fault 5 = .ok (.getfield 20, 3) := by decide +kernel
theorem dX9_fault_8 : decode cX9_fault 8 = .ok (.goto 16, 3) := by decide +kernel
theorem dX9_fault_11 : decode cX9_fault 11 = .ok (.iload_n 1, 1) := by decide +kernel
theorem dX9_fault_12 : decode cX9_fault 12 = .ok (.iconst 1, 1) := by decide +kernel
theorem dX9_fault_13 : decode cX9_fault 13 = .ok (.if_icmp .ne 10, 3) := by decide +kernel
theorem dX9_fault_16 : decode cX9_fault 16 = .ok (.aload_n 0, 1) := by decide +kernel
theorem dX9_fault_17 : decode cX9_fault 17 = .ok (.getfield 24, 3) := by decide +kernel
theorem dX9_fault_20 : decode cX9_fault 20 = .ok (.goto 4, 3) := by decide +kernel
theorem dX9_fault_23 : decode cX9_fault 23 = .ok (.iconst (-1), 1) := by decide +kernel
theorem dX9_fault_24 : decode cX9_fault 24 = .ok (.ireturn, 1) := by decide +kernel
theorem dX9_bound_0 : decode cX9_bound 0 = .ok (.lload_n 0, 1) := by decide +kernel
theorem dX9_bound_1 : decode cX9_bound 1 = .ok (.ldc2_w 338, 3) := by decide +kernel
theorem dX9_bound_4 : decode cX9_bound 4 = .ok (.lcmp, 1) := by decide +kernel
theorem dX9_bound_5 : decode cX9_bound 5 = .ok (.ifCond .le 9, 3) := by decide +kernel
theorem dX9_bound_8 : decode cX9_bound 8 = .ok (.ldc2_w 338, 3) := by decide +kernel
theorem dX9_bound_11 : decode cX9_bound 11 = .ok (.goto 18, 3) := by decide +kernel
theorem dX9_bound_14 : decode cX9_bound 14 = .ok (.lload_n 0, 1) := by decide +kernel
theorem dX9_bound_15 : decode cX9_bound 15 = .ok (.ldc2_w 340, 3) := by decide +kernel
theorem dX9_bound_18 : decode cX9_bound 18 = .ok (.lcmp, 1) := by decide +kernel
theorem dX9_bound_19 : decode cX9_bound 19 = .ok (.ifCond .ge 9, 3) := by decide +kernel
theorem dX9_bound_22 : decode cX9_bound 22 = .ok (.ldc2_w 340, 3) := by decide +kernel
theorem dX9_bound_25 : decode cX9_bound 25 = .ok (.goto 4, 3) := by decide +kernel
theorem dX9_bound_28 : decode cX9_bound 28 = .ok (.lload_n 0, 1) := by decide +kernel
theorem dX9_bound_29 : decode cX9_bound 29 = .ok (.lreturn, 1) := by decide +kernel
theorem dX9_worked_0 : decode cX9_worked 0 = .ok (.iload_n 0, 1) := by decide +kernel
theorem dX9_worked_1 : decode cX9_worked 1 = .ok (.lookupswitch 210 #[(35, 170), (42, 113), (43, 99), (45, 106), (47, 120), (60, 134), (61, 158), (62, 146), (300, 182), (301, 194), (406, 206)], 99) := by decide +kernel
theorem dX9_worked_100 : decode cX9_worked 100 = .ok (.lload_n 1, 1) := by decide +kernel
theorem dX9_worked_101 : decode cX9_worked 101 = .ok (.lload_n 3, 1) := by decide +kernel
theorem dX9_worked_102 : decode cX9_worked 102 = .ok (.ladd, 1) := by decide +kernel
theorem dX9_worked_103 : decode cX9_worked 103 = .ok (.invokestatic 342, 3) := by decide +kernel
theorem dX9_worked_106 : decode cX9_worked 106 = .ok (.lreturn, 1) := by decide +kernel
theorem dX9_worked_107 : decode cX9_worked 107 = .ok (.lload_n 1, 1) := by decide +kernel
theorem dX9_worked_108 : decode cX9_worked 108 = .ok (.lload_n 3, 1) := by decide +kernel
theorem dX9_worked_109 : decode cX9_worked 109 = .ok (.lsub, 1) := by decide +kernel
theorem dX9_worked_110 : decode cX9_worked 110 = .ok (.invokestatic 342, 3) := by decide +kernel
theorem dX9_worked_113 : decode cX9_worked 113 = .ok (.lreturn, 1) := by decide +kernel
theorem dX9_worked_114 : decode cX9_worked 114 = .ok (.lload_n 1, 1) := by decide +kernel
theorem dX9_worked_115 : decode cX9_worked 115 = .ok (.lload_n 3, 1) := by decide +kernel
theorem dX9_worked_116 : decode cX9_worked 116 = .ok (.lmul, 1) := by decide +kernel
theorem dX9_worked_117 : decode cX9_worked 117 = .ok (.invokestatic 342, 3) := by decide +kernel
theorem dX9_worked_120 : decode cX9_worked 120 = .ok (.lreturn, 1) := by decide +kernel
theorem dX9_worked_121 : decode cX9_worked 121 = .ok (.lload_n 3, 1) := by decide +kernel
theorem dX9_worked_122 : decode cX9_worked 122 = .ok (.lconst 0, 1) := by decide +kernel
theorem dX9_worked_123 : decode cX9_worked 123 = .ok (.lcmp, 1) := by decide +kernel
theorem dX9_worked_124 : decode cX9_worked 124 = .ok (.ifCond .ne 7, 3) := by decide +kernel
theorem dX9_worked_127 : decode cX9_worked 127 = .ok (.lconst 0, 1) := by decide +kernel
theorem dX9_worked_128 : decode cX9_worked 128 = .ok (.goto 6, 3) := by decide +kernel
theorem dX9_worked_131 : decode cX9_worked 131 = .ok (.lload_n 1, 1) := by decide +kernel
theorem dX9_worked_132 : decode cX9_worked 132 = .ok (.lload_n 3, 1) := by decide +kernel
theorem dX9_worked_133 : decode cX9_worked 133 = .ok (.ldiv, 1) := by decide +kernel
theorem dX9_worked_134 : decode cX9_worked 134 = .ok (.lreturn, 1) := by decide +kernel
theorem dX9_worked_135 : decode cX9_worked 135 = .ok (.lload_n 1, 1) := by decide +kernel
theorem dX9_worked_136 : decode cX9_worked 136 = .ok (.lload_n 3, 1) := by decide +kernel
theorem dX9_worked_137 : decode cX9_worked 137 = .ok (.lcmp, 1) := by decide +kernel
theorem dX9_worked_138 : decode cX9_worked 138 = .ok (.ifCond .ge 7, 3) := by decide +kernel
theorem dX9_worked_141 : decode cX9_worked 141 = .ok (.lconst 1, 1) := by decide +kernel
theorem dX9_worked_142 : decode cX9_worked 142 = .ok (.goto 4, 3) := by decide +kernel
theorem dX9_worked_145 : decode cX9_worked 145 = .ok (.lconst 0, 1) := by decide +kernel
theorem dX9_worked_146 : decode cX9_worked 146 = .ok (.lreturn, 1) := by decide +kernel
theorem dX9_worked_147 : decode cX9_worked 147 = .ok (.lload_n 1, 1) := by decide +kernel
theorem dX9_worked_148 : decode cX9_worked 148 = .ok (.lload_n 3, 1) := by decide +kernel
theorem dX9_worked_149 : decode cX9_worked 149 = .ok (.lcmp, 1) := by decide +kernel
theorem dX9_worked_150 : decode cX9_worked 150 = .ok (.ifCond .le 7, 3) := by decide +kernel
theorem dX9_worked_153 : decode cX9_worked 153 = .ok (.lconst 1, 1) := by decide +kernel
theorem dX9_worked_154 : decode cX9_worked 154 = .ok (.goto 4, 3) := by decide +kernel
theorem dX9_worked_157 : decode cX9_worked 157 = .ok (.lconst 0, 1) := by decide +kernel
theorem dX9_worked_158 : decode cX9_worked 158 = .ok (.lreturn, 1) := by decide +kernel
theorem dX9_worked_159 : decode cX9_worked 159 = .ok (.lload_n 1, 1) := by decide +kernel
theorem dX9_worked_160 : decode cX9_worked 160 = .ok (.lload_n 3, 1) := by decide +kernel
theorem dX9_worked_161 : decode cX9_worked 161 = .ok (.lcmp, 1) := by decide +kernel
theorem dX9_worked_162 : decode cX9_worked 162 = .ok (.ifCond .ne 7, 3) := by decide +kernel
theorem dX9_worked_165 : decode cX9_worked 165 = .ok (.lconst 1, 1) := by decide +kernel
theorem dX9_worked_166 : decode cX9_worked 166 = .ok (.goto 4, 3) := by decide +kernel
theorem dX9_worked_169 : decode cX9_worked 169 = .ok (.lconst 0, 1) := by decide +kernel
theorem dX9_worked_170 : decode cX9_worked 170 = .ok (.lreturn, 1) := by decide +kernel
theorem dX9_worked_171 : decode cX9_worked 171 = .ok (.lload_n 1, 1) := by decide +kernel
theorem dX9_worked_172 : decode cX9_worked 172 = .ok (.lload_n 3, 1) := by decide +kernel
theorem dX9_worked_173 : decode cX9_worked 173 = .ok (.lcmp, 1) := by decide +kernel
theorem dX9_worked_174 : decode cX9_worked 174 = .ok (.ifCond .eq 7, 3) := by decide +kernel
theorem dX9_worked_177 : decode cX9_worked 177 = .ok (.lconst 1, 1) := by decide +kernel
theorem dX9_worked_178 : decode cX9_worked 178 = .ok (.goto 4, 3) := by decide +kernel
theorem dX9_worked_181 : decode cX9_worked 181 = .ok (.lconst 0, 1) := by decide +kernel
theorem dX9_worked_182 : decode cX9_worked 182 = .ok (.lreturn, 1) := by decide +kernel
theorem dX9_worked_183 : decode cX9_worked 183 = .ok (.lload_n 1, 1) := by decide +kernel
theorem dX9_worked_184 : decode cX9_worked 184 = .ok (.lload_n 3, 1) := by decide +kernel
theorem dX9_worked_185 : decode cX9_worked 185 = .ok (.lcmp, 1) := by decide +kernel
theorem dX9_worked_186 : decode cX9_worked 186 = .ok (.ifCond .gt 7, 3) := by decide +kernel
theorem dX9_worked_189 : decode cX9_worked 189 = .ok (.lconst 1, 1) := by decide +kernel
theorem dX9_worked_190 : decode cX9_worked 190 = .ok (.goto 4, 3) := by decide +kernel
theorem dX9_worked_193 : decode cX9_worked 193 = .ok (.lconst 0, 1) := by decide +kernel
theorem dX9_worked_194 : decode cX9_worked 194 = .ok (.lreturn, 1) := by decide +kernel
theorem dX9_worked_195 : decode cX9_worked 195 = .ok (.lload_n 1, 1) := by decide +kernel
theorem dX9_worked_196 : decode cX9_worked 196 = .ok (.lload_n 3, 1) := by decide +kernel
theorem dX9_worked_197 : decode cX9_worked 197 = .ok (.lcmp, 1) := by decide +kernel
theorem dX9_worked_198 : decode cX9_worked 198 = .ok (.ifCond .lt 7, 3) := by decide +kernel
theorem dX9_worked_201 : decode cX9_worked 201 = .ok (.lconst 1, 1) := by decide +kernel
theorem dX9_worked_202 : decode cX9_worked 202 = .ok (.goto 4, 3) := by decide +kernel
theorem dX9_worked_205 : decode cX9_worked 205 = .ok (.lconst 0, 1) := by decide +kernel
theorem dX9_worked_206 : decode cX9_worked 206 = .ok (.lreturn, 1) := by decide +kernel
theorem dX9_worked_207 : decode cX9_worked 207 = .ok (.lload_n 1, 1) := by decide +kernel
theorem dX9_worked_208 : decode cX9_worked 208 = .ok (.lload_n 3, 1) := by decide +kernel
theorem dX9_worked_209 : decode cX9_worked 209 = .ok (.lmul, 1) := by decide +kernel
theorem dX9_worked_210 : decode cX9_worked 210 = .ok (.lreturn, 1) := by decide +kernel
theorem dX9_worked_211 : decode cX9_worked 211 = .ok (.lload_n 1, 1) := by decide +kernel
theorem dX9_worked_212 : decode cX9_worked 212 = .ok (.lload_n 3, 1) := by decide +kernel
theorem dX9_worked_213 : decode cX9_worked 213 = .ok (.ladd, 1) := by decide +kernel
theorem dX9_worked_214 : decode cX9_worked 214 = .ok (.lconst 0, 1) := by decide +kernel
theorem dX9_worked_215 : decode cX9_worked 215 = .ok (.lcmp, 1) := by decide +kernel
theorem dX9_worked_216 : decode cX9_worked 216 = .ok (.ifCond .le 7, 3) := by decide +kernel
theorem dX9_worked_219 : decode cX9_worked 219 = .ok (.lconst 1, 1) := by decide +kernel
theorem dX9_worked_220 : decode cX9_worked 220 = .ok (.goto 4, 3) := by decide +kernel
theorem dX9_worked_223 : decode cX9_worked 223 = .ok (.lconst 0, 1) := by decide +kernel
theorem dX9_worked_224 : decode cX9_worked 224 = .ok (.lreturn, 1) := by decide +kernel
theorem dX9_saysOf_0 : decode cX9_saysOf 0 = .ok (.iconst 0, 1) := by decide +kernel
theorem dX9_saysOf_1 : decode cX9_saysOf 1 = .ok (.istore_n 2, 1) := by decide +kernel
theorem dX9_saysOf_2 : decode cX9_saysOf 2 = .ok (.iload_n 1, 1) := by decide +kernel
theorem dX9_saysOf_3 : decode cX9_saysOf 3 = .ok (.istore_n 3, 1) := by decide +kernel
theorem dX9_saysOf_4 : decode cX9_saysOf 4 = .ok (.aload_n 0, 1) := by decide +kernel
theorem dX9_saysOf_5 : decode cX9_saysOf 5 = .ok (.getfield 45, 3) := by decide +kernel
theorem dX9_saysOf_8 : decode cX9_saysOf 8 = .ok (.iload_n 3, 1) := by decide +kernel
theorem dX9_saysOf_9 : decode cX9_saysOf 9 = .ok (.iaload, 1) := by decide +kernel
theorem dX9_saysOf_10 : decode cX9_saysOf 10 = .ok (.sipush 408, 3) := by decide +kernel
theorem dX9_saysOf_13 : decode cX9_saysOf 13 = .ok (.if_icmp .eq 162, 3) := by decide +kernel
theorem dX9_saysOf_16 : decode cX9_saysOf 16 = .ok (.aload_n 0, 1) := by decide +kernel
theorem dX9_saysOf_17 : decode cX9_saysOf 17 = .ok (.getfield 45, 3) := by decide +kernel
theorem dX9_saysOf_20 : decode cX9_saysOf 20 = .ok (.iload_n 3, 1) := by decide +kernel
theorem dX9_saysOf_21 : decode cX9_saysOf 21 = .ok (.iaload, 1) := by decide +kernel
theorem dX9_saysOf_22 : decode cX9_saysOf 22 = .ok (.istore 4, 2) := by decide +kernel
theorem dX9_saysOf_24 : decode cX9_saysOf 24 = .ok (.iload 4, 2) := by decide +kernel
theorem dX9_saysOf_26 : decode cX9_saysOf 26 = .ok (.sipush 400, 3) := by decide +kernel
theorem dX9_saysOf_29 : decode cX9_saysOf 29 = .ok (.if_icmp .eq 11, 3) := by decide +kernel
theorem dX9_saysOf_32 : decode cX9_saysOf 32 = .ok (.iload 4, 2) := by decide +kernel
theorem dX9_saysOf_34 : decode cX9_saysOf 34 = .ok (.sipush 401, 3) := by decide +kernel
theorem dX9_saysOf_37 : decode cX9_saysOf 37 = .ok (.if_icmp .ne 45, 3) := by decide +kernel
theorem dX9_saysOf_40 : decode cX9_saysOf 40 = .ok (.aload_n 0, 1) := by decide +kernel
theorem dX9_saysOf_41 : decode cX9_saysOf 41 = .ok (.getfield 87, 3) := by decide +kernel
theorem dX9_saysOf_44 : decode cX9_saysOf 44 = .ok (.iload_n 2, 1) := by decide +kernel
theorem dX9_saysOf_45 : decode cX9_saysOf 45 = .ok (.iload 4, 2) := by decide +kernel
theorem dX9_saysOf_47 : decode cX9_saysOf 47 = .ok (.sipush 400, 3) := by decide +kernel
theorem dX9_saysOf_50 : decode cX9_saysOf 50 = .ok (.if_icmp .ne 13, 3) := by decide +kernel
theorem dX9_saysOf_53 : decode cX9_saysOf 53 = .ok (.aload_n 0, 1) := by decide +kernel
theorem dX9_saysOf_54 : decode cX9_saysOf 54 = .ok (.getfield 48, 3) := by decide +kernel
theorem dX9_saysOf_57 : decode cX9_saysOf 57 = .ok (.iload_n 3, 1) := by decide +kernel
theorem dX9_saysOf_58 : decode cX9_saysOf 58 = .ok (.iaload, 1) := by decide +kernel
theorem dX9_saysOf_59 : decode cX9_saysOf 59 = .ok (.i2l, 1) := by decide +kernel
theorem dX9_saysOf_60 : decode cX9_saysOf 60 = .ok (.goto 15, 3) := by decide +kernel
theorem dX9_saysOf_63 : decode cX9_saysOf 63 = .ok (.aload_n 0, 1) := by decide +kernel
theorem dX9_saysOf_64 : decode cX9_saysOf 64 = .ok (.getfield 84, 3) := by decide +kernel
theorem dX9_saysOf_67 : decode cX9_saysOf 67 = .ok (.aload_n 0, 1) := by decide +kernel
theorem dX9_saysOf_68 : decode cX9_saysOf 68 = .ok (.getfield 48, 3) := by decide +kernel
theorem dX9_saysOf_71 : decode cX9_saysOf 71 = .ok (.iload_n 3, 1) := by decide +kernel
theorem dX9_saysOf_72 : decode cX9_saysOf 72 = .ok (.iaload, 1) := by decide +kernel
theorem dX9_saysOf_73 : decode cX9_saysOf 73 = .ok (.iaload, 1) := by decide +kernel
theorem dX9_saysOf_74 : decode cX9_saysOf 74 = .ok (.i2l, 1) := by decide +kernel
theorem dX9_saysOf_75 : decode cX9_saysOf 75 = .ok (.lastore, 1) := by decide +kernel
theorem dX9_saysOf_76 : decode cX9_saysOf 76 = .ok (.iinc 2 1, 3) := by decide +kernel
theorem dX9_saysOf_79 : decode cX9_saysOf 79 = .ok (.goto 90, 3) := by decide +kernel
theorem dX9_saysOf_82 : decode cX9_saysOf 82 = .ok (.iload 4, 2) := by decide +kernel
theorem dX9_saysOf_84 : decode cX9_saysOf 84 = .ok (.sipush 402, 3) := by decide +kernel
theorem dX9_saysOf_87 : decode cX9_saysOf 87 = .ok (.if_icmp .ne 23, 3) := by decide +kernel
theorem dX9_saysOf_90 : decode cX9_saysOf 90 = .ok (.aload_n 0, 1) := by decide +kernel
theorem dX9_saysOf_91 : decode cX9_saysOf 91 = .ok (.getfield 87, 3) := by decide +kernel
theorem dX9_saysOf_94 : decode cX9_saysOf 94 = .ok (.iload_n 2, 1) := by decide +kernel
theorem dX9_saysOf_95 : decode cX9_saysOf 95 = .ok (.iconst 1, 1) := by decide +kernel
theorem dX9_saysOf_96 : decode cX9_saysOf 96 = .ok (.isub, 1) := by decide +kernel
theorem dX9_saysOf_97 : decode cX9_saysOf 97 = .ok (.aload_n 0, 1) := by decide +kernel
theorem dX9_saysOf_98 : decode cX9_saysOf 98 = .ok (.getfield 87, 3) := by decide +kernel
theorem dX9_saysOf_101 : decode cX9_saysOf 101 = .ok (.iload_n 2, 1) := by decide +kernel
theorem dX9_saysOf_102 : decode cX9_saysOf 102 = .ok (.iconst 1, 1) := by decide +kernel
theorem dX9_saysOf_103 : decode cX9_saysOf 103 = .ok (.isub, 1) := by decide +kernel
theorem dX9_saysOf_104 : decode cX9_saysOf 104 = .ok (.laload, 1) := by decide +kernel
theorem dX9_saysOf_105 : decode cX9_saysOf 105 = .ok (.lneg, 1) := by decide +kernel
theorem dX9_saysOf_106 : decode cX9_saysOf 106 = .ok (.lastore, 1) := by decide +kernel
theorem dX9_saysOf_107 : decode cX9_saysOf 107 = .ok (.goto 62, 3) := by decide +kernel
theorem dX9_saysOf_110 : decode cX9_saysOf 110 = .ok (.iload 4, 2) := by decide +kernel
theorem dX9_saysOf_112 : decode cX9_saysOf 112 = .ok (.sipush 405, 3) := by decide +kernel
theorem dX9_saysOf_115 : decode cX9_saysOf 115 = .ok (.if_icmp .ne 24, 3) := by decide +kernel
theorem dX9_saysOf_118 : decode cX9_saysOf 118 = .ok (.aload_n 0, 1) := by decide +kernel
theorem dX9_saysOf_119 : decode cX9_saysOf 119 = .ok (.getfield 87, 3) := by decide +kernel
theorem dX9_saysOf_122 : decode cX9_saysOf 122 = .ok (.iload_n 2, 1) := by decide +kernel
theorem dX9_saysOf_123 : decode cX9_saysOf 123 = .ok (.iconst 1, 1) := by decide +kernel
theorem dX9_saysOf_124 : decode cX9_saysOf 124 = .ok (.isub, 1) := by decide +kernel
theorem dX9_saysOf_125 : decode cX9_saysOf 125 = .ok (.lconst 1, 1) := by decide +kernel
theorem dX9_saysOf_126 : decode cX9_saysOf 126 = .ok (.aload_n 0, 1) := by decide +kernel
theorem dX9_saysOf_127 : decode cX9_saysOf 127 = .ok (.getfield 87, 3) := by decide +kernel
theorem dX9_saysOf_130 : decode cX9_saysOf 130 = .ok (.iload_n 2, 1) := by decide +kernel
theorem dX9_saysOf_131 : decode cX9_saysOf 131 = .ok (.iconst 1, 1) := by decide +kernel
theorem dX9_saysOf_132 : decode cX9_saysOf 132 = .ok (.isub, 1) := by decide +kernel
theorem dX9_saysOf_133 : decode cX9_saysOf 133 = .ok (.laload, 1) := by decide +kernel
theorem dX9_saysOf_134 : decode cX9_saysOf 134 = .ok (.lsub, 1) := by decide +kernel
theorem dX9_saysOf_135 : decode cX9_saysOf 135 = .ok (.lastore, 1) := by decide +kernel
theorem dX9_saysOf_136 : decode cX9_saysOf 136 = .ok (.goto 33, 3) := by decide +kernel
theorem dX9_saysOf_139 : decode cX9_saysOf 139 = .ok (.iinc 2 (-1), 3) := by decide +kernel
theorem dX9_saysOf_142 : decode cX9_saysOf 142 = .ok (.aload_n 0, 1) := by decide +kernel
theorem dX9_saysOf_143 : decode cX9_saysOf 143 = .ok (.getfield 87, 3) := by decide +kernel
theorem dX9_saysOf_146 : decode cX9_saysOf 146 = .ok (.iload_n 2, 1) := by decide +kernel
theorem dX9_saysOf_147 : decode cX9_saysOf 147 = .ok (.iconst 1, 1) := by decide +kernel
theorem dX9_saysOf_148 : decode cX9_saysOf 148 = .ok (.isub, 1) := by decide +kernel
theorem dX9_saysOf_149 : decode cX9_saysOf 149 = .ok (.iload 4, 2) := by decide +kernel
theorem dX9_saysOf_151 : decode cX9_saysOf 151 = .ok (.aload_n 0, 1) := by decide +kernel
theorem dX9_saysOf_152 : decode cX9_saysOf 152 = .ok (.getfield 87, 3) := by decide +kernel
theorem dX9_saysOf_155 : decode cX9_saysOf 155 = .ok (.iload_n 2, 1) := by decide +kernel
theorem dX9_saysOf_156 : decode cX9_saysOf 156 = .ok (.iconst 1, 1) := by decide +kernel
theorem dX9_saysOf_157 : decode cX9_saysOf 157 = .ok (.isub, 1) := by decide +kernel
theorem dX9_saysOf_158 : decode cX9_saysOf 158 = .ok (.laload, 1) := by decide +kernel
theorem dX9_saysOf_159 : decode cX9_saysOf 159 = .ok (.aload_n 0, 1) := by decide +kernel
theorem dX9_saysOf_160 : decode cX9_saysOf 160 = .ok (.getfield 87, 3) := by decide +kernel
theorem dX9_saysOf_163 : decode cX9_saysOf 163 = .ok (.iload_n 2, 1) := by decide +kernel
theorem dX9_saysOf_164 : decode cX9_saysOf 164 = .ok (.laload, 1) := by decide +kernel
theorem dX9_saysOf_165 : decode cX9_saysOf 165 = .ok (.invokestatic 346, 3) := by decide +kernel
theorem dX9_saysOf_168 : decode cX9_saysOf 168 = .ok (.lastore, 1) := by decide +kernel
theorem dX9_saysOf_169 : decode cX9_saysOf 169 = .ok (.iinc 3 1, 3) := by decide +kernel
theorem dX9_saysOf_172 : decode cX9_saysOf 172 = .ok (.goto (-168), 3) := by decide +kernel
theorem dX9_saysOf_175 : decode cX9_saysOf 175 = .ok (.aload_n 0, 1) := by decide +kernel
theorem dX9_saysOf_176 : decode cX9_saysOf 176 = .ok (.getfield 87, 3) := by decide +kernel
theorem dX9_saysOf_179 : decode cX9_saysOf 179 = .ok (.iconst 0, 1) := by decide +kernel
theorem dX9_saysOf_180 : decode cX9_saysOf 180 = .ok (.laload, 1) := by decide +kernel
theorem dX9_saysOf_181 : decode cX9_saysOf 181 = .ok (.lreturn, 1) := by decide +kernel
theorem dX9_by_0 : decode cX9_by 0 = .ok (.iload_n 1, 1) := by decide +kernel
theorem dX9_by_1 : decode cX9_by 1 = .ok (.iconst (-1), 1) := by decide +kernel
theorem dX9_by_2 : decode cX9_by 2 = .ok (.if_icmp .eq 21, 3) := by decide +kernel
theorem dX9_by_5 : decode cX9_by 5 = .ok (.iload_n 1, 1) := by decide +kernel
theorem dX9_by_6 : decode cX9_by 6 = .ok (.iconst 0, 1) := by decide +kernel
theorem dX9_by_7 : decode cX9_by 7 = .ok (.aload_n 0, 1) := by decide +kernel
theorem dX9_by_8 : decode cX9_by 8 = .ok (.getfield 7, 3) := by decide +kernel
theorem dX9_by_11 : decode cX9_by 11 = .ok (.iconst 3, 1) := by decide +kernel
theorem dX9_by_12 : decode cX9_by 12 = .ok (.iaload, 1) := by decide +kernel
theorem dX9_by_13 : decode cX9_by 13 = .ok (.iconst 1, 1) := by decide +kernel
theorem dX9_by_14 : decode cX9_by 14 = .ok (.isub, 1) := by decide +kernel
theorem dX9_by_15 : decode cX9_by 15 = .ok (.invokestatic 126, 3) := by decide +kernel
theorem dX9_by_18 : decode cX9_by 18 = .ok (.ifCond .ne 5, 3) := by decide +kernel
theorem dX9_by_21 : decode cX9_by 21 = .ok (.iconst 0, 1) := by decide +kernel
theorem dX9_by_22 : decode cX9_by 22 = .ok (.ireturn, 1) := by decide +kernel
theorem dX9_by_23 : decode cX9_by 23 = .ok (.aload_n 0, 1) := by decide +kernel
theorem dX9_by_24 : decode cX9_by 24 = .ok (.getfield 7, 3) := by decide +kernel
theorem dX9_by_27 : decode cX9_by 27 = .ok (.iconst 4, 1) := by decide +kernel
theorem dX9_by_28 : decode cX9_by 28 = .ok (.iload_n 1, 1) := by decide +kernel
theorem dX9_by_29 : decode cX9_by 29 = .ok (.iastore, 1) := by decide +kernel
theorem dX9_by_30 : decode cX9_by 30 = .ok (.iconst 1, 1) := by decide +kernel
theorem dX9_by_31 : decode cX9_by 31 = .ok (.ireturn, 1) := by decide +kernel
theorem dX9_ordersOf_0 : decode cX9_ordersOf 0 = .ok (.iconst (-1), 1) := by decide +kernel
theorem dX9_ordersOf_1 : decode cX9_ordersOf 1 = .ok (.istore_n 2, 1) := by decide +kernel
theorem dX9_ordersOf_2 : decode cX9_ordersOf 2 = .ok (.iconst 0, 1) := by decide +kernel
theorem dX9_ordersOf_3 : decode cX9_ordersOf 3 = .ok (.istore_n 3, 1) := by decide +kernel
theorem dX9_ordersOf_4 : decode cX9_ordersOf 4 = .ok (.aload_n 0, 1) := by decide +kernel
theorem dX9_ordersOf_5 : decode cX9_ordersOf 5 = .ok (.getfield 7, 3) := by decide +kernel
theorem dX9_ordersOf_8 : decode cX9_ordersOf 8 = .ok (.iconst 4, 1) := by decide +kernel
theorem dX9_ordersOf_9 : decode cX9_ordersOf 9 = .ok (.iaload, 1) := by decide +kernel
theorem dX9_ordersOf_10 : decode cX9_ordersOf 10 = .ok (.iconst (-1), 1) := by decide +kernel
theorem dX9_ordersOf_11 : decode cX9_ordersOf 11 = .ok (.if_icmp .eq 60, 3) := by decide +kernel
theorem dX9_ordersOf_14 : decode cX9_ordersOf 14 = .ok (.iload_n 3, 1) := by decide +kernel
theorem dX9_ordersOf_15 : decode cX9_ordersOf 15 = .ok (.aload_n 0, 1) := by decide +kernel
theorem dX9_ordersOf_16 : decode cX9_ordersOf 16 = .ok (.getfield 27, 3) := by decide +kernel
theorem dX9_ordersOf_19 : decode cX9_ordersOf 19 = .ok (.aload_n 0, 1) := by decide +kernel
theorem dX9_ordersOf_20 : decode cX9_ordersOf 20 = .ok (.getfield 7, 3) := by decide +kernel
theorem dX9_ordersOf_23 : decode cX9_ordersOf 23 = .ok (.iconst 4, 1) := by decide +kernel
theorem dX9_ordersOf_24 : decode cX9_ordersOf 24 = .ok (.iaload, 1) := by decide +kernel
theorem dX9_ordersOf_25 : decode cX9_ordersOf 25 = .ok (.iaload, 1) := by decide +kernel
theorem dX9_ordersOf_26 : decode cX9_ordersOf 26 = .ok (.if_icmp .ge 45, 3) := by decide +kernel
theorem dX9_ordersOf_29 : decode cX9_ordersOf 29 = .ok (.bipush 24, 2) := by decide +kernel
theorem dX9_ordersOf_31 : decode cX9_ordersOf 31 = .ok (.aload_n 0, 1) := by decide +kernel
theorem dX9_ordersOf_32 : decode cX9_ordersOf 32 = .ok (.getfield 7, 3) := by decide +kernel
theorem dX9_ordersOf_35 : decode cX9_ordersOf 35 = .ok (.iconst 4, 1) := by decide +kernel
theorem dX9_ordersOf_36 : decode cX9_ordersOf 36 = .ok (.iaload, 1) := by decide +kernel
theorem dX9_ordersOf_37 : decode cX9_ordersOf 37 = .ok (.imul, 1) := by decide +kernel
theorem dX9_ordersOf_38 : decode cX9_ordersOf 38 = .ok (.iload_n 3, 1) := by decide +kernel
theorem dX9_ordersOf_39 : decode cX9_ordersOf 39 = .ok (.iadd, 1) := by decide +kernel
theorem dX9_ordersOf_40 : decode cX9_ordersOf 40 = .ok (.istore 4, 2) := by decide +kernel
theorem dX9_ordersOf_42 : decode cX9_ordersOf 42 = .ok (.aload_n 0, 1) := by decide +kernel
theorem dX9_ordersOf_43 : decode cX9_ordersOf 43 = .ok (.getfield 30, 3) := by decide +kernel
theorem dX9_ordersOf_46 : decode cX9_ordersOf 46 = .ok (.iload 4, 2) := by decide +kernel
theorem dX9_ordersOf_48 : decode cX9_ordersOf 48 = .ok (.iaload, 1) := by decide +kernel
theorem dX9_ordersOf_49 : decode cX9_ordersOf 49 = .ok (.iload_n 1, 1) := by decide +kernel
theorem dX9_ordersOf_50 : decode cX9_ordersOf 50 = .ok (.if_icmp .ne 13, 3) := by decide +kernel
theorem dX9_ordersOf_53 : decode cX9_ordersOf 53 = .ok (.aload_n 0, 1) := by decide +kernel
theorem dX9_ordersOf_54 : decode cX9_ordersOf 54 = .ok (.getfield 33, 3) := by decide +kernel
theorem dX9_ordersOf_57 : decode cX9_ordersOf 57 = .ok (.iload 4, 2) := by decide +kernel
theorem dX9_ordersOf_59 : decode cX9_ordersOf 59 = .ok (.iaload, 1) := by decide +kernel
theorem dX9_ordersOf_60 : decode cX9_ordersOf 60 = .ok (.goto 4, 3) := by decide +kernel
theorem dX9_ordersOf_63 : decode cX9_ordersOf 63 = .ok (.iload_n 2, 1) := by decide +kernel
theorem dX9_ordersOf_64 : decode cX9_ordersOf 64 = .ok (.istore_n 2, 1) := by decide +kernel
theorem dX9_ordersOf_65 : decode cX9_ordersOf 65 = .ok (.iinc 3 1, 3) := by decide +kernel
theorem dX9_ordersOf_68 : decode cX9_ordersOf 68 = .ok (.goto (-64), 3) := by decide +kernel
theorem dX9_ordersOf_71 : decode cX9_ordersOf 71 = .ok (.iload_n 2, 1) := by decide +kernel
theorem dX9_ordersOf_72 : decode cX9_ordersOf 72 = .ok (.ireturn, 1) := by decide +kernel
theorem dX9_names_0 : decode cX9_names 0 = .ok (.aload_n 0, 1) := by decide +kernel
theorem dX9_names_1 : decode cX9_names 1 = .ok (.getfield 84, 3) := by decide +kernel
theorem dX9_names_4 : decode cX9_names 4 = .ok (.iconst 0, 1) := by decide +kernel
theorem dX9_names_5 : decode cX9_names 5 = .ok (.iload_n 1, 1) := by decide +kernel
theorem dX9_names_6 : decode cX9_names 6 = .ok (.iastore, 1) := by decide +kernel
theorem dX9_names_7 : decode cX9_names 7 = .ok (.aload_n 0, 1) := by decide +kernel
theorem dX9_names_8 : decode cX9_names 8 = .ok (.getfield 84, 3) := by decide +kernel
theorem dX9_names_11 : decode cX9_names 11 = .ok (.iconst 1, 1) := by decide +kernel
theorem dX9_names_12 : decode cX9_names 12 = .ok (.aload_n 0, 1) := by decide +kernel
theorem dX9_names_13 : decode cX9_names 13 = .ok (.iload_n 1, 1) := by decide +kernel
theorem dX9_names_14 : decode cX9_names 14 = .ok (.iconst 0, 1) := by decide +kernel
theorem dX9_names_15 : decode cX9_names 15 = .ok (.invokevirtual 138, 3) := by decide +kernel
theorem dX9_names_18 : decode cX9_names 18 = .ok (.iastore, 1) := by decide +kernel
theorem dX9_names_19 : decode cX9_names 19 = .ok (.aload_n 0, 1) := by decide +kernel
theorem dX9_names_20 : decode cX9_names 20 = .ok (.getfield 84, 3) := by decide +kernel
theorem dX9_names_23 : decode cX9_names 23 = .ok (.iconst 2, 1) := by decide +kernel
theorem dX9_names_24 : decode cX9_names 24 = .ok (.aload_n 0, 1) := by decide +kernel
theorem dX9_names_25 : decode cX9_names 25 = .ok (.iload_n 1, 1) := by decide +kernel
theorem dX9_names_26 : decode cX9_names 26 = .ok (.iconst 1, 1) := by decide +kernel
theorem dX9_names_27 : decode cX9_names 27 = .ok (.invokevirtual 138, 3) := by decide +kernel
theorem dX9_names_30 : decode cX9_names 30 = .ok (.iastore, 1) := by decide +kernel
theorem dX9_names_31 : decode cX9_names 31 = .ok (.aload_n 0, 1) := by decide +kernel
theorem dX9_names_32 : decode cX9_names 32 = .ok (.getfield 84, 3) := by decide +kernel
theorem dX9_names_35 : decode cX9_names 35 = .ok (.iconst 3, 1) := by decide +kernel
theorem dX9_names_36 : decode cX9_names 36 = .ok (.iload_n 2, 1) := by decide +kernel
theorem dX9_names_37 : decode cX9_names 37 = .ok (.iastore, 1) := by decide +kernel
theorem dX9_names_38 : decode cX9_names 38 = .ok (.aload_n 0, 1) := by decide +kernel
theorem dX9_names_39 : decode cX9_names 39 = .ok (.getfield 84, 3) := by decide +kernel
theorem dX9_names_42 : decode cX9_names 42 = .ok (.iconst 4, 1) := by decide +kernel
theorem dX9_names_43 : decode cX9_names 43 = .ok (.iload_n 3, 1) := by decide +kernel
theorem dX9_names_44 : decode cX9_names 44 = .ok (.iastore, 1) := by decide +kernel
theorem dX9_names_45 : decode cX9_names 45 = .ok (.aload_n 0, 1) := by decide +kernel
theorem dX9_names_46 : decode cX9_names 46 = .ok (.getfield 84, 3) := by decide +kernel
theorem dX9_names_49 : decode cX9_names 49 = .ok (.iconst 5, 1) := by decide +kernel
theorem dX9_names_50 : decode cX9_names 50 = .ok (.iload 4, 2) := by decide +kernel
theorem dX9_names_52 : decode cX9_names 52 = .ok (.iastore, 1) := by decide +kernel
theorem dX9_names_53 : decode cX9_names 53 = .ok (.return_, 1) := by decide +kernel
theorem dX9_held_0 : decode cX9_held 0 = .ok (.lload_n 0, 1) := by decide +kernel
theorem dX9_held_1 : decode cX9_held 1 = .ok (.iload_n 2, 1) := by decide +kernel
theorem dX9_held_2 : decode cX9_held 2 = .ok (.i2l, 1) := by decide +kernel
theorem dX9_held_3 : decode cX9_held 3 = .ok (.lcmp, 1) := by decide +kernel
theorem dX9_held_4 : decode cX9_held 4 = .ok (.ifCond .ge 7, 3) := by decide +kernel
theorem dX9_held_7 : decode cX9_held 7 = .ok (.iload_n 2, 1) := by decide +kernel
theorem dX9_held_8 : decode cX9_held 8 = .ok (.goto 16, 3) := by decide +kernel
theorem dX9_held_11 : decode cX9_held 11 = .ok (.lload_n 0, 1) := by decide +kernel
theorem dX9_held_12 : decode cX9_held 12 = .ok (.iload_n 3, 1) := by decide +kernel
theorem dX9_held_13 : decode cX9_held 13 = .ok (.i2l, 1) := by decide +kernel
theorem dX9_held_14 : decode cX9_held 14 = .ok (.lcmp, 1) := by decide +kernel
theorem dX9_held_15 : decode cX9_held 15 = .ok (.ifCond .le 7, 3) := by decide +kernel
theorem dX9_held_18 : decode cX9_held 18 = .ok (.iload_n 3, 1) := by decide +kernel
theorem dX9_held_19 : decode cX9_held 19 = .ok (.goto 5, 3) := by decide +kernel
theorem dX9_held_22 : decode cX9_held 22 = .ok (.lload_n 0, 1) := by decide +kernel
theorem dX9_held_23 : decode cX9_held 23 = .ok (.l2i, 1) := by decide +kernel
theorem dX9_held_24 : decode cX9_held 24 = .ok (.ireturn, 1) := by decide +kernel
theorem dX9_inkOf_0 : decode cX9_inkOf 0 = .ok (.aload_n 0, 1) := by decide +kernel
theorem dX9_inkOf_1 : decode cX9_inkOf 1 = .ok (.iconst 2, 1) := by decide +kernel
theorem dX9_inkOf_2 : decode cX9_inkOf 2 = .ok (.invokevirtual 350, 3) := by decide +kernel
theorem dX9_inkOf_5 : decode cX9_inkOf 5 = .ok (.istore 4, 2) := by decide +kernel
theorem dX9_inkOf_7 : decode cX9_inkOf 7 = .ok (.iload 4, 2) := by decide +kernel
theorem dX9_inkOf_9 : decode cX9_inkOf 9 = .ok (.iconst (-1), 1) := by decide +kernel
theorem dX9_inkOf_10 : decode cX9_inkOf 10 = .ok (.if_icmp .ne 5, 3) := by decide +kernel
theorem dX9_inkOf_13 : decode cX9_inkOf 13 = .ok (.iconst 1, 1) := by decide +kernel
theorem dX9_inkOf_14 : decode cX9_inkOf 14 = .ok (.ireturn, 1) := by decide +kernel
theorem dX9_inkOf_15 : decode cX9_inkOf 15 = .ok (.aload_n 0, 1) := by decide +kernel
theorem dX9_inkOf_16 : decode cX9_inkOf 16 = .ok (.iload_n 1, 1) := by decide +kernel
theorem dX9_inkOf_17 : decode cX9_inkOf 17 = .ok (.iload_n 2, 1) := by decide +kernel
theorem dX9_inkOf_18 : decode cX9_inkOf 18 = .ok (.iload_n 3, 1) := by decide +kernel
theorem dX9_inkOf_19 : decode cX9_inkOf 19 = .ok (.aload_n 0, 1) := by decide +kernel
theorem dX9_inkOf_20 : decode cX9_inkOf 20 = .ok (.getfield 7, 3) := by decide +kernel
theorem dX9_inkOf_23 : decode cX9_inkOf 23 = .ok (.bipush 121, 2) := by decide +kernel
theorem dX9_inkOf_25 : decode cX9_inkOf 25 = .ok (.iaload, 1) := by decide +kernel
theorem dX9_inkOf_26 : decode cX9_inkOf 26 = .ok (.invokevirtual 353, 3) := by decide +kernel
theorem dX9_inkOf_29 : decode cX9_inkOf 29 = .ok (.aload_n 0, 1) := by decide +kernel
theorem dX9_inkOf_30 : decode cX9_inkOf 30 = .ok (.iload 4, 2) := by decide +kernel
theorem dX9_inkOf_32 : decode cX9_inkOf 32 = .ok (.invokevirtual 356, 3) := by decide +kernel
theorem dX9_inkOf_35 : decode cX9_inkOf 35 = .ok (.iconst 0, 1) := by decide +kernel
theorem dX9_inkOf_36 : decode cX9_inkOf 36 = .ok (.bipush 99, 2) := by decide +kernel
theorem dX9_inkOf_38 : decode cX9_inkOf 38 = .ok (.invokestatic 360, 3) := by decide +kernel
theorem dX9_inkOf_41 : decode cX9_inkOf 41 = .ok (.ireturn, 1) := by decide +kernel
theorem dX9_ink_0 : decode cX9_ink 0 = .ok (.aload_n 0, 1) := by decide +kernel
theorem dX9_ink_1 : decode cX9_ink 1 = .ok (.iload_n 1, 1) := by decide +kernel
theorem dX9_ink_2 : decode cX9_ink 2 = .ok (.invokevirtual 134, 3) := by decide +kernel
theorem dX9_ink_5 : decode cX9_ink 5 = .ok (.ifCond .eq 21, 3) := by decide +kernel
theorem dX9_ink_8 : decode cX9_ink 8 = .ok (.iload_n 2, 1) := by decide +kernel
theorem dX9_ink_9 : decode cX9_ink 9 = .ok (.iload_n 3, 1) := by decide +kernel
theorem dX9_ink_10 : decode cX9_ink 10 = .ok (.invokestatic 145, 3) := by decide +kernel
theorem dX9_ink_13 : decode cX9_ink 13 = .ok (.ifCond .eq 13, 3) := by decide +kernel
theorem dX9_ink_16 : decode cX9_ink 16 = .ok (.aload_n 0, 1) := by decide +kernel
theorem dX9_ink_17 : decode cX9_ink 17 = .ok (.iload_n 1, 1) := by decide +kernel
theorem dX9_ink_18 : decode cX9_ink 18 = .ok (.iload_n 2, 1) := by decide +kernel
theorem dX9_ink_19 : decode cX9_ink 19 = .ok (.iload_n 3, 1) := by decide +kernel
theorem dX9_ink_20 : decode cX9_ink 20 = .ok (.invokevirtual 149, 3) := by decide +kernel
theorem dX9_ink_23 : decode cX9_ink 23 = .ok (.goto 4, 3) := by decide +kernel
theorem dX9_ink_26 : decode cX9_ink 26 = .ok (.iconst (-1), 1) := by decide +kernel
theorem dX9_ink_27 : decode cX9_ink 27 = .ok (.ireturn, 1) := by decide +kernel
theorem dX9_marketTells_0 : decode cX9_marketTells 0 = .ok (.aload_n 0, 1) := by decide +kernel
theorem dX9_marketTells_1 : decode cX9_marketTells 1 = .ok (.getfield 7, 3) := by decide +kernel
theorem dX9_marketTells_4 : decode cX9_marketTells 4 = .ok (.bipush 10, 2) := by decide +kernel
theorem dX9_marketTells_6 : decode cX9_marketTells 6 = .ok (.iconst 3, 1) := by decide +kernel
theorem dX9_marketTells_7 : decode cX9_marketTells 7 = .ok (.iload 5, 2) := by decide +kernel
theorem dX9_marketTells_9 : decode cX9_marketTells 9 = .ok (.imul, 1) := by decide +kernel
theorem dX9_marketTells_10 : decode cX9_marketTells 10 = .ok (.iadd, 1) := by decide +kernel
theorem dX9_marketTells_11 : decode cX9_marketTells 11 = .ok (.iconst 1, 1) := by decide +kernel
theorem dX9_marketTells_12 : decode cX9_marketTells 12 = .ok (.iadd, 1) := by decide +kernel
theorem dX9_marketTells_13 : decode cX9_marketTells 13 = .ok (.iaload, 1) := by decide +kernel
theorem dX9_marketTells_14 : decode cX9_marketTells 14 = .ok (.istore 7, 2) := by decide +kernel
theorem dX9_marketTells_16 : decode cX9_marketTells 16 = .ok (.aload_n 0, 1) := by decide +kernel
theorem dX9_marketTells_17 : decode cX9_marketTells 17 = .ok (.getfield 7, 3) := by decide +kernel
theorem dX9_marketTells_20 : decode cX9_marketTells 20 = .ok (.bipush 10, 2) := by decide +kernel
theorem dX9_marketTells_22 : decode cX9_marketTells 22 = .ok (.iconst 3, 1) := by decide +kernel
theorem dX9_marketTells_23 : decode cX9_marketTells 23 = .ok (.iload 5, 2) := by decide +kernel
theorem dX9_marketTells_25 : decode cX9_marketTells 25 = .ok (.imul, 1) := by decide +kernel
theorem dX9_marketTells_26 : decode cX9_marketTells 26 = .ok (.iadd, 1) := by decide +kernel
theorem dX9_marketTells_27 : decode cX9_marketTells 27 = .ok (.iconst 2, 1) := by decide +kernel
theorem dX9_marketTells_28 : decode cX9_marketTells 28 = .ok (.iadd, 1) := by decide +kernel
theorem dX9_marketTells_29 : decode cX9_marketTells 29 = .ok (.iaload, 1) := by decide +kernel
theorem dX9_marketTells_30 : decode cX9_marketTells 30 = .ok (.istore 8, 2) := by decide +kernel
theorem dX9_marketTells_32 : decode cX9_marketTells 32 = .ok (.aload_n 0, 1) := by decide +kernel
theorem dX9_marketTells_33 : decode cX9_marketTells 33 = .ok (.iload_n 1, 1) := by decide +kernel
theorem dX9_marketTells_34 : decode cX9_marketTells 34 = .ok (.invokevirtual 350, 3) := by decide +kernel
theorem dX9_marketTells_37 : decode cX9_marketTells 37 = .ok (.istore 9, 2) := by decide +kernel
theorem dX9_marketTells_39 : decode cX9_marketTells 39 = .ok (.iload 9, 2) := by decide +kernel
theorem dX9_marketTells_41 : decode cX9_marketTells 41 = .ok (.iconst (-1), 1) := by decide +kernel
theorem dX9_marketTells_42 : decode cX9_marketTells 42 = .ok (.if_icmp .ne 15, 3) := by decide +kernel
theorem dX9_marketTells_45 : decode cX9_marketTells 45 = .ok (.iload_n 1, 1) := by decide +kernel
theorem dX9_marketTells_46 : decode cX9_marketTells 46 = .ok (.ifCond .ne 8, 3) := by decide +kernel
theorem dX9_marketTells_49 : decode cX9_marketTells 49 = .ok (.iload 7, 2) := by decide +kernel
theorem dX9_marketTells_51 : decode cX9_marketTells 51 = .ok (.goto 5, 3) := by decide +kernel
theorem dX9_marketTells_54 : decode cX9_marketTells 54 = .ok (.iload 8, 2) := by decide +kernel
theorem dX9_marketTells_56 : decode cX9_marketTells 56 = .ok (.ireturn, 1) := by decide +kernel
theorem dX9_marketTells_57 : decode cX9_marketTells 57 = .ok (.aload_n 0, 1) := by decide +kernel
theorem dX9_marketTells_58 : decode cX9_marketTells 58 = .ok (.iload_n 2, 1) := by decide +kernel
theorem dX9_marketTells_59 : decode cX9_marketTells 59 = .ok (.iload_n 3, 1) := by decide +kernel
theorem dX9_marketTells_60 : decode cX9_marketTells 60 = .ok (.iload 4, 2) := by decide +kernel
theorem dX9_marketTells_62 : decode cX9_marketTells 62 = .ok (.iload 6, 2) := by decide +kernel
theorem dX9_marketTells_64 : decode cX9_marketTells 64 = .ok (.invokevirtual 353, 3) := by decide +kernel
theorem dX9_marketTells_67 : decode cX9_marketTells 67 = .ok (.aload_n 0, 1) := by decide +kernel
theorem dX9_marketTells_68 : decode cX9_marketTells 68 = .ok (.getfield 84, 3) := by decide +kernel
theorem dX9_marketTells_71 : decode cX9_marketTells 71 = .ok (.bipush 6, 2) := by decide +kernel
theorem dX9_marketTells_73 : decode cX9_marketTells 73 = .ok (.iload 5, 2) := by decide +kernel
theorem dX9_marketTells_75 : decode cX9_marketTells 75 = .ok (.iastore, 1) := by decide +kernel
theorem dX9_marketTells_76 : decode cX9_marketTells 76 = .ok (.aload_n 0, 1) := by decide +kernel
theorem dX9_marketTells_77 : decode cX9_marketTells 77 = .ok (.getfield 84, 3) := by decide +kernel
theorem dX9_marketTells_80 : decode cX9_marketTells 80 = .ok (.bipush 7, 2) := by decide +kernel
theorem dX9_marketTells_82 : decode cX9_marketTells 82 = .ok (.iload 7, 2) := by decide +kernel
theorem dX9_marketTells_84 : decode cX9_marketTells 84 = .ok (.iastore, 1) := by decide +kernel
theorem dX9_marketTells_85 : decode cX9_marketTells 85 = .ok (.aload_n 0, 1) := by decide +kernel
theorem dX9_marketTells_86 : decode cX9_marketTells 86 = .ok (.getfield 84, 3) := by decide +kernel
theorem dX9_marketTells_89 : decode cX9_marketTells 89 = .ok (.bipush 8, 2) := by decide +kernel
theorem dX9_marketTells_91 : decode cX9_marketTells 91 = .ok (.iload 8, 2) := by decide +kernel
theorem dX9_marketTells_93 : decode cX9_marketTells 93 = .ok (.iastore, 1) := by decide +kernel
theorem dX9_marketTells_94 : decode cX9_marketTells 94 = .ok (.aload_n 0, 1) := by decide +kernel
theorem dX9_marketTells_95 : decode cX9_marketTells 95 = .ok (.iload 9, 2) := by decide +kernel
theorem dX9_marketTells_97 : decode cX9_marketTells 97 = .ok (.invokevirtual 356, 3) := by decide +kernel
theorem dX9_marketTells_100 : decode cX9_marketTells 100 = .ok (.iconst 0, 1) := by decide +kernel
theorem dX9_marketTells_101 : decode cX9_marketTells 101 = .ok (.bipush 10, 2) := by decide +kernel
theorem dX9_marketTells_103 : decode cX9_marketTells 103 = .ok (.invokestatic 360, 3) := by decide +kernel
theorem dX9_marketTells_106 : decode cX9_marketTells 106 = .ok (.ireturn, 1) := by decide +kernel
theorem dX9_marketOf_0 : decode cX9_marketOf 0 = .ok (.aload_n 0, 1) := by decide +kernel
theorem dX9_marketOf_1 : decode cX9_marketOf 1 = .ok (.iload_n 1, 1) := by decide +kernel
theorem dX9_marketOf_2 : decode cX9_marketOf 2 = .ok (.iload_n 2, 1) := by decide +kernel
theorem dX9_marketOf_3 : decode cX9_marketOf 3 = .ok (.aload_n 0, 1) := by decide +kernel
theorem dX9_marketOf_4 : decode cX9_marketOf 4 = .ok (.iload_n 2, 1) := by decide +kernel
theorem dX9_marketOf_5 : decode cX9_marketOf 5 = .ok (.iconst 2, 1) := by decide +kernel
theorem dX9_marketOf_6 : decode cX9_marketOf 6 = .ok (.invokevirtual 138, 3) := by decide +kernel
theorem dX9_marketOf_9 : decode cX9_marketOf 9 = .ok (.aload_n 0, 1) := by decide +kernel
theorem dX9_marketOf_10 : decode cX9_marketOf 10 = .ok (.iload_n 2, 1) := by decide +kernel
theorem dX9_marketOf_11 : decode cX9_marketOf 11 = .ok (.iconst 3, 1) := by decide +kernel
theorem dX9_marketOf_12 : decode cX9_marketOf 12 = .ok (.invokevirtual 138, 3) := by decide +kernel
theorem dX9_marketOf_15 : decode cX9_marketOf 15 = .ok (.aload_n 0, 1) := by decide +kernel
theorem dX9_marketOf_16 : decode cX9_marketOf 16 = .ok (.iload_n 2, 1) := by decide +kernel
theorem dX9_marketOf_17 : decode cX9_marketOf 17 = .ok (.iconst 5, 1) := by decide +kernel
theorem dX9_marketOf_18 : decode cX9_marketOf 18 = .ok (.invokevirtual 138, 3) := by decide +kernel
theorem dX9_marketOf_21 : decode cX9_marketOf 21 = .ok (.aload_n 0, 1) := by decide +kernel
theorem dX9_marketOf_22 : decode cX9_marketOf 22 = .ok (.iload_n 2, 1) := by decide +kernel
theorem dX9_marketOf_23 : decode cX9_marketOf 23 = .ok (.bipush 6, 2) := by decide +kernel
theorem dX9_marketOf_25 : decode cX9_marketOf 25 = .ok (.invokevirtual 138, 3) := by decide +kernel
theorem dX9_marketOf_28 : decode cX9_marketOf 28 = .ok (.invokevirtual 364, 3) := by decide +kernel
theorem dX9_marketOf_31 : decode cX9_marketOf 31 = .ok (.ireturn, 1) := by decide +kernel
theorem dX9_isTrueBy_0 : decode cX9_isTrueBy 0 = .ok (.aload_n 0, 1) := by decide +kernel
theorem dX9_isTrueBy_1 : decode cX9_isTrueBy 1 = .ok (.iconst 3, 1) := by decide +kernel
theorem dX9_isTrueBy_2 : decode cX9_isTrueBy 2 = .ok (.invokevirtual 350, 3) := by decide +kernel
theorem dX9_isTrueBy_5 : decode cX9_isTrueBy 5 = .ok (.istore 5, 2) := by decide +kernel
theorem dX9_isTrueBy_7 : decode cX9_isTrueBy 7 = .ok (.iload 5, 2) := by decide +kernel
theorem dX9_isTrueBy_9 : decode cX9_isTrueBy 9 = .ok (.iconst (-1), 1) := by decide +kernel
theorem dX9_isTrueBy_10 : decode cX9_isTrueBy 10 = .ok (.if_icmp .ne 5, 3) := by decide +kernel
theorem dX9_isTrueBy_13 : decode cX9_isTrueBy 13 = .ok (.iconst 1, 1) := by decide +kernel
theorem dX9_isTrueBy_14 : decode cX9_isTrueBy 14 = .ok (.ireturn, 1) := by decide +kernel
theorem dX9_isTrueBy_15 : decode cX9_isTrueBy 15 = .ok (.aload_n 0, 1) := by decide +kernel
theorem dX9_isTrueBy_16 : decode cX9_isTrueBy 16 = .ok (.iload_n 1, 1) := by decide +kernel
theorem dX9_isTrueBy_17 : decode cX9_isTrueBy 17 = .ok (.iload_n 2, 1) := by decide +kernel
theorem dX9_isTrueBy_18 : decode cX9_isTrueBy 18 = .ok (.iload_n 3, 1) := by decide +kernel
theorem dX9_isTrueBy_19 : decode cX9_isTrueBy 19 = .ok (.aload_n 0, 1) := by decide +kernel
theorem dX9_isTrueBy_20 : decode cX9_isTrueBy 20 = .ok (.getfield 7, 3) := by decide +kernel
theorem dX9_isTrueBy_23 : decode cX9_isTrueBy 23 = .ok (.bipush 121, 2) := by decide +kernel
theorem dX9_isTrueBy_25 : decode cX9_isTrueBy 25 = .ok (.iaload, 1) := by decide +kernel
theorem dX9_isTrueBy_26 : decode cX9_isTrueBy 26 = .ok (.invokevirtual 353, 3) := by decide +kernel
theorem dX9_isTrueBy_29 : decode cX9_isTrueBy 29 = .ok (.aload_n 0, 1) := by decide +kernel
theorem dX9_isTrueBy_30 : decode cX9_isTrueBy 30 = .ok (.getfield 84, 3) := by decide +kernel
theorem dX9_isTrueBy_33 : decode cX9_isTrueBy 33 = .ok (.iconst 2, 1) := by decide +kernel
theorem dX9_isTrueBy_34 : decode cX9_isTrueBy 34 = .ok (.iload 4, 2) := by decide +kernel
theorem dX9_isTrueBy_36 : decode cX9_isTrueBy 36 = .ok (.iastore, 1) := by decide +kernel
theorem dX9_isTrueBy_37 : decode cX9_isTrueBy 37 = .ok (.aload_n 0, 1) := by decide +kernel
theorem dX9_isTrueBy_38 : decode cX9_isTrueBy 38 = .ok (.iload 5, 2) := by decide +kernel
theorem dX9_isTrueBy_40 : decode cX9_isTrueBy 40 = .ok (.invokevirtual 356, 3) := by decide +kernel
theorem dX9_isTrueBy_43 : decode cX9_isTrueBy 43 = .ok (.lconst 0, 1) := by decide +kernel
theorem dX9_isTrueBy_44 : decode cX9_isTrueBy 44 = .ok (.lcmp, 1) := by decide +kernel
theorem dX9_isTrueBy_45 : decode cX9_isTrueBy 45 = .ok (.ifCond .le 7, 3) := by decide +kernel
theorem dX9_isTrueBy_48 : decode cX9_isTrueBy 48 = .ok (.iconst 1, 1) := by decide +kernel
theorem dX9_isTrueBy_49 : decode cX9_isTrueBy 49 = .ok (.goto 4, 3) := by decide +kernel
theorem dX9_isTrueBy_52 : decode cX9_isTrueBy 52 = .ok (.iconst 0, 1) := by decide +kernel
theorem dX9_isTrueBy_53 : decode cX9_isTrueBy 53 = .ok (.ireturn, 1) := by decide +kernel
theorem dX9_isTrue_0 : decode cX9_isTrue 0 = .ok (.aload_n 0, 1) := by decide +kernel
theorem dX9_isTrue_1 : decode cX9_isTrue 1 = .ok (.iload_n 1, 1) := by decide +kernel
theorem dX9_isTrue_2 : decode cX9_isTrue 2 = .ok (.aload_n 0, 1) := by decide +kernel
theorem dX9_isTrue_3 : decode cX9_isTrue 3 = .ok (.iload_n 1, 1) := by decide +kernel
theorem dX9_isTrue_4 : decode cX9_isTrue 4 = .ok (.iconst 2, 1) := by decide +kernel
theorem dX9_isTrue_5 : decode cX9_isTrue 5 = .ok (.invokevirtual 138, 3) := by decide +kernel
theorem dX9_isTrue_8 : decode cX9_isTrue 8 = .ok (.aload_n 0, 1) := by decide +kernel
theorem dX9_isTrue_9 : decode cX9_isTrue 9 = .ok (.iload_n 1, 1) := by decide +kernel
theorem dX9_isTrue_10 : decode cX9_isTrue 10 = .ok (.iconst 3, 1) := by decide +kernel
theorem dX9_isTrue_11 : decode cX9_isTrue 11 = .ok (.invokevirtual 138, 3) := by decide +kernel
theorem dX9_isTrue_14 : decode cX9_isTrue 14 = .ok (.aload_n 0, 1) := by decide +kernel
theorem dX9_isTrue_15 : decode cX9_isTrue 15 = .ok (.iload_n 1, 1) := by decide +kernel
theorem dX9_isTrue_16 : decode cX9_isTrue 16 = .ok (.iconst 1, 1) := by decide +kernel
theorem dX9_isTrue_17 : decode cX9_isTrue 17 = .ok (.invokevirtual 138, 3) := by decide +kernel
theorem dX9_isTrue_20 : decode cX9_isTrue 20 = .ok (.invokevirtual 368, 3) := by decide +kernel
theorem dX9_isTrue_23 : decode cX9_isTrue 23 = .ok (.ireturn, 1) := by decide +kernel
theorem dX9_draw_0 : decode cX9_draw 0 = .ok (.aload_n 0, 1) := by decide +kernel
theorem dX9_draw_1 : decode cX9_draw 1 = .ok (.getfield 7, 3) := by decide +kernel
theorem dX9_draw_4 : decode cX9_draw 4 = .ok (.bipush 122, 2) := by decide +kernel
theorem dX9_draw_6 : decode cX9_draw 6 = .ok (.iaload, 1) := by decide +kernel
theorem dX9_draw_7 : decode cX9_draw 7 = .ok (.bipush 10, 2) := by decide +kernel
theorem dX9_draw_9 : decode cX9_draw 9 = .ok (.irem, 1) := by decide +kernel
theorem dX9_draw_10 : decode cX9_draw 10 = .ok (.istore_n 1, 1) := by decide +kernel
theorem dX9_draw_11 : decode cX9_draw 11 = .ok (.aload_n 0, 1) := by decide +kernel
theorem dX9_draw_12 : decode cX9_draw 12 = .ok (.getfield 7, 3) := by decide +kernel
theorem dX9_draw_15 : decode cX9_draw 15 = .ok (.bipush 122, 2) := by decide +kernel
theorem dX9_draw_17 : decode cX9_draw 17 = .ok (.aload_n 0, 1) := by decide +kernel
theorem dX9_draw_18 : decode cX9_draw 18 = .ok (.getfield 7, 3) := by decide +kernel
theorem dX9_draw_21 : decode cX9_draw 21 = .ok (.bipush 122, 2) := by decide +kernel
theorem dX9_draw_23 : decode cX9_draw 23 = .ok (.iaload, 1) := by decide +kernel
theorem dX9_draw_24 : decode cX9_draw 24 = .ok (.sipush 157, 3) := by decide +kernel
theorem dX9_draw_27 : decode cX9_draw 27 = .ok (.imul, 1) := by decide +kernel
theorem dX9_draw_28 : decode cX9_draw 28 = .ok (.bipush 61, 2) := by decide +kernel
theorem dX9_draw_30 : decode cX9_draw 30 = .ok (.iadd, 1) := by decide +kernel
theorem dX9_draw_31 : decode cX9_draw 31 = .ok (.sipush 30071, 3) := by decide +kernel
theorem dX9_draw_34 : decode cX9_draw 34 = .ok (.irem, 1) := by decide +kernel
theorem dX9_draw_35 : decode cX9_draw 35 = .ok (.iastore, 1) := by decide +kernel
theorem dX9_draw_36 : decode cX9_draw 36 = .ok (.iload_n 1, 1) := by decide +kernel
theorem dX9_draw_37 : decode cX9_draw 37 = .ok (.ireturn, 1) := by decide +kernel
theorem dX9_geeseOf_0 : decode cX9_geeseOf 0 = .ok (.iconst 0, 1) := by decide +kernel
theorem dX9_geeseOf_1 : decode cX9_geeseOf 1 = .ok (.istore_n 2, 1) := by decide +kernel
theorem dX9_geeseOf_2 : decode cX9_geeseOf 2 = .ok (.iconst 0, 1) := by decide +kernel
theorem dX9_geeseOf_3 : decode cX9_geeseOf 3 = .ok (.istore_n 3, 1) := by decide +kernel
theorem dX9_geeseOf_4 : decode cX9_geeseOf 4 = .ok (.iload_n 3, 1) := by decide +kernel
theorem dX9_geeseOf_5 : decode cX9_geeseOf 5 = .ok (.aload_n 0, 1) := by decide +kernel
theorem dX9_geeseOf_6 : decode cX9_geeseOf 6 = .ok (.getfield 7, 3) := by decide +kernel
theorem dX9_geeseOf_9 : decode cX9_geeseOf 9 = .ok (.iconst 1, 1) := by decide +kernel
theorem dX9_geeseOf_10 : decode cX9_geeseOf 10 = .ok (.iaload, 1) := by decide +kernel
theorem dX9_geeseOf_11 : decode cX9_geeseOf 11 = .ok (.if_icmp .ge 27, 3) := by decide +kernel
theorem dX9_geeseOf_14 : decode cX9_geeseOf 14 = .ok (.iload_n 2, 1) := by decide +kernel
theorem dX9_geeseOf_15 : decode cX9_geeseOf 15 = .ok (.aload_n 0, 1) := by decide +kernel
theorem dX9_geeseOf_16 : decode cX9_geeseOf 16 = .ok (.iload_n 3, 1) := by decide +kernel
theorem dX9_geeseOf_17 : decode cX9_geeseOf 17 = .ok (.iconst 4, 1) := by decide +kernel
theorem dX9_geeseOf_18 : decode cX9_geeseOf 18 = .ok (.invokevirtual 138, 3) := by decide +kernel
theorem dX9_geeseOf_21 : decode cX9_geeseOf 21 = .ok (.iload_n 1, 1) := by decide +kernel
theorem dX9_geeseOf_22 : decode cX9_geeseOf 22 = .ok (.if_icmp .ne 7, 3) := by decide +kernel
theorem dX9_geeseOf_25 : decode cX9_geeseOf 25 = .ok (.iconst 1, 1) := by decide +kernel
theorem dX9_geeseOf_26 : decode cX9_geeseOf 26 = .ok (.goto 4, 3) := by decide +kernel
theorem dX9_geeseOf_29 : decode cX9_geeseOf 29 = .ok (.iconst 0, 1) := by decide +kernel
theorem dX9_geeseOf_30 : decode cX9_geeseOf 30 = .ok (.iadd, 1) := by decide +kernel
theorem dX9_geeseOf_31 : decode cX9_geeseOf 31 = .ok (.istore_n 2, 1) := by decide +kernel
theorem dX9_geeseOf_32 : decode cX9_geeseOf 32 = .ok (.iinc 3 1, 3) := by decide +kernel
theorem dX9_geeseOf_35 : decode cX9_geeseOf 35 = .ok (.goto (-31), 3) := by decide +kernel
theorem dX9_geeseOf_38 : decode cX9_geeseOf 38 = .ok (.iload_n 2, 1) := by decide +kernel
theorem dX9_geeseOf_39 : decode cX9_geeseOf 39 = .ok (.ireturn, 1) := by decide +kernel
theorem dX9_comesThere_0 : decode cX9_comesThere 0 = .ok (.iconst 2, 1) := by decide +kernel
theorem dX9_comesThere_1 : decode cX9_comesThere 1 = .ok (.istore_n 2, 1) := by decide +kernel
theorem dX9_comesThere_2 : decode cX9_comesThere 2 = .ok (.aload_n 0, 1) := by decide +kernel
theorem dX9_comesThere_3 : decode cX9_comesThere 3 = .ok (.invokevirtual 372, 3) := by decide +kernel
theorem dX9_comesThere_6 : decode cX9_comesThere 6 = .ok (.istore_n 3, 1) := by decide +kernel
theorem dX9_comesThere_7 : decode cX9_comesThere 7 = .ok (.iload_n 3, 1) := by decide +kernel
theorem dX9_comesThere_8 : decode cX9_comesThere 8 = .ok (.aload_n 0, 1) := by decide +kernel
theorem dX9_comesThere_9 : decode cX9_comesThere 9 = .ok (.iconst 0, 1) := by decide +kernel
theorem dX9_comesThere_10 : decode cX9_comesThere 10 = .ok (.iload_n 1, 1) := by decide +kernel
theorem dX9_comesThere_11 : decode cX9_comesThere 11 = .ok (.invokevirtual 375, 3) := by decide +kernel
theorem dX9_comesThere_14 : decode cX9_comesThere 14 = .ok (.if_icmp .ge 36, 3) := by decide +kernel
theorem dX9_comesThere_17 : decode cX9_comesThere 17 = .ok (.iconst 3, 1) := by decide +kernel
theorem dX9_comesThere_18 : decode cX9_comesThere 18 = .ok (.istore_n 2, 1) := by decide +kernel
theorem dX9_comesThere_19 : decode cX9_comesThere 19 = .ok (.aload_n 0, 1) := by decide +kernel
theorem dX9_comesThere_20 : decode cX9_comesThere 20 = .ok (.iload_n 1, 1) := by decide +kernel
theorem dX9_comesThere_21 : decode cX9_comesThere 21 = .ok (.iconst 2, 1) := by decide +kernel
theorem dX9_comesThere_22 : decode cX9_comesThere 22 = .ok (.invokevirtual 138, 3) := by decide +kernel
theorem dX9_comesThere_25 : decode cX9_comesThere 25 = .ok (.iconst (-1), 1) := by decide +kernel
theorem dX9_comesThere_26 : decode cX9_comesThere 26 = .ok (.if_icmp .eq 24, 3) := by decide +kernel
theorem dX9_comesThere_29 : decode cX9_comesThere 29 = .ok (.aload_n 0, 1) := by decide +kernel
theorem dX9_comesThere_30 : decode cX9_comesThere 30 = .ok (.invokevirtual 372, 3) := by decide +kernel
theorem dX9_comesThere_33 : decode cX9_comesThere 33 = .ok (.istore_n 3, 1) := by decide +kernel
theorem dX9_comesThere_34 : decode cX9_comesThere 34 = .ok (.iload_n 3, 1) := by decide +kernel
theorem dX9_comesThere_35 : decode cX9_comesThere 35 = .ok (.aload_n 0, 1) := by decide +kernel
theorem dX9_comesThere_36 : decode cX9_comesThere 36 = .ok (.iconst 1, 1) := by decide +kernel
theorem dX9_comesThere_37 : decode cX9_comesThere 37 = .ok (.iload_n 1, 1) := by decide +kernel
theorem dX9_comesThere_38 : decode cX9_comesThere 38 = .ok (.invokevirtual 375, 3) := by decide +kernel
theorem dX9_comesThere_41 : decode cX9_comesThere 41 = .ok (.if_icmp .ge 7, 3) := by decide +kernel
theorem dX9_comesThere_44 : decode cX9_comesThere 44 = .ok (.iconst 4, 1) := by decide +kernel
theorem dX9_comesThere_45 : decode cX9_comesThere 45 = .ok (.goto 4, 3) := by decide +kernel
theorem dX9_comesThere_48 : decode cX9_comesThere 48 = .ok (.iconst 3, 1) := by decide +kernel
theorem dX9_comesThere_49 : decode cX9_comesThere 49 = .ok (.istore_n 2, 1) := by decide +kernel
theorem dX9_comesThere_50 : decode cX9_comesThere 50 = .ok (.aload_n 0, 1) := by decide +kernel
theorem dX9_comesThere_51 : decode cX9_comesThere 51 = .ok (.iload_n 1, 1) := by decide +kernel
theorem dX9_comesThere_52 : decode cX9_comesThere 52 = .ok (.iconst 4, 1) := by decide +kernel
theorem dX9_comesThere_53 : decode cX9_comesThere 53 = .ok (.iload_n 2, 1) := by decide +kernel
theorem dX9_comesThere_54 : decode cX9_comesThere 54 = .ok (.invokevirtual 156, 3) := by decide +kernel
theorem dX9_comesThere_57 : decode cX9_comesThere 57 = .ok (.aload_n 0, 1) := by decide +kernel
theorem dX9_comesThere_58 : decode cX9_comesThere 58 = .ok (.iload_n 1, 1) := by decide +kernel
theorem dX9_comesThere_59 : decode cX9_comesThere 59 = .ok (.bipush 7, 2) := by decide +kernel
theorem dX9_comesThere_61 : decode cX9_comesThere 61 = .ok (.aload_n 0, 1) := by decide +kernel
theorem dX9_comesThere_62 : decode cX9_comesThere 62 = .ok (.getfield 7, 3) := by decide +kernel
theorem dX9_comesThere_65 : decode cX9_comesThere 65 = .ok (.bipush 121, 2) := by decide +kernel
theorem dX9_comesThere_67 : decode cX9_comesThere 67 = .ok (.iaload, 1) := by decide +kernel
theorem dX9_comesThere_68 : decode cX9_comesThere 68 = .ok (.invokevirtual 156, 3) := by decide +kernel
theorem dX9_comesThere_71 : decode cX9_comesThere 71 = .ok (.return_, 1) := by decide +kernel
theorem dX9_hungers_0 : decode cX9_hungers 0 = .ok (.aload_n 0, 1) := by decide +kernel
