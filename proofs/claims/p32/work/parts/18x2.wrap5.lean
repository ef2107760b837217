theorem dL_isBook_66 : decode cL_isBook 66 = .ok (.iconst 0, 1) := by decide +kernel
theorem dL_isBook_67 : decode cL_isBook 67 = .ok (.istore 8, 2) := by decide +kernel
theorem dL_isBook_69 : decode cL_isBook 69 = .ok (.iconst 0, 1) := by decide +kernel
theorem dL_isBook_70 : decode cL_isBook 70 = .ok (.istore 9, 2) := by decide +kernel
theorem dL_isBook_72 : decode cL_isBook 72 = .ok (.iload 9, 2) := by decide +kernel
theorem dL_isBook_74 : decode cL_isBook 74 = .ok (.iload_n 3, 1) := by decide +kernel
theorem dL_isBook_75 : decode cL_isBook 75 = .ok (.if_icmp .ge 144, 3) := by decide +kernel
theorem dL_isBook_78 : decode cL_isBook 78 = .ok (.iload 8, 2) := by decide +kernel
theorem dL_isBook_80 : decode cL_isBook 80 = .ok (.ifCond .eq 139, 3) := by decide +kernel
theorem dL_isBook_83 : decode cL_isBook 83 = .ok (.iconst 0, 1) := by decide +kernel
theorem dL_isBook_84 : decode cL_isBook 84 = .ok (.istore 10, 2) := by decide +kernel
theorem dL_isBook_86 : decode cL_isBook 86 = .ok (.iconst 0, 1) := by decide +kernel
theorem dL_isBook_87 : decode cL_isBook 87 = .ok (.istore 11, 2) := by decide +kernel
theorem dL_isBook_89 : decode cL_isBook 89 = .ok (.iload 11, 2) := by decide +kernel
theorem dL_isBook_91 : decode cL_isBook 91 = .ok (.aload_n 1, 1) := by decide +kernel
theorem dL_isBook_92 : decode cL_isBook 92 = .ok (.bipush 6, 2) := by decide +kernel
theorem dL_isBook_94 : decode cL_isBook 94 = .ok (.iload_n 2, 1) := by decide +kernel
theorem dL_isBook_95 : decode cL_isBook 95 = .ok (.imul, 1) := by decide +kernel
theorem dL_isBook_96 : decode cL_isBook 96 = .ok (.iconst 2, 1) := by decide +kernel
theorem dL_isBook_97 : decode cL_isBook 97 = .ok (.iadd, 1) := by decide +kernel
theorem dL_isBook_98 : decode cL_isBook 98 = .ok (.iaload, 1) := by decide +kernel
theorem dL_isBook_99 : decode cL_isBook 99 = .ok (.iconst 1, 1) := by decide +kernel
theorem dL_isBook_100 : decode cL_isBook 100 = .ok (.isub, 1) := by decide +kernel
theorem dL_isBook_101 : decode cL_isBook 101 = .ok (.if_icmp .ge 36, 3) := by decide +kernel
theorem dL_isBook_104 : decode cL_isBook 104 = .ok (.aload_n 0, 1) := by decide +kernel
theorem dL_isBook_105 : decode cL_isBook 105 = .ok (.iload_n 2, 1) := by decide +kernel
theorem dL_isBook_106 : decode cL_isBook 106 = .ok (.iload 9, 2) := by decide +kernel
theorem dL_isBook_108 : decode cL_isBook 108 = .ok (.iload 11, 2) := by decide +kernel
theorem dL_isBook_110 : decode cL_isBook 110 = .ok (.invokestatic 160, 3) := by decide +kernel
theorem dL_isBook_113 : decode cL_isBook 113 = .ok (.istore 12, 2) := by decide +kernel
theorem dL_isBook_115 : decode cL_isBook 115 = .ok (.iload 12, 2) := by decide +kernel
theorem dL_isBook_117 : decode cL_isBook 117 = .ok (.iload 10, 2) := by decide +kernel
theorem dL_isBook_119 : decode cL_isBook 119 = .ok (.if_icmp .le 8, 3) := by decide +kernel
theorem dL_isBook_122 : decode cL_isBook 122 = .ok (.iload 12, 2) := by decide +kernel
theorem dL_isBook_124 : decode cL_isBook 124 = .ok (.goto 5, 3) := by decide +kernel
theorem dL_isBook_127 : decode cL_isBook 127 = .ok (.iload 10, 2) := by decide +kernel
theorem dL_isBook_129 : decode cL_isBook 129 = .ok (.istore 10, 2) := by decide +kernel
theorem dL_isBook_131 : decode cL_isBook 131 = .ok (.iinc 11 1, 3) := by decide +kernel
theorem dL_isBook_134 : decode cL_isBook 134 = .ok (.goto (-45), 3) := by decide +kernel
theorem dL_isBook_137 : decode cL_isBook 137 = .ok (.iload 7, 2) := by decide +kernel
theorem dL_isBook_139 : decode cL_isBook 139 = .ok (.iconst 3, 1) := by decide +kernel
theorem dL_isBook_140 : decode cL_isBook 140 = .ok (.iload 10, 2) := by decide +kernel
theorem dL_isBook_142 : decode cL_isBook 142 = .ok (.imul, 1) := by decide +kernel
theorem dL_isBook_143 : decode cL_isBook 143 = .ok (.iadd, 1) := by decide +kernel
theorem dL_isBook_144 : decode cL_isBook 144 = .ok (.istore 7, 2) := by decide +kernel
theorem dL_isBook_146 : decode cL_isBook 146 = .ok (.iload 6, 2) := by decide +kernel
theorem dL_isBook_148 : decode cL_isBook 148 = .ok (.ifCond .eq 18, 3) := by decide +kernel
theorem dL_isBook_151 : decode cL_isBook 151 = .ok (.aload_n 0, 1) := by decide +kernel
theorem dL_isBook_152 : decode cL_isBook 152 = .ok (.iload_n 2, 1) := by decide +kernel
theorem dL_isBook_153 : decode cL_isBook 153 = .ok (.iload 9, 2) := by decide +kernel
theorem dL_isBook_155 : decode cL_isBook 155 = .ok (.invokestatic 158, 3) := by decide +kernel
theorem dL_isBook_158 : decode cL_isBook 158 = .ok (.iconst 1, 1) := by decide +kernel
theorem dL_isBook_159 : decode cL_isBook 159 = .ok (.if_icmp .ne 7, 3) := by decide +kernel
theorem dL_isBook_162 : decode cL_isBook 162 = .ok (.iconst 1, 1) := by decide +kernel
theorem dL_isBook_163 : decode cL_isBook 163 = .ok (.goto 4, 3) := by decide +kernel
theorem dL_isBook_166 : decode cL_isBook 166 = .ok (.iconst 0, 1) := by decide +kernel
theorem dL_isBook_167 : decode cL_isBook 167 = .ok (.istore 6, 2) := by decide +kernel
theorem dL_isBook_169 : decode cL_isBook 169 = .ok (.aload_n 0, 1) := by decide +kernel
theorem dL_isBook_170 : decode cL_isBook 170 = .ok (.iload_n 2, 1) := by decide +kernel
theorem dL_isBook_171 : decode cL_isBook 171 = .ok (.iload 9, 2) := by decide +kernel
theorem dL_isBook_173 : decode cL_isBook 173 = .ok (.aload_n 1, 1) := by decide +kernel
theorem dL_isBook_174 : decode cL_isBook 174 = .ok (.bipush 6, 2) := by decide +kernel
theorem dL_isBook_176 : decode cL_isBook 176 = .ok (.iload_n 2, 1) := by decide +kernel
theorem dL_isBook_177 : decode cL_isBook 177 = .ok (.imul, 1) := by decide +kernel
theorem dL_isBook_178 : decode cL_isBook 178 = .ok (.iconst 2, 1) := by decide +kernel
theorem dL_isBook_179 : decode cL_isBook 179 = .ok (.iadd, 1) := by decide +kernel
theorem dL_isBook_180 : decode cL_isBook 180 = .ok (.iaload, 1) := by decide +kernel
theorem dL_isBook_181 : decode cL_isBook 181 = .ok (.iconst 1, 1) := by decide +kernel
theorem dL_isBook_182 : decode cL_isBook 182 = .ok (.isub, 1) := by decide +kernel
theorem dL_isBook_183 : decode cL_isBook 183 = .ok (.invokestatic 160, 3) := by decide +kernel
theorem dL_isBook_186 : decode cL_isBook 186 = .ok (.ldc 18, 2) := by decide +kernel
theorem dL_isBook_188 : decode cL_isBook 188 = .ok (.if_icmp .ne 22, 3) := by decide +kernel
theorem dL_isBook_191 : decode cL_isBook 191 = .ok (.iload 10, 2) := by decide +kernel
theorem dL_isBook_193 : decode cL_isBook 193 = .ok (.ifCond .gt 13, 3) := by decide +kernel
theorem dL_isBook_196 : decode cL_isBook 196 = .ok (.aload_n 0, 1) := by decide +kernel
theorem dL_isBook_197 : decode cL_isBook 197 = .ok (.iload_n 2, 1) := by decide +kernel
theorem dL_isBook_198 : decode cL_isBook 198 = .ok (.iload 9, 2) := by decide +kernel
theorem dL_isBook_200 : decode cL_isBook 200 = .ok (.invokestatic 158, 3) := by decide +kernel
theorem dL_isBook_203 : decode cL_isBook 203 = .ok (.ifCond .ne 7, 3) := by decide +kernel
theorem dL_isBook_206 : decode cL_isBook 206 = .ok (.iconst 1, 1) := by decide +kernel
theorem dL_isBook_207 : decode cL_isBook 207 = .ok (.goto 4, 3) := by decide +kernel
theorem dL_isBook_210 : decode cL_isBook 210 = .ok (.iconst 0, 1) := by decide +kernel
theorem dL_isBook_211 : decode cL_isBook 211 = .ok (.istore 8, 2) := by decide +kernel
theorem dL_isBook_213 : decode cL_isBook 213 = .ok (.iinc 9 1, 3) := by decide +kernel
theorem dL_isBook_216 : decode cL_isBook 216 = .ok (.goto (-144), 3) := by decide +kernel
theorem dL_isBook_219 : decode cL_isBook 219 = .ok (.aload_n 0, 1) := by decide +kernel
theorem dL_isBook_220 : decode cL_isBook 220 = .ok (.iload_n 2, 1) := by decide +kernel
theorem dL_isBook_221 : decode cL_isBook 221 = .ok (.invokestatic 162, 3) := by decide +kernel
theorem dL_isBook_224 : decode cL_isBook 224 = .ok (.istore 9, 2) := by decide +kernel
theorem dL_isBook_226 : decode cL_isBook 226 = .ok (.iconst 0, 1) := by decide +kernel
theorem dL_isBook_227 : decode cL_isBook 227 = .ok (.istore 10, 2) := by decide +kernel
theorem dL_isBook_229 : decode cL_isBook 229 = .ok (.iload 10, 2) := by decide +kernel
theorem dL_isBook_231 : decode cL_isBook 231 = .ok (.iload 4, 2) := by decide +kernel
theorem dL_isBook_233 : decode cL_isBook 233 = .ok (.if_icmp .gt 83, 3) := by decide +kernel
theorem dL_isBook_236 : decode cL_isBook 236 = .ok (.iload 8, 2) := by decide +kernel
theorem dL_isBook_238 : decode cL_isBook 238 = .ok (.ifCond .eq 78, 3) := by decide +kernel
theorem dL_isBook_241 : decode cL_isBook 241 = .ok (.aload_n 0, 1) := by decide +kernel
theorem dL_isBook_242 : decode cL_isBook 242 = .ok (.iload_n 2, 1) := by decide +kernel
theorem dL_isBook_243 : decode cL_isBook 243 = .ok (.iload 10, 2) := by decide +kernel
theorem dL_isBook_245 : decode cL_isBook 245 = .ok (.invokestatic 164, 3) := by decide +kernel
theorem dL_isBook_248 : decode cL_isBook 248 = .ok (.istore 11, 2) := by decide +kernel
theorem dL_isBook_250 : decode cL_isBook 250 = .ok (.iload 11, 2) := by decide +kernel
theorem dL_isBook_252 : decode cL_isBook 252 = .ok (.aload_n 0, 1) := by decide +kernel
theorem dL_isBook_253 : decode cL_isBook 253 = .ok (.iload_n 2, 1) := by decide +kernel
theorem dL_isBook_254 : decode cL_isBook 254 = .ok (.iload 4, 2) := by decide +kernel
theorem dL_isBook_256 : decode cL_isBook 256 = .ok (.iload 10, 2) := by decide +kernel
theorem dL_isBook_258 : decode cL_isBook 258 = .ok (.isub, 1) := by decide +kernel
theorem dL_isBook_259 : decode cL_isBook 259 = .ok (.invokestatic 164, 3) := by decide +kernel
theorem dL_isBook_262 : decode cL_isBook 262 = .ok (.if_icmp .ne 45, 3) := by decide +kernel
theorem dL_isBook_265 : decode cL_isBook 265 = .ok (.iload 11, 2) := by decide +kernel
theorem dL_isBook_267 : decode cL_isBook 267 = .ok (.iload 5, 2) := by decide +kernel
theorem dL_isBook_269 : decode cL_isBook 269 = .ok (.if_icmp .lt 38, 3) := by decide +kernel
theorem dL_isBook_272 : decode cL_isBook 272 = .ok (.iload 11, 2) := by decide +kernel
theorem dL_isBook_274 : decode cL_isBook 274 = .ok (.aload_n 0, 1) := by decide +kernel
theorem dL_isBook_275 : decode cL_isBook 275 = .ok (.iload_n 2, 1) := by decide +kernel
theorem dL_isBook_276 : decode cL_isBook 276 = .ok (.iload 9, 2) := by decide +kernel
theorem dL_isBook_278 : decode cL_isBook 278 = .ok (.invokestatic 164, 3) := by decide +kernel
theorem dL_isBook_281 : decode cL_isBook 281 = .ok (.if_icmp .gt 26, 3) := by decide +kernel
theorem dL_isBook_284 : decode cL_isBook 284 = .ok (.iload 10, 2) := by decide +kernel
theorem dL_isBook_286 : decode cL_isBook 286 = .ok (.iload 9, 2) := by decide +kernel
theorem dL_isBook_288 : decode cL_isBook 288 = .ok (.if_icmp .ge 15, 3) := by decide +kernel
theorem dL_isBook_291 : decode cL_isBook 291 = .ok (.iload 11, 2) := by decide +kernel
theorem dL_isBook_293 : decode cL_isBook 293 = .ok (.aload_n 0, 1) := by decide +kernel
theorem dL_isBook_294 : decode cL_isBook 294 = .ok (.iload_n 2, 1) := by decide +kernel
theorem dL_isBook_295 : decode cL_isBook 295 = .ok (.iload 9, 2) := by decide +kernel
theorem dL_isBook_297 : decode cL_isBook 297 = .ok (.invokestatic 164, 3) := by decide +kernel
theorem dL_isBook_300 : decode cL_isBook 300 = .ok (.if_icmp .ge 7, 3) := by decide +kernel
theorem dL_isBook_303 : decode cL_isBook 303 = .ok (.iconst 1, 1) := by decide +kernel
theorem dL_isBook_304 : decode cL_isBook 304 = .ok (.goto 4, 3) := by decide +kernel
theorem dL_isBook_307 : decode cL_isBook 307 = .ok (.iconst 0, 1) := by decide +kernel
theorem dL_isBook_308 : decode cL_isBook 308 = .ok (.istore 8, 2) := by decide +kernel
theorem dL_isBook_310 : decode cL_isBook 310 = .ok (.iinc 10 1, 3) := by decide +kernel
theorem dL_isBook_313 : decode cL_isBook 313 = .ok (.goto (-84), 3) := by decide +kernel
theorem dL_isBook_316 : decode cL_isBook 316 = .ok (.iload 8, 2) := by decide +kernel
theorem dL_isBook_318 : decode cL_isBook 318 = .ok (.ifCond .eq 77, 3) := by decide +kernel
theorem dL_isBook_321 : decode cL_isBook 321 = .ok (.iload 7, 2) := by decide +kernel
theorem dL_isBook_323 : decode cL_isBook 323 = .ok (.iload 5, 2) := by decide +kernel
theorem dL_isBook_325 : decode cL_isBook 325 = .ok (.if_icmp .ne 70, 3) := by decide +kernel
theorem dL_isBook_328 : decode cL_isBook 328 = .ok (.iload 9, 2) := by decide +kernel
theorem dL_isBook_330 : decode cL_isBook 330 = .ok (.iload 4, 2) := by decide +kernel
theorem dL_isBook_332 : decode cL_isBook 332 = .ok (.iconst 2, 1) := by decide +kernel
theorem dL_isBook_333 : decode cL_isBook 333 = .ok (.idiv, 1) := by decide +kernel
theorem dL_isBook_334 : decode cL_isBook 334 = .ok (.if_icmp .ne 61, 3) := by decide +kernel
theorem dL_isBook_337 : decode cL_isBook 337 = .ok (.aload_n 0, 1) := by decide +kernel
theorem dL_isBook_338 : decode cL_isBook 338 = .ok (.iload_n 2, 1) := by decide +kernel
theorem dL_isBook_339 : decode cL_isBook 339 = .ok (.iconst 5, 1) := by decide +kernel
theorem dL_isBook_340 : decode cL_isBook 340 = .ok (.invokestatic 149, 3) := by decide +kernel
theorem dL_isBook_343 : decode cL_isBook 343 = .ok (.ifCond .eq 17, 3) := by decide +kernel
theorem dL_isBook_346 : decode cL_isBook 346 = .ok (.iload 6, 2) := by decide +kernel
theorem dL_isBook_348 : decode cL_isBook 348 = .ok (.ifCond .eq 47, 3) := by decide +kernel
theorem dL_isBook_351 : decode cL_isBook 351 = .ok (.aload_n 0, 1) := by decide +kernel
theorem dL_isBook_352 : decode cL_isBook 352 = .ok (.iload_n 2, 1) := by decide +kernel
theorem dL_isBook_353 : decode cL_isBook 353 = .ok (.iconst 3, 1) := by decide +kernel
theorem dL_isBook_354 : decode cL_isBook 354 = .ok (.invokestatic 149, 3) := by decide +kernel
theorem dL_isBook_357 : decode cL_isBook 357 = .ok (.ifCond .ne 38, 3) := by decide +kernel
theorem dL_isBook_360 : decode cL_isBook 360 = .ok (.aload_n 0, 1) := by decide +kernel
theorem dL_isBook_361 : decode cL_isBook 361 = .ok (.iload_n 2, 1) := by decide +kernel
theorem dL_isBook_362 : decode cL_isBook 362 = .ok (.ldc 166, 2) := by decide +kernel
theorem dL_isBook_364 : decode cL_isBook 364 = .ok (.invokestatic 167, 3) := by decide +kernel
theorem dL_isBook_367 : decode cL_isBook 367 = .ok (.iload 4, 2) := by decide +kernel
theorem dL_isBook_369 : decode cL_isBook 369 = .ok (.iconst 1, 1) := by decide +kernel
theorem dL_isBook_370 : decode cL_isBook 370 = .ok (.iadd, 1) := by decide +kernel
theorem dL_isBook_371 : decode cL_isBook 371 = .ok (.if_icmp .ne 24, 3) := by decide +kernel
theorem dL_isBook_374 : decode cL_isBook 374 = .ok (.iload 5, 2) := by decide +kernel
theorem dL_isBook_376 : decode cL_isBook 376 = .ok (.ifCond .eq 15, 3) := by decide +kernel
theorem dL_isBook_379 : decode cL_isBook 379 = .ok (.aload_n 0, 1) := by decide +kernel
theorem dL_isBook_380 : decode cL_isBook 380 = .ok (.iload_n 2, 1) := by decide +kernel
theorem dL_isBook_381 : decode cL_isBook 381 = .ok (.iload 5, 2) := by decide +kernel
theorem dL_isBook_383 : decode cL_isBook 383 = .ok (.iconst 1, 1) := by decide +kernel
theorem dL_isBook_384 : decode cL_isBook 384 = .ok (.isub, 1) := by decide +kernel
theorem dL_isBook_385 : decode cL_isBook 385 = .ok (.invokestatic 167, 3) := by decide +kernel
theorem dL_isBook_388 : decode cL_isBook 388 = .ok (.ifCond .ne 7, 3) := by decide +kernel
theorem dL_isBook_391 : decode cL_isBook 391 = .ok (.iconst 1, 1) := by decide +kernel
theorem dL_isBook_392 : decode cL_isBook 392 = .ok (.goto 4, 3) := by decide +kernel
theorem dL_isBook_395 : decode cL_isBook 395 = .ok (.iconst 0, 1) := by decide +kernel
theorem dL_isBook_396 : decode cL_isBook 396 = .ok (.ireturn, 1) := by decide +kernel
set_option maxRecDepth 20000 in
theorem ggL_pares_L_low : GoodIn wsL_pares wsL_low := goodIn_r _ [6, 7] (by decide +kernel) (by decide +kernel)
set_option maxRecDepth 20000 in
theorem gL_pares_L_low : GoodIn wsL_pares (va_wsS RL 125 yL_low wsL_low) := goodIn_app (goodIn_of _ (by decide +kernel)) ggL_pares_L_low
set_option maxRecDepth 20000 in
theorem ggL_pares_L_thickAt : GoodIn wsL_pares wsL_thickAt := goodIn_ca (goodIn_r _ [10, 11, 2, 12, 13, 14, 15, 16, 17, 18, 19, 20, 21, 22, 23, 24, 25, 26, 27, 28, 29, 30, 31, 32, 33, 34, 35, 36, 37, 38, 87, 88, 89, 90, 91, 92, 93, 94] (by decide +kernel) (by decide +kernel)) (goodIn_sub (fun _ h => List.mem_cons_of_mem _ (List.mem_append_left _ (List.mem_append_left _ (List.mem_append_right _ h)))) (by decide +kernel))
set_option maxRecDepth 20000 in
theorem gL_pares_L_thickAt : GoodIn wsL_pares (va_wsS RL 169 yL_thickAt wsL_thickAt) := goodIn_app (goodIn_of _ (by decide +kernel)) ggL_pares_L_thickAt
set_option maxRecDepth 20000 in
theorem ggL_pares_L_tooThick : GoodIn wsL_pares wsL_tooThick := goodIn_ca (goodIn_r _ [41, 11, 2, 42, 43, 44, 15, 45, 17, 18, 19, 20, 21, 22, 23, 24, 25, 26, 46, 47, 48, 49, 50, 51, 37, 38, 52, 53, 54, 88, 89, 90, 91, 92, 93, 94, 87] (by decide +kernel) (by decide +kernel)) (goodIn_sub (fun _ h => List.mem_cons_of_mem _ (List.mem_append_left _ (List.mem_append_left _ (List.mem_append_right _ h)))) (by decide +kernel))
set_option maxRecDepth 20000 in
theorem gL_pares_L_tooThick : GoodIn wsL_pares (va_wsS RL 171 yL_tooThick wsL_tooThick) := goodIn_app (goodIn_of _ (by decide +kernel)) ggL_pares_L_tooThick
set_option maxRecDepth 20000 in
theorem ggL_pares_L_pare_q0 : GoodIn wsL_pares (.codeWith yL_pare cL_pare 8 (some .int) [(0, 13, 14, 16), (0, 13, 19, 19), (0, 13, 24, 30)] :: wsL_pare_r1) := goodIn_r _ [57, 11, 58, 59, 2, 60, 1, 61, 62, 63, 15, 64, 17, 18, 19, 20, 21, 22, 23, 24, 25, 26, 27, 28, 29] (by decide +kernel) (by decide +kernel)
set_option maxRecDepth 20000 in
theorem ggL_pares_L_pare_q1 : GoodIn wsL_pares (wsL_pare_r2) := goodIn_r _ [30, 31, 32, 33, 34, 35, 65, 66, 67, 68, 69, 70, 71, 72, 49, 73, 51, 74, 75, 76, 77, 37, 38, 78] (by decide +kernel) (by decide +kernel)
set_option maxRecDepth 20000 in
theorem ggL_pares_L_pare_q2 : GoodIn wsL_pares (wsL_pare_r3) := goodIn_r _ [79, 80, 81, 82, 83, 84, 85, 86] (by decide +kernel) (by decide +kernel)
set_option maxRecDepth 20000 in
theorem ggL_pares_L_pare_q3 : GoodIn wsL_pares (wsX70) := goodIn_r _ [88, 89, 90, 91, 92, 93, 94] (by decide +kernel) (by decide +kernel)
set_option maxRecDepth 20000 in
theorem ggL_pares_L_pare_q4 : GoodIn wsL_pares (wsX50) := goodIn_r _ [87] (by decide +kernel) (by decide +kernel)
set_option maxRecDepth 20000 in
theorem ggL_pares_L_pare : GoodIn wsL_pares wsL_pare := goodIn_ca (goodIn_ca (goodIn_ca (goodIn_ca (goodIn_ca (goodIn_ca ggL_pares_L_pare_q0 (goodIn_app ggL_pares_L_pare_q1 ggL_pares_L_pare_q2)) ggL_pares_L_pare_q3) ggL_pares_L_pare_q4) (goodIn_sub (fun _ h => List.mem_cons_of_mem _ (List.mem_append_left _ (List.mem_append_left _ (List.mem_append_right _ h)))) (by decide +kernel))) (goodIn_sub (fun _ h => List.mem_cons_of_mem _ (List.mem_append_left _ (List.mem_append_right _ h))) (by decide +kernel))) (goodIn_sub (fun _ h => List.mem_cons_of_mem _ (List.mem_append_right _ h)) (by decide +kernel))
set_option maxRecDepth 20000 in
theorem gL_pares_L_pare : GoodIn wsL_pares (va_wsS RL 173 yL_pare wsL_pare) := goodIn_app (goodIn_of _ (by decide +kernel)) ggL_pares_L_pare
theorem dL_pares_0 : decode cL_pares 0 = .ok (.iload_n 3, 1) := by decide +kernel
theorem dL_pares_1 : decode cL_pares 1 = .ok (.bipush 8, 2) := by decide +kernel
theorem dL_pares_3 : decode cL_pares 3 = .ok (.invokestatic 125, 3) := by decide +kernel
theorem dL_pares_6 : decode cL_pares 6 = .ok (.istore 4, 2) := by decide +kernel
theorem dL_pares_8 : decode cL_pares 8 = .ok (.iload_n 3, 1) := by decide +kernel
theorem dL_pares_9 : decode cL_pares 9 = .ok (.iconst 3, 1) := by decide +kernel
theorem dL_pares_10 : decode cL_pares 10 = .ok (.ishr, 1) := by decide +kernel
theorem dL_pares_11 : decode cL_pares 11 = .ok (.bipush 8, 2) := by decide +kernel
theorem dL_pares_13 : decode cL_pares 13 = .ok (.invokestatic 125, 3) := by decide +kernel
theorem dL_pares_16 : decode cL_pares 16 = .ok (.istore 5, 2) := by decide +kernel
theorem dL_pares_18 : decode cL_pares 18 = .ok (.iload 4, 2) := by decide +kernel
theorem dL_pares_20 : decode cL_pares 20 = .ok (.iload_n 3, 1) := by decide +kernel
theorem dL_pares_21 : decode cL_pares 21 = .ok (.bipush 6, 2) := by decide +kernel
theorem dL_pares_23 : decode cL_pares 23 = .ok (.ishr, 1) := by decide +kernel
theorem dL_pares_24 : decode cL_pares 24 = .ok (.bipush 8, 2) := by decide +kernel
theorem dL_pares_26 : decode cL_pares 26 = .ok (.iload 4, 2) := by decide +kernel
theorem dL_pares_28 : decode cL_pares 28 = .ok (.isub, 1) := by decide +kernel
theorem dL_pares_29 : decode cL_pares 29 = .ok (.invokestatic 125, 3) := by decide +kernel
theorem dL_pares_32 : decode cL_pares 32 = .ok (.iadd, 1) := by decide +kernel
theorem dL_pares_33 : decode cL_pares 33 = .ok (.istore 6, 2) := by decide +kernel
theorem dL_pares_35 : decode cL_pares 35 = .ok (.iload 5, 2) := by decide +kernel
theorem dL_pares_37 : decode cL_pares 37 = .ok (.iload_n 3, 1) := by decide +kernel
theorem dL_pares_38 : decode cL_pares 38 = .ok (.bipush 9, 2) := by decide +kernel
theorem dL_pares_40 : decode cL_pares 40 = .ok (.ishr, 1) := by decide +kernel
theorem dL_pares_41 : decode cL_pares 41 = .ok (.bipush 8, 2) := by decide +kernel
theorem dL_pares_43 : decode cL_pares 43 = .ok (.iload 5, 2) := by decide +kernel
theorem dL_pares_45 : decode cL_pares 45 = .ok (.isub, 1) := by decide +kernel
theorem dL_pares_46 : decode cL_pares 46 = .ok (.invokestatic 125, 3) := by decide +kernel
theorem dL_pares_49 : decode cL_pares 49 = .ok (.iadd, 1) := by decide +kernel
theorem dL_pares_50 : decode cL_pares 50 = .ok (.istore 7, 2) := by decide +kernel
theorem dL_pares_52 : decode cL_pares 52 = .ok (.iconst 1, 1) := by decide +kernel
theorem dL_pares_53 : decode cL_pares 53 = .ok (.iload_n 3, 1) := by decide +kernel
theorem dL_pares_54 : decode cL_pares 54 = .ok (.bipush 12, 2) := by decide +kernel
theorem dL_pares_56 : decode cL_pares 56 = .ok (.ishr, 1) := by decide +kernel
theorem dL_pares_57 : decode cL_pares 57 = .ok (.bipush 8, 2) := by decide +kernel
theorem dL_pares_59 : decode cL_pares 59 = .ok (.invokestatic 125, 3) := by decide +kernel
theorem dL_pares_62 : decode cL_pares 62 = .ok (.iadd, 1) := by decide +kernel
theorem dL_pares_63 : decode cL_pares 63 = .ok (.istore 8, 2) := by decide +kernel
theorem dL_pares_65 : decode cL_pares 65 = .ok (.aload_n 0, 1) := by decide +kernel
theorem dL_pares_66 : decode cL_pares 66 = .ok (.iload_n 2, 1) := by decide +kernel
theorem dL_pares_67 : decode cL_pares 67 = .ok (.iload 6, 2) := by decide +kernel
theorem dL_pares_69 : decode cL_pares 69 = .ok (.iload 7, 2) := by decide +kernel
theorem dL_pares_71 : decode cL_pares 71 = .ok (.invokestatic 169, 3) := by decide +kernel
theorem dL_pares_74 : decode cL_pares 74 = .ok (.istore 9, 2) := by decide +kernel
theorem dL_pares_76 : decode cL_pares 76 = .ok (.aload_n 0, 1) := by decide +kernel
theorem dL_pares_77 : decode cL_pares 77 = .ok (.iload_n 2, 1) := by decide +kernel
theorem dL_pares_78 : decode cL_pares 78 = .ok (.invokestatic 171, 3) := by decide +kernel
theorem dL_pares_81 : decode cL_pares 81 = .ok (.istore 10, 2) := by decide +kernel
theorem dL_pares_83 : decode cL_pares 83 = .ok (.aload_n 0, 1) := by decide +kernel
theorem dL_pares_84 : decode cL_pares 84 = .ok (.iload_n 2, 1) := by decide +kernel
theorem dL_pares_85 : decode cL_pares 85 = .ok (.iload 4, 2) := by decide +kernel
theorem dL_pares_87 : decode cL_pares 87 = .ok (.iload 6, 2) := by decide +kernel
theorem dL_pares_89 : decode cL_pares 89 = .ok (.iload 5, 2) := by decide +kernel
theorem dL_pares_91 : decode cL_pares 91 = .ok (.iload 7, 2) := by decide +kernel
theorem dL_pares_93 : decode cL_pares 93 = .ok (.iload 8, 2) := by decide +kernel
theorem dL_pares_95 : decode cL_pares 95 = .ok (.invokestatic 173, 3) := by decide +kernel
theorem dL_pares_98 : decode cL_pares 98 = .ok (.istore 11, 2) := by decide +kernel
theorem dL_pares_100 : decode cL_pares 100 = .ok (.iload 11, 2) := by decide +kernel
theorem dL_pares_102 : decode cL_pares 102 = .ok (.ldc 32, 2) := by decide +kernel
theorem dL_pares_104 : decode cL_pares 104 = .ok (.if_icmp .ne 35, 3) := by decide +kernel
theorem dL_pares_107 : decode cL_pares 107 = .ok (.aload_n 0, 1) := by decide +kernel
theorem dL_pares_108 : decode cL_pares 108 = .ok (.iload_n 2, 1) := by decide +kernel
theorem dL_pares_109 : decode cL_pares 109 = .ok (.iload 6, 2) := by decide +kernel
theorem dL_pares_111 : decode cL_pares 111 = .ok (.iload 7, 2) := by decide +kernel
theorem dL_pares_113 : decode cL_pares 113 = .ok (.invokestatic 169, 3) := by decide +kernel
theorem dL_pares_116 : decode cL_pares 116 = .ok (.iload 9, 2) := by decide +kernel
theorem dL_pares_118 : decode cL_pares 118 = .ok (.if_icmp .ne 17, 3) := by decide +kernel
theorem dL_pares_121 : decode cL_pares 121 = .ok (.aload_n 0, 1) := by decide +kernel
theorem dL_pares_122 : decode cL_pares 122 = .ok (.iload_n 2, 1) := by decide +kernel
theorem dL_pares_123 : decode cL_pares 123 = .ok (.invokestatic 171, 3) := by decide +kernel
theorem dL_pares_126 : decode cL_pares 126 = .ok (.iload 10, 2) := by decide +kernel
theorem dL_pares_128 : decode cL_pares 128 = .ok (.if_icmp .ne 7, 3) := by decide +kernel
theorem dL_pares_131 : decode cL_pares 131 = .ok (.iconst 1, 1) := by decide +kernel
theorem dL_pares_132 : decode cL_pares 132 = .ok (.goto 55, 3) := by decide +kernel
theorem dL_pares_135 : decode cL_pares 135 = .ok (.iconst 0, 1) := by decide +kernel
theorem dL_pares_136 : decode cL_pares 136 = .ok (.goto 51, 3) := by decide +kernel
theorem dL_pares_139 : decode cL_pares 139 = .ok (.iload 11, 2) := by decide +kernel
theorem dL_pares_141 : decode cL_pares 141 = .ok (.iconst 3, 1) := by decide +kernel
theorem dL_pares_142 : decode cL_pares 142 = .ok (.if_icmp .lt 44, 3) := by decide +kernel
theorem dL_pares_145 : decode cL_pares 145 = .ok (.iload 11, 2) := by decide +kernel
theorem dL_pares_147 : decode cL_pares 147 = .ok (.iload 9, 2) := by decide +kernel
theorem dL_pares_149 : decode cL_pares 149 = .ok (.iload 8, 2) := by decide +kernel
theorem dL_pares_151 : decode cL_pares 151 = .ok (.isub, 1) := by decide +kernel
theorem dL_pares_152 : decode cL_pares 152 = .ok (.if_icmp .gt 34, 3) := by decide +kernel
theorem dL_pares_155 : decode cL_pares 155 = .ok (.aload_n 0, 1) := by decide +kernel
theorem dL_pares_156 : decode cL_pares 156 = .ok (.iload_n 2, 1) := by decide +kernel
theorem dL_pares_157 : decode cL_pares 157 = .ok (.iload 6, 2) := by decide +kernel
theorem dL_pares_159 : decode cL_pares 159 = .ok (.iload 7, 2) := by decide +kernel
theorem dL_pares_161 : decode cL_pares 161 = .ok (.invokestatic 169, 3) := by decide +kernel
theorem dL_pares_164 : decode cL_pares 164 = .ok (.iload 9, 2) := by decide +kernel
theorem dL_pares_166 : decode cL_pares 166 = .ok (.iload 8, 2) := by decide +kernel
theorem dL_pares_168 : decode cL_pares 168 = .ok (.isub, 1) := by decide +kernel
theorem dL_pares_169 : decode cL_pares 169 = .ok (.if_icmp .ne 17, 3) := by decide +kernel
theorem dL_pares_172 : decode cL_pares 172 = .ok (.aload_n 0, 1) := by decide +kernel
theorem dL_pares_173 : decode cL_pares 173 = .ok (.iload_n 2, 1) := by decide +kernel
theorem dL_pares_174 : decode cL_pares 174 = .ok (.invokestatic 171, 3) := by decide +kernel
theorem dL_pares_177 : decode cL_pares 177 = .ok (.iload 10, 2) := by decide +kernel
theorem dL_pares_179 : decode cL_pares 179 = .ok (.if_icmp .gt 7, 3) := by decide +kernel
theorem dL_pares_182 : decode cL_pares 182 = .ok (.iconst 1, 1) := by decide +kernel
theorem dL_pares_183 : decode cL_pares 183 = .ok (.goto 4, 3) := by decide +kernel
theorem dL_pares_186 : decode cL_pares 186 = .ok (.iconst 0, 1) := by decide +kernel
theorem dL_pares_187 : decode cL_pares 187 = .ok (.istore 12, 2) := by decide +kernel
theorem dL_pares_189 : decode cL_pares 189 = .ok (.iload 12, 2) := by decide +kernel
theorem dL_pares_191 : decode cL_pares 191 = .ok (.ifCond .eq 44, 3) := by decide +kernel
theorem dL_pares_194 : decode cL_pares 194 = .ok (.aload_n 0, 1) := by decide +kernel
theorem dL_pares_195 : decode cL_pares 195 = .ok (.iload_n 2, 1) := by decide +kernel
theorem dL_pares_196 : decode cL_pares 196 = .ok (.iload 4, 2) := by decide +kernel
theorem dL_pares_198 : decode cL_pares 198 = .ok (.iload 5, 2) := by decide +kernel
theorem dL_pares_200 : decode cL_pares 200 = .ok (.invokestatic 169, 3) := by decide +kernel
theorem dL_pares_203 : decode cL_pares 203 = .ok (.aload_n 1, 1) := by decide +kernel
theorem dL_pares_204 : decode cL_pares 204 = .ok (.iload_n 2, 1) := by decide +kernel
theorem dL_pares_205 : decode cL_pares 205 = .ok (.iaload, 1) := by decide +kernel
theorem dL_pares_206 : decode cL_pares 206 = .ok (.if_icmp .gt 29, 3) := by decide +kernel
theorem dL_pares_209 : decode cL_pares 209 = .ok (.aload_n 0, 1) := by decide +kernel
theorem dL_pares_210 : decode cL_pares 210 = .ok (.iload_n 2, 1) := by decide +kernel
theorem dL_pares_211 : decode cL_pares 211 = .ok (.iload 6, 2) := by decide +kernel
theorem dL_pares_213 : decode cL_pares 213 = .ok (.iconst 1, 1) := by decide +kernel
theorem dL_pares_214 : decode cL_pares 214 = .ok (.iadd, 1) := by decide +kernel
