theorem dL_sews_11 : decode cL_sews 11 = .ok (.invokestatic 149, 3) := by decide +kernel
theorem dL_sews_14 : decode cL_sews 14 = .ok (.istore 7, 2) := by decide +kernel
theorem dL_sews_16 : decode cL_sews 16 = .ok (.aload_n 0, 1) := by decide +kernel
theorem dL_sews_17 : decode cL_sews 17 = .ok (.iload_n 3, 1) := by decide +kernel
theorem dL_sews_18 : decode cL_sews 18 = .ok (.iconst 2, 1) := by decide +kernel
theorem dL_sews_19 : decode cL_sews 19 = .ok (.invokestatic 149, 3) := by decide +kernel
theorem dL_sews_22 : decode cL_sews 22 = .ok (.istore 8, 2) := by decide +kernel
theorem dL_sews_24 : decode cL_sews 24 = .ok (.aload_n 0, 1) := by decide +kernel
theorem dL_sews_25 : decode cL_sews 25 = .ok (.iload_n 3, 1) := by decide +kernel
theorem dL_sews_26 : decode cL_sews 26 = .ok (.iconst 3, 1) := by decide +kernel
theorem dL_sews_27 : decode cL_sews 27 = .ok (.invokestatic 149, 3) := by decide +kernel
theorem dL_sews_30 : decode cL_sews 30 = .ok (.istore 9, 2) := by decide +kernel
theorem dL_sews_32 : decode cL_sews 32 = .ok (.aload_n 0, 1) := by decide +kernel
theorem dL_sews_33 : decode cL_sews 33 = .ok (.iload_n 3, 1) := by decide +kernel
theorem dL_sews_34 : decode cL_sews 34 = .ok (.invokestatic 151, 3) := by decide +kernel
theorem dL_sews_37 : decode cL_sews 37 = .ok (.istore 10, 2) := by decide +kernel
theorem dL_sews_39 : decode cL_sews 39 = .ok (.aload_n 0, 1) := by decide +kernel
theorem dL_sews_40 : decode cL_sews 40 = .ok (.iload_n 3, 1) := by decide +kernel
theorem dL_sews_41 : decode cL_sews 41 = .ok (.iconst 5, 1) := by decide +kernel
theorem dL_sews_42 : decode cL_sews 42 = .ok (.invokestatic 149, 3) := by decide +kernel
theorem dL_sews_45 : decode cL_sews 45 = .ok (.istore 11, 2) := by decide +kernel
theorem dL_sews_47 : decode cL_sews 47 = .ok (.iload 4, 2) := by decide +kernel
theorem dL_sews_49 : decode cL_sews 49 = .ok (.bipush 10, 2) := by decide +kernel
theorem dL_sews_51 : decode cL_sews 51 = .ok (.invokestatic 125, 3) := by decide +kernel
theorem dL_sews_54 : decode cL_sews 54 = .ok (.ifCond .ne 114, 3) := by decide +kernel
theorem dL_sews_57 : decode cL_sews 57 = .ok (.iconst 1, 1) := by decide +kernel
theorem dL_sews_58 : decode cL_sews 58 = .ok (.iload 5, 2) := by decide +kernel
theorem dL_sews_60 : decode cL_sews 60 = .ok (.bipush 12, 2) := by decide +kernel
theorem dL_sews_62 : decode cL_sews 62 = .ok (.invokestatic 125, 3) := by decide +kernel
theorem dL_sews_65 : decode cL_sews 65 = .ok (.iadd, 1) := by decide +kernel
theorem dL_sews_66 : decode cL_sews 66 = .ok (.istore 12, 2) := by decide +kernel
theorem dL_sews_68 : decode cL_sews 68 = .ok (.aload_n 0, 1) := by decide +kernel
theorem dL_sews_69 : decode cL_sews 69 = .ok (.iload_n 3, 1) := by decide +kernel
theorem dL_sews_70 : decode cL_sews 70 = .ok (.iload 12, 2) := by decide +kernel
theorem dL_sews_72 : decode cL_sews 72 = .ok (.invokestatic 154, 3) := by decide +kernel
theorem dL_sews_75 : decode cL_sews 75 = .ok (.istore 13, 2) := by decide +kernel
theorem dL_sews_77 : decode cL_sews 77 = .ok (.iload 12, 2) := by decide +kernel
theorem dL_sews_79 : decode cL_sews 79 = .ok (.aload_n 2, 1) := by decide +kernel
theorem dL_sews_80 : decode cL_sews 80 = .ok (.iload_n 3, 1) := by decide +kernel
theorem dL_sews_81 : decode cL_sews 81 = .ok (.iaload, 1) := by decide +kernel
theorem dL_sews_82 : decode cL_sews 82 = .ok (.if_icmp .gt 7, 3) := by decide +kernel
theorem dL_sews_85 : decode cL_sews 85 = .ok (.iconst 1, 1) := by decide +kernel
theorem dL_sews_86 : decode cL_sews 86 = .ok (.goto 4, 3) := by decide +kernel
theorem dL_sews_89 : decode cL_sews 89 = .ok (.iconst 0, 1) := by decide +kernel
theorem dL_sews_90 : decode cL_sews 90 = .ok (.istore 14, 2) := by decide +kernel
theorem dL_sews_92 : decode cL_sews 92 = .ok (.aload_n 2, 1) := by decide +kernel
theorem dL_sews_93 : decode cL_sews 93 = .ok (.iload_n 3, 1) := by decide +kernel
theorem dL_sews_94 : decode cL_sews 94 = .ok (.dup2, 1) := by decide +kernel
theorem dL_sews_95 : decode cL_sews 95 = .ok (.iaload, 1) := by decide +kernel
theorem dL_sews_96 : decode cL_sews 96 = .ok (.iload 14, 2) := by decide +kernel
theorem dL_sews_98 : decode cL_sews 98 = .ok (.ifCond .eq 8, 3) := by decide +kernel
theorem dL_sews_101 : decode cL_sews 101 = .ok (.iload 12, 2) := by decide +kernel
theorem dL_sews_103 : decode cL_sews 103 = .ok (.goto 4, 3) := by decide +kernel
theorem dL_sews_106 : decode cL_sews 106 = .ok (.iconst 0, 1) := by decide +kernel
theorem dL_sews_107 : decode cL_sews 107 = .ok (.isub, 1) := by decide +kernel
theorem dL_sews_108 : decode cL_sews 108 = .ok (.iastore, 1) := by decide +kernel
theorem dL_sews_109 : decode cL_sews 109 = .ok (.iload 14, 2) := by decide +kernel
theorem dL_sews_111 : decode cL_sews 111 = .ok (.ifCond .eq 44, 3) := by decide +kernel
theorem dL_sews_114 : decode cL_sews 114 = .ok (.iload 13, 2) := by decide +kernel
theorem dL_sews_116 : decode cL_sews 116 = .ok (.ifCond .lt 35, 3) := by decide +kernel
theorem dL_sews_119 : decode cL_sews 119 = .ok (.iload 13, 2) := by decide +kernel
theorem dL_sews_121 : decode cL_sews 121 = .ok (.iload 6, 2) := by decide +kernel
theorem dL_sews_123 : decode cL_sews 123 = .ok (.if_icmp .gt 28, 3) := by decide +kernel
theorem dL_sews_126 : decode cL_sews 126 = .ok (.aload_n 0, 1) := by decide +kernel
theorem dL_sews_127 : decode cL_sews 127 = .ok (.iload_n 3, 1) := by decide +kernel
theorem dL_sews_128 : decode cL_sews 128 = .ok (.invokestatic 151, 3) := by decide +kernel
theorem dL_sews_131 : decode cL_sews 131 = .ok (.iload 10, 2) := by decide +kernel
theorem dL_sews_133 : decode cL_sews 133 = .ok (.if_icmp .gt 18, 3) := by decide +kernel
theorem dL_sews_136 : decode cL_sews 136 = .ok (.iload 13, 2) := by decide +kernel
theorem dL_sews_138 : decode cL_sews 138 = .ok (.aload_n 0, 1) := by decide +kernel
theorem dL_sews_139 : decode cL_sews 139 = .ok (.iload_n 3, 1) := by decide +kernel
theorem dL_sews_140 : decode cL_sews 140 = .ok (.iconst 0, 1) := by decide +kernel
theorem dL_sews_141 : decode cL_sews 141 = .ok (.invokestatic 149, 3) := by decide +kernel
theorem dL_sews_144 : decode cL_sews 144 = .ok (.if_icmp .ne 7, 3) := by decide +kernel
theorem dL_sews_147 : decode cL_sews 147 = .ok (.iconst 1, 1) := by decide +kernel
theorem dL_sews_148 : decode cL_sews 148 = .ok (.goto 19, 3) := by decide +kernel
theorem dL_sews_151 : decode cL_sews 151 = .ok (.iconst 0, 1) := by decide +kernel
theorem dL_sews_152 : decode cL_sews 152 = .ok (.goto 15, 3) := by decide +kernel
theorem dL_sews_155 : decode cL_sews 155 = .ok (.iload 13, 2) := by decide +kernel
theorem dL_sews_157 : decode cL_sews 157 = .ok (.ldc 32, 2) := by decide +kernel
theorem dL_sews_159 : decode cL_sews 159 = .ok (.if_icmp .ne 7, 3) := by decide +kernel
theorem dL_sews_162 : decode cL_sews 162 = .ok (.iconst 1, 1) := by decide +kernel
theorem dL_sews_163 : decode cL_sews 163 = .ok (.goto 4, 3) := by decide +kernel
theorem dL_sews_166 : decode cL_sews 166 = .ok (.iconst 0, 1) := by decide +kernel
theorem dL_sews_167 : decode cL_sews 167 = .ok (.ireturn, 1) := by decide +kernel
theorem dL_sews_168 : decode cL_sews 168 = .ok (.iload 5, 2) := by decide +kernel
theorem dL_sews_170 : decode cL_sews 170 = .ok (.iconst 5, 1) := by decide +kernel
theorem dL_sews_171 : decode cL_sews 171 = .ok (.invokestatic 125, 3) := by decide +kernel
theorem dL_sews_174 : decode cL_sews 174 = .ok (.istore 12, 2) := by decide +kernel
theorem dL_sews_176 : decode cL_sews 176 = .ok (.aload_n 0, 1) := by decide +kernel
theorem dL_sews_177 : decode cL_sews 177 = .ok (.iload_n 3, 1) := by decide +kernel
theorem dL_sews_178 : decode cL_sews 178 = .ok (.iload 12, 2) := by decide +kernel
theorem dL_sews_180 : decode cL_sews 180 = .ok (.invokestatic 156, 3) := by decide +kernel
theorem dL_sews_183 : decode cL_sews 183 = .ok (.istore 13, 2) := by decide +kernel
theorem dL_sews_185 : decode cL_sews 185 = .ok (.iload 13, 2) := by decide +kernel
theorem dL_sews_187 : decode cL_sews 187 = .ok (.ldc 32, 2) := by decide +kernel
theorem dL_sews_189 : decode cL_sews 189 = .ok (.if_icmp .ne 100, 3) := by decide +kernel
theorem dL_sews_192 : decode cL_sews 192 = .ok (.iload 12, 2) := by decide +kernel
theorem dL_sews_194 : decode cL_sews 194 = .ok (.ifCond .le 93, 3) := by decide +kernel
theorem dL_sews_197 : decode cL_sews 197 = .ok (.aload_n 0, 1) := by decide +kernel
theorem dL_sews_198 : decode cL_sews 198 = .ok (.iload_n 3, 1) := by decide +kernel
theorem dL_sews_199 : decode cL_sews 199 = .ok (.iconst 0, 1) := by decide +kernel
theorem dL_sews_200 : decode cL_sews 200 = .ok (.invokestatic 149, 3) := by decide +kernel
theorem dL_sews_203 : decode cL_sews 203 = .ok (.iload 6, 2) := by decide +kernel
theorem dL_sews_205 : decode cL_sews 205 = .ok (.if_icmp .ne 82, 3) := by decide +kernel
theorem dL_sews_208 : decode cL_sews 208 = .ok (.aload_n 0, 1) := by decide +kernel
theorem dL_sews_209 : decode cL_sews 209 = .ok (.iload_n 3, 1) := by decide +kernel
theorem dL_sews_210 : decode cL_sews 210 = .ok (.iconst 1, 1) := by decide +kernel
theorem dL_sews_211 : decode cL_sews 211 = .ok (.invokestatic 149, 3) := by decide +kernel
theorem dL_sews_214 : decode cL_sews 214 = .ok (.iload 7, 2) := by decide +kernel
theorem dL_sews_216 : decode cL_sews 216 = .ok (.if_icmp .ne 71, 3) := by decide +kernel
theorem dL_sews_219 : decode cL_sews 219 = .ok (.aload_n 0, 1) := by decide +kernel
theorem dL_sews_220 : decode cL_sews 220 = .ok (.iload_n 3, 1) := by decide +kernel
theorem dL_sews_221 : decode cL_sews 221 = .ok (.iconst 2, 1) := by decide +kernel
theorem dL_sews_222 : decode cL_sews 222 = .ok (.invokestatic 149, 3) := by decide +kernel
theorem dL_sews_225 : decode cL_sews 225 = .ok (.iload 8, 2) := by decide +kernel
theorem dL_sews_227 : decode cL_sews 227 = .ok (.if_icmp .ne 60, 3) := by decide +kernel
theorem dL_sews_230 : decode cL_sews 230 = .ok (.iload 12, 2) := by decide +kernel
theorem dL_sews_232 : decode cL_sews 232 = .ok (.iconst 3, 1) := by decide +kernel
theorem dL_sews_233 : decode cL_sews 233 = .ok (.if_icmp .ge 26, 3) := by decide +kernel
theorem dL_sews_236 : decode cL_sews 236 = .ok (.iload 8, 2) := by decide +kernel
theorem dL_sews_238 : decode cL_sews 238 = .ok (.ifCond .eq 45, 3) := by decide +kernel
theorem dL_sews_241 : decode cL_sews 241 = .ok (.iload 8, 2) := by decide +kernel
theorem dL_sews_243 : decode cL_sews 243 = .ok (.aload_n 1, 1) := by decide +kernel
theorem dL_sews_244 : decode cL_sews 244 = .ok (.bipush 6, 2) := by decide +kernel
theorem dL_sews_246 : decode cL_sews 246 = .ok (.iload_n 3, 1) := by decide +kernel
theorem dL_sews_247 : decode cL_sews 247 = .ok (.imul, 1) := by decide +kernel
theorem dL_sews_248 : decode cL_sews 248 = .ok (.iconst 2, 1) := by decide +kernel
theorem dL_sews_249 : decode cL_sews 249 = .ok (.iadd, 1) := by decide +kernel
theorem dL_sews_250 : decode cL_sews 250 = .ok (.iaload, 1) := by decide +kernel
theorem dL_sews_251 : decode cL_sews 251 = .ok (.iconst 1, 1) := by decide +kernel
theorem dL_sews_252 : decode cL_sews 252 = .ok (.isub, 1) := by decide +kernel
theorem dL_sews_253 : decode cL_sews 253 = .ok (.if_icmp .ne 34, 3) := by decide +kernel
theorem dL_sews_256 : decode cL_sews 256 = .ok (.goto 27, 3) := by decide +kernel
theorem dL_sews_259 : decode cL_sews 259 = .ok (.iload 9, 2) := by decide +kernel
theorem dL_sews_261 : decode cL_sews 261 = .ok (.iconst 1, 1) := by decide +kernel
theorem dL_sews_262 : decode cL_sews 262 = .ok (.if_icmp .eq 21, 3) := by decide +kernel
theorem dL_sews_265 : decode cL_sews 265 = .ok (.iload 7, 2) := by decide +kernel
theorem dL_sews_267 : decode cL_sews 267 = .ok (.ifCond .eq 16, 3) := by decide +kernel
theorem dL_sews_270 : decode cL_sews 270 = .ok (.iload 7, 2) := by decide +kernel
theorem dL_sews_272 : decode cL_sews 272 = .ok (.aload_n 1, 1) := by decide +kernel
theorem dL_sews_273 : decode cL_sews 273 = .ok (.bipush 6, 2) := by decide +kernel
theorem dL_sews_275 : decode cL_sews 275 = .ok (.iload_n 3, 1) := by decide +kernel
theorem dL_sews_276 : decode cL_sews 276 = .ok (.imul, 1) := by decide +kernel
theorem dL_sews_277 : decode cL_sews 277 = .ok (.iaload, 1) := by decide +kernel
theorem dL_sews_278 : decode cL_sews 278 = .ok (.iconst 1, 1) := by decide +kernel
theorem dL_sews_279 : decode cL_sews 279 = .ok (.isub, 1) := by decide +kernel
theorem dL_sews_280 : decode cL_sews 280 = .ok (.if_icmp .ne 7, 3) := by decide +kernel
theorem dL_sews_283 : decode cL_sews 283 = .ok (.iconst 1, 1) := by decide +kernel
theorem dL_sews_284 : decode cL_sews 284 = .ok (.goto 4, 3) := by decide +kernel
theorem dL_sews_287 : decode cL_sews 287 = .ok (.iconst 0, 1) := by decide +kernel
theorem dL_sews_288 : decode cL_sews 288 = .ok (.ireturn, 1) := by decide +kernel
theorem dL_sews_289 : decode cL_sews 289 = .ok (.aload_n 2, 1) := by decide +kernel
theorem dL_sews_290 : decode cL_sews 290 = .ok (.iload_n 3, 1) := by decide +kernel
theorem dL_sews_291 : decode cL_sews 291 = .ok (.dup2, 1) := by decide +kernel
theorem dL_sews_292 : decode cL_sews 292 = .ok (.iaload, 1) := by decide +kernel
theorem dL_sews_293 : decode cL_sews 293 = .ok (.iconst 1, 1) := by decide +kernel
theorem dL_sews_294 : decode cL_sews 294 = .ok (.iadd, 1) := by decide +kernel
theorem dL_sews_295 : decode cL_sews 295 = .ok (.iastore, 1) := by decide +kernel
theorem dL_sews_296 : decode cL_sews 296 = .ok (.iload 12, 2) := by decide +kernel
theorem dL_sews_298 : decode cL_sews 298 = .ok (.ifCond .ne 7, 3) := by decide +kernel
theorem dL_sews_301 : decode cL_sews 301 = .ok (.iconst 0, 1) := by decide +kernel
theorem dL_sews_302 : decode cL_sews 302 = .ok (.goto 15, 3) := by decide +kernel
theorem dL_sews_305 : decode cL_sews 305 = .ok (.iload 12, 2) := by decide +kernel
theorem dL_sews_307 : decode cL_sews 307 = .ok (.iconst 3, 1) := by decide +kernel
theorem dL_sews_308 : decode cL_sews 308 = .ok (.if_icmp .ge 8, 3) := by decide +kernel
theorem dL_sews_311 : decode cL_sews 311 = .ok (.bipush 10, 2) := by decide +kernel
theorem dL_sews_313 : decode cL_sews 313 = .ok (.goto 4, 3) := by decide +kernel
theorem dL_sews_316 : decode cL_sews 316 = .ok (.iconst 4, 1) := by decide +kernel
theorem dL_sews_317 : decode cL_sews 317 = .ok (.istore 14, 2) := by decide +kernel
theorem dL_sews_319 : decode cL_sews 319 = .ok (.iload 13, 2) := by decide +kernel
theorem dL_sews_321 : decode cL_sews 321 = .ok (.iload 6, 2) := by decide +kernel
theorem dL_sews_323 : decode cL_sews 323 = .ok (.iload 14, 2) := by decide +kernel
theorem dL_sews_325 : decode cL_sews 325 = .ok (.iadd, 1) := by decide +kernel
theorem dL_sews_326 : decode cL_sews 326 = .ok (.if_icmp .ne 108, 3) := by decide +kernel
theorem dL_sews_329 : decode cL_sews 329 = .ok (.aload_n 0, 1) := by decide +kernel
theorem dL_sews_330 : decode cL_sews 330 = .ok (.iload_n 3, 1) := by decide +kernel
theorem dL_sews_331 : decode cL_sews 331 = .ok (.iconst 1, 1) := by decide +kernel
theorem dL_sews_332 : decode cL_sews 332 = .ok (.invokestatic 149, 3) := by decide +kernel
theorem dL_sews_335 : decode cL_sews 335 = .ok (.iload 7, 2) := by decide +kernel
theorem dL_sews_337 : decode cL_sews 337 = .ok (.iload 12, 2) := by decide +kernel
theorem dL_sews_339 : decode cL_sews 339 = .ok (.iconst 3, 1) := by decide +kernel
theorem dL_sews_340 : decode cL_sews 340 = .ok (.if_icmp .ne 7, 3) := by decide +kernel
theorem dL_sews_343 : decode cL_sews 343 = .ok (.iconst 1, 1) := by decide +kernel
theorem dL_sews_344 : decode cL_sews 344 = .ok (.goto 14, 3) := by decide +kernel
theorem dL_sews_347 : decode cL_sews 347 = .ok (.iload 12, 2) := by decide +kernel
theorem dL_sews_349 : decode cL_sews 349 = .ok (.iconst 4, 1) := by decide +kernel
theorem dL_sews_350 : decode cL_sews 350 = .ok (.if_icmp .ne 7, 3) := by decide +kernel
theorem dL_sews_353 : decode cL_sews 353 = .ok (.iconst (-1), 1) := by decide +kernel
theorem dL_sews_354 : decode cL_sews 354 = .ok (.goto 4, 3) := by decide +kernel
theorem dL_sews_357 : decode cL_sews 357 = .ok (.iconst 0, 1) := by decide +kernel
theorem dL_sews_358 : decode cL_sews 358 = .ok (.iadd, 1) := by decide +kernel
theorem dL_sews_359 : decode cL_sews 359 = .ok (.if_icmp .ne 75, 3) := by decide +kernel
theorem dL_sews_362 : decode cL_sews 362 = .ok (.aload_n 0, 1) := by decide +kernel
theorem dL_sews_363 : decode cL_sews 363 = .ok (.iload_n 3, 1) := by decide +kernel
theorem dL_sews_364 : decode cL_sews 364 = .ok (.iconst 2, 1) := by decide +kernel
theorem dL_sews_365 : decode cL_sews 365 = .ok (.invokestatic 149, 3) := by decide +kernel
theorem dL_sews_368 : decode cL_sews 368 = .ok (.iload 8, 2) := by decide +kernel
theorem dL_sews_370 : decode cL_sews 370 = .ok (.iload 12, 2) := by decide +kernel
theorem dL_sews_372 : decode cL_sews 372 = .ok (.iconst 1, 1) := by decide +kernel
theorem dL_sews_373 : decode cL_sews 373 = .ok (.if_icmp .ne 7, 3) := by decide +kernel
theorem dL_sews_376 : decode cL_sews 376 = .ok (.iconst 1, 1) := by decide +kernel
theorem dL_sews_377 : decode cL_sews 377 = .ok (.goto 14, 3) := by decide +kernel
theorem dL_sews_380 : decode cL_sews 380 = .ok (.iload 12, 2) := by decide +kernel
theorem dL_sews_382 : decode cL_sews 382 = .ok (.iconst 2, 1) := by decide +kernel
theorem dL_sews_383 : decode cL_sews 383 = .ok (.if_icmp .ne 7, 3) := by decide +kernel
theorem dL_sews_386 : decode cL_sews 386 = .ok (.iconst (-1), 1) := by decide +kernel
theorem dL_sews_387 : decode cL_sews 387 = .ok (.goto 4, 3) := by decide +kernel
theorem dL_sews_390 : decode cL_sews 390 = .ok (.iconst 0, 1) := by decide +kernel
theorem dL_sews_391 : decode cL_sews 391 = .ok (.iadd, 1) := by decide +kernel
theorem dL_sews_392 : decode cL_sews 392 = .ok (.if_icmp .ne 42, 3) := by decide +kernel
theorem dL_sews_395 : decode cL_sews 395 = .ok (.aload_n 0, 1) := by decide +kernel
theorem dL_sews_396 : decode cL_sews 396 = .ok (.iload_n 3, 1) := by decide +kernel
theorem dL_sews_397 : decode cL_sews 397 = .ok (.iconst 3, 1) := by decide +kernel
theorem dL_sews_398 : decode cL_sews 398 = .ok (.invokestatic 149, 3) := by decide +kernel
theorem dL_sews_401 : decode cL_sews 401 = .ok (.iload 12, 2) := by decide +kernel
theorem dL_sews_403 : decode cL_sews 403 = .ok (.ifCond .ne 10, 3) := by decide +kernel
theorem dL_sews_406 : decode cL_sews 406 = .ok (.iconst 1, 1) := by decide +kernel
theorem dL_sews_407 : decode cL_sews 407 = .ok (.iload 9, 2) := by decide +kernel
theorem dL_sews_409 : decode cL_sews 409 = .ok (.isub, 1) := by decide +kernel
theorem dL_sews_410 : decode cL_sews 410 = .ok (.goto 5, 3) := by decide +kernel
theorem dL_sews_413 : decode cL_sews 413 = .ok (.iload 9, 2) := by decide +kernel
theorem dL_sews_415 : decode cL_sews 415 = .ok (.if_icmp .ne 19, 3) := by decide +kernel
theorem dL_sews_418 : decode cL_sews 418 = .ok (.aload_n 0, 1) := by decide +kernel
theorem dL_sews_419 : decode cL_sews 419 = .ok (.iload_n 3, 1) := by decide +kernel
theorem dL_sews_420 : decode cL_sews 420 = .ok (.iconst 4, 1) := by decide +kernel
theorem dL_sews_421 : decode cL_sews 421 = .ok (.invokestatic 149, 3) := by decide +kernel
theorem dL_sews_424 : decode cL_sews 424 = .ok (.aload_n 2, 1) := by decide +kernel
theorem dL_sews_425 : decode cL_sews 425 = .ok (.iload_n 3, 1) := by decide +kernel
theorem dL_sews_426 : decode cL_sews 426 = .ok (.iaload, 1) := by decide +kernel
theorem dL_sews_427 : decode cL_sews 427 = .ok (.if_icmp .ne 7, 3) := by decide +kernel
theorem dL_sews_430 : decode cL_sews 430 = .ok (.iconst 1, 1) := by decide +kernel
theorem dL_sews_431 : decode cL_sews 431 = .ok (.goto 4, 3) := by decide +kernel
theorem dL_sews_434 : decode cL_sews 434 = .ok (.iconst 0, 1) := by decide +kernel
theorem dL_sews_435 : decode cL_sews 435 = .ok (.istore 15, 2) := by decide +kernel
theorem dL_sews_437 : decode cL_sews 437 = .ok (.iload 15, 2) := by decide +kernel
theorem dL_sews_439 : decode cL_sews 439 = .ok (.ifCond .eq 62, 3) := by decide +kernel
theorem dL_sews_442 : decode cL_sews 442 = .ok (.iload 5, 2) := by decide +kernel
theorem dL_sews_444 : decode cL_sews 444 = .ok (.iconst 3, 1) := by decide +kernel
theorem dL_sews_445 : decode cL_sews 445 = .ok (.ishr, 1) := by decide +kernel
theorem dL_sews_446 : decode cL_sews 446 = .ok (.iconst 4, 1) := by decide +kernel
theorem dL_sews_447 : decode cL_sews 447 = .ok (.invokestatic 125, 3) := by decide +kernel
theorem dL_sews_450 : decode cL_sews 450 = .ok (.ifCond .gt 47, 3) := by decide +kernel
theorem dL_sews_453 : decode cL_sews 453 = .ok (.aload_n 0, 1) := by decide +kernel
theorem dL_sews_454 : decode cL_sews 454 = .ok (.iload_n 3, 1) := by decide +kernel
theorem dL_sews_455 : decode cL_sews 455 = .ok (.iconst 1, 1) := by decide +kernel
theorem dL_sews_456 : decode cL_sews 456 = .ok (.invokestatic 154, 3) := by decide +kernel
theorem dL_sews_459 : decode cL_sews 459 = .ok (.iload 6, 2) := by decide +kernel
theorem dL_sews_461 : decode cL_sews 461 = .ok (.if_icmp .ne 40, 3) := by decide +kernel
theorem dL_sews_464 : decode cL_sews 464 = .ok (.aload_n 0, 1) := by decide +kernel
theorem dL_sews_465 : decode cL_sews 465 = .ok (.iload_n 3, 1) := by decide +kernel
theorem dL_sews_466 : decode cL_sews 466 = .ok (.invokestatic 151, 3) := by decide +kernel
theorem dL_sews_469 : decode cL_sews 469 = .ok (.iload 10, 2) := by decide +kernel
theorem dL_sews_471 : decode cL_sews 471 = .ok (.if_icmp .ne 30, 3) := by decide +kernel
theorem dL_sews_474 : decode cL_sews 474 = .ok (.aload_n 0, 1) := by decide +kernel
theorem dL_sews_475 : decode cL_sews 475 = .ok (.iload_n 3, 1) := by decide +kernel
theorem dL_sews_476 : decode cL_sews 476 = .ok (.iconst 5, 1) := by decide +kernel
theorem dL_sews_477 : decode cL_sews 477 = .ok (.invokestatic 149, 3) := by decide +kernel
theorem dL_sews_480 : decode cL_sews 480 = .ok (.iload 11, 2) := by decide +kernel
theorem dL_sews_482 : decode cL_sews 482 = .ok (.if_icmp .ne 19, 3) := by decide +kernel
theorem dL_sews_485 : decode cL_sews 485 = .ok (.aload_n 0, 1) := by decide +kernel
theorem dL_sews_486 : decode cL_sews 486 = .ok (.iload_n 3, 1) := by decide +kernel
theorem dL_sews_487 : decode cL_sews 487 = .ok (.iload 12, 2) := by decide +kernel
theorem dL_sews_489 : decode cL_sews 489 = .ok (.invokestatic 156, 3) := by decide +kernel
theorem dL_sews_492 : decode cL_sews 492 = .ok (.iload 13, 2) := by decide +kernel
theorem dL_sews_494 : decode cL_sews 494 = .ok (.if_icmp .ne 7, 3) := by decide +kernel
theorem dL_sews_497 : decode cL_sews 497 = .ok (.iconst 1, 1) := by decide +kernel
theorem dL_sews_498 : decode cL_sews 498 = .ok (.goto 4, 3) := by decide +kernel
theorem dL_sews_501 : decode cL_sews 501 = .ok (.iconst 0, 1) := by decide +kernel
theorem dL_sews_502 : decode cL_sews 502 = .ok (.ireturn, 1) := by decide +kernel
set_option maxRecDepth 20000 in
theorem ggL_isBook_L_swelling : GoodIn wsL_isBook wsL_swelling := goodIn_ca (goodIn_r _ [7, 8, 2, 9, 10, 11, 12, 13, 14, 15, 16, 17, 18, 19, 20, 21, 22, 23, 24, 25, 26, 27, 28, 29, 30, 31, 32, 33, 34, 35, 36, 37, 38, 39, 40, 41, 42, 43, 134, 135, 136, 137, 138, 139, 140, 141, 142, 143, 144, 145, 146, 147, 148, 149, 150, 151, 152, 153, 154, 155, 156, 157] (by decide +kernel) (by decide +kernel)) (goodIn_sub (fun _ h => List.mem_cons_of_mem _ (List.mem_append_left _ (List.mem_append_right _ h))) (by decide +kernel))
set_option maxRecDepth 20000 in
theorem gL_isBook_L_swelling : GoodIn wsL_isBook (va_wsS RL 151 yL_swelling wsL_swelling) := goodIn_app (goodIn_of _ (by decide +kernel)) ggL_isBook_L_swelling
set_option maxRecDepth 20000 in
theorem ggL_isBook_L_ofThread : GoodIn wsL_isBook wsL_ofThread := goodIn_ca (goodIn_ca (goodIn_r _ [46, 8, 47, 2, 1, 48, 49, 50, 12, 51, 14, 15, 16, 17, 18, 19, 20, 21, 22, 23, 52, 53, 54, 55, 56, 57, 58, 59, 27, 60, 61, 29, 62, 63, 64, 65, 66, 34, 39, 40, 41, 42, 43, 134, 135, 136, 137, 138, 139, 140, 148, 149, 150, 151, 152, 153, 154, 155, 156, 157, 141, 142, 143, 144, 145, 146, 147] (by decide +kernel) (by decide +kernel)) (goodIn_sub (fun _ h => List.mem_cons_of_mem _ (List.mem_append_left _ (List.mem_append_right _ h))) (by decide +kernel))) (goodIn_sub (fun _ h => List.mem_cons_of_mem _ (List.mem_append_right _ h)) (by decide +kernel))
set_option maxRecDepth 20000 in
theorem gL_isBook_L_ofThread : GoodIn wsL_isBook (va_wsS RL 149 yL_ofThread wsL_ofThread) := goodIn_app (goodIn_of _ (by decide +kernel)) ggL_isBook_L_ofThread
set_option maxRecDepth 20000 in
theorem ggL_isBook_L_isHeld : GoodIn wsL_isBook wsL_isHeld := goodIn_ca (goodIn_r _ [69, 8, 2, 70, 71, 72, 12, 73, 14, 15, 16, 17, 18, 19, 20, 21, 22, 23, 74, 75, 76, 77, 64, 65, 27, 66, 34, 39, 40, 41, 42, 43, 134, 135, 136, 137, 138, 139, 140, 148, 149, 150, 151, 152, 153, 154, 155, 156, 157, 141, 142, 143, 144, 145, 146, 147] (by decide +kernel) (by decide +kernel)) (goodIn_sub (fun _ h => List.mem_cons_of_mem _ (List.mem_append_left _ (List.mem_append_right _ h))) (by decide +kernel))
set_option maxRecDepth 20000 in
theorem gL_isBook_L_isHeld : GoodIn wsL_isBook (va_wsS RL 158 yL_isHeld wsL_isHeld) := goodIn_app (goodIn_of _ (by decide +kernel)) ggL_isBook_L_isHeld
set_option maxRecDepth 20000 in
theorem ggL_isBook_L_stitches : GoodIn wsL_isBook wsL_stitches := goodIn_ca (goodIn_r _ [80, 8, 2, 81, 82, 83, 12, 84, 14, 15, 16, 17, 18, 19, 20, 21, 22, 23, 74, 75, 76, 85, 40, 41, 27, 42, 43, 134, 135, 136, 137, 138, 139, 140, 148, 149, 150, 151, 152, 153, 154, 155, 156, 157, 141, 142, 143, 144, 145, 146, 147] (by decide +kernel) (by decide +kernel)) (goodIn_sub (fun _ h => List.mem_cons_of_mem _ (List.mem_append_left _ (List.mem_append_right _ h))) (by decide +kernel))
set_option maxRecDepth 20000 in
theorem gL_isBook_L_stitches : GoodIn wsL_isBook (va_wsS RL 160 yL_stitches wsL_stitches) := goodIn_app (goodIn_of _ (by decide +kernel)) ggL_isBook_L_stitches
set_option maxRecDepth 20000 in
theorem ggL_isBook_L_worst : GoodIn wsL_isBook wsL_worst := goodIn_ca (goodIn_r _ [88, 8, 2, 89, 90, 91, 12, 92, 14, 15, 16, 17, 18, 19, 20, 21, 22, 23, 93, 94, 95, 96, 97, 98, 99, 100, 101, 102, 103, 104, 37, 105, 106, 107, 108, 109, 110, 111, 141, 142, 143, 144, 145, 146, 147, 134, 135, 136, 137, 138, 139, 140] (by decide +kernel) (by decide +kernel)) (goodIn_sub (fun _ h => List.mem_cons_of_mem _ (List.mem_append_left _ (List.mem_append_right _ h))) (by decide +kernel))
set_option maxRecDepth 20000 in
theorem gL_isBook_L_worst : GoodIn wsL_isBook (va_wsS RL 162 yL_worst wsL_worst) := goodIn_app (goodIn_of _ (by decide +kernel)) ggL_isBook_L_worst
set_option maxRecDepth 20000 in
theorem ggL_isBook_L_strain : GoodIn wsL_isBook wsL_strain := goodIn_ca (goodIn_ca (goodIn_r _ [114, 8, 47, 2, 1, 115, 116, 117, 12, 118, 14, 15, 16, 17, 18, 19, 20, 21, 22, 23, 52, 53, 54, 55, 56, 119, 100, 101, 96, 102, 98, 103, 104, 37, 105, 106, 107, 108, 109, 110, 111, 24, 25, 26, 27, 28, 29, 30, 31, 32, 33, 34, 35, 36, 38, 39, 40, 41, 42, 43, 134, 135, 136, 137, 138, 139, 140, 141, 142, 143, 144, 145, 146, 147, 148, 149, 150, 151, 152, 153, 154, 155, 156, 157] (by decide +kernel) (by decide +kernel)) (goodIn_sub (fun _ h => List.mem_cons_of_mem _ (List.mem_append_left _ (List.mem_append_right _ h))) (by decide +kernel))) (goodIn_sub (fun _ h => List.mem_cons_of_mem _ (List.mem_append_right _ h)) (by decide +kernel))
set_option maxRecDepth 20000 in
theorem gL_isBook_L_strain : GoodIn wsL_isBook (va_wsS RL 164 yL_strain wsL_strain) := goodIn_app (goodIn_of _ (by decide +kernel)) ggL_isBook_L_strain
set_option maxRecDepth 20000 in
theorem ggL_isBook_L_opens : GoodIn wsL_isBook wsL_opens := goodIn_ca (goodIn_ca (goodIn_r _ [122, 8, 47, 2, 1, 123, 124, 125, 12, 126, 127, 14, 15, 16, 17, 18, 19, 20, 21, 22, 23, 52, 53, 54, 55, 56, 128, 129, 130, 96, 131, 132, 98, 133, 25, 26, 27, 28, 29, 30, 31, 32, 33, 34, 35, 36, 37, 38, 39, 40, 41, 42, 43, 99, 100, 101, 102, 103, 104, 105, 106, 107, 108, 109, 110, 111, 141, 142, 143, 144, 145, 146, 147, 134, 135, 136, 137, 138, 139, 140, 148, 149, 150, 151, 152, 153, 154, 155, 156, 157] (by decide +kernel) (by decide +kernel)) (goodIn_sub (fun _ h => List.mem_cons_of_mem _ (List.mem_append_left _ (List.mem_append_right _ h))) (by decide +kernel))) (goodIn_sub (fun _ h => List.mem_cons_of_mem _ (List.mem_append_right _ h)) (by decide +kernel))
set_option maxRecDepth 20000 in
theorem gL_isBook_L_opens : GoodIn wsL_isBook (va_wsS RL 167 yL_opens wsL_opens) := goodIn_app (goodIn_of _ (by decide +kernel)) ggL_isBook_L_opens
theorem dL_isBook_0 : decode cL_isBook 0 = .ok (.aload_n 1, 1) := by decide +kernel
theorem dL_isBook_1 : decode cL_isBook 1 = .ok (.bipush 6, 2) := by decide +kernel
