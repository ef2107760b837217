set_option maxRecDepth 20000 in
theorem gL_begins_L_year : GoodIn wsL_begins (va_wsS RL 182 yL_year wsL_year) := goodIn_app (goodIn_of _ (by decide +kernel)) ggL_begins_L_year
set_option maxRecDepth 20000 in
theorem ggL_begins_L_isBook_q0 : GoodIn wsL_begins (.code yL_isBook cL_isBook 13 (some .boolean) :: wsL_isBook_r1) := goodIn_r _ [162, 12, 48, 163, 164, 165, 4, 166, 47, 167, 168, 169, 16, 170, 143, 144, 145, 146, 57, 58, 93, 23, 24, 25, 171] (by decide +kernel) (by decide +kernel)
set_option maxRecDepth 20000 in
theorem ggL_begins_L_isBook_q1 : GoodIn wsL_begins (wsL_isBook_r2) := goodIn_r _ [172, 173, 112, 174, 134, 175, 176, 177, 178, 135, 179, 180, 181, 182, 183, 184, 185, 186, 131, 187, 188, 189, 10, 190] (by decide +kernel) (by decide +kernel)
set_option maxRecDepth 20000 in
theorem ggL_begins_L_isBook_q2 : GoodIn wsL_begins (wsL_isBook_r3) := goodIn_r _ [191, 192, 193, 26, 27, 28, 29, 30, 194, 195, 196, 197, 198, 132, 199, 200, 201, 202, 203, 204, 205, 206, 207, 208] (by decide +kernel) (by decide +kernel)
set_option maxRecDepth 20000 in
theorem ggL_begins_L_isBook_q3 : GoodIn wsL_begins (wsL_isBook_r4) := goodIn_r _ [209, 65, 66, 67, 210, 211, 212, 213, 214, 215, 216, 217, 218, 219, 220, 221, 222, 223, 224, 225, 226, 227, 228, 96] (by decide +kernel) (by decide +kernel)
set_option maxRecDepth 20000 in
theorem ggL_begins_L_isBook_q4 : GoodIn wsL_begins (wsL_isBook_r5) := goodIn_r _ [229, 114, 230, 231, 232, 233, 234, 235, 236, 115, 237, 238, 239, 240, 109, 241, 242, 243, 244, 245, 246, 247, 248, 249] (by decide +kernel) (by decide +kernel)
set_option maxRecDepth 20000 in
theorem ggL_begins_L_isBook_q5 : GoodIn wsL_begins (wsL_isBook_r6) := goodIn_r _ [250, 251, 252, 253, 254, 255, 256, 257, 258, 259, 260, 113, 261] (by decide +kernel) (by decide +kernel)
set_option maxRecDepth 20000 in
theorem ggL_begins_L_isBook_q6 : GoodIn wsL_begins (wsX10) := goodIn_r _ [270, 271, 272, 273, 274, 275, 276] (by decide +kernel) (by decide +kernel)
set_option maxRecDepth 20000 in
theorem ggL_begins_L_isBook_q7 : GoodIn wsL_begins (wsX70) := goodIn_r _ [262, 263, 264, 265, 266, 267, 268] (by decide +kernel) (by decide +kernel)
set_option maxRecDepth 20000 in
theorem ggL_begins_L_isBook_q8 : GoodIn wsL_begins (wsX40) := goodIn_r _ [283, 284, 285, 286, 287, 288, 289, 290, 291, 292] (by decide +kernel) (by decide +kernel)
set_option maxRecDepth 20000 in
theorem ggL_begins_L_isBook : GoodIn wsL_begins wsL_isBook := goodIn_ca (goodIn_ca (goodIn_ca (goodIn_ca (goodIn_ca (goodIn_ca ggL_begins_L_isBook_q0 (goodIn_app ggL_begins_L_isBook_q1 (goodIn_app ggL_begins_L_isBook_q2 (goodIn_app ggL_begins_L_isBook_q3 (goodIn_app ggL_begins_L_isBook_q4 ggL_begins_L_isBook_q5))))) ggL_begins_L_isBook_q6) ggL_begins_L_isBook_q7) ggL_begins_L_isBook_q8) (goodIn_sub (fun _ h => List.mem_cons_of_mem _ (List.mem_append_right _ h)) (by decide +kernel))) (goodIn_sub (fun _ h => List.mem_cons_of_mem _ (List.mem_append_left _ (List.mem_append_left _ (List.mem_append_right _ h)))) (by decide +kernel))
set_option maxRecDepth 20000 in
theorem gL_begins_L_isBook : GoodIn wsL_begins (va_wsS RL 192 yL_isBook wsL_isBook) := goodIn_app (goodIn_of _ (by decide +kernel)) ggL_begins_L_isBook
theorem dL_begins_0 : decode cL_begins 0 = .ok (.iload 4, 2) := by decide +kernel
theorem dL_begins_2 : decode cL_begins 2 = .ok (.iconst 3, 1) := by decide +kernel
theorem dL_begins_3 : decode cL_begins 3 = .ok (.invokestatic 125, 3) := by decide +kernel
theorem dL_begins_6 : decode cL_begins 6 = .ok (.ifCond .ne 110, 3) := by decide +kernel
theorem dL_begins_9 : decode cL_begins 9 = .ok (.bipush 8, 2) := by decide +kernel
theorem dL_begins_11 : decode cL_begins 11 = .ok (.iload 5, 2) := by decide +kernel
theorem dL_begins_13 : decode cL_begins 13 = .ok (.bipush 23, 2) := by decide +kernel
theorem dL_begins_15 : decode cL_begins 15 = .ok (.invokestatic 125, 3) := by decide +kernel
theorem dL_begins_18 : decode cL_begins 18 = .ok (.iadd, 1) := by decide +kernel
theorem dL_begins_19 : decode cL_begins 19 = .ok (.istore 6, 2) := by decide +kernel
theorem dL_begins_21 : decode cL_begins 21 = .ok (.aload_n 0, 1) := by decide +kernel
theorem dL_begins_22 : decode cL_begins 22 = .ok (.iload 6, 2) := by decide +kernel
theorem dL_begins_24 : decode cL_begins 24 = .ok (.invokestatic 187, 3) := by decide +kernel
theorem dL_begins_27 : decode cL_begins 27 = .ok (.istore 7, 2) := by decide +kernel
theorem dL_begins_29 : decode cL_begins 29 = .ok (.aload_n 1, 1) := by decide +kernel
theorem dL_begins_30 : decode cL_begins 30 = .ok (.iconst 2, 1) := by decide +kernel
theorem dL_begins_31 : decode cL_begins 31 = .ok (.iaload, 1) := by decide +kernel
theorem dL_begins_32 : decode cL_begins 32 = .ok (.iconst 3, 1) := by decide +kernel
theorem dL_begins_33 : decode cL_begins 33 = .ok (.if_icmp .ne 16, 3) := by decide +kernel
theorem dL_begins_36 : decode cL_begins 36 = .ok (.iload 7, 2) := by decide +kernel
theorem dL_begins_38 : decode cL_begins 38 = .ok (.ldc 32, 2) := by decide +kernel
theorem dL_begins_40 : decode cL_begins 40 = .ok (.if_icmp .ne 7, 3) := by decide +kernel
theorem dL_begins_43 : decode cL_begins 43 = .ok (.iconst 1, 1) := by decide +kernel
theorem dL_begins_44 : decode cL_begins 44 = .ok (.goto 4, 3) := by decide +kernel
theorem dL_begins_47 : decode cL_begins 47 = .ok (.iconst 0, 1) := by decide +kernel
theorem dL_begins_48 : decode cL_begins 48 = .ok (.ireturn, 1) := by decide +kernel
theorem dL_begins_49 : decode cL_begins 49 = .ok (.aload_n 3, 1) := by decide +kernel
theorem dL_begins_50 : decode cL_begins 50 = .ok (.aload_n 1, 1) := by decide +kernel
theorem dL_begins_51 : decode cL_begins 51 = .ok (.iconst 2, 1) := by decide +kernel
theorem dL_begins_52 : decode cL_begins 52 = .ok (.iaload, 1) := by decide +kernel
theorem dL_begins_53 : decode cL_begins 53 = .ok (.iload 6, 2) := by decide +kernel
theorem dL_begins_55 : decode cL_begins 55 = .ok (.iastore, 1) := by decide +kernel
theorem dL_begins_56 : decode cL_begins 56 = .ok (.aload_n 1, 1) := by decide +kernel
theorem dL_begins_57 : decode cL_begins 57 = .ok (.iconst 2, 1) := by decide +kernel
theorem dL_begins_58 : decode cL_begins 58 = .ok (.dup2, 1) := by decide +kernel
theorem dL_begins_59 : decode cL_begins 59 = .ok (.iaload, 1) := by decide +kernel
theorem dL_begins_60 : decode cL_begins 60 = .ok (.iconst 1, 1) := by decide +kernel
theorem dL_begins_61 : decode cL_begins 61 = .ok (.iadd, 1) := by decide +kernel
theorem dL_begins_62 : decode cL_begins 62 = .ok (.iastore, 1) := by decide +kernel
theorem dL_begins_63 : decode cL_begins 63 = .ok (.iload 7, 2) := by decide +kernel
theorem dL_begins_65 : decode cL_begins 65 = .ok (.aload_n 1, 1) := by decide +kernel
theorem dL_begins_66 : decode cL_begins 66 = .ok (.iconst 2, 1) := by decide +kernel
theorem dL_begins_67 : decode cL_begins 67 = .ok (.iaload, 1) := by decide +kernel
theorem dL_begins_68 : decode cL_begins 68 = .ok (.iconst 1, 1) := by decide +kernel
theorem dL_begins_69 : decode cL_begins 69 = .ok (.isub, 1) := by decide +kernel
theorem dL_begins_70 : decode cL_begins 70 = .ok (.if_icmp .ne 44, 3) := by decide +kernel
theorem dL_begins_73 : decode cL_begins 73 = .ok (.aload_n 0, 1) := by decide +kernel
theorem dL_begins_74 : decode cL_begins 74 = .ok (.iload 7, 2) := by decide +kernel
theorem dL_begins_76 : decode cL_begins 76 = .ok (.bipush 7, 2) := by decide +kernel
theorem dL_begins_78 : decode cL_begins 78 = .ok (.iconst 0, 1) := by decide +kernel
theorem dL_begins_79 : decode cL_begins 79 = .ok (.invokestatic 169, 3) := by decide +kernel
theorem dL_begins_82 : decode cL_begins 82 = .ok (.iload 6, 2) := by decide +kernel
theorem dL_begins_84 : decode cL_begins 84 = .ok (.if_icmp .ne 30, 3) := by decide +kernel
theorem dL_begins_87 : decode cL_begins 87 = .ok (.aload_n 0, 1) := by decide +kernel
theorem dL_begins_88 : decode cL_begins 88 = .ok (.iload 7, 2) := by decide +kernel
theorem dL_begins_90 : decode cL_begins 90 = .ok (.invokestatic 171, 3) := by decide +kernel
theorem dL_begins_93 : decode cL_begins 93 = .ok (.iload 6, 2) := by decide +kernel
theorem dL_begins_95 : decode cL_begins 95 = .ok (.bipush 12, 2) := by decide +kernel
theorem dL_begins_97 : decode cL_begins 97 = .ok (.if_icmp .le 8, 3) := by decide +kernel
theorem dL_begins_100 : decode cL_begins 100 = .ok (.bipush 64, 2) := by decide +kernel
theorem dL_begins_102 : decode cL_begins 102 = .ok (.goto 5, 3) := by decide +kernel
theorem dL_begins_105 : decode cL_begins 105 = .ok (.bipush 28, 2) := by decide +kernel
theorem dL_begins_107 : decode cL_begins 107 = .ok (.if_icmp .ne 7, 3) := by decide +kernel
theorem dL_begins_110 : decode cL_begins 110 = .ok (.iconst 1, 1) := by decide +kernel
theorem dL_begins_111 : decode cL_begins 111 = .ok (.goto 4, 3) := by decide +kernel
theorem dL_begins_114 : decode cL_begins 114 = .ok (.iconst 0, 1) := by decide +kernel
theorem dL_begins_115 : decode cL_begins 115 = .ok (.ireturn, 1) := by decide +kernel
theorem dL_begins_116 : decode cL_begins 116 = .ok (.bipush 6, 2) := by decide +kernel
theorem dL_begins_118 : decode cL_begins 118 = .ok (.aload_n 1, 1) := by decide +kernel
theorem dL_begins_119 : decode cL_begins 119 = .ok (.iconst 1, 1) := by decide +kernel
theorem dL_begins_120 : decode cL_begins 120 = .ok (.iaload, 1) := by decide +kernel
theorem dL_begins_121 : decode cL_begins 121 = .ok (.iconst 4, 1) := by decide +kernel
theorem dL_begins_122 : decode cL_begins 122 = .ok (.if_icmp .ge 9, 3) := by decide +kernel
theorem dL_begins_125 : decode cL_begins 125 = .ok (.aload_n 1, 1) := by decide +kernel
theorem dL_begins_126 : decode cL_begins 126 = .ok (.iconst 1, 1) := by decide +kernel
theorem dL_begins_127 : decode cL_begins 127 = .ok (.iaload, 1) := by decide +kernel
theorem dL_begins_128 : decode cL_begins 128 = .ok (.goto 4, 3) := by decide +kernel
theorem dL_begins_131 : decode cL_begins 131 = .ok (.iconst 0, 1) := by decide +kernel
theorem dL_begins_132 : decode cL_begins 132 = .ok (.imul, 1) := by decide +kernel
theorem dL_begins_133 : decode cL_begins 133 = .ok (.istore 6, 2) := by decide +kernel
theorem dL_begins_135 : decode cL_begins 135 = .ok (.iconst 1, 1) := by decide +kernel
theorem dL_begins_136 : decode cL_begins 136 = .ok (.iload 5, 2) := by decide +kernel
theorem dL_begins_138 : decode cL_begins 138 = .ok (.bipush 8, 2) := by decide +kernel
theorem dL_begins_140 : decode cL_begins 140 = .ok (.invokestatic 125, 3) := by decide +kernel
theorem dL_begins_143 : decode cL_begins 143 = .ok (.iadd, 1) := by decide +kernel
theorem dL_begins_144 : decode cL_begins 144 = .ok (.istore 7, 2) := by decide +kernel
theorem dL_begins_146 : decode cL_begins 146 = .ok (.iconst 2, 1) := by decide +kernel
theorem dL_begins_147 : decode cL_begins 147 = .ok (.iload 5, 2) := by decide +kernel
theorem dL_begins_149 : decode cL_begins 149 = .ok (.iconst 3, 1) := by decide +kernel
theorem dL_begins_150 : decode cL_begins 150 = .ok (.ishr, 1) := by decide +kernel
theorem dL_begins_151 : decode cL_begins 151 = .ok (.bipush 15, 2) := by decide +kernel
theorem dL_begins_153 : decode cL_begins 153 = .ok (.invokestatic 125, 3) := by decide +kernel
theorem dL_begins_156 : decode cL_begins 156 = .ok (.iadd, 1) := by decide +kernel
theorem dL_begins_157 : decode cL_begins 157 = .ok (.istore 8, 2) := by decide +kernel
theorem dL_begins_159 : decode cL_begins 159 = .ok (.iconst 3, 1) := by decide +kernel
theorem dL_begins_160 : decode cL_begins 160 = .ok (.iload 5, 2) := by decide +kernel
theorem dL_begins_162 : decode cL_begins 162 = .ok (.bipush 7, 2) := by decide +kernel
theorem dL_begins_164 : decode cL_begins 164 = .ok (.ishr, 1) := by decide +kernel
theorem dL_begins_165 : decode cL_begins 165 = .ok (.iconst 4, 1) := by decide +kernel
theorem dL_begins_166 : decode cL_begins 166 = .ok (.invokestatic 125, 3) := by decide +kernel
theorem dL_begins_169 : decode cL_begins 169 = .ok (.iadd, 1) := by decide +kernel
theorem dL_begins_170 : decode cL_begins 170 = .ok (.istore 9, 2) := by decide +kernel
theorem dL_begins_172 : decode cL_begins 172 = .ok (.iconst 1, 1) := by decide +kernel
theorem dL_begins_173 : decode cL_begins 173 = .ok (.iload 5, 2) := by decide +kernel
theorem dL_begins_175 : decode cL_begins 175 = .ok (.bipush 9, 2) := by decide +kernel
theorem dL_begins_177 : decode cL_begins 177 = .ok (.ishr, 1) := by decide +kernel
theorem dL_begins_178 : decode cL_begins 178 = .ok (.bipush 9, 2) := by decide +kernel
theorem dL_begins_180 : decode cL_begins 180 = .ok (.invokestatic 125, 3) := by decide +kernel
theorem dL_begins_183 : decode cL_begins 183 = .ok (.iadd, 1) := by decide +kernel
theorem dL_begins_184 : decode cL_begins 184 = .ok (.istore 10, 2) := by decide +kernel
theorem dL_begins_186 : decode cL_begins 186 = .ok (.iload 5, 2) := by decide +kernel
theorem dL_begins_188 : decode cL_begins 188 = .ok (.bipush 13, 2) := by decide +kernel
theorem dL_begins_190 : decode cL_begins 190 = .ok (.ishr, 1) := by decide +kernel
theorem dL_begins_191 : decode cL_begins 191 = .ok (.iconst 2, 1) := by decide +kernel
theorem dL_begins_192 : decode cL_begins 192 = .ok (.invokestatic 125, 3) := by decide +kernel
theorem dL_begins_195 : decode cL_begins 195 = .ok (.istore 11, 2) := by decide +kernel
theorem dL_begins_197 : decode cL_begins 197 = .ok (.aload_n 0, 1) := by decide +kernel
theorem dL_begins_198 : decode cL_begins 198 = .ok (.iload 7, 2) := by decide +kernel
theorem dL_begins_200 : decode cL_begins 200 = .ok (.iload 8, 2) := by decide +kernel
theorem dL_begins_202 : decode cL_begins 202 = .ok (.iload 9, 2) := by decide +kernel
theorem dL_begins_204 : decode cL_begins 204 = .ok (.iload 10, 2) := by decide +kernel
theorem dL_begins_206 : decode cL_begins 206 = .ok (.iload 11, 2) := by decide +kernel
theorem dL_begins_208 : decode cL_begins 208 = .ok (.iconst 1, 1) := by decide +kernel
theorem dL_begins_209 : decode cL_begins 209 = .ok (.if_icmp .ne 7, 3) := by decide +kernel
theorem dL_begins_212 : decode cL_begins 212 = .ok (.iconst 1, 1) := by decide +kernel
theorem dL_begins_213 : decode cL_begins 213 = .ok (.goto 4, 3) := by decide +kernel
theorem dL_begins_216 : decode cL_begins 216 = .ok (.iconst 0, 1) := by decide +kernel
theorem dL_begins_217 : decode cL_begins 217 = .ok (.invokestatic 189, 3) := by decide +kernel
theorem dL_begins_220 : decode cL_begins 220 = .ok (.istore 12, 2) := by decide +kernel
theorem dL_begins_222 : decode cL_begins 222 = .ok (.aload_n 1, 1) := by decide +kernel
theorem dL_begins_223 : decode cL_begins 223 = .ok (.iconst 1, 1) := by decide +kernel
theorem dL_begins_224 : decode cL_begins 224 = .ok (.iaload, 1) := by decide +kernel
theorem dL_begins_225 : decode cL_begins 225 = .ok (.iconst 4, 1) := by decide +kernel
theorem dL_begins_226 : decode cL_begins 226 = .ok (.if_icmp .ne 16, 3) := by decide +kernel
theorem dL_begins_229 : decode cL_begins 229 = .ok (.iload 12, 2) := by decide +kernel
theorem dL_begins_231 : decode cL_begins 231 = .ok (.ldc 32, 2) := by decide +kernel
theorem dL_begins_233 : decode cL_begins 233 = .ok (.if_icmp .ne 7, 3) := by decide +kernel
theorem dL_begins_236 : decode cL_begins 236 = .ok (.iconst 1, 1) := by decide +kernel
theorem dL_begins_237 : decode cL_begins 237 = .ok (.goto 4, 3) := by decide +kernel
theorem dL_begins_240 : decode cL_begins 240 = .ok (.iconst 0, 1) := by decide +kernel
theorem dL_begins_241 : decode cL_begins 241 = .ok (.ireturn, 1) := by decide +kernel
theorem dL_begins_242 : decode cL_begins 242 = .ok (.aload_n 2, 1) := by decide +kernel
theorem dL_begins_243 : decode cL_begins 243 = .ok (.iload 6, 2) := by decide +kernel
theorem dL_begins_245 : decode cL_begins 245 = .ok (.iload 7, 2) := by decide +kernel
theorem dL_begins_247 : decode cL_begins 247 = .ok (.iastore, 1) := by decide +kernel
theorem dL_begins_248 : decode cL_begins 248 = .ok (.aload_n 2, 1) := by decide +kernel
theorem dL_begins_249 : decode cL_begins 249 = .ok (.iload 6, 2) := by decide +kernel
theorem dL_begins_251 : decode cL_begins 251 = .ok (.iconst 1, 1) := by decide +kernel
theorem dL_begins_252 : decode cL_begins 252 = .ok (.iadd, 1) := by decide +kernel
theorem dL_begins_253 : decode cL_begins 253 = .ok (.iload 8, 2) := by decide +kernel
theorem dL_begins_255 : decode cL_begins 255 = .ok (.iastore, 1) := by decide +kernel
theorem dL_begins_256 : decode cL_begins 256 = .ok (.aload_n 2, 1) := by decide +kernel
theorem dL_begins_257 : decode cL_begins 257 = .ok (.iload 6, 2) := by decide +kernel
theorem dL_begins_259 : decode cL_begins 259 = .ok (.iconst 2, 1) := by decide +kernel
theorem dL_begins_260 : decode cL_begins 260 = .ok (.iadd, 1) := by decide +kernel
theorem dL_begins_261 : decode cL_begins 261 = .ok (.iload 9, 2) := by decide +kernel
theorem dL_begins_263 : decode cL_begins 263 = .ok (.iastore, 1) := by decide +kernel
theorem dL_begins_264 : decode cL_begins 264 = .ok (.aload_n 2, 1) := by decide +kernel
theorem dL_begins_265 : decode cL_begins 265 = .ok (.iload 6, 2) := by decide +kernel
theorem dL_begins_267 : decode cL_begins 267 = .ok (.iconst 3, 1) := by decide +kernel
theorem dL_begins_268 : decode cL_begins 268 = .ok (.iadd, 1) := by decide +kernel
theorem dL_begins_269 : decode cL_begins 269 = .ok (.iload 10, 2) := by decide +kernel
theorem dL_begins_271 : decode cL_begins 271 = .ok (.iastore, 1) := by decide +kernel
theorem dL_begins_272 : decode cL_begins 272 = .ok (.aload_n 2, 1) := by decide +kernel
theorem dL_begins_273 : decode cL_begins 273 = .ok (.iload 6, 2) := by decide +kernel
theorem dL_begins_275 : decode cL_begins 275 = .ok (.iconst 4, 1) := by decide +kernel
theorem dL_begins_276 : decode cL_begins 276 = .ok (.iadd, 1) := by decide +kernel
theorem dL_begins_277 : decode cL_begins 277 = .ok (.iload 11, 2) := by decide +kernel
theorem dL_begins_279 : decode cL_begins 279 = .ok (.iastore, 1) := by decide +kernel
theorem dL_begins_280 : decode cL_begins 280 = .ok (.aload_n 1, 1) := by decide +kernel
theorem dL_begins_281 : decode cL_begins 281 = .ok (.iconst 1, 1) := by decide +kernel
theorem dL_begins_282 : decode cL_begins 282 = .ok (.dup2, 1) := by decide +kernel
theorem dL_begins_283 : decode cL_begins 283 = .ok (.iaload, 1) := by decide +kernel
theorem dL_begins_284 : decode cL_begins 284 = .ok (.iconst 1, 1) := by decide +kernel
theorem dL_begins_285 : decode cL_begins 285 = .ok (.iadd, 1) := by decide +kernel
theorem dL_begins_286 : decode cL_begins 286 = .ok (.iastore, 1) := by decide +kernel
theorem dL_begins_287 : decode cL_begins 287 = .ok (.iload 12, 2) := by decide +kernel
theorem dL_begins_289 : decode cL_begins 289 = .ok (.aload_n 1, 1) := by decide +kernel
theorem dL_begins_290 : decode cL_begins 290 = .ok (.iconst 1, 1) := by decide +kernel
theorem dL_begins_291 : decode cL_begins 291 = .ok (.iaload, 1) := by decide +kernel
theorem dL_begins_292 : decode cL_begins 292 = .ok (.iconst 1, 1) := by decide +kernel
theorem dL_begins_293 : decode cL_begins 293 = .ok (.isub, 1) := by decide +kernel
theorem dL_begins_294 : decode cL_begins 294 = .ok (.if_icmp .ne 28, 3) := by decide +kernel
theorem dL_begins_297 : decode cL_begins 297 = .ok (.aload_n 0, 1) := by decide +kernel
theorem dL_begins_298 : decode cL_begins 298 = .ok (.iload 12, 2) := by decide +kernel
theorem dL_begins_300 : decode cL_begins 300 = .ok (.iconst 1, 1) := by decide +kernel
theorem dL_begins_301 : decode cL_begins 301 = .ok (.invokestatic 182, 3) := by decide +kernel
theorem dL_begins_304 : decode cL_begins 304 = .ok (.iconst (-1), 1) := by decide +kernel
theorem dL_begins_305 : decode cL_begins 305 = .ok (.if_icmp .ne 17, 3) := by decide +kernel
theorem dL_begins_308 : decode cL_begins 308 = .ok (.aload_n 0, 1) := by decide +kernel
theorem dL_begins_309 : decode cL_begins 309 = .ok (.aload_n 2, 1) := by decide +kernel
theorem dL_begins_310 : decode cL_begins 310 = .ok (.iload 12, 2) := by decide +kernel
theorem dL_begins_312 : decode cL_begins 312 = .ok (.invokestatic 192, 3) := by decide +kernel
theorem dL_begins_315 : decode cL_begins 315 = .ok (.ifCond .eq 7, 3) := by decide +kernel
theorem dL_begins_318 : decode cL_begins 318 = .ok (.iconst 1, 1) := by decide +kernel
theorem dL_begins_319 : decode cL_begins 319 = .ok (.goto 4, 3) := by decide +kernel
theorem dL_begins_322 : decode cL_begins 322 = .ok (.iconst 0, 1) := by decide +kernel
theorem dL_begins_323 : decode cL_begins 323 = .ok (.ireturn, 1) := by decide +kernel
set_option maxRecDepth 20000 in
theorem ggL_acts_L_low : GoodIn wsL_acts wsL_low := goodIn_r _ [4, 5] (by decide +kernel) (by decide +kernel)
set_option maxRecDepth 20000 in
theorem gL_acts_L_low : GoodIn wsL_acts (va_wsS RL 125 yL_low wsL_low) := goodIn_app (goodIn_of _ (by decide +kernel)) ggL_acts_L_low
set_option maxRecDepth 20000 in
theorem ggL_acts_L_begins_q0 : GoodIn wsL_acts (.code yL_begins cL_begins 13 (some .boolean) :: wsL_begins_r1) := goodIn_r _ [8, 9, 1, 2, 3, 4, 5, 10, 11, 12, 13, 14, 15, 16, 17, 18, 19, 20, 21, 22, 23, 24, 25, 26, 27] (by decide +kernel) (by decide +kernel)
set_option maxRecDepth 20000 in
theorem ggL_acts_L_begins_q1 : GoodIn wsL_acts (wsL_begins_r2) := goodIn_r _ [28, 29, 30, 31, 32, 33, 34, 35, 36, 37, 38, 39, 40, 41, 42, 43, 44, 45, 46, 47, 48, 49, 50, 51] (by decide +kernel) (by decide +kernel)
set_option maxRecDepth 20000 in
theorem ggL_acts_L_begins_q2 : GoodIn wsL_acts (wsL_begins_r3) := goodIn_r _ [52, 53, 54, 55, 56, 57, 58, 59, 60, 61, 62, 63, 64, 65, 66, 67, 68, 69, 70, 71, 72, 73, 74, 75] (by decide +kernel) (by decide +kernel)
set_option maxRecDepth 20000 in
theorem ggL_acts_L_begins_q3 : GoodIn wsL_acts (wsL_begins_r4) := goodIn_r _ [76, 77, 78, 79, 80, 81, 82, 83, 84, 85, 86, 87, 88, 89, 90, 91, 92, 93, 94, 95, 96, 97, 98, 99] (by decide +kernel) (by decide +kernel)
set_option maxRecDepth 20000 in
theorem ggL_acts_L_begins_q4 : GoodIn wsL_acts (wsL_begins_r5) := goodIn_r _ [100, 101, 102, 103, 104, 105, 106, 107, 108, 109, 110, 111, 112, 113, 114, 115, 116, 117, 118, 119, 120, 121, 122, 123] (by decide +kernel) (by decide +kernel)
set_option maxRecDepth 20000 in
theorem ggL_acts_L_begins_q5 : GoodIn wsL_acts (wsL_begins_r6) := goodIn_r _ [124, 125, 126, 127, 128, 129, 130, 131, 132, 133, 134, 135, 136, 137, 138, 139, 140, 141, 142, 143, 144, 145, 146, 147] (by decide +kernel) (by decide +kernel)
set_option maxRecDepth 20000 in
theorem ggL_acts_L_begins_q6_0 : GoodIn wsL_acts ([.selects RX7 yX7_bookOf yX7_bookOf, .code yX7_bookOf cX7_bookOf 3 (some (.object "MarbleBench$Book")), .methodLink RX7 245 yX6_firstByEnds, .instanceMethod yX6_firstByEnds, .selects RX6 yX6_firstByEnds yX6_firstByEnds, .code yX6_firstByEnds cX6_firstByEnds 5 (some .int), .fieldLink RX6 21 "MarbleBench$Speakers" "number" "I", .methodLink RX6 29 yX6_weightIn, .instanceMethod yX6_weightIn, .selects RX6 yX6_weightIn yX6_weightIn, .code yX6_weightIn cX6_weightIn 4 (some .int), .methodLink RX7 248 yX6_lastByEnds, .instanceMethod yX6_lastByEnds, .selects RX6 yX6_lastByEnds yX6_lastByEnds, .code yX6_lastByEnds cX6_lastByEnds 5 (some .int), .methodLink RL 192 yL_isBook, .static yL_isBook] : List Cond) := goodIn_r _ [148, 149, 150, 151, 152, 153, 154, 155, 156, 157, 158, 159, 160, 161, 162, 163, 164] (by decide +kernel) (by decide +kernel)
set_option maxRecDepth 20000 in
theorem ggL_acts_L_begins_q6_1 : GoodIn wsL_acts ([.code yL_isBook cL_isBook 13 (some .boolean), .constant RL 166 (100000), .methodLink RL 151 yL_swelling, .static yL_swelling, .codeWith yL_swelling cL_swelling 3 (some .int) [(0, 5, 6, 16)], .methodLink RL 74 yX7_swelling, .instanceMethod yX7_swelling] : List Cond) := goodIn_r _ [165, 166, 167, 168, 169, 170, 171] (by decide +kernel) (by decide +kernel)
set_option maxRecDepth 20000 in
theorem ggL_acts_L_begins_q6 : GoodIn wsL_acts (wsL_begins_r7) := goodIn_app ggL_acts_L_begins_q6_0 ggL_acts_L_begins_q6_1
set_option maxRecDepth 20000 in
theorem ggL_acts_L_begins_q7 : GoodIn wsL_acts (wsL_begins_r8) := goodIn_r _ [172, 173, 174, 175, 176, 177, 178, 179, 180, 181, 182, 183, 184, 185, 186, 187, 188, 189, 190, 191, 192, 193, 194, 195] (by decide +kernel) (by decide +kernel)
set_option maxRecDepth 20000 in
theorem ggL_acts_L_begins_q8 : GoodIn wsL_acts (wsL_begins_r9) := goodIn_r _ [196, 197, 198, 199, 200, 201, 202, 203, 204, 205, 206, 207, 208, 209, 210, 211, 212, 213, 214, 215, 216, 217, 218, 219] (by decide +kernel) (by decide +kernel)
set_option maxRecDepth 20000 in
theorem ggL_acts_L_begins_q9 : GoodIn wsL_acts (wsL_begins_r10) := goodIn_r _ [220, 221, 222, 223, 224, 225, 226, 227, 228, 229, 230, 231, 232, 233, 234, 235, 236, 237, 238, 239, 240, 241, 242, 243] (by decide +kernel) (by decide +kernel)
set_option maxRecDepth 20000 in
theorem ggL_acts_L_begins_q10 : GoodIn wsL_acts (wsL_begins_r11) := goodIn_r _ [244, 245, 246, 247, 248, 249, 250, 251, 252, 253, 254, 255, 256, 257, 258, 259, 260, 261, 262, 263, 264] (by decide +kernel) (by decide +kernel)
set_option maxRecDepth 20000 in
theorem ggL_acts_L_begins_q11 : GoodIn wsL_acts (wsX70) := goodIn_r _ [537, 538, 539, 540, 541, 542, 543] (by decide +kernel) (by decide +kernel)
set_option maxRecDepth 20000 in
theorem ggL_acts_L_begins_q12 : GoodIn wsL_acts (wsX50) := goodIn_r _ [544] (by decide +kernel) (by decide +kernel)
set_option maxRecDepth 20000 in
theorem ggL_acts_L_begins_q13 : GoodIn wsL_acts (wsX10) := goodIn_r _ [545, 546, 547, 548, 549, 550, 551] (by decide +kernel) (by decide +kernel)
set_option maxRecDepth 20000 in
theorem ggL_acts_L_begins_q14 : GoodIn wsL_acts (wsX30) := goodIn_r _ [552, 553] (by decide +kernel) (by decide +kernel)
set_option maxRecDepth 20000 in
theorem ggL_acts_L_begins_q15 : GoodIn wsL_acts (wsX60) := goodIn_r _ [554, 555, 556, 557] (by decide +kernel) (by decide +kernel)
set_option maxRecDepth 20000 in
theorem ggL_acts_L_begins_q16 : GoodIn wsL_acts (wsX40) := goodIn_r _ [558, 559, 560, 561, 562, 563, 564, 565, 566, 567] (by decide +kernel) (by decide +kernel)
set_option maxRecDepth 20000 in
theorem ggL_acts_L_begins : GoodIn wsL_acts wsL_begins := goodIn_ca (goodIn_ca (goodIn_ca (goodIn_ca (goodIn_ca (goodIn_ca (goodIn_ca (goodIn_ca (goodIn_ca (goodIn_ca ggL_acts_L_begins_q0 (goodIn_app ggL_acts_L_begins_q1 (goodIn_app ggL_acts_L_begins_q2 (goodIn_app ggL_acts_L_begins_q3 (goodIn_app ggL_acts_L_begins_q4 (goodIn_app ggL_acts_L_begins_q5 (goodIn_app ggL_acts_L_begins_q6 (goodIn_app ggL_acts_L_begins_q7 (goodIn_app ggL_acts_L_begins_q8 (goodIn_app ggL_acts_L_begins_q9 ggL_acts_L_begins_q10)))))))))) ggL_acts_L_begins_q11) ggL_acts_L_begins_q12) ggL_acts_L_begins_q13) ggL_acts_L_begins_q14) ggL_acts_L_begins_q15) ggL_acts_L_begins_q16) (goodIn_sub (fun _ h => List.mem_cons_of_mem _ (List.mem_append_left _ (List.mem_append_left _ (List.mem_append_right _ h)))) (by decide +kernel))) (goodIn_sub (fun _ h => List.mem_cons_of_mem _ (List.mem_append_left _ (List.mem_append_right _ h))) (by decide +kernel))) (goodIn_sub (fun _ h => List.mem_cons_of_mem _ (List.mem_append_right _ h)) (by decide +kernel))
set_option maxRecDepth 20000 in
theorem gL_acts_L_begins : GoodIn wsL_acts (va_wsS RL 196 yL_begins wsL_begins) := goodIn_app (goodIn_of _ (by decide +kernel)) ggL_acts_L_begins
set_option maxRecDepth 20000 in
theorem ggL_acts_L_paints_q0_0 : GoodIn wsL_acts ([.code yL_paints cL_paints 12 (some .boolean), .constant RL 32 (-1000003), .methodLink RL 121 yL_coloured, .static yL_coloured, .initialized RL] : List Cond) := goodIn_r _ [267, 9, 268, 269, 3] (by decide +kernel) (by decide +kernel)
set_option maxRecDepth 20000 in
theorem ggL_acts_L_paints_q0_1 : GoodIn wsL_acts ([.code yL_coloured cL_coloured 5 (some .int), .methodLink RL 116 yL_cellAt, .static yL_cellAt, .codeWith yL_cellAt cL_cellAt 5 (some .int) [(0, 7, 8, 16), (0, 7, 13, 19)], .classLink RL 16 "java/lang/IndexOutOfBoundsException", .classLink RL 19 "java/lang/IllegalArgumentException", .constant RL 18 (-1000001), .constant RL 21 (-1000002), .methodLink RL 33 yX7_cellAt, .instanceMethod yX7_cellAt, .selects RX7 yX7_cellAt yX7_cellAt, .initialized RX7, .code yX7_cellAt cX7_cellAt 5 (some .int), .fieldLink RX7 12 "MarbleBench" "bath" "LMarbleBench$Bath;", .methodLink RX7 34 yX7_isOnGrid, .static yX7_isOnGrid, .code yX7_isOnGrid cX7_isOnGrid 2 (some .boolean), .methodLink RX7 53 yX7_isOnSide, .static yX7_isOnSide, .code yX7_isOnSide cX7_isOnSide 1 (some .boolean)] : List Cond) := goodIn_r _ [270, 271, 272, 273, 50, 13, 51, 15, 274, 275, 276, 19, 277, 278, 62, 63, 64, 65, 66, 67] (by decide +kernel) (by decide +kernel)
set_option maxRecDepth 20000 in
theorem ggL_acts_L_paints_q0 : GoodIn wsL_acts (.code yL_paints cL_paints 12 (some .boolean) :: wsL_paints_r1) := goodIn_app ggL_acts_L_paints_q0_0 ggL_acts_L_paints_q0_1
set_option maxRecDepth 20000 in
theorem ggL_acts_L_paints_q1 : GoodIn wsL_acts (wsL_paints_r2) := goodIn_r _ [26, 27, 28, 68, 69, 70, 60, 61, 29, 30, 31, 32, 33, 71, 72, 73, 1, 2, 4, 5, 279, 280, 281, 282] (by decide +kernel) (by decide +kernel)
set_option maxRecDepth 20000 in
theorem ggL_acts_L_paints_q2 : GoodIn wsL_acts (wsL_paints_r3) := goodIn_r _ [283, 284, 285, 286, 287, 288, 289, 290, 291, 292, 293, 294, 295, 296, 297, 298, 299, 300, 301, 302, 303, 304, 305, 306] (by decide +kernel) (by decide +kernel)
set_option maxRecDepth 20000 in
theorem ggL_acts_L_paints_q3 : GoodIn wsL_acts (wsL_paints_r4) := goodIn_r _ [307, 308, 309, 310, 311, 312, 313, 314, 315, 316, 317, 318, 319, 320, 14, 321, 322, 323, 324, 325, 326, 34, 35, 36] (by decide +kernel) (by decide +kernel)
set_option maxRecDepth 20000 in
theorem ggL_acts_L_paints_q4 : GoodIn wsL_acts (wsL_paints_r5) := goodIn_r _ [37, 38, 327, 328, 329, 330, 331, 332, 333, 334, 335, 336, 43, 44, 45, 337, 338, 339, 340, 341, 342, 343, 344, 345] (by decide +kernel) (by decide +kernel)
set_option maxRecDepth 20000 in
theorem ggL_acts_L_paints_q5 : GoodIn wsL_acts (wsL_paints_r6) := goodIn_r _ [346, 347, 348, 349, 350, 351, 352, 353, 354, 355, 356, 357, 358, 359, 360, 361, 362, 363, 364, 365, 366, 367, 368, 369] (by decide +kernel) (by decide +kernel)
set_option maxRecDepth 20000 in
theorem ggL_acts_L_paints_q6 : GoodIn wsL_acts (wsL_paints_r7) := goodIn_r _ [370, 371] (by decide +kernel) (by decide +kernel)
set_option maxRecDepth 20000 in
theorem ggL_acts_L_paints_q7 : GoodIn wsL_acts (wsX70) := goodIn_r _ [537, 538, 539, 540, 541, 542, 543] (by decide +kernel) (by decide +kernel)
set_option maxRecDepth 20000 in
theorem ggL_acts_L_paints_q8 : GoodIn wsL_acts (wsX00) := goodIn_r _ [568, 569, 570, 571, 572] (by decide +kernel) (by decide +kernel)
set_option maxRecDepth 20000 in
theorem ggL_acts_L_paints_q9 : GoodIn wsL_acts (wsX20) := goodIn_r _ [573] (by decide +kernel) (by decide +kernel)
set_option maxRecDepth 20000 in
theorem ggL_acts_L_paints : GoodIn wsL_acts wsL_paints := goodIn_ca (goodIn_ca (goodIn_ca (goodIn_ca (goodIn_ca (goodIn_ca (goodIn_ca ggL_acts_L_paints_q0 (goodIn_app ggL_acts_L_paints_q1 (goodIn_app ggL_acts_L_paints_q2 (goodIn_app ggL_acts_L_paints_q3 (goodIn_app ggL_acts_L_paints_q4 (goodIn_app ggL_acts_L_paints_q5 ggL_acts_L_paints_q6)))))) ggL_acts_L_paints_q7) ggL_acts_L_paints_q8) ggL_acts_L_paints_q9) (goodIn_sub (fun _ h => List.mem_cons_of_mem _ (List.mem_append_right _ h)) (by decide +kernel))) (goodIn_sub (fun _ h => List.mem_cons_of_mem _ (List.mem_append_left _ (List.mem_append_left _ (List.mem_append_right _ h)))) (by decide +kernel))) (goodIn_sub (fun _ h => List.mem_cons_of_mem _ (List.mem_append_left _ (List.mem_append_right _ h))) (by decide +kernel))
set_option maxRecDepth 20000 in
theorem gL_acts_L_paints : GoodIn wsL_acts (va_wsS RL 200 yL_paints wsL_paints) := goodIn_app (goodIn_of _ (by decide +kernel)) ggL_acts_L_paints
set_option maxRecDepth 20000 in
theorem ggL_acts_L_arePages_q0 : GoodIn wsL_acts (.code yL_arePages cL_arePages 6 (some .boolean) :: wsL_arePages_r1) := goodIn_r _ [374, 15, 1, 2, 3, 4, 5, 375, 376, 377, 13, 378, 379, 380, 19, 381, 26, 27, 28, 29, 30, 31, 32, 33, 382] (by decide +kernel) (by decide +kernel)
set_option maxRecDepth 20000 in
theorem ggL_acts_L_arePages_q1 : GoodIn wsL_acts (wsL_arePages_r2) := goodIn_r _ [383, 384, 385, 386, 387, 388, 389, 390, 391, 392, 393, 394, 395, 396, 397, 398, 399, 400] (by decide +kernel) (by decide +kernel)
set_option maxRecDepth 20000 in
theorem ggL_acts_L_arePages : GoodIn wsL_acts wsL_arePages := goodIn_ca (goodIn_ca ggL_acts_L_arePages_q0 ggL_acts_L_arePages_q1) (goodIn_sub (fun _ h => List.mem_cons_of_mem _ (List.mem_append_left _ (List.mem_append_left _ (List.mem_append_right _ h)))) (by decide +kernel))
set_option maxRecDepth 20000 in
theorem gL_acts_L_arePages : GoodIn wsL_acts (va_wsS RL 204 yL_arePages wsL_arePages) := goodIn_app (goodIn_of _ (by decide +kernel)) ggL_acts_L_arePages
set_option maxRecDepth 20000 in
theorem ggL_acts_L_sews_q0_0 : GoodIn wsL_acts ([.code yL_sews cL_sews 16 (some .boolean), .constant RL 32 (-1000003), .methodLink RL 149 yL_ofThread, .static yL_ofThread, .initialized RL, .codeWith yL_ofThread cL_ofThread 4 (some .int) [(0, 6, 7, 16), (0, 6, 11, 19)], .classLink RL 16 "java/lang/IndexOutOfBoundsException", .classLink RL 19 "java/lang/IllegalArgumentException", .constant RL 18 (-1000001), .constant RL 21 (-1000002), .methodLink RL 61 yX7_ofThread, .instanceMethod yX7_ofThread, .selects RX7 yX7_ofThread yX7_ofThread, .initialized RX7] : List Cond) := goodIn_r _ [403, 9, 190, 191, 3, 192, 50, 13, 51, 15, 193, 194, 195, 19] (by decide +kernel) (by decide +kernel)
set_option maxRecDepth 20000 in
theorem ggL_acts_L_sews_q0_1 : GoodIn wsL_acts ([.code yX7_ofThread cX7_ofThread 4 (some .int), .methodLink RX7 118 yX7_bookOf, .instanceMethod yX7_bookOf, .selects RX7 yX7_bookOf yX7_bookOf, .code yX7_bookOf cX7_bookOf 3 (some (.object "MarbleBench$Book")), .classLink RX7 257 "java/lang/IndexOutOfBoundsException", .initialized "java/lang/IndexOutOfBoundsException", .fieldLink RX7 24 "MarbleBench" "books" "[LMarbleBench$Book;", .methodLink RX7 42 yX7_isWithin, .static yX7_isWithin, .code yX7_isWithin cX7_isWithin 3 (some .boolean)] : List Cond) := goodIn_r _ [196, 146, 147, 148, 149, 60, 61, 96, 26, 27, 28] (by decide +kernel) (by decide +kernel)
set_option maxRecDepth 20000 in
theorem ggL_acts_L_sews_q0 : GoodIn wsL_acts (.code yL_sews cL_sews 16 (some .boolean) :: wsL_sews_r1) := goodIn_app ggL_acts_L_sews_q0_0 ggL_acts_L_sews_q0_1
set_option maxRecDepth 20000 in
theorem ggL_acts_L_sews_q1 : GoodIn wsL_acts (wsL_sews_r2) := goodIn_r _ [29, 30, 31, 32, 33, 197, 198, 199, 115, 200, 201, 137, 135, 202, 203, 204, 205, 138, 186, 187, 188, 189, 134, 167] (by decide +kernel) (by decide +kernel)
set_option maxRecDepth 20000 in
theorem ggL_acts_L_sews_q2 : GoodIn wsL_acts (wsL_sews_r3) := goodIn_r _ [168, 169, 170, 171, 172, 173, 174, 175, 176, 177, 178, 179, 180, 181, 182, 183, 184, 185, 1, 2, 4, 5, 404, 405] (by decide +kernel) (by decide +kernel)
set_option maxRecDepth 20000 in
theorem ggL_acts_L_sews_q3 : GoodIn wsL_acts (wsL_sews_r4) := goodIn_r _ [406, 14, 407, 408, 409, 410, 34, 35, 36, 37, 38, 411, 412, 413, 414, 415, 136, 416, 417, 418, 419, 420, 421, 422] (by decide +kernel) (by decide +kernel)
set_option maxRecDepth 20000 in
theorem ggL_acts_L_sews_q4 : GoodIn wsL_acts (wsL_sews_r5) := goodIn_r _ [423, 424, 425, 426, 427, 428, 429, 430, 431, 432, 433, 434, 435, 436, 437, 438, 439, 440, 441, 442, 443, 444, 445, 446] (by decide +kernel) (by decide +kernel)
set_option maxRecDepth 20000 in
theorem ggL_acts_L_sews_q5 : GoodIn wsL_acts (wsL_sews_r6) := goodIn_r _ [447, 448] (by decide +kernel) (by decide +kernel)
