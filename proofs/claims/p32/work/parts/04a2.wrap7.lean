theorem dL_acts_106 : decode cL_acts 106 = .ok (.invokestatic 208, 3) := by decide +kernel
theorem dL_acts_109 : decode cL_acts 109 = .ok (.ireturn, 1) := by decide +kernel
theorem dL_acts_110 : decode cL_acts 110 = .ok (.iload 8, 2) := by decide +kernel
theorem dL_acts_112 : decode cL_acts 112 = .ok (.bipush 15, 2) := by decide +kernel
theorem dL_acts_114 : decode cL_acts 114 = .ok (.if_icmp .ne 122, 3) := by decide +kernel
theorem dL_acts_117 : decode cL_acts 117 = .ok (.aload_n 0, 1) := by decide +kernel
theorem dL_acts_118 : decode cL_acts 118 = .ok (.iload 9, 2) := by decide +kernel
theorem dL_acts_120 : decode cL_acts 120 = .ok (.iload 7, 2) := by decide +kernel
theorem dL_acts_122 : decode cL_acts 122 = .ok (.iconst 3, 1) := by decide +kernel
theorem dL_acts_123 : decode cL_acts 123 = .ok (.invokestatic 125, 3) := by decide +kernel
theorem dL_acts_126 : decode cL_acts 126 = .ok (.invokestatic 212, 3) := by decide +kernel
theorem dL_acts_129 : decode cL_acts 129 = .ok (.istore 10, 2) := by decide +kernel
theorem dL_acts_131 : decode cL_acts 131 = .ok (.aload_n 2, 1) := by decide +kernel
theorem dL_acts_132 : decode cL_acts 132 = .ok (.bipush 6, 2) := by decide +kernel
theorem dL_acts_134 : decode cL_acts 134 = .ok (.iload 9, 2) := by decide +kernel
theorem dL_acts_136 : decode cL_acts 136 = .ok (.imul, 1) := by decide +kernel
theorem dL_acts_137 : decode cL_acts 137 = .ok (.iconst 5, 1) := by decide +kernel
theorem dL_acts_138 : decode cL_acts 138 = .ok (.iadd, 1) := by decide +kernel
theorem dL_acts_139 : decode cL_acts 139 = .ok (.iload 7, 2) := by decide +kernel
theorem dL_acts_141 : decode cL_acts 141 = .ok (.iconst 3, 1) := by decide +kernel
theorem dL_acts_142 : decode cL_acts 142 = .ok (.invokestatic 125, 3) := by decide +kernel
theorem dL_acts_145 : decode cL_acts 145 = .ok (.iastore, 1) := by decide +kernel
theorem dL_acts_146 : decode cL_acts 146 = .ok (.iload 10, 2) := by decide +kernel
theorem dL_acts_148 : decode cL_acts 148 = .ok (.ifCond .lt 86, 3) := by decide +kernel
theorem dL_acts_151 : decode cL_acts 151 = .ok (.iload 10, 2) := by decide +kernel
theorem dL_acts_153 : decode cL_acts 153 = .ok (.iconst 3, 1) := by decide +kernel
theorem dL_acts_154 : decode cL_acts 154 = .ok (.if_icmp .ge 80, 3) := by decide +kernel
theorem dL_acts_157 : decode cL_acts 157 = .ok (.aload_n 0, 1) := by decide +kernel
theorem dL_acts_158 : decode cL_acts 158 = .ok (.iload 9, 2) := by decide +kernel
theorem dL_acts_160 : decode cL_acts 160 = .ok (.aload_n 2, 1) := by decide +kernel
theorem dL_acts_161 : decode cL_acts 161 = .ok (.bipush 6, 2) := by decide +kernel
theorem dL_acts_163 : decode cL_acts 163 = .ok (.iload 9, 2) := by decide +kernel
theorem dL_acts_165 : decode cL_acts 165 = .ok (.imul, 1) := by decide +kernel
theorem dL_acts_166 : decode cL_acts 166 = .ok (.iconst 5, 1) := by decide +kernel
theorem dL_acts_167 : decode cL_acts 167 = .ok (.iadd, 1) := by decide +kernel
theorem dL_acts_168 : decode cL_acts 168 = .ok (.iaload, 1) := by decide +kernel
theorem dL_acts_169 : decode cL_acts 169 = .ok (.invokestatic 212, 3) := by decide +kernel
theorem dL_acts_172 : decode cL_acts 172 = .ok (.aload_n 2, 1) := by decide +kernel
theorem dL_acts_173 : decode cL_acts 173 = .ok (.bipush 6, 2) := by decide +kernel
theorem dL_acts_175 : decode cL_acts 175 = .ok (.iload 9, 2) := by decide +kernel
theorem dL_acts_177 : decode cL_acts 177 = .ok (.imul, 1) := by decide +kernel
theorem dL_acts_178 : decode cL_acts 178 = .ok (.iconst 5, 1) := by decide +kernel
theorem dL_acts_179 : decode cL_acts 179 = .ok (.iadd, 1) := by decide +kernel
theorem dL_acts_180 : decode cL_acts 180 = .ok (.iaload, 1) := by decide +kernel
theorem dL_acts_181 : decode cL_acts 181 = .ok (.if_icmp .ne 53, 3) := by decide +kernel
theorem dL_acts_184 : decode cL_acts 184 = .ok (.aload_n 0, 1) := by decide +kernel
theorem dL_acts_185 : decode cL_acts 185 = .ok (.iload 9, 2) := by decide +kernel
theorem dL_acts_187 : decode cL_acts 187 = .ok (.iconst 1, 1) := by decide +kernel
theorem dL_acts_188 : decode cL_acts 188 = .ok (.invokestatic 164, 3) := by decide +kernel
theorem dL_acts_191 : decode cL_acts 191 = .ok (.aload_n 0, 1) := by decide +kernel
theorem dL_acts_192 : decode cL_acts 192 = .ok (.iload 9, 2) := by decide +kernel
theorem dL_acts_194 : decode cL_acts 194 = .ok (.invokestatic 151, 3) := by decide +kernel
theorem dL_acts_197 : decode cL_acts 197 = .ok (.aload_n 2, 1) := by decide +kernel
theorem dL_acts_198 : decode cL_acts 198 = .ok (.bipush 6, 2) := by decide +kernel
theorem dL_acts_200 : decode cL_acts 200 = .ok (.iload 9, 2) := by decide +kernel
theorem dL_acts_202 : decode cL_acts 202 = .ok (.imul, 1) := by decide +kernel
theorem dL_acts_203 : decode cL_acts 203 = .ok (.iconst 3, 1) := by decide +kernel
theorem dL_acts_204 : decode cL_acts 204 = .ok (.iadd, 1) := by decide +kernel
theorem dL_acts_205 : decode cL_acts 205 = .ok (.iaload, 1) := by decide +kernel
theorem dL_acts_206 : decode cL_acts 206 = .ok (.iload 7, 2) := by decide +kernel
theorem dL_acts_208 : decode cL_acts 208 = .ok (.iconst 3, 1) := by decide +kernel
theorem dL_acts_209 : decode cL_acts 209 = .ok (.invokestatic 125, 3) := by decide +kernel
theorem dL_acts_212 : decode cL_acts 212 = .ok (.ifCond .ne 7, 3) := by decide +kernel
theorem dL_acts_215 : decode cL_acts 215 = .ok (.iconst 4, 1) := by decide +kernel
theorem dL_acts_216 : decode cL_acts 216 = .ok (.goto 9, 3) := by decide +kernel
theorem dL_acts_219 : decode cL_acts 219 = .ok (.iload 7, 2) := by decide +kernel
theorem dL_acts_221 : decode cL_acts 221 = .ok (.iconst 3, 1) := by decide +kernel
theorem dL_acts_222 : decode cL_acts 222 = .ok (.invokestatic 125, 3) := by decide +kernel
theorem dL_acts_225 : decode cL_acts 225 = .ok (.imul, 1) := by decide +kernel
theorem dL_acts_226 : decode cL_acts 226 = .ok (.iadd, 1) := by decide +kernel
theorem dL_acts_227 : decode cL_acts 227 = .ok (.if_icmp .ne 7, 3) := by decide +kernel
theorem dL_acts_230 : decode cL_acts 230 = .ok (.iconst 1, 1) := by decide +kernel
theorem dL_acts_231 : decode cL_acts 231 = .ok (.goto 4, 3) := by decide +kernel
theorem dL_acts_234 : decode cL_acts 234 = .ok (.iconst 0, 1) := by decide +kernel
theorem dL_acts_235 : decode cL_acts 235 = .ok (.ireturn, 1) := by decide +kernel
theorem dL_acts_236 : decode cL_acts 236 = .ok (.iload 8, 2) := by decide +kernel
theorem dL_acts_238 : decode cL_acts 238 = .ok (.bipush 16, 2) := by decide +kernel
theorem dL_acts_240 : decode cL_acts 240 = .ok (.if_icmp .ne 24, 3) := by decide +kernel
theorem dL_acts_243 : decode cL_acts 243 = .ok (.aload_n 0, 1) := by decide +kernel
theorem dL_acts_244 : decode cL_acts 244 = .ok (.aload 4, 2) := by decide +kernel
theorem dL_acts_246 : decode cL_acts 246 = .ok (.iload 6, 2) := by decide +kernel
theorem dL_acts_248 : decode cL_acts 248 = .ok (.iconst 5, 1) := by decide +kernel
theorem dL_acts_249 : decode cL_acts 249 = .ok (.ishr, 1) := by decide +kernel
theorem dL_acts_250 : decode cL_acts 250 = .ok (.aload_n 1, 1) := by decide +kernel
theorem dL_acts_251 : decode cL_acts 251 = .ok (.iconst 2, 1) := by decide +kernel
theorem dL_acts_252 : decode cL_acts 252 = .ok (.iaload, 1) := by decide +kernel
theorem dL_acts_253 : decode cL_acts 253 = .ok (.invokestatic 125, 3) := by decide +kernel
theorem dL_acts_256 : decode cL_acts 256 = .ok (.iload 7, 2) := by decide +kernel
theorem dL_acts_258 : decode cL_acts 258 = .ok (.invokestatic 214, 3) := by decide +kernel
theorem dL_acts_261 : decode cL_acts 261 = .ok (.goto 49, 3) := by decide +kernel
theorem dL_acts_264 : decode cL_acts 264 = .ok (.iload 8, 2) := by decide +kernel
theorem dL_acts_266 : decode cL_acts 266 = .ok (.bipush 17, 2) := by decide +kernel
theorem dL_acts_268 : decode cL_acts 268 = .ok (.if_icmp .ne 17, 3) := by decide +kernel
theorem dL_acts_271 : decode cL_acts 271 = .ok (.aload_n 0, 1) := by decide +kernel
theorem dL_acts_272 : decode cL_acts 272 = .ok (.aload_n 2, 1) := by decide +kernel
theorem dL_acts_273 : decode cL_acts 273 = .ok (.aload 5, 2) := by decide +kernel
theorem dL_acts_275 : decode cL_acts 275 = .ok (.iload 9, 2) := by decide +kernel
theorem dL_acts_277 : decode cL_acts 277 = .ok (.iload 7, 2) := by decide +kernel
theorem dL_acts_279 : decode cL_acts 279 = .ok (.invokestatic 217, 3) := by decide +kernel
theorem dL_acts_282 : decode cL_acts 282 = .ok (.goto 28, 3) := by decide +kernel
theorem dL_acts_285 : decode cL_acts 285 = .ok (.iload 8, 2) := by decide +kernel
theorem dL_acts_287 : decode cL_acts 287 = .ok (.bipush 18, 2) := by decide +kernel
theorem dL_acts_289 : decode cL_acts 289 = .ok (.if_icmp .ne 14, 3) := by decide +kernel
theorem dL_acts_292 : decode cL_acts 292 = .ok (.aload_n 0, 1) := by decide +kernel
theorem dL_acts_293 : decode cL_acts 293 = .ok (.iload 9, 2) := by decide +kernel
theorem dL_acts_295 : decode cL_acts 295 = .ok (.iload 7, 2) := by decide +kernel
theorem dL_acts_297 : decode cL_acts 297 = .ok (.invokestatic 221, 3) := by decide +kernel
theorem dL_acts_300 : decode cL_acts 300 = .ok (.goto 10, 3) := by decide +kernel
theorem dL_acts_303 : decode cL_acts 303 = .ok (.aload_n 0, 1) := by decide +kernel
theorem dL_acts_304 : decode cL_acts 304 = .ok (.aload_n 2, 1) := by decide +kernel
theorem dL_acts_305 : decode cL_acts 305 = .ok (.iload 9, 2) := by decide +kernel
theorem dL_acts_307 : decode cL_acts 307 = .ok (.invokestatic 192, 3) := by decide +kernel
theorem dL_acts_310 : decode cL_acts 310 = .ok (.ireturn, 1) := by decide +kernel
