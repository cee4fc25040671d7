theorem zd_La_law_116 : decode zc_La_law 116 = .ok (.iload 4, 2) := by decide +kernel
theorem zd_La_law_118 : decode zc_La_law 118 = .ok (.iconst 4, 1) := by decide +kernel
theorem zd_La_law_119 : decode zc_La_law 119 = .ok (.iadd, 1) := by decide +kernel
theorem zd_La_law_120 : decode zc_La_law 120 = .ok (.iaload, 1) := by decide +kernel
theorem zd_La_law_121 : decode zc_La_law 121 = .ok (.invokevirtual 44, 3) := by decide +kernel
theorem zd_La_law_124 : decode zc_La_law 124 = .ok (.aload_n 2, 1) := by decide +kernel
theorem zd_La_law_125 : decode zc_La_law 125 = .ok (.aload_n 0, 1) := by decide +kernel
theorem zd_La_law_126 : decode zc_La_law 126 = .ok (.iload 4, 2) := by decide +kernel
theorem zd_La_law_128 : decode zc_La_law 128 = .ok (.iconst 1, 1) := by decide +kernel
theorem zd_La_law_129 : decode zc_La_law 129 = .ok (.iadd, 1) := by decide +kernel
theorem zd_La_law_130 : decode zc_La_law 130 = .ok (.iaload, 1) := by decide +kernel
theorem zd_La_law_131 : decode zc_La_law 131 = .ok (.aload_n 0, 1) := by decide +kernel
theorem zd_La_law_132 : decode zc_La_law 132 = .ok (.iload 4, 2) := by decide +kernel
theorem zd_La_law_134 : decode zc_La_law 134 = .ok (.iconst 2, 1) := by decide +kernel
theorem zd_La_law_135 : decode zc_La_law 135 = .ok (.iadd, 1) := by decide +kernel
theorem zd_La_law_136 : decode zc_La_law 136 = .ok (.iaload, 1) := by decide +kernel
theorem zd_La_law_137 : decode zc_La_law 137 = .ok (.aload_n 0, 1) := by decide +kernel
theorem zd_La_law_138 : decode zc_La_law 138 = .ok (.iload 4, 2) := by decide +kernel
theorem zd_La_law_140 : decode zc_La_law 140 = .ok (.iconst 3, 1) := by decide +kernel
theorem zd_La_law_141 : decode zc_La_law 141 = .ok (.iadd, 1) := by decide +kernel
theorem zd_La_law_142 : decode zc_La_law 142 = .ok (.iaload, 1) := by decide +kernel
theorem zd_La_law_143 : decode zc_La_law 143 = .ok (.aload_n 0, 1) := by decide +kernel
theorem zd_La_law_144 : decode zc_La_law 144 = .ok (.iload 4, 2) := by decide +kernel
theorem zd_La_law_146 : decode zc_La_law 146 = .ok (.iconst 4, 1) := by decide +kernel
theorem zd_La_law_147 : decode zc_La_law 147 = .ok (.iadd, 1) := by decide +kernel
theorem zd_La_law_148 : decode zc_La_law 148 = .ok (.iaload, 1) := by decide +kernel
theorem zd_La_law_149 : decode zc_La_law 149 = .ok (.invokevirtual 48, 3) := by decide +kernel
theorem zd_La_law_152 : decode zc_La_law 152 = .ok (.if_icmp .eq 421, 3) := by decide +kernel
theorem zd_La_law_155 : decode zc_La_law 155 = .ok (.iconst 0, 1) := by decide +kernel
theorem zd_La_law_156 : decode zc_La_law 156 = .ok (.ireturn, 1) := by decide +kernel
theorem zd_La_law_157 : decode zc_La_law 157 = .ok (.aload_n 1, 1) := by decide +kernel
theorem zd_La_law_158 : decode zc_La_law 158 = .ok (.aload_n 0, 1) := by decide +kernel
theorem zd_La_law_159 : decode zc_La_law 159 = .ok (.iload 4, 2) := by decide +kernel
theorem zd_La_law_161 : decode zc_La_law 161 = .ok (.iconst 1, 1) := by decide +kernel
theorem zd_La_law_162 : decode zc_La_law 162 = .ok (.iadd, 1) := by decide +kernel
theorem zd_La_law_163 : decode zc_La_law 163 = .ok (.iaload, 1) := by decide +kernel
theorem zd_La_law_164 : decode zc_La_law 164 = .ok (.aload_n 3, 1) := by decide +kernel
theorem zd_La_law_165 : decode zc_La_law 165 = .ok (.invokestatic 49, 3) := by decide +kernel
theorem zd_La_law_168 : decode zc_La_law 168 = .ok (.istore 5, 2) := by decide +kernel
theorem zd_La_law_170 : decode zc_La_law 170 = .ok (.aload_n 2, 1) := by decide +kernel
theorem zd_La_law_171 : decode zc_La_law 171 = .ok (.aload_n 0, 1) := by decide +kernel
theorem zd_La_law_172 : decode zc_La_law 172 = .ok (.iload 4, 2) := by decide +kernel
theorem zd_La_law_174 : decode zc_La_law 174 = .ok (.iconst 1, 1) := by decide +kernel
theorem zd_La_law_175 : decode zc_La_law 175 = .ok (.iadd, 1) := by decide +kernel
theorem zd_La_law_176 : decode zc_La_law 176 = .ok (.iaload, 1) := by decide +kernel
theorem zd_La_law_177 : decode zc_La_law 177 = .ok (.invokevirtual 54, 3) := by decide +kernel
theorem zd_La_law_180 : decode zc_La_law 180 = .ok (.istore 6, 2) := by decide +kernel
theorem zd_La_law_182 : decode zc_La_law 182 = .ok (.aload_n 2, 1) := by decide +kernel
theorem zd_La_law_183 : decode zc_La_law 183 = .ok (.invokevirtual 55, 3) := by decide +kernel
theorem zd_La_law_186 : decode zc_La_law 186 = .ok (.iload 5, 2) := by decide +kernel
theorem zd_La_law_188 : decode zc_La_law 188 = .ok (.if_icmp .eq 5, 3) := by decide +kernel
theorem zd_La_law_191 : decode zc_La_law 191 = .ok (.iconst 0, 1) := by decide +kernel
theorem zd_La_law_192 : decode zc_La_law 192 = .ok (.ireturn, 1) := by decide +kernel
theorem zd_La_law_193 : decode zc_La_law 193 = .ok (.iload 5, 2) := by decide +kernel
theorem zd_La_law_195 : decode zc_La_law 195 = .ok (.ifCond .ne 15, 3) := by decide +kernel
theorem zd_La_law_198 : decode zc_La_law 198 = .ok (.aload_n 3, 1) := by decide +kernel
theorem zd_La_law_199 : decode zc_La_law 199 = .ok (.iconst 0, 1) := by decide +kernel
theorem zd_La_law_200 : decode zc_La_law 200 = .ok (.laload, 1) := by decide +kernel
theorem zd_La_law_201 : decode zc_La_law 201 = .ok (.iload 6, 2) := by decide +kernel
theorem zd_La_law_203 : decode zc_La_law 203 = .ok (.i2l, 1) := by decide +kernel
theorem zd_La_law_204 : decode zc_La_law 204 = .ok (.lcmp, 1) := by decide +kernel
theorem zd_La_law_205 : decode zc_La_law 205 = .ok (.ifCond .eq 5, 3) := by decide +kernel
theorem zd_La_law_208 : decode zc_La_law 208 = .ok (.iconst 0, 1) := by decide +kernel
theorem zd_La_law_209 : decode zc_La_law 209 = .ok (.ireturn, 1) := by decide +kernel
theorem zd_La_law_210 : decode zc_La_law 210 = .ok (.goto 363, 3) := by decide +kernel
theorem zd_La_law_213 : decode zc_La_law 213 = .ok (.aload_n 1, 1) := by decide +kernel
theorem zd_La_law_214 : decode zc_La_law 214 = .ok (.invokevirtual 58, 3) := by decide +kernel
theorem zd_La_law_217 : decode zc_La_law 217 = .ok (.aload_n 2, 1) := by decide +kernel
theorem zd_La_law_218 : decode zc_La_law 218 = .ok (.invokevirtual 61, 3) := by decide +kernel
theorem zd_La_law_221 : decode zc_La_law 221 = .ok (.if_icmp .eq 352, 3) := by decide +kernel
theorem zd_La_law_224 : decode zc_La_law 224 = .ok (.iconst 0, 1) := by decide +kernel
theorem zd_La_law_225 : decode zc_La_law 225 = .ok (.ireturn, 1) := by decide +kernel
theorem zd_La_law_226 : decode zc_La_law 226 = .ok (.aload_n 1, 1) := by decide +kernel
theorem zd_La_law_227 : decode zc_La_law 227 = .ok (.aload_n 0, 1) := by decide +kernel
theorem zd_La_law_228 : decode zc_La_law 228 = .ok (.iload 4, 2) := by decide +kernel
theorem zd_La_law_230 : decode zc_La_law 230 = .ok (.iconst 1, 1) := by decide +kernel
theorem zd_La_law_231 : decode zc_La_law 231 = .ok (.iadd, 1) := by decide +kernel
theorem zd_La_law_232 : decode zc_La_law 232 = .ok (.iaload, 1) := by decide +kernel
theorem zd_La_law_233 : decode zc_La_law 233 = .ok (.invokevirtual 62, 3) := by decide +kernel
theorem zd_La_law_236 : decode zc_La_law 236 = .ok (.aload_n 2, 1) := by decide +kernel
theorem zd_La_law_237 : decode zc_La_law 237 = .ok (.aload_n 0, 1) := by decide +kernel
theorem zd_La_law_238 : decode zc_La_law 238 = .ok (.iload 4, 2) := by decide +kernel
theorem zd_La_law_240 : decode zc_La_law 240 = .ok (.iconst 1, 1) := by decide +kernel
theorem zd_La_law_241 : decode zc_La_law 241 = .ok (.iadd, 1) := by decide +kernel
theorem zd_La_law_242 : decode zc_La_law 242 = .ok (.iaload, 1) := by decide +kernel
theorem zd_La_law_243 : decode zc_La_law 243 = .ok (.invokevirtual 65, 3) := by decide +kernel
theorem zd_La_law_246 : decode zc_La_law 246 = .ok (.if_icmp .eq 327, 3) := by decide +kernel
theorem zd_La_law_249 : decode zc_La_law 249 = .ok (.iconst 0, 1) := by decide +kernel
theorem zd_La_law_250 : decode zc_La_law 250 = .ok (.ireturn, 1) := by decide +kernel
theorem zd_La_law_251 : decode zc_La_law 251 = .ok (.aload_n 1, 1) := by decide +kernel
theorem zd_La_law_252 : decode zc_La_law 252 = .ok (.aload_n 3, 1) := by decide +kernel
theorem zd_La_law_253 : decode zc_La_law 253 = .ok (.invokestatic 66, 3) := by decide +kernel
theorem zd_La_law_256 : decode zc_La_law 256 = .ok (.istore 5, 2) := by decide +kernel
theorem zd_La_law_258 : decode zc_La_law 258 = .ok (.aload_n 2, 1) := by decide +kernel
theorem zd_La_law_259 : decode zc_La_law 259 = .ok (.invokevirtual 69, 3) := by decide +kernel
theorem zd_La_law_262 : decode zc_La_law 262 = .ok (.istore 6, 2) := by decide +kernel
theorem zd_La_law_264 : decode zc_La_law 264 = .ok (.aload_n 2, 1) := by decide +kernel
theorem zd_La_law_265 : decode zc_La_law 265 = .ok (.invokevirtual 55, 3) := by decide +kernel
theorem zd_La_law_268 : decode zc_La_law 268 = .ok (.iload 5, 2) := by decide +kernel
theorem zd_La_law_270 : decode zc_La_law 270 = .ok (.if_icmp .eq 5, 3) := by decide +kernel
theorem zd_La_law_273 : decode zc_La_law 273 = .ok (.iconst 0, 1) := by decide +kernel
theorem zd_La_law_274 : decode zc_La_law 274 = .ok (.ireturn, 1) := by decide +kernel
theorem zd_La_law_275 : decode zc_La_law 275 = .ok (.iload 5, 2) := by decide +kernel
theorem zd_La_law_277 : decode zc_La_law 277 = .ok (.ifCond .ne 15, 3) := by decide +kernel
theorem zd_La_law_280 : decode zc_La_law 280 = .ok (.aload_n 3, 1) := by decide +kernel
theorem zd_La_law_281 : decode zc_La_law 281 = .ok (.iconst 0, 1) := by decide +kernel
theorem zd_La_law_282 : decode zc_La_law 282 = .ok (.laload, 1) := by decide +kernel
theorem zd_La_law_283 : decode zc_La_law 283 = .ok (.iload 6, 2) := by decide +kernel
theorem zd_La_law_285 : decode zc_La_law 285 = .ok (.i2l, 1) := by decide +kernel
theorem zd_La_law_286 : decode zc_La_law 286 = .ok (.lcmp, 1) := by decide +kernel
theorem zd_La_law_287 : decode zc_La_law 287 = .ok (.ifCond .eq 5, 3) := by decide +kernel
theorem zd_La_law_290 : decode zc_La_law 290 = .ok (.iconst 0, 1) := by decide +kernel
theorem zd_La_law_291 : decode zc_La_law 291 = .ok (.ireturn, 1) := by decide +kernel
theorem zd_La_law_292 : decode zc_La_law 292 = .ok (.goto 281, 3) := by decide +kernel
theorem zd_La_law_295 : decode zc_La_law 295 = .ok (.aload_n 1, 1) := by decide +kernel
theorem zd_La_law_296 : decode zc_La_law 296 = .ok (.aload_n 0, 1) := by decide +kernel
theorem zd_La_law_297 : decode zc_La_law 297 = .ok (.iload 4, 2) := by decide +kernel
theorem zd_La_law_299 : decode zc_La_law 299 = .ok (.iconst 1, 1) := by decide +kernel
theorem zd_La_law_300 : decode zc_La_law 300 = .ok (.iadd, 1) := by decide +kernel
theorem zd_La_law_301 : decode zc_La_law 301 = .ok (.iaload, 1) := by decide +kernel
theorem zd_La_law_302 : decode zc_La_law 302 = .ok (.aload_n 0, 1) := by decide +kernel
theorem zd_La_law_303 : decode zc_La_law 303 = .ok (.iload 4, 2) := by decide +kernel
theorem zd_La_law_305 : decode zc_La_law 305 = .ok (.iconst 2, 1) := by decide +kernel
theorem zd_La_law_306 : decode zc_La_law 306 = .ok (.iadd, 1) := by decide +kernel
theorem zd_La_law_307 : decode zc_La_law 307 = .ok (.iaload, 1) := by decide +kernel
theorem zd_La_law_308 : decode zc_La_law 308 = .ok (.aload_n 3, 1) := by decide +kernel
theorem zd_La_law_309 : decode zc_La_law 309 = .ok (.invokestatic 70, 3) := by decide +kernel
theorem zd_La_law_312 : decode zc_La_law 312 = .ok (.istore 5, 2) := by decide +kernel
theorem zd_La_law_314 : decode zc_La_law 314 = .ok (.aload_n 2, 1) := by decide +kernel
theorem zd_La_law_315 : decode zc_La_law 315 = .ok (.aload_n 0, 1) := by decide +kernel
theorem zd_La_law_316 : decode zc_La_law 316 = .ok (.iload 4, 2) := by decide +kernel
theorem zd_La_law_318 : decode zc_La_law 318 = .ok (.iconst 1, 1) := by decide +kernel
theorem zd_La_law_319 : decode zc_La_law 319 = .ok (.iadd, 1) := by decide +kernel
theorem zd_La_law_320 : decode zc_La_law 320 = .ok (.iaload, 1) := by decide +kernel
theorem zd_La_law_321 : decode zc_La_law 321 = .ok (.aload_n 0, 1) := by decide +kernel
theorem zd_La_law_322 : decode zc_La_law 322 = .ok (.iload 4, 2) := by decide +kernel
theorem zd_La_law_324 : decode zc_La_law 324 = .ok (.iconst 2, 1) := by decide +kernel
theorem zd_La_law_325 : decode zc_La_law 325 = .ok (.iadd, 1) := by decide +kernel
theorem zd_La_law_326 : decode zc_La_law 326 = .ok (.iaload, 1) := by decide +kernel
theorem zd_La_law_327 : decode zc_La_law 327 = .ok (.invokevirtual 73, 3) := by decide +kernel
theorem zd_La_law_330 : decode zc_La_law 330 = .ok (.istore 6, 2) := by decide +kernel
theorem zd_La_law_332 : decode zc_La_law 332 = .ok (.aload_n 2, 1) := by decide +kernel
theorem zd_La_law_333 : decode zc_La_law 333 = .ok (.invokevirtual 55, 3) := by decide +kernel
theorem zd_La_law_336 : decode zc_La_law 336 = .ok (.iload 5, 2) := by decide +kernel
theorem zd_La_law_338 : decode zc_La_law 338 = .ok (.if_icmp .eq 5, 3) := by decide +kernel
theorem zd_La_law_341 : decode zc_La_law 341 = .ok (.iconst 0, 1) := by decide +kernel
theorem zd_La_law_342 : decode zc_La_law 342 = .ok (.ireturn, 1) := by decide +kernel
theorem zd_La_law_343 : decode zc_La_law 343 = .ok (.iload 5, 2) := by decide +kernel
theorem zd_La_law_345 : decode zc_La_law 345 = .ok (.ifCond .ne 15, 3) := by decide +kernel
theorem zd_La_law_348 : decode zc_La_law 348 = .ok (.aload_n 3, 1) := by decide +kernel
