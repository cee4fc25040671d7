theorem zd_Mo_writeEntry_203 : decode zc_Mo_writeEntry 203 = .ok (.goto 72, 3) := by decide +kernel
theorem zd_Mo_writeEntry_206 : decode zc_Mo_writeEntry 206 = .ok (.lload_n 2, 1) := by decide +kernel
theorem zd_Mo_writeEntry_207 : decode zc_Mo_writeEntry 207 = .ok (.iload 6, 2) := by decide +kernel
theorem zd_Mo_writeEntry_209 : decode zc_Mo_writeEntry 209 = .ok (.i2l, 1) := by decide +kernel
theorem zd_Mo_writeEntry_210 : decode zc_Mo_writeEntry 210 = .ok (.lcmp, 1) := by decide +kernel
theorem zd_Mo_writeEntry_211 : decode zc_Mo_writeEntry 211 = .ok (.ifCond .lt 52, 3) := by decide +kernel
theorem zd_Mo_writeEntry_214 : decode zc_Mo_writeEntry 214 = .ok (.lload 7, 2) := by decide +kernel
theorem zd_Mo_writeEntry_216 : decode zc_Mo_writeEntry 216 = .ok (.aload_n 0, 1) := by decide +kernel
theorem zd_Mo_writeEntry_217 : decode zc_Mo_writeEntry 217 = .ok (.getfield 13, 3) := by decide +kernel
theorem zd_Mo_writeEntry_220 : decode zc_Mo_writeEntry 220 = .ok (.i2l, 1) := by decide +kernel
theorem zd_Mo_writeEntry_221 : decode zc_Mo_writeEntry 221 = .ok (.lload_n 2, 1) := by decide +kernel
theorem zd_Mo_writeEntry_222 : decode zc_Mo_writeEntry 222 = .ok (.iload 6, 2) := by decide +kernel
theorem zd_Mo_writeEntry_224 : decode zc_Mo_writeEntry 224 = .ok (.i2l, 1) := by decide +kernel
theorem zd_Mo_writeEntry_225 : decode zc_Mo_writeEntry 225 = .ok (.lsub, 1) := by decide +kernel
theorem zd_Mo_writeEntry_226 : decode zc_Mo_writeEntry 226 = .ok (.lmul, 1) := by decide +kernel
theorem zd_Mo_writeEntry_227 : decode zc_Mo_writeEntry 227 = .ok (.ladd, 1) := by decide +kernel
theorem zd_Mo_writeEntry_228 : decode zc_Mo_writeEntry 228 = .ok (.ldc2_w 131, 3) := by decide +kernel
theorem zd_Mo_writeEntry_231 : decode zc_Mo_writeEntry 231 = .ok (.lcmp, 1) := by decide +kernel
theorem zd_Mo_writeEntry_232 : decode zc_Mo_writeEntry 232 = .ok (.ifCond .gt 31, 3) := by decide +kernel
theorem zd_Mo_writeEntry_235 : decode zc_Mo_writeEntry 235 = .ok (.aload_n 0, 1) := by decide +kernel
theorem zd_Mo_writeEntry_236 : decode zc_Mo_writeEntry 236 = .ok (.ldc2_w 154, 3) := by decide +kernel
theorem zd_Mo_writeEntry_239 : decode zc_Mo_writeEntry 239 = .ok (.invokevirtual 133, 3) := by decide +kernel
theorem zd_Mo_writeEntry_242 : decode zc_Mo_writeEntry 242 = .ok (.aload_n 0, 1) := by decide +kernel
theorem zd_Mo_writeEntry_243 : decode zc_Mo_writeEntry 243 = .ok (.lload 7, 2) := by decide +kernel
theorem zd_Mo_writeEntry_245 : decode zc_Mo_writeEntry 245 = .ok (.aload_n 0, 1) := by decide +kernel
theorem zd_Mo_writeEntry_246 : decode zc_Mo_writeEntry 246 = .ok (.getfield 13, 3) := by decide +kernel
theorem zd_Mo_writeEntry_249 : decode zc_Mo_writeEntry 249 = .ok (.i2l, 1) := by decide +kernel
theorem zd_Mo_writeEntry_250 : decode zc_Mo_writeEntry 250 = .ok (.lload_n 2, 1) := by decide +kernel
theorem zd_Mo_writeEntry_251 : decode zc_Mo_writeEntry 251 = .ok (.iload 6, 2) := by decide +kernel
theorem zd_Mo_writeEntry_253 : decode zc_Mo_writeEntry 253 = .ok (.i2l, 1) := by decide +kernel
theorem zd_Mo_writeEntry_254 : decode zc_Mo_writeEntry 254 = .ok (.lsub, 1) := by decide +kernel
theorem zd_Mo_writeEntry_255 : decode zc_Mo_writeEntry 255 = .ok (.lmul, 1) := by decide +kernel
theorem zd_Mo_writeEntry_256 : decode zc_Mo_writeEntry 256 = .ok (.ladd, 1) := by decide +kernel
theorem zd_Mo_writeEntry_257 : decode zc_Mo_writeEntry 257 = .ok (.invokevirtual 133, 3) := by decide +kernel
theorem zd_Mo_writeEntry_260 : decode zc_Mo_writeEntry 260 = .ok (.goto 15, 3) := by decide +kernel
theorem zd_Mo_writeEntry_263 : decode zc_Mo_writeEntry 263 = .ok (.aload_n 0, 1) := by decide +kernel
theorem zd_Mo_writeEntry_264 : decode zc_Mo_writeEntry 264 = .ok (.iconst 2, 1) := by decide +kernel
theorem zd_Mo_writeEntry_265 : decode zc_Mo_writeEntry 265 = .ok (.lload_n 2, 1) := by decide +kernel
theorem zd_Mo_writeEntry_266 : decode zc_Mo_writeEntry 266 = .ok (.invokevirtual 145, 3) := by decide +kernel
theorem zd_Mo_writeEntry_269 : decode zc_Mo_writeEntry 269 = .ok (.aload_n 0, 1) := by decide +kernel
theorem zd_Mo_writeEntry_270 : decode zc_Mo_writeEntry 270 = .ok (.lload 7, 2) := by decide +kernel
theorem zd_Mo_writeEntry_272 : decode zc_Mo_writeEntry 272 = .ok (.invokevirtual 133, 3) := by decide +kernel
theorem zd_Mo_writeEntry_275 : decode zc_Mo_writeEntry 275 = .ok (.aload_n 0, 1) := by decide +kernel
theorem zd_Mo_writeEntry_276 : decode zc_Mo_writeEntry 276 = .ok (.aload_n 0, 1) := by decide +kernel
theorem zd_Mo_writeEntry_277 : decode zc_Mo_writeEntry 277 = .ok (.getfield 32, 3) := by decide +kernel
theorem zd_Mo_writeEntry_280 : decode zc_Mo_writeEntry 280 = .ok (.iload_n 1, 1) := by decide +kernel
theorem zd_Mo_writeEntry_281 : decode zc_Mo_writeEntry 281 = .ok (.iaload, 1) := by decide +kernel
theorem zd_Mo_writeEntry_282 : decode zc_Mo_writeEntry 282 = .ok (.i2l, 1) := by decide +kernel
theorem zd_Mo_writeEntry_283 : decode zc_Mo_writeEntry 283 = .ok (.putfield 62, 3) := by decide +kernel
theorem zd_Mo_writeEntry_286 : decode zc_Mo_writeEntry 286 = .ok (.aload_n 0, 1) := by decide +kernel
theorem zd_Mo_writeEntry_287 : decode zc_Mo_writeEntry 287 = .ok (.aload_n 0, 1) := by decide +kernel
theorem zd_Mo_writeEntry_288 : decode zc_Mo_writeEntry 288 = .ok (.getfield 32, 3) := by decide +kernel
theorem zd_Mo_writeEntry_291 : decode zc_Mo_writeEntry 291 = .ok (.iload_n 1, 1) := by decide +kernel
theorem zd_Mo_writeEntry_292 : decode zc_Mo_writeEntry 292 = .ok (.iconst 1, 1) := by decide +kernel
theorem zd_Mo_writeEntry_293 : decode zc_Mo_writeEntry 293 = .ok (.iadd, 1) := by decide +kernel
theorem zd_Mo_writeEntry_294 : decode zc_Mo_writeEntry 294 = .ok (.iaload, 1) := by decide +kernel
theorem zd_Mo_writeEntry_295 : decode zc_Mo_writeEntry 295 = .ok (.i2l, 1) := by decide +kernel
theorem zd_Mo_writeEntry_296 : decode zc_Mo_writeEntry 296 = .ok (.putfield 66, 3) := by decide +kernel
theorem zd_Mo_writeEntry_299 : decode zc_Mo_writeEntry 299 = .ok (.aload_n 0, 1) := by decide +kernel
theorem zd_Mo_writeEntry_300 : decode zc_Mo_writeEntry 300 = .ok (.aload_n 0, 1) := by decide +kernel
theorem zd_Mo_writeEntry_301 : decode zc_Mo_writeEntry 301 = .ok (.getfield 32, 3) := by decide +kernel
theorem zd_Mo_writeEntry_304 : decode zc_Mo_writeEntry 304 = .ok (.iload_n 1, 1) := by decide +kernel
theorem zd_Mo_writeEntry_305 : decode zc_Mo_writeEntry 305 = .ok (.iconst 2, 1) := by decide +kernel
theorem zd_Mo_writeEntry_306 : decode zc_Mo_writeEntry 306 = .ok (.iadd, 1) := by decide +kernel
theorem zd_Mo_writeEntry_307 : decode zc_Mo_writeEntry 307 = .ok (.iaload, 1) := by decide +kernel
theorem zd_Mo_writeEntry_308 : decode zc_Mo_writeEntry 308 = .ok (.i2l, 1) := by decide +kernel
theorem zd_Mo_writeEntry_309 : decode zc_Mo_writeEntry 309 = .ok (.putfield 69, 3) := by decide +kernel
theorem zd_Mo_writeEntry_312 : decode zc_Mo_writeEntry 312 = .ok (.aload_n 0, 1) := by decide +kernel
theorem zd_Mo_writeEntry_313 : decode zc_Mo_writeEntry 313 = .ok (.aload_n 0, 1) := by decide +kernel
theorem zd_Mo_writeEntry_314 : decode zc_Mo_writeEntry 314 = .ok (.getfield 32, 3) := by decide +kernel
theorem zd_Mo_writeEntry_317 : decode zc_Mo_writeEntry 317 = .ok (.iload_n 1, 1) := by decide +kernel
theorem zd_Mo_writeEntry_318 : decode zc_Mo_writeEntry 318 = .ok (.iconst 3, 1) := by decide +kernel
theorem zd_Mo_writeEntry_319 : decode zc_Mo_writeEntry 319 = .ok (.iadd, 1) := by decide +kernel
theorem zd_Mo_writeEntry_320 : decode zc_Mo_writeEntry 320 = .ok (.iaload, 1) := by decide +kernel
theorem zd_Mo_writeEntry_321 : decode zc_Mo_writeEntry 321 = .ok (.i2l, 1) := by decide +kernel
theorem zd_Mo_writeEntry_322 : decode zc_Mo_writeEntry 322 = .ok (.putfield 72, 3) := by decide +kernel
theorem zd_Mo_writeEntry_325 : decode zc_Mo_writeEntry 325 = .ok (.aload_n 0, 1) := by decide +kernel
theorem zd_Mo_writeEntry_326 : decode zc_Mo_writeEntry 326 = .ok (.aload_n 0, 1) := by decide +kernel
theorem zd_Mo_writeEntry_327 : decode zc_Mo_writeEntry 327 = .ok (.getfield 32, 3) := by decide +kernel
theorem zd_Mo_writeEntry_330 : decode zc_Mo_writeEntry 330 = .ok (.iload_n 1, 1) := by decide +kernel
theorem zd_Mo_writeEntry_331 : decode zc_Mo_writeEntry 331 = .ok (.iconst 4, 1) := by decide +kernel
theorem zd_Mo_writeEntry_332 : decode zc_Mo_writeEntry 332 = .ok (.iadd, 1) := by decide +kernel
theorem zd_Mo_writeEntry_333 : decode zc_Mo_writeEntry 333 = .ok (.iaload, 1) := by decide +kernel
theorem zd_Mo_writeEntry_334 : decode zc_Mo_writeEntry 334 = .ok (.putfield 75, 3) := by decide +kernel
theorem zd_Mo_writeEntry_337 : decode zc_Mo_writeEntry 337 = .ok (.return_, 1) := by decide +kernel
theorem zd_Mo_addUnsigned_0 : decode zc_Mo_addUnsigned 0 = .ok (.aload_n 0, 1) := by decide +kernel
theorem zd_Mo_addUnsigned_1 : decode zc_Mo_addUnsigned 1 = .ok (.iload_n 1, 1) := by decide +kernel
theorem zd_Mo_addUnsigned_2 : decode zc_Mo_addUnsigned 2 = .ok (.i2l, 1) := by decide +kernel
theorem zd_Mo_addUnsigned_3 : decode zc_Mo_addUnsigned 3 = .ok (.invokevirtual 133, 3) := by decide +kernel
theorem zd_Mo_addUnsigned_6 : decode zc_Mo_addUnsigned 6 = .ok (.lload_n 2, 1) := by decide +kernel
theorem zd_Mo_addUnsigned_7 : decode zc_Mo_addUnsigned 7 = .ok (.lstore 4, 2) := by decide +kernel
theorem zd_Mo_addUnsigned_9 : decode zc_Mo_addUnsigned 9 = .ok (.lload 4, 2) := by decide +kernel
theorem zd_Mo_addUnsigned_11 : decode zc_Mo_addUnsigned 11 = .ok (.ldc2_w 137, 3) := by decide +kernel
theorem zd_Mo_addUnsigned_14 : decode zc_Mo_addUnsigned 14 = .ok (.lcmp, 1) := by decide +kernel
theorem zd_Mo_addUnsigned_15 : decode zc_Mo_addUnsigned 15 = .ok (.ifCond .le 27, 3) := by decide +kernel
theorem zd_Mo_addUnsigned_18 : decode zc_Mo_addUnsigned 18 = .ok (.aload_n 0, 1) := by decide +kernel
theorem zd_Mo_addUnsigned_19 : decode zc_Mo_addUnsigned 19 = .ok (.ldc2_w 139, 3) := by decide +kernel
theorem zd_Mo_addUnsigned_22 : decode zc_Mo_addUnsigned 22 = .ok (.lload 4, 2) := by decide +kernel
theorem zd_Mo_addUnsigned_24 : decode zc_Mo_addUnsigned 24 = .ok (.ldc2_w 137, 3) := by decide +kernel
theorem zd_Mo_addUnsigned_27 : decode zc_Mo_addUnsigned 27 = .ok (.land, 1) := by decide +kernel
theorem zd_Mo_addUnsigned_28 : decode zc_Mo_addUnsigned 28 = .ok (.lor, 1) := by decide +kernel
theorem zd_Mo_addUnsigned_29 : decode zc_Mo_addUnsigned 29 = .ok (.invokevirtual 133, 3) := by decide +kernel
theorem zd_Mo_addUnsigned_32 : decode zc_Mo_addUnsigned 32 = .ok (.lload 4, 2) := by decide +kernel
theorem zd_Mo_addUnsigned_34 : decode zc_Mo_addUnsigned 34 = .ok (.bipush 7, 2) := by decide +kernel
theorem zd_Mo_addUnsigned_36 : decode zc_Mo_addUnsigned 36 = .ok (.lshr, 1) := by decide +kernel
theorem zd_Mo_addUnsigned_37 : decode zc_Mo_addUnsigned 37 = .ok (.lstore 4, 2) := by decide +kernel
theorem zd_Mo_addUnsigned_39 : decode zc_Mo_addUnsigned 39 = .ok (.goto (-30), 3) := by decide +kernel
theorem zd_Mo_addUnsigned_42 : decode zc_Mo_addUnsigned 42 = .ok (.aload_n 0, 1) := by decide +kernel
theorem zd_Mo_addUnsigned_43 : decode zc_Mo_addUnsigned 43 = .ok (.lload 4, 2) := by decide +kernel
theorem zd_Mo_addUnsigned_45 : decode zc_Mo_addUnsigned 45 = .ok (.invokevirtual 133, 3) := by decide +kernel
theorem zd_Mo_addUnsigned_48 : decode zc_Mo_addUnsigned 48 = .ok (.return_, 1) := by decide +kernel
theorem zd_Mo_addSigned_0 : decode zc_Mo_addSigned 0 = .ok (.aload_n 0, 1) := by decide +kernel
theorem zd_Mo_addSigned_1 : decode zc_Mo_addSigned 1 = .ok (.iload_n 1, 1) := by decide +kernel
theorem zd_Mo_addSigned_2 : decode zc_Mo_addSigned 2 = .ok (.i2l, 1) := by decide +kernel
theorem zd_Mo_addSigned_3 : decode zc_Mo_addSigned 3 = .ok (.invokevirtual 133, 3) := by decide +kernel
theorem zd_Mo_addSigned_6 : decode zc_Mo_addSigned 6 = .ok (.lload_n 2, 1) := by decide +kernel
theorem zd_Mo_addSigned_7 : decode zc_Mo_addSigned 7 = .ok (.lstore 4, 2) := by decide +kernel
theorem zd_Mo_addSigned_9 : decode zc_Mo_addSigned 9 = .ok (.lload 4, 2) := by decide +kernel
theorem zd_Mo_addSigned_11 : decode zc_Mo_addSigned 11 = .ok (.ldc2_w 141, 3) := by decide +kernel
theorem zd_Mo_addSigned_14 : decode zc_Mo_addSigned 14 = .ok (.lcmp, 1) := by decide +kernel
theorem zd_Mo_addSigned_15 : decode zc_Mo_addSigned 15 = .ok (.ifCond .lt 12, 3) := by decide +kernel
theorem zd_Mo_addSigned_18 : decode zc_Mo_addSigned 18 = .ok (.lload 4, 2) := by decide +kernel
theorem zd_Mo_addSigned_20 : decode zc_Mo_addSigned 20 = .ok (.ldc2_w 143, 3) := by decide +kernel
theorem zd_Mo_addSigned_23 : decode zc_Mo_addSigned 23 = .ok (.lcmp, 1) := by decide +kernel
theorem zd_Mo_addSigned_24 : decode zc_Mo_addSigned 24 = .ok (.ifCond .le 27, 3) := by decide +kernel
theorem zd_Mo_addSigned_27 : decode zc_Mo_addSigned 27 = .ok (.aload_n 0, 1) := by decide +kernel
theorem zd_Mo_addSigned_28 : decode zc_Mo_addSigned 28 = .ok (.ldc2_w 139, 3) := by decide +kernel
theorem zd_Mo_addSigned_31 : decode zc_Mo_addSigned 31 = .ok (.lload 4, 2) := by decide +kernel
theorem zd_Mo_addSigned_33 : decode zc_Mo_addSigned 33 = .ok (.ldc2_w 137, 3) := by decide +kernel
theorem zd_Mo_addSigned_36 : decode zc_Mo_addSigned 36 = .ok (.land, 1) := by decide +kernel
theorem zd_Mo_addSigned_37 : decode zc_Mo_addSigned 37 = .ok (.lor, 1) := by decide +kernel
theorem zd_Mo_addSigned_38 : decode zc_Mo_addSigned 38 = .ok (.invokevirtual 133, 3) := by decide +kernel
theorem zd_Mo_addSigned_41 : decode zc_Mo_addSigned 41 = .ok (.lload 4, 2) := by decide +kernel
theorem zd_Mo_addSigned_43 : decode zc_Mo_addSigned 43 = .ok (.bipush 7, 2) := by decide +kernel
theorem zd_Mo_addSigned_45 : decode zc_Mo_addSigned 45 = .ok (.lshr, 1) := by decide +kernel
theorem zd_Mo_addSigned_46 : decode zc_Mo_addSigned 46 = .ok (.lstore 4, 2) := by decide +kernel
theorem zd_Mo_addSigned_48 : decode zc_Mo_addSigned 48 = .ok (.goto (-39), 3) := by decide +kernel
theorem zd_Mo_addSigned_51 : decode zc_Mo_addSigned 51 = .ok (.aload_n 0, 1) := by decide +kernel
theorem zd_Mo_addSigned_52 : decode zc_Mo_addSigned 52 = .ok (.lload 4, 2) := by decide +kernel
theorem zd_Mo_addSigned_54 : decode zc_Mo_addSigned 54 = .ok (.ldc2_w 137, 3) := by decide +kernel
theorem zd_Mo_addSigned_57 : decode zc_Mo_addSigned 57 = .ok (.land, 1) := by decide +kernel
theorem zd_Mo_addSigned_58 : decode zc_Mo_addSigned 58 = .ok (.invokevirtual 133, 3) := by decide +kernel
theorem zd_Mo_addSigned_61 : decode zc_Mo_addSigned 61 = .ok (.return_, 1) := by decide +kernel
theorem zd_Mo_count_0 : decode zc_Mo_count 0 = .ok (.aload_n 0, 1) := by decide +kernel
theorem zd_Mo_count_1 : decode zc_Mo_count 1 = .ok (.iconst 0, 1) := by decide +kernel
theorem zd_Mo_count_2 : decode zc_Mo_count 2 = .ok (.putfield 38, 3) := by decide +kernel
theorem zd_Mo_count_5 : decode zc_Mo_count 5 = .ok (.iload_n 1, 1) := by decide +kernel
theorem zd_Mo_count_6 : decode zc_Mo_count 6 = .ok (.ifCond .ne 10, 3) := by decide +kernel
theorem zd_Mo_count_9 : decode zc_Mo_count 9 = .ok (.aload_n 0, 1) := by decide +kernel
theorem zd_Mo_count_10 : decode zc_Mo_count 10 = .ok (.getfield 41, 3) := by decide +kernel
