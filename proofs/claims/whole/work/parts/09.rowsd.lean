theorem dX11_forget_135 : decode cX11_forget 135 = .ok (.aload_n 0, 1) := by decide +kernel
theorem dX11_forget_136 : decode cX11_forget 136 = .ok (.getfield 20, 3) := by decide +kernel
theorem dX11_forget_139 : decode cX11_forget 139 = .ok (.bipush 9, 2) := by decide +kernel
theorem dX11_forget_141 : decode cX11_forget 141 = .ok (.iload_n 3, 1) := by decide +kernel
theorem dX11_forget_142 : decode cX11_forget 142 = .ok (.iadd, 1) := by decide +kernel
theorem dX11_forget_143 : decode cX11_forget 143 = .ok (.iaload, 1) := by decide +kernel
theorem dX11_forget_144 : decode cX11_forget 144 = .ok (.iload_n 1, 1) := by decide +kernel
theorem dX11_forget_145 : decode cX11_forget 145 = .ok (.if_icmp .eq 6, 3) := by decide +kernel
theorem dX11_forget_148 : decode cX11_forget 148 = .ok (.goto 236, 3) := by decide +kernel
theorem dX11_forget_151 : decode cX11_forget 151 = .ok (.aload_n 0, 1) := by decide +kernel
theorem dX11_forget_152 : decode cX11_forget 152 = .ok (.getfield 20, 3) := by decide +kernel
theorem dX11_forget_155 : decode cX11_forget 155 = .ok (.bipush 9, 2) := by decide +kernel
theorem dX11_forget_157 : decode cX11_forget 157 = .ok (.iload_n 3, 1) := by decide +kernel
theorem dX11_forget_158 : decode cX11_forget 158 = .ok (.iadd, 1) := by decide +kernel
theorem dX11_forget_159 : decode cX11_forget 159 = .ok (.iaload, 1) := by decide +kernel
theorem dX11_forget_160 : decode cX11_forget 160 = .ok (.bipush (-2), 2) := by decide +kernel
theorem dX11_forget_162 : decode cX11_forget 162 = .ok (.if_icmp .ne 11, 3) := by decide +kernel
theorem dX11_forget_165 : decode cX11_forget 165 = .ok (.aload_n 0, 1) := by decide +kernel
theorem dX11_forget_166 : decode cX11_forget 166 = .ok (.iload_n 3, 1) := by decide +kernel
theorem dX11_forget_167 : decode cX11_forget 167 = .ok (.invokevirtual 407, 3) := by decide +kernel
theorem dX11_forget_170 : decode cX11_forget 170 = .ok (.goto 214, 3) := by decide +kernel
theorem dX11_forget_173 : decode cX11_forget 173 = .ok (.bipush 17, 2) := by decide +kernel
theorem dX11_forget_175 : decode cX11_forget 175 = .ok (.iconst 4, 1) := by decide +kernel
theorem dX11_forget_176 : decode cX11_forget 176 = .ok (.iload_n 3, 1) := by decide +kernel
theorem dX11_forget_177 : decode cX11_forget 177 = .ok (.imul, 1) := by decide +kernel
theorem dX11_forget_178 : decode cX11_forget 178 = .ok (.iadd, 1) := by decide +kernel
theorem dX11_forget_179 : decode cX11_forget 179 = .ok (.istore 5, 2) := by decide +kernel
theorem dX11_forget_181 : decode cX11_forget 181 = .ok (.iload 4, 2) := by decide +kernel
theorem dX11_forget_183 : decode cX11_forget 183 = .ok (.ifCond .eq 23, 3) := by decide +kernel
theorem dX11_forget_186 : decode cX11_forget 186 = .ok (.aload_n 0, 1) := by decide +kernel
theorem dX11_forget_187 : decode cX11_forget 187 = .ok (.getfield 20, 3) := by decide +kernel
theorem dX11_forget_190 : decode cX11_forget 190 = .ok (.iload 5, 2) := by decide +kernel
theorem dX11_forget_192 : decode cX11_forget 192 = .ok (.iaload, 1) := by decide +kernel
theorem dX11_forget_193 : decode cX11_forget 193 = .ok (.aload_n 0, 1) := by decide +kernel
theorem dX11_forget_194 : decode cX11_forget 194 = .ok (.getfield 20, 3) := by decide +kernel
theorem dX11_forget_197 : decode cX11_forget 197 = .ok (.iload 5, 2) := by decide +kernel
theorem dX11_forget_199 : decode cX11_forget 199 = .ok (.iconst 2, 1) := by decide +kernel
theorem dX11_forget_200 : decode cX11_forget 200 = .ok (.iadd, 1) := by decide +kernel
theorem dX11_forget_201 : decode cX11_forget 201 = .ok (.iaload, 1) := by decide +kernel
theorem dX11_forget_202 : decode cX11_forget 202 = .ok (.iadd, 1) := by decide +kernel
theorem dX11_forget_203 : decode cX11_forget 203 = .ok (.goto 20, 3) := by decide +kernel
theorem dX11_forget_206 : decode cX11_forget 206 = .ok (.aload_n 0, 1) := by decide +kernel
theorem dX11_forget_207 : decode cX11_forget 207 = .ok (.getfield 20, 3) := by decide +kernel
theorem dX11_forget_210 : decode cX11_forget 210 = .ok (.iload 5, 2) := by decide +kernel
theorem dX11_forget_212 : decode cX11_forget 212 = .ok (.iaload, 1) := by decide +kernel
theorem dX11_forget_213 : decode cX11_forget 213 = .ok (.aload_n 0, 1) := by decide +kernel
theorem dX11_forget_214 : decode cX11_forget 214 = .ok (.getfield 20, 3) := by decide +kernel
theorem dX11_forget_217 : decode cX11_forget 217 = .ok (.iload 5, 2) := by decide +kernel
theorem dX11_forget_219 : decode cX11_forget 219 = .ok (.iconst 1, 1) := by decide +kernel
theorem dX11_forget_220 : decode cX11_forget 220 = .ok (.iadd, 1) := by decide +kernel
theorem dX11_forget_221 : decode cX11_forget 221 = .ok (.iaload, 1) := by decide +kernel
theorem dX11_forget_222 : decode cX11_forget 222 = .ok (.iadd, 1) := by decide +kernel
theorem dX11_forget_223 : decode cX11_forget 223 = .ok (.istore 6, 2) := by decide +kernel
theorem dX11_forget_225 : decode cX11_forget 225 = .ok (.iload 4, 2) := by decide +kernel
theorem dX11_forget_227 : decode cX11_forget 227 = .ok (.ifCond .eq 25, 3) := by decide +kernel
theorem dX11_forget_230 : decode cX11_forget 230 = .ok (.aload_n 0, 1) := by decide +kernel
theorem dX11_forget_231 : decode cX11_forget 231 = .ok (.getfield 20, 3) := by decide +kernel
theorem dX11_forget_234 : decode cX11_forget 234 = .ok (.iload 5, 2) := by decide +kernel
theorem dX11_forget_236 : decode cX11_forget 236 = .ok (.iconst 1, 1) := by decide +kernel
theorem dX11_forget_237 : decode cX11_forget 237 = .ok (.iadd, 1) := by decide +kernel
theorem dX11_forget_238 : decode cX11_forget 238 = .ok (.iaload, 1) := by decide +kernel
theorem dX11_forget_239 : decode cX11_forget 239 = .ok (.aload_n 0, 1) := by decide +kernel
theorem dX11_forget_240 : decode cX11_forget 240 = .ok (.getfield 20, 3) := by decide +kernel
theorem dX11_forget_243 : decode cX11_forget 243 = .ok (.iload 5, 2) := by decide +kernel
theorem dX11_forget_245 : decode cX11_forget 245 = .ok (.iconst 3, 1) := by decide +kernel
theorem dX11_forget_246 : decode cX11_forget 246 = .ok (.iadd, 1) := by decide +kernel
theorem dX11_forget_247 : decode cX11_forget 247 = .ok (.iaload, 1) := by decide +kernel
theorem dX11_forget_248 : decode cX11_forget 248 = .ok (.iadd, 1) := by decide +kernel
theorem dX11_forget_249 : decode cX11_forget 249 = .ok (.goto 22, 3) := by decide +kernel
theorem dX11_forget_252 : decode cX11_forget 252 = .ok (.aload_n 0, 1) := by decide +kernel
theorem dX11_forget_253 : decode cX11_forget 253 = .ok (.getfield 20, 3) := by decide +kernel
theorem dX11_forget_256 : decode cX11_forget 256 = .ok (.iload 5, 2) := by decide +kernel
theorem dX11_forget_258 : decode cX11_forget 258 = .ok (.iconst 2, 1) := by decide +kernel
theorem dX11_forget_259 : decode cX11_forget 259 = .ok (.iadd, 1) := by decide +kernel
theorem dX11_forget_260 : decode cX11_forget 260 = .ok (.iaload, 1) := by decide +kernel
theorem dX11_forget_261 : decode cX11_forget 261 = .ok (.aload_n 0, 1) := by decide +kernel
theorem dX11_forget_262 : decode cX11_forget 262 = .ok (.getfield 20, 3) := by decide +kernel
theorem dX11_forget_265 : decode cX11_forget 265 = .ok (.iload 5, 2) := by decide +kernel
theorem dX11_forget_267 : decode cX11_forget 267 = .ok (.iconst 3, 1) := by decide +kernel
theorem dX11_forget_268 : decode cX11_forget 268 = .ok (.iadd, 1) := by decide +kernel
theorem dX11_forget_269 : decode cX11_forget 269 = .ok (.iaload, 1) := by decide +kernel
theorem dX11_forget_270 : decode cX11_forget 270 = .ok (.iadd, 1) := by decide +kernel
theorem dX11_forget_271 : decode cX11_forget 271 = .ok (.istore 7, 2) := by decide +kernel
theorem dX11_forget_273 : decode cX11_forget 273 = .ok (.aload_n 0, 1) := by decide +kernel
theorem dX11_forget_274 : decode cX11_forget 274 = .ok (.getfield 20, 3) := by decide +kernel
theorem dX11_forget_277 : decode cX11_forget 277 = .ok (.iconst 1, 1) := by decide +kernel
theorem dX11_forget_278 : decode cX11_forget 278 = .ok (.iload_n 3, 1) := by decide +kernel
theorem dX11_forget_279 : decode cX11_forget 279 = .ok (.iadd, 1) := by decide +kernel
theorem dX11_forget_280 : decode cX11_forget 280 = .ok (.iload 4, 2) := by decide +kernel
theorem dX11_forget_282 : decode cX11_forget 282 = .ok (.ifCond .eq 15, 3) := by decide +kernel
theorem dX11_forget_285 : decode cX11_forget 285 = .ok (.aload_n 0, 1) := by decide +kernel
theorem dX11_forget_286 : decode cX11_forget 286 = .ok (.getfield 20, 3) := by decide +kernel
theorem dX11_forget_289 : decode cX11_forget 289 = .ok (.bipush 9, 2) := by decide +kernel
theorem dX11_forget_291 : decode cX11_forget 291 = .ok (.iload_n 3, 1) := by decide +kernel
theorem dX11_forget_292 : decode cX11_forget 292 = .ok (.iadd, 1) := by decide +kernel
theorem dX11_forget_293 : decode cX11_forget 293 = .ok (.iaload, 1) := by decide +kernel
theorem dX11_forget_294 : decode cX11_forget 294 = .ok (.goto 11, 3) := by decide +kernel
theorem dX11_forget_297 : decode cX11_forget 297 = .ok (.aload_n 0, 1) := by decide +kernel
theorem dX11_forget_298 : decode cX11_forget 298 = .ok (.getfield 20, 3) := by decide +kernel
theorem dX11_forget_301 : decode cX11_forget 301 = .ok (.iconst 1, 1) := by decide +kernel
theorem dX11_forget_302 : decode cX11_forget 302 = .ok (.iload_n 3, 1) := by decide +kernel
theorem dX11_forget_303 : decode cX11_forget 303 = .ok (.iadd, 1) := by decide +kernel
theorem dX11_forget_304 : decode cX11_forget 304 = .ok (.iaload, 1) := by decide +kernel
theorem dX11_forget_305 : decode cX11_forget 305 = .ok (.iastore, 1) := by decide +kernel
theorem dX11_forget_306 : decode cX11_forget 306 = .ok (.aload_n 0, 1) := by decide +kernel
theorem dX11_forget_307 : decode cX11_forget 307 = .ok (.getfield 20, 3) := by decide +kernel
theorem dX11_forget_310 : decode cX11_forget 310 = .ok (.bipush 9, 2) := by decide +kernel
theorem dX11_forget_312 : decode cX11_forget 312 = .ok (.iload_n 3, 1) := by decide +kernel
theorem dX11_forget_313 : decode cX11_forget 313 = .ok (.iadd, 1) := by decide +kernel
theorem dX11_forget_314 : decode cX11_forget 314 = .ok (.bipush (-2), 2) := by decide +kernel
theorem dX11_forget_316 : decode cX11_forget 316 = .ok (.iastore, 1) := by decide +kernel
theorem dX11_forget_317 : decode cX11_forget 317 = .ok (.aload_n 0, 1) := by decide +kernel
theorem dX11_forget_318 : decode cX11_forget 318 = .ok (.getfield 20, 3) := by decide +kernel
theorem dX11_forget_321 : decode cX11_forget 321 = .ok (.iload 5, 2) := by decide +kernel
theorem dX11_forget_323 : decode cX11_forget 323 = .ok (.iload 6, 2) := by decide +kernel
theorem dX11_forget_325 : decode cX11_forget 325 = .ok (.iastore, 1) := by decide +kernel
theorem dX11_forget_326 : decode cX11_forget 326 = .ok (.aload_n 0, 1) := by decide +kernel
theorem dX11_forget_327 : decode cX11_forget 327 = .ok (.getfield 20, 3) := by decide +kernel
theorem dX11_forget_330 : decode cX11_forget 330 = .ok (.iload 5, 2) := by decide +kernel
theorem dX11_forget_332 : decode cX11_forget 332 = .ok (.iconst 1, 1) := by decide +kernel
theorem dX11_forget_333 : decode cX11_forget 333 = .ok (.iadd, 1) := by decide +kernel
theorem dX11_forget_334 : decode cX11_forget 334 = .ok (.iload 7, 2) := by decide +kernel
theorem dX11_forget_336 : decode cX11_forget 336 = .ok (.iastore, 1) := by decide +kernel
theorem dX11_forget_337 : decode cX11_forget 337 = .ok (.aload_n 0, 1) := by decide +kernel
theorem dX11_forget_338 : decode cX11_forget 338 = .ok (.getfield 20, 3) := by decide +kernel
theorem dX11_forget_341 : decode cX11_forget 341 = .ok (.iload 5, 2) := by decide +kernel
theorem dX11_forget_343 : decode cX11_forget 343 = .ok (.iconst 2, 1) := by decide +kernel
theorem dX11_forget_344 : decode cX11_forget 344 = .ok (.iadd, 1) := by decide +kernel
theorem dX11_forget_345 : decode cX11_forget 345 = .ok (.iconst 0, 1) := by decide +kernel
theorem dX11_forget_346 : decode cX11_forget 346 = .ok (.iastore, 1) := by decide +kernel
theorem dX11_forget_347 : decode cX11_forget 347 = .ok (.aload_n 0, 1) := by decide +kernel
theorem dX11_forget_348 : decode cX11_forget 348 = .ok (.getfield 20, 3) := by decide +kernel
theorem dX11_forget_351 : decode cX11_forget 351 = .ok (.iload 5, 2) := by decide +kernel
theorem dX11_forget_353 : decode cX11_forget 353 = .ok (.iconst 3, 1) := by decide +kernel
theorem dX11_forget_354 : decode cX11_forget 354 = .ok (.iadd, 1) := by decide +kernel
theorem dX11_forget_355 : decode cX11_forget 355 = .ok (.iconst 0, 1) := by decide +kernel
theorem dX11_forget_356 : decode cX11_forget 356 = .ok (.iastore, 1) := by decide +kernel
theorem dX11_forget_357 : decode cX11_forget 357 = .ok (.iconst 0, 1) := by decide +kernel
theorem dX11_forget_358 : decode cX11_forget 358 = .ok (.istore 8, 2) := by decide +kernel
theorem dX11_forget_360 : decode cX11_forget 360 = .ok (.iload 8, 2) := by decide +kernel
theorem dX11_forget_362 : decode cX11_forget 362 = .ok (.iconst 4, 1) := by decide +kernel
theorem dX11_forget_363 : decode cX11_forget 363 = .ok (.if_icmp .ge 21, 3) := by decide +kernel
theorem dX11_forget_366 : decode cX11_forget 366 = .ok (.aload_n 0, 1) := by decide +kernel
theorem dX11_forget_367 : decode cX11_forget 367 = .ok (.getfield 26, 3) := by decide +kernel
theorem dX11_forget_370 : decode cX11_forget 370 = .ok (.iconst 4, 1) := by decide +kernel
theorem dX11_forget_371 : decode cX11_forget 371 = .ok (.iload_n 3, 1) := by decide +kernel
theorem dX11_forget_372 : decode cX11_forget 372 = .ok (.imul, 1) := by decide +kernel
theorem dX11_forget_373 : decode cX11_forget 373 = .ok (.iload 8, 2) := by decide +kernel
theorem dX11_forget_375 : decode cX11_forget 375 = .ok (.iadd, 1) := by decide +kernel
theorem dX11_forget_376 : decode cX11_forget 376 = .ok (.iconst 0, 1) := by decide +kernel
theorem dX11_forget_377 : decode cX11_forget 377 = .ok (.iastore, 1) := by decide +kernel
theorem dX11_forget_378 : decode cX11_forget 378 = .ok (.iinc 8 1, 3) := by decide +kernel
theorem dX11_forget_381 : decode cX11_forget 381 = .ok (.goto (-21), 3) := by decide +kernel
theorem dX11_forget_384 : decode cX11_forget 384 = .ok (.iinc 3 (-1), 3) := by decide +kernel
theorem dX11_forget_387 : decode cX11_forget 387 = .ok (.goto (-280), 3) := by decide +kernel
theorem dX11_forget_390 : decode cX11_forget 390 = .ok (.aload_n 0, 1) := by decide +kernel
theorem dX11_forget_391 : decode cX11_forget 391 = .ok (.iconst 2, 1) := by decide +kernel
theorem dX11_forget_392 : decode cX11_forget 392 = .ok (.iload_n 1, 1) := by decide +kernel
theorem dX11_forget_393 : decode cX11_forget 393 = .ok (.bipush (-2), 2) := by decide +kernel
theorem dX11_forget_395 : decode cX11_forget 395 = .ok (.bipush (-2), 2) := by decide +kernel
theorem dX11_forget_397 : decode cX11_forget 397 = .ok (.bipush (-2), 2) := by decide +kernel
theorem dX11_forget_399 : decode cX11_forget 399 = .ok (.invokevirtual 403, 3) := by decide +kernel
theorem dX11_forget_402 : decode cX11_forget 402 = .ok (.ireturn, 1) := by decide +kernel
set_option maxRecDepth 20000 in
theorem ggX11_shift_X11_good : GoodIn wsX11_shift wsX11_good := goodIn_r _ [7, 8, 9, 43, 44, 45, 46, 47, 48, 49, 50, 51, 52, 53, 54, 55, 56, 57, 58, 59, 60, 61, 62, 63, 64, 65, 66, 67, 68, 69, 70, 71, 72, 73, 74, 75, 76, 77, 78, 79, 80, 81, 82] (by decide +kernel) (by decide +kernel)
set_option maxRecDepth 20000 in
theorem gX11_shift_X11_good : GoodIn wsX11_shift (wsV RX11 174 RX11 yX11_good wsX11_good) := goodIn_app (goodIn_of _ (by decide +kernel)) ggX11_shift_X11_good
set_option maxRecDepth 20000 in
theorem ggX11_shift_X11_isOutcome : GoodIn wsX11_shift wsX11_isOutcome := goodIn_r _ [13, 1, 14, 15, 16, 6, 17, 18, 19, 20, 21, 22, 23, 24, 43, 44, 45, 46, 47, 48, 49, 50, 51, 52, 53, 54, 55, 56, 57, 58, 59, 60, 61, 62, 63, 64, 65, 66, 67, 68, 69, 70, 71, 72, 73, 74, 75, 76, 77, 78, 79, 80, 81, 82] (by decide +kernel) (by decide +kernel)
set_option maxRecDepth 20000 in
theorem gX11_shift_X11_isOutcome : GoodIn wsX11_shift (wsV RX11 305 RX11 yX11_isOutcome wsX11_isOutcome) := goodIn_app (goodIn_of _ (by decide +kernel)) ggX11_shift_X11_isOutcome
set_option maxRecDepth 20000 in
theorem ggX11_shift_X11_isNot : GoodIn wsX11_shift wsX11_isNot := goodIn_r _ [28, 9, 43, 44, 45, 46, 47, 48, 49, 50, 51, 52, 53, 54, 55, 56, 57, 58, 59, 60, 61, 62, 63, 64, 65, 66, 67, 68, 69, 70, 71, 72, 73, 74, 75, 76, 77, 78, 79, 80, 81, 82] (by decide +kernel) (by decide +kernel)
set_option maxRecDepth 20000 in
theorem gX11_shift_X11_isNot : GoodIn wsX11_shift (wsV RX11 336 RX11 yX11_isNot wsX11_isNot) := goodIn_app (goodIn_of _ (by decide +kernel)) ggX11_shift_X11_isNot
theorem dX11_shift_0 : decode cX11_shift 0 = .ok (.aload_n 0, 1) := by decide +kernel
theorem dX11_shift_1 : decode cX11_shift 1 = .ok (.invokevirtual 174, 3) := by decide +kernel
theorem dX11_shift_4 : decode cX11_shift 4 = .ok (.aload_n 0, 1) := by decide +kernel
theorem dX11_shift_5 : decode cX11_shift 5 = .ok (.iload_n 1, 1) := by decide +kernel
theorem dX11_shift_6 : decode cX11_shift 6 = .ok (.iload_n 2, 1) := by decide +kernel
theorem dX11_shift_7 : decode cX11_shift 7 = .ok (.invokevirtual 305, 3) := by decide +kernel
theorem dX11_shift_10 : decode cX11_shift 10 = .ok (.ifCond .eq 17, 3) := by decide +kernel
theorem dX11_shift_13 : decode cX11_shift 13 = .ok (.aload_n 0, 1) := by decide +kernel
theorem dX11_shift_14 : decode cX11_shift 14 = .ok (.iload_n 1, 1) := by decide +kernel
theorem dX11_shift_15 : decode cX11_shift 15 = .ok (.iload_n 3, 1) := by decide +kernel
theorem dX11_shift_16 : decode cX11_shift 16 = .ok (.invokevirtual 305, 3) := by decide +kernel
theorem dX11_shift_19 : decode cX11_shift 19 = .ok (.ifCond .eq 8, 3) := by decide +kernel
theorem dX11_shift_22 : decode cX11_shift 22 = .ok (.iload_n 2, 1) := by decide +kernel
theorem dX11_shift_23 : decode cX11_shift 23 = .ok (.iload_n 3, 1) := by decide +kernel
theorem dX11_shift_24 : decode cX11_shift 24 = .ok (.if_icmp .ne 9, 3) := by decide +kernel
theorem dX11_shift_27 : decode cX11_shift 27 = .ok (.aload_n 0, 1) := by decide +kernel
theorem dX11_shift_28 : decode cX11_shift 28 = .ok (.iconst 1, 1) := by decide +kernel
theorem dX11_shift_29 : decode cX11_shift 29 = .ok (.invokevirtual 336, 3) := by decide +kernel
theorem dX11_shift_32 : decode cX11_shift 32 = .ok (.ireturn, 1) := by decide +kernel
theorem dX11_shift_33 : decode cX11_shift 33 = .ok (.iload 4, 2) := by decide +kernel
theorem dX11_shift_35 : decode cX11_shift 35 = .ok (.iconst 1, 1) := by decide +kernel
theorem dX11_shift_36 : decode cX11_shift 36 = .ok (.bipush 60, 2) := by decide +kernel
theorem dX11_shift_38 : decode cX11_shift 38 = .ok (.invokestatic 170, 3) := by decide +kernel
theorem dX11_shift_41 : decode cX11_shift 41 = .ok (.ifCond .ne 9, 3) := by decide +kernel
theorem dX11_shift_44 : decode cX11_shift 44 = .ok (.aload_n 0, 1) := by decide +kernel
theorem dX11_shift_45 : decode cX11_shift 45 = .ok (.iconst 2, 1) := by decide +kernel
theorem dX11_shift_46 : decode cX11_shift 46 = .ok (.invokevirtual 336, 3) := by decide +kernel
theorem dX11_shift_49 : decode cX11_shift 49 = .ok (.ireturn, 1) := by decide +kernel
theorem dX11_shift_50 : decode cX11_shift 50 = .ok (.aload_n 0, 1) := by decide +kernel
theorem dX11_shift_51 : decode cX11_shift 51 = .ok (.getfield 20, 3) := by decide +kernel
theorem dX11_shift_54 : decode cX11_shift 54 = .ok (.bipush 17, 2) := by decide +kernel
theorem dX11_shift_56 : decode cX11_shift 56 = .ok (.iconst 4, 1) := by decide +kernel
theorem dX11_shift_57 : decode cX11_shift 57 = .ok (.iload_n 1, 1) := by decide +kernel
theorem dX11_shift_58 : decode cX11_shift 58 = .ok (.imul, 1) := by decide +kernel
theorem dX11_shift_59 : decode cX11_shift 59 = .ok (.iadd, 1) := by decide +kernel
theorem dX11_shift_60 : decode cX11_shift 60 = .ok (.iload_n 2, 1) := by decide +kernel
theorem dX11_shift_61 : decode cX11_shift 61 = .ok (.iadd, 1) := by decide +kernel
theorem dX11_shift_62 : decode cX11_shift 62 = .ok (.iaload, 1) := by decide +kernel
theorem dX11_shift_63 : decode cX11_shift 63 = .ok (.iload 4, 2) := by decide +kernel
theorem dX11_shift_65 : decode cX11_shift 65 = .ok (.if_icmp .ge 9, 3) := by decide +kernel
theorem dX11_shift_68 : decode cX11_shift 68 = .ok (.aload_n 0, 1) := by decide +kernel
theorem dX11_shift_69 : decode cX11_shift 69 = .ok (.iconst 5, 1) := by decide +kernel
theorem dX11_shift_70 : decode cX11_shift 70 = .ok (.invokevirtual 336, 3) := by decide +kernel
theorem dX11_shift_73 : decode cX11_shift 73 = .ok (.ireturn, 1) := by decide +kernel
theorem dX11_shift_74 : decode cX11_shift 74 = .ok (.aload_n 0, 1) := by decide +kernel
theorem dX11_shift_75 : decode cX11_shift 75 = .ok (.getfield 20, 3) := by decide +kernel
theorem dX11_shift_78 : decode cX11_shift 78 = .ok (.iconst 0, 1) := by decide +kernel
theorem dX11_shift_79 : decode cX11_shift 79 = .ok (.aload_n 0, 1) := by decide +kernel
theorem dX11_shift_80 : decode cX11_shift 80 = .ok (.getfield 29, 3) := by decide +kernel
theorem dX11_shift_83 : decode cX11_shift 83 = .ok (.iconst 0, 1) := by decide +kernel
theorem dX11_shift_84 : decode cX11_shift 84 = .ok (.bipush 49, 2) := by decide +kernel
theorem dX11_shift_86 : decode cX11_shift 86 = .ok (.invokestatic 399, 3) := by decide +kernel
theorem dX11_shift_89 : decode cX11_shift 89 = .ok (.aload_n 0, 1) := by decide +kernel
theorem dX11_shift_90 : decode cX11_shift 90 = .ok (.getfield 20, 3) := by decide +kernel
theorem dX11_shift_93 : decode cX11_shift 93 = .ok (.bipush 17, 2) := by decide +kernel
theorem dX11_shift_95 : decode cX11_shift 95 = .ok (.iconst 4, 1) := by decide +kernel
theorem dX11_shift_96 : decode cX11_shift 96 = .ok (.iload_n 1, 1) := by decide +kernel
theorem dX11_shift_97 : decode cX11_shift 97 = .ok (.imul, 1) := by decide +kernel
theorem dX11_shift_98 : decode cX11_shift 98 = .ok (.iadd, 1) := by decide +kernel
theorem dX11_shift_99 : decode cX11_shift 99 = .ok (.iload_n 2, 1) := by decide +kernel
theorem dX11_shift_100 : decode cX11_shift 100 = .ok (.iadd, 1) := by decide +kernel
theorem dX11_shift_101 : decode cX11_shift 101 = .ok (.dup2, 1) := by decide +kernel
theorem dX11_shift_102 : decode cX11_shift 102 = .ok (.iaload, 1) := by decide +kernel
theorem dX11_shift_103 : decode cX11_shift 103 = .ok (.iload 4, 2) := by decide +kernel
theorem dX11_shift_105 : decode cX11_shift 105 = .ok (.isub, 1) := by decide +kernel
theorem dX11_shift_106 : decode cX11_shift 106 = .ok (.iastore, 1) := by decide +kernel
theorem dX11_shift_107 : decode cX11_shift 107 = .ok (.aload_n 0, 1) := by decide +kernel
theorem dX11_shift_108 : decode cX11_shift 108 = .ok (.getfield 20, 3) := by decide +kernel
theorem dX11_shift_111 : decode cX11_shift 111 = .ok (.bipush 17, 2) := by decide +kernel
theorem dX11_shift_113 : decode cX11_shift 113 = .ok (.iconst 4, 1) := by decide +kernel
theorem dX11_shift_114 : decode cX11_shift 114 = .ok (.iload_n 1, 1) := by decide +kernel
theorem dX11_shift_115 : decode cX11_shift 115 = .ok (.imul, 1) := by decide +kernel
theorem dX11_shift_116 : decode cX11_shift 116 = .ok (.iadd, 1) := by decide +kernel
theorem dX11_shift_117 : decode cX11_shift 117 = .ok (.iload_n 3, 1) := by decide +kernel
theorem dX11_shift_118 : decode cX11_shift 118 = .ok (.iadd, 1) := by decide +kernel
theorem dX11_shift_119 : decode cX11_shift 119 = .ok (.dup2, 1) := by decide +kernel
theorem dX11_shift_120 : decode cX11_shift 120 = .ok (.iaload, 1) := by decide +kernel
theorem dX11_shift_121 : decode cX11_shift 121 = .ok (.iload 4, 2) := by decide +kernel
theorem dX11_shift_123 : decode cX11_shift 123 = .ok (.iadd, 1) := by decide +kernel
theorem dX11_shift_124 : decode cX11_shift 124 = .ok (.iastore, 1) := by decide +kernel
theorem dX11_shift_125 : decode cX11_shift 125 = .ok (.aload_n 0, 1) := by decide +kernel
theorem dX11_shift_126 : decode cX11_shift 126 = .ok (.iconst 3, 1) := by decide +kernel
theorem dX11_shift_127 : decode cX11_shift 127 = .ok (.iload_n 1, 1) := by decide +kernel
theorem dX11_shift_128 : decode cX11_shift 128 = .ok (.iload_n 2, 1) := by decide +kernel
theorem dX11_shift_129 : decode cX11_shift 129 = .ok (.iload_n 3, 1) := by decide +kernel
theorem dX11_shift_130 : decode cX11_shift 130 = .ok (.iload 4, 2) := by decide +kernel
theorem dX11_shift_132 : decode cX11_shift 132 = .ok (.invokevirtual 403, 3) := by decide +kernel
theorem dX11_shift_135 : decode cX11_shift 135 = .ok (.ireturn, 1) := by decide +kernel
set_option maxRecDepth 20000 in
theorem ggX11_undo_X11_good : GoodIn wsX11_undo wsX11_good := goodIn_r _ [13, 14, 15, 31, 32, 33, 34, 35, 36, 37, 38, 39, 40, 41, 42, 43, 44, 45, 46, 47, 48, 49, 50, 51, 52, 53, 54, 55, 56, 57, 58, 59, 60, 61, 62, 63, 64, 65, 66, 67, 68, 69, 70] (by decide +kernel) (by decide +kernel)
set_option maxRecDepth 20000 in
theorem gX11_undo_X11_good : GoodIn wsX11_undo (wsV RX11 174 RX11 yX11_good wsX11_good) := goodIn_app (goodIn_of _ (by decide +kernel)) ggX11_undo_X11_good
set_option maxRecDepth 20000 in
theorem ggX11_undo_X11_isNot : GoodIn wsX11_undo wsX11_isNot := goodIn_r _ [19, 15, 31, 32, 33, 34, 35, 36, 37, 38, 39, 40, 41, 42, 43, 44, 45, 46, 47, 48, 49, 50, 51, 52, 53, 54, 55, 56, 57, 58, 59, 60, 61, 62, 63, 64, 65, 66, 67, 68, 69, 70] (by decide +kernel) (by decide +kernel)
set_option maxRecDepth 20000 in
theorem gX11_undo_X11_isNot : GoodIn wsX11_undo (wsV RX11 336 RX11 yX11_isNot wsX11_isNot) := goodIn_app (goodIn_of _ (by decide +kernel)) ggX11_undo_X11_isNot
theorem dX11_undo_0 : decode cX11_undo 0 = .ok (.aload_n 0, 1) := by decide +kernel
theorem dX11_undo_1 : decode cX11_undo 1 = .ok (.invokevirtual 174, 3) := by decide +kernel
theorem dX11_undo_4 : decode cX11_undo 4 = .ok (.aload_n 0, 1) := by decide +kernel
theorem dX11_undo_5 : decode cX11_undo 5 = .ok (.getfield 189, 3) := by decide +kernel
theorem dX11_undo_8 : decode cX11_undo 8 = .ok (.ifCond .ne 10, 3) := by decide +kernel
theorem dX11_undo_11 : decode cX11_undo 11 = .ok (.aload_n 0, 1) := by decide +kernel
theorem dX11_undo_12 : decode cX11_undo 12 = .ok (.bipush 6, 2) := by decide +kernel
theorem dX11_undo_14 : decode cX11_undo 14 = .ok (.invokevirtual 336, 3) := by decide +kernel
theorem dX11_undo_17 : decode cX11_undo 17 = .ok (.ireturn, 1) := by decide +kernel
theorem dX11_undo_18 : decode cX11_undo 18 = .ok (.aload_n 0, 1) := by decide +kernel
theorem dX11_undo_19 : decode cX11_undo 19 = .ok (.dup, 1) := by decide +kernel
theorem dX11_undo_20 : decode cX11_undo 20 = .ok (.getfield 189, 3) := by decide +kernel
theorem dX11_undo_23 : decode cX11_undo 23 = .ok (.iconst 1, 1) := by decide +kernel
theorem dX11_undo_24 : decode cX11_undo 24 = .ok (.isub, 1) := by decide +kernel
theorem dX11_undo_25 : decode cX11_undo 25 = .ok (.putfield 189, 3) := by decide +kernel
theorem dX11_undo_28 : decode cX11_undo 28 = .ok (.aload_n 0, 1) := by decide +kernel
theorem dX11_undo_29 : decode cX11_undo 29 = .ok (.getfield 20, 3) := by decide +kernel
theorem dX11_undo_32 : decode cX11_undo 32 = .ok (.iconst 0, 1) := by decide +kernel
theorem dX11_undo_33 : decode cX11_undo 33 = .ok (.aload_n 0, 1) := by decide +kernel
theorem dX11_undo_34 : decode cX11_undo 34 = .ok (.getfield 29, 3) := by decide +kernel
theorem dX11_undo_37 : decode cX11_undo 37 = .ok (.iconst 0, 1) := by decide +kernel
theorem dX11_undo_38 : decode cX11_undo 38 = .ok (.bipush 49, 2) := by decide +kernel
theorem dX11_undo_40 : decode cX11_undo 40 = .ok (.invokestatic 399, 3) := by decide +kernel
theorem dX11_undo_43 : decode cX11_undo 43 = .ok (.iconst 5, 1) := by decide +kernel
theorem dX11_undo_44 : decode cX11_undo 44 = .ok (.aload_n 0, 1) := by decide +kernel
theorem dX11_undo_45 : decode cX11_undo 45 = .ok (.getfield 189, 3) := by decide +kernel
theorem dX11_undo_48 : decode cX11_undo 48 = .ok (.imul, 1) := by decide +kernel
theorem dX11_undo_49 : decode cX11_undo 49 = .ok (.istore_n 1, 1) := by decide +kernel
theorem dX11_undo_50 : decode cX11_undo 50 = .ok (.aload_n 0, 1) := by decide +kernel
theorem dX11_undo_51 : decode cX11_undo 51 = .ok (.getfield 35, 3) := by decide +kernel
theorem dX11_undo_54 : decode cX11_undo 54 = .ok (.aload_n 0, 1) := by decide +kernel
theorem dX11_undo_55 : decode cX11_undo 55 = .ok (.getfield 44, 3) := by decide +kernel
theorem dX11_undo_58 : decode cX11_undo 58 = .ok (.aload_n 0, 1) := by decide +kernel
theorem dX11_undo_59 : decode cX11_undo 59 = .ok (.getfield 192, 3) := by decide +kernel
theorem dX11_undo_62 : decode cX11_undo 62 = .ok (.aload_n 0, 1) := by decide +kernel
theorem dX11_undo_63 : decode cX11_undo 63 = .ok (.getfield 29, 3) := by decide +kernel
theorem dX11_undo_66 : decode cX11_undo 66 = .ok (.aload_n 0, 1) := by decide +kernel
theorem dX11_undo_67 : decode cX11_undo 67 = .ok (.getfield 41, 3) := by decide +kernel
theorem dX11_undo_70 : decode cX11_undo 70 = .ok (.iload_n 1, 1) := by decide +kernel
theorem dX11_undo_71 : decode cX11_undo 71 = .ok (.iaload, 1) := by decide +kernel
theorem dX11_undo_72 : decode cX11_undo 72 = .ok (.aload_n 0, 1) := by decide +kernel
theorem dX11_undo_73 : decode cX11_undo 73 = .ok (.getfield 41, 3) := by decide +kernel
theorem dX11_undo_76 : decode cX11_undo 76 = .ok (.iload_n 1, 1) := by decide +kernel
theorem dX11_undo_77 : decode cX11_undo 77 = .ok (.iconst 1, 1) := by decide +kernel
theorem dX11_undo_78 : decode cX11_undo 78 = .ok (.iadd, 1) := by decide +kernel
theorem dX11_undo_79 : decode cX11_undo 79 = .ok (.iaload, 1) := by decide +kernel
theorem dX11_undo_80 : decode cX11_undo 80 = .ok (.aload_n 0, 1) := by decide +kernel
theorem dX11_undo_81 : decode cX11_undo 81 = .ok (.getfield 41, 3) := by decide +kernel
theorem dX11_undo_84 : decode cX11_undo 84 = .ok (.iload_n 1, 1) := by decide +kernel
theorem dX11_undo_85 : decode cX11_undo 85 = .ok (.iconst 2, 1) := by decide +kernel
theorem dX11_undo_86 : decode cX11_undo 86 = .ok (.iadd, 1) := by decide +kernel
theorem dX11_undo_87 : decode cX11_undo 87 = .ok (.iaload, 1) := by decide +kernel
theorem dX11_undo_88 : decode cX11_undo 88 = .ok (.aload_n 0, 1) := by decide +kernel
theorem dX11_undo_89 : decode cX11_undo 89 = .ok (.getfield 41, 3) := by decide +kernel
theorem dX11_undo_92 : decode cX11_undo 92 = .ok (.iload_n 1, 1) := by decide +kernel
theorem dX11_undo_93 : decode cX11_undo 93 = .ok (.iconst 3, 1) := by decide +kernel
theorem dX11_undo_94 : decode cX11_undo 94 = .ok (.iadd, 1) := by decide +kernel
theorem dX11_undo_95 : decode cX11_undo 95 = .ok (.iaload, 1) := by decide +kernel
theorem dX11_undo_96 : decode cX11_undo 96 = .ok (.aload_n 0, 1) := by decide +kernel
theorem dX11_undo_97 : decode cX11_undo 97 = .ok (.getfield 41, 3) := by decide +kernel
theorem dX11_undo_100 : decode cX11_undo 100 = .ok (.iload_n 1, 1) := by decide +kernel
theorem dX11_undo_101 : decode cX11_undo 101 = .ok (.iconst 4, 1) := by decide +kernel
theorem dX11_undo_102 : decode cX11_undo 102 = .ok (.iadd, 1) := by decide +kernel
theorem dX11_undo_103 : decode cX11_undo 103 = .ok (.iaload, 1) := by decide +kernel
theorem dX11_undo_104 : decode cX11_undo 104 = .ok (.invokestatic 395, 3) := by decide +kernel
theorem dX11_undo_107 : decode cX11_undo 107 = .ok (.aload_n 0, 1) := by decide +kernel
theorem dX11_undo_108 : decode cX11_undo 108 = .ok (.aload_n 0, 1) := by decide +kernel
theorem dX11_undo_109 : decode cX11_undo 109 = .ok (.getfield 192, 3) := by decide +kernel
theorem dX11_undo_112 : decode cX11_undo 112 = .ok (.bipush 20, 2) := by decide +kernel
theorem dX11_undo_114 : decode cX11_undo 114 = .ok (.if_icmp .ne 8, 3) := by decide +kernel
theorem dX11_undo_117 : decode cX11_undo 117 = .ok (.bipush 20, 2) := by decide +kernel
theorem dX11_undo_119 : decode cX11_undo 119 = .ok (.goto 9, 3) := by decide +kernel
theorem dX11_undo_122 : decode cX11_undo 122 = .ok (.aload_n 0, 1) := by decide +kernel
theorem dX11_undo_123 : decode cX11_undo 123 = .ok (.getfield 192, 3) := by decide +kernel
theorem dX11_undo_126 : decode cX11_undo 126 = .ok (.iconst 1, 1) := by decide +kernel
theorem dX11_undo_127 : decode cX11_undo 127 = .ok (.iadd, 1) := by decide +kernel
theorem dX11_undo_128 : decode cX11_undo 128 = .ok (.putfield 192, 3) := by decide +kernel
theorem dX11_undo_131 : decode cX11_undo 131 = .ok (.aload_n 0, 1) := by decide +kernel
theorem dX11_undo_132 : decode cX11_undo 132 = .ok (.getfield 32, 3) := by decide +kernel
theorem dX11_undo_135 : decode cX11_undo 135 = .ok (.bipush 49, 2) := by decide +kernel
theorem dX11_undo_137 : decode cX11_undo 137 = .ok (.aload_n 0, 1) := by decide +kernel
theorem dX11_undo_138 : decode cX11_undo 138 = .ok (.getfield 189, 3) := by decide +kernel
theorem dX11_undo_141 : decode cX11_undo 141 = .ok (.imul, 1) := by decide +kernel
theorem dX11_undo_142 : decode cX11_undo 142 = .ok (.aload_n 0, 1) := by decide +kernel
theorem dX11_undo_143 : decode cX11_undo 143 = .ok (.getfield 20, 3) := by decide +kernel
theorem dX11_undo_146 : decode cX11_undo 146 = .ok (.iconst 0, 1) := by decide +kernel
theorem dX11_undo_147 : decode cX11_undo 147 = .ok (.bipush 49, 2) := by decide +kernel
theorem dX11_undo_149 : decode cX11_undo 149 = .ok (.invokestatic 399, 3) := by decide +kernel
theorem dX11_undo_152 : decode cX11_undo 152 = .ok (.aload_n 0, 1) := by decide +kernel
theorem dX11_undo_153 : decode cX11_undo 153 = .ok (.invokevirtual 186, 3) := by decide +kernel
theorem dX11_undo_156 : decode cX11_undo 156 = .ok (.iconst 1, 1) := by decide +kernel
theorem dX11_undo_157 : decode cX11_undo 157 = .ok (.ireturn, 1) := by decide +kernel
set_option maxRecDepth 20000 in
theorem ggX11_redo_X11_good : GoodIn wsX11_redo wsX11_good := goodIn_r _ [13, 14, 15, 31, 32, 33, 34, 35, 36, 37, 38, 39, 40, 41, 42, 43, 44, 45, 46, 47, 48, 49, 50, 51, 52, 53, 54, 55, 56, 57, 58, 59, 60, 61, 62, 63, 64, 65, 66, 67, 68, 69, 70] (by decide +kernel) (by decide +kernel)
set_option maxRecDepth 20000 in
theorem gX11_redo_X11_good : GoodIn wsX11_redo (wsV RX11 174 RX11 yX11_good wsX11_good) := goodIn_app (goodIn_of _ (by decide +kernel)) ggX11_redo_X11_good
set_option maxRecDepth 20000 in
theorem ggX11_redo_X11_isNot : GoodIn wsX11_redo wsX11_isNot := goodIn_r _ [19, 15, 31, 32, 33, 34, 35, 36, 37, 38, 39, 40, 41, 42, 43, 44, 45, 46, 47, 48, 49, 50, 51, 52, 53, 54, 55, 56, 57, 58, 59, 60, 61, 62, 63, 64, 65, 66, 67, 68, 69, 70] (by decide +kernel) (by decide +kernel)
set_option maxRecDepth 20000 in
theorem gX11_redo_X11_isNot : GoodIn wsX11_redo (wsV RX11 336 RX11 yX11_isNot wsX11_isNot) := goodIn_app (goodIn_of _ (by decide +kernel)) ggX11_redo_X11_isNot
theorem dX11_redo_0 : decode cX11_redo 0 = .ok (.aload_n 0, 1) := by decide +kernel
theorem dX11_redo_1 : decode cX11_redo 1 = .ok (.invokevirtual 174, 3) := by decide +kernel
theorem dX11_redo_4 : decode cX11_redo 4 = .ok (.aload_n 0, 1) := by decide +kernel
theorem dX11_redo_5 : decode cX11_redo 5 = .ok (.getfield 192, 3) := by decide +kernel
theorem dX11_redo_8 : decode cX11_redo 8 = .ok (.ifCond .ne 10, 3) := by decide +kernel
theorem dX11_redo_11 : decode cX11_redo 11 = .ok (.aload_n 0, 1) := by decide +kernel
theorem dX11_redo_12 : decode cX11_redo 12 = .ok (.bipush 6, 2) := by decide +kernel
theorem dX11_redo_14 : decode cX11_redo 14 = .ok (.invokevirtual 336, 3) := by decide +kernel
theorem dX11_redo_17 : decode cX11_redo 17 = .ok (.ireturn, 1) := by decide +kernel
theorem dX11_redo_18 : decode cX11_redo 18 = .ok (.aload_n 0, 1) := by decide +kernel
theorem dX11_redo_19 : decode cX11_redo 19 = .ok (.dup, 1) := by decide +kernel
theorem dX11_redo_20 : decode cX11_redo 20 = .ok (.getfield 192, 3) := by decide +kernel
theorem dX11_redo_23 : decode cX11_redo 23 = .ok (.iconst 1, 1) := by decide +kernel
theorem dX11_redo_24 : decode cX11_redo 24 = .ok (.isub, 1) := by decide +kernel
theorem dX11_redo_25 : decode cX11_redo 25 = .ok (.putfield 192, 3) := by decide +kernel
theorem dX11_redo_28 : decode cX11_redo 28 = .ok (.aload_n 0, 1) := by decide +kernel
theorem dX11_redo_29 : decode cX11_redo 29 = .ok (.getfield 20, 3) := by decide +kernel
theorem dX11_redo_32 : decode cX11_redo 32 = .ok (.iconst 0, 1) := by decide +kernel
theorem dX11_redo_33 : decode cX11_redo 33 = .ok (.aload_n 0, 1) := by decide +kernel
theorem dX11_redo_34 : decode cX11_redo 34 = .ok (.getfield 29, 3) := by decide +kernel
theorem dX11_redo_37 : decode cX11_redo 37 = .ok (.iconst 0, 1) := by decide +kernel
theorem dX11_redo_38 : decode cX11_redo 38 = .ok (.bipush 49, 2) := by decide +kernel
theorem dX11_redo_40 : decode cX11_redo 40 = .ok (.invokestatic 399, 3) := by decide +kernel
theorem dX11_redo_43 : decode cX11_redo 43 = .ok (.iconst 5, 1) := by decide +kernel
theorem dX11_redo_44 : decode cX11_redo 44 = .ok (.aload_n 0, 1) := by decide +kernel
theorem dX11_redo_45 : decode cX11_redo 45 = .ok (.getfield 192, 3) := by decide +kernel
theorem dX11_redo_48 : decode cX11_redo 48 = .ok (.imul, 1) := by decide +kernel
theorem dX11_redo_49 : decode cX11_redo 49 = .ok (.istore_n 1, 1) := by decide +kernel
theorem dX11_redo_50 : decode cX11_redo 50 = .ok (.aload_n 0, 1) := by decide +kernel
theorem dX11_redo_51 : decode cX11_redo 51 = .ok (.getfield 32, 3) := by decide +kernel
theorem dX11_redo_54 : decode cX11_redo 54 = .ok (.aload_n 0, 1) := by decide +kernel
theorem dX11_redo_55 : decode cX11_redo 55 = .ok (.getfield 41, 3) := by decide +kernel
theorem dX11_redo_58 : decode cX11_redo 58 = .ok (.aload_n 0, 1) := by decide +kernel
theorem dX11_redo_59 : decode cX11_redo 59 = .ok (.getfield 189, 3) := by decide +kernel
theorem dX11_redo_62 : decode cX11_redo 62 = .ok (.aload_n 0, 1) := by decide +kernel
theorem dX11_redo_63 : decode cX11_redo 63 = .ok (.getfield 29, 3) := by decide +kernel
theorem dX11_redo_66 : decode cX11_redo 66 = .ok (.aload_n 0, 1) := by decide +kernel
theorem dX11_redo_67 : decode cX11_redo 67 = .ok (.getfield 44, 3) := by decide +kernel
theorem dX11_redo_70 : decode cX11_redo 70 = .ok (.iload_n 1, 1) := by decide +kernel
theorem dX11_redo_71 : decode cX11_redo 71 = .ok (.iaload, 1) := by decide +kernel
theorem dX11_redo_72 : decode cX11_redo 72 = .ok (.aload_n 0, 1) := by decide +kernel
theorem dX11_redo_73 : decode cX11_redo 73 = .ok (.getfield 44, 3) := by decide +kernel
theorem dX11_redo_76 : decode cX11_redo 76 = .ok (.iload_n 1, 1) := by decide +kernel
theorem dX11_redo_77 : decode cX11_redo 77 = .ok (.iconst 1, 1) := by decide +kernel
theorem dX11_redo_78 : decode cX11_redo 78 = .ok (.iadd, 1) := by decide +kernel
theorem dX11_redo_79 : decode cX11_redo 79 = .ok (.iaload, 1) := by decide +kernel
theorem dX11_redo_80 : decode cX11_redo 80 = .ok (.aload_n 0, 1) := by decide +kernel
theorem dX11_redo_81 : decode cX11_redo 81 = .ok (.getfield 44, 3) := by decide +kernel
theorem dX11_redo_84 : decode cX11_redo 84 = .ok (.iload_n 1, 1) := by decide +kernel
theorem dX11_redo_85 : decode cX11_redo 85 = .ok (.iconst 2, 1) := by decide +kernel
theorem dX11_redo_86 : decode cX11_redo 86 = .ok (.iadd, 1) := by decide +kernel
theorem dX11_redo_87 : decode cX11_redo 87 = .ok (.iaload, 1) := by decide +kernel
theorem dX11_redo_88 : decode cX11_redo 88 = .ok (.aload_n 0, 1) := by decide +kernel
theorem dX11_redo_89 : decode cX11_redo 89 = .ok (.getfield 44, 3) := by decide +kernel
theorem dX11_redo_92 : decode cX11_redo 92 = .ok (.iload_n 1, 1) := by decide +kernel
theorem dX11_redo_93 : decode cX11_redo 93 = .ok (.iconst 3, 1) := by decide +kernel
theorem dX11_redo_94 : decode cX11_redo 94 = .ok (.iadd, 1) := by decide +kernel
theorem dX11_redo_95 : decode cX11_redo 95 = .ok (.iaload, 1) := by decide +kernel
theorem dX11_redo_96 : decode cX11_redo 96 = .ok (.aload_n 0, 1) := by decide +kernel
theorem dX11_redo_97 : decode cX11_redo 97 = .ok (.getfield 44, 3) := by decide +kernel
theorem dX11_redo_100 : decode cX11_redo 100 = .ok (.iload_n 1, 1) := by decide +kernel
theorem dX11_redo_101 : decode cX11_redo 101 = .ok (.iconst 4, 1) := by decide +kernel
theorem dX11_redo_102 : decode cX11_redo 102 = .ok (.iadd, 1) := by decide +kernel
theorem dX11_redo_103 : decode cX11_redo 103 = .ok (.iaload, 1) := by decide +kernel
theorem dX11_redo_104 : decode cX11_redo 104 = .ok (.invokestatic 395, 3) := by decide +kernel
theorem dX11_redo_107 : decode cX11_redo 107 = .ok (.aload_n 0, 1) := by decide +kernel
theorem dX11_redo_108 : decode cX11_redo 108 = .ok (.aload_n 0, 1) := by decide +kernel
theorem dX11_redo_109 : decode cX11_redo 109 = .ok (.getfield 189, 3) := by decide +kernel
theorem dX11_redo_112 : decode cX11_redo 112 = .ok (.bipush 20, 2) := by decide +kernel
theorem dX11_redo_114 : decode cX11_redo 114 = .ok (.if_icmp .ne 8, 3) := by decide +kernel
theorem dX11_redo_117 : decode cX11_redo 117 = .ok (.bipush 20, 2) := by decide +kernel
theorem dX11_redo_119 : decode cX11_redo 119 = .ok (.goto 9, 3) := by decide +kernel
theorem dX11_redo_122 : decode cX11_redo 122 = .ok (.aload_n 0, 1) := by decide +kernel
theorem dX11_redo_123 : decode cX11_redo 123 = .ok (.getfield 189, 3) := by decide +kernel
theorem dX11_redo_126 : decode cX11_redo 126 = .ok (.iconst 1, 1) := by decide +kernel
theorem dX11_redo_127 : decode cX11_redo 127 = .ok (.iadd, 1) := by decide +kernel
theorem dX11_redo_128 : decode cX11_redo 128 = .ok (.putfield 189, 3) := by decide +kernel
theorem dX11_redo_131 : decode cX11_redo 131 = .ok (.aload_n 0, 1) := by decide +kernel
theorem dX11_redo_132 : decode cX11_redo 132 = .ok (.getfield 35, 3) := by decide +kernel
theorem dX11_redo_135 : decode cX11_redo 135 = .ok (.bipush 49, 2) := by decide +kernel
theorem dX11_redo_137 : decode cX11_redo 137 = .ok (.aload_n 0, 1) := by decide +kernel
theorem dX11_redo_138 : decode cX11_redo 138 = .ok (.getfield 192, 3) := by decide +kernel
theorem dX11_redo_141 : decode cX11_redo 141 = .ok (.imul, 1) := by decide +kernel
theorem dX11_redo_142 : decode cX11_redo 142 = .ok (.aload_n 0, 1) := by decide +kernel
theorem dX11_redo_143 : decode cX11_redo 143 = .ok (.getfield 20, 3) := by decide +kernel
theorem dX11_redo_146 : decode cX11_redo 146 = .ok (.iconst 0, 1) := by decide +kernel
theorem dX11_redo_147 : decode cX11_redo 147 = .ok (.bipush 49, 2) := by decide +kernel
theorem dX11_redo_149 : decode cX11_redo 149 = .ok (.invokestatic 399, 3) := by decide +kernel
theorem dX11_redo_152 : decode cX11_redo 152 = .ok (.aload_n 0, 1) := by decide +kernel
theorem dX11_redo_153 : decode cX11_redo 153 = .ok (.invokevirtual 186, 3) := by decide +kernel
theorem dX11_redo_156 : decode cX11_redo 156 = .ok (.iconst 1, 1) := by decide +kernel
theorem dX11_redo_157 : decode cX11_redo 157 = .ok (.ireturn, 1) := by decide +kernel
set_option maxRecDepth 20000 in
theorem ggX11_mark_X11_good : GoodIn wsX11_mark wsX11_good := goodIn_r _ [9, 10, 11, 19, 20, 21, 22, 23, 24, 25, 26, 27, 28, 29, 30, 31, 32, 33, 34, 35, 36, 37, 38, 39, 40, 41, 42, 43, 44, 45, 46, 47, 48, 49, 50, 51, 52, 53, 54, 55, 56, 57, 58] (by decide +kernel) (by decide +kernel)
set_option maxRecDepth 20000 in
theorem gX11_mark_X11_good : GoodIn wsX11_mark (wsV RX11 174 RX11 yX11_good wsX11_good) := goodIn_app (goodIn_of _ (by decide +kernel)) ggX11_mark_X11_good
set_option maxRecDepth 20000 in
theorem ggX11_mark_X11_no : GoodIn wsX11_mark wsX11_no := goodIn_r _ [15, 11, 19, 20, 21, 22, 23, 24, 25, 26, 27, 28, 29, 30, 31, 32, 33, 34, 35, 36, 37, 38, 39, 40, 41, 42, 43, 44, 45, 46, 47, 48, 49, 50, 51, 52, 53, 54, 55, 56, 57, 58] (by decide +kernel) (by decide +kernel)
set_option maxRecDepth 20000 in
theorem gX11_mark_X11_no : GoodIn wsX11_mark (wsV RX11 177 RX11 yX11_no wsX11_no) := goodIn_app (goodIn_of _ (by decide +kernel)) ggX11_mark_X11_no
theorem dX11_mark_0 : decode cX11_mark 0 = .ok (.aload_n 0, 1) := by decide +kernel
theorem dX11_mark_1 : decode cX11_mark 1 = .ok (.invokevirtual 174, 3) := by decide +kernel
theorem dX11_mark_4 : decode cX11_mark 4 = .ok (.aload_n 0, 1) := by decide +kernel
theorem dX11_mark_5 : decode cX11_mark 5 = .ok (.getfield 183, 3) := by decide +kernel
theorem dX11_mark_8 : decode cX11_mark 8 = .ok (.ifCond .ne 9, 3) := by decide +kernel
theorem dX11_mark_11 : decode cX11_mark 11 = .ok (.aload_n 0, 1) := by decide +kernel
theorem dX11_mark_12 : decode cX11_mark 12 = .ok (.iconst 1, 1) := by decide +kernel
theorem dX11_mark_13 : decode cX11_mark 13 = .ok (.invokevirtual 177, 3) := by decide +kernel
theorem dX11_mark_16 : decode cX11_mark 16 = .ok (.ireturn, 1) := by decide +kernel
theorem dX11_mark_17 : decode cX11_mark 17 = .ok (.aload_n 0, 1) := by decide +kernel
theorem dX11_mark_18 : decode cX11_mark 18 = .ok (.getfield 195, 3) := by decide +kernel
theorem dX11_mark_21 : decode cX11_mark 21 = .ok (.iconst 4, 1) := by decide +kernel
theorem dX11_mark_22 : decode cX11_mark 22 = .ok (.if_icmp .ne 9, 3) := by decide +kernel
theorem dX11_mark_25 : decode cX11_mark 25 = .ok (.aload_n 0, 1) := by decide +kernel
theorem dX11_mark_26 : decode cX11_mark 26 = .ok (.iconst 3, 1) := by decide +kernel
theorem dX11_mark_27 : decode cX11_mark 27 = .ok (.invokevirtual 177, 3) := by decide +kernel
theorem dX11_mark_30 : decode cX11_mark 30 = .ok (.ireturn, 1) := by decide +kernel
theorem dX11_mark_31 : decode cX11_mark 31 = .ok (.aload_n 0, 1) := by decide +kernel
theorem dX11_mark_32 : decode cX11_mark 32 = .ok (.getfield 20, 3) := by decide +kernel
theorem dX11_mark_35 : decode cX11_mark 35 = .ok (.iconst 0, 1) := by decide +kernel
theorem dX11_mark_36 : decode cX11_mark 36 = .ok (.aload_n 0, 1) := by decide +kernel
theorem dX11_mark_37 : decode cX11_mark 37 = .ok (.getfield 38, 3) := by decide +kernel
theorem dX11_mark_40 : decode cX11_mark 40 = .ok (.bipush 49, 2) := by decide +kernel
theorem dX11_mark_42 : decode cX11_mark 42 = .ok (.aload_n 0, 1) := by decide +kernel
theorem dX11_mark_43 : decode cX11_mark 43 = .ok (.getfield 195, 3) := by decide +kernel
theorem dX11_mark_46 : decode cX11_mark 46 = .ok (.imul, 1) := by decide +kernel
theorem dX11_mark_47 : decode cX11_mark 47 = .ok (.bipush 49, 2) := by decide +kernel
theorem dX11_mark_49 : decode cX11_mark 49 = .ok (.invokestatic 399, 3) := by decide +kernel
theorem dX11_mark_52 : decode cX11_mark 52 = .ok (.aload_n 0, 1) := by decide +kernel
theorem dX11_mark_53 : decode cX11_mark 53 = .ok (.dup, 1) := by decide +kernel
theorem dX11_mark_54 : decode cX11_mark 54 = .ok (.getfield 195, 3) := by decide +kernel
theorem dX11_mark_57 : decode cX11_mark 57 = .ok (.iconst 1, 1) := by decide +kernel
theorem dX11_mark_58 : decode cX11_mark 58 = .ok (.iadd, 1) := by decide +kernel
theorem dX11_mark_59 : decode cX11_mark 59 = .ok (.putfield 195, 3) := by decide +kernel
theorem dX11_mark_62 : decode cX11_mark 62 = .ok (.aload_n 0, 1) := by decide +kernel
theorem dX11_mark_63 : decode cX11_mark 63 = .ok (.getfield 195, 3) := by decide +kernel
theorem dX11_mark_66 : decode cX11_mark 66 = .ok (.iconst 1, 1) := by decide +kernel
theorem dX11_mark_67 : decode cX11_mark 67 = .ok (.isub, 1) := by decide +kernel
theorem dX11_mark_68 : decode cX11_mark 68 = .ok (.ireturn, 1) := by decide +kernel
set_option maxRecDepth 20000 in
theorem ggX11_back_X11_good : GoodIn wsX11_back wsX11_good := goodIn_r _ [10, 11, 12, 28, 29, 30, 31, 32, 33, 34, 35, 36, 37, 38, 39, 40, 41, 42, 43, 44, 45, 46, 47, 48, 49, 50, 51, 52, 53, 54, 55, 56, 57, 58, 59, 60, 61, 62, 63, 64, 65, 66, 67] (by decide +kernel) (by decide +kernel)
set_option maxRecDepth 20000 in
theorem gX11_back_X11_good : GoodIn wsX11_back (wsV RX11 174 RX11 yX11_good wsX11_good) := goodIn_app (goodIn_of _ (by decide +kernel)) ggX11_back_X11_good
set_option maxRecDepth 20000 in
theorem ggX11_back_X11_within : GoodIn wsX11_back wsX11_within := goodIn_r _ [15] (by decide +kernel) (by decide +kernel)
set_option maxRecDepth 20000 in
theorem gX11_back_X11_within : GoodIn wsX11_back (va_wsS RX11 170 yX11_within wsX11_within) := goodIn_app (goodIn_of _ (by decide +kernel)) ggX11_back_X11_within
set_option maxRecDepth 20000 in
theorem ggX11_back_X11_isNot : GoodIn wsX11_back wsX11_isNot := goodIn_r _ [19, 12, 28, 29, 30, 31, 32, 33, 34, 35, 36, 37, 38, 39, 40, 41, 42, 43, 44, 45, 46, 47, 48, 49, 50, 51, 52, 53, 54, 55, 56, 57, 58, 59, 60, 61, 62, 63, 64, 65, 66, 67] (by decide +kernel) (by decide +kernel)
set_option maxRecDepth 20000 in
theorem gX11_back_X11_isNot : GoodIn wsX11_back (wsV RX11 336 RX11 yX11_isNot wsX11_isNot) := goodIn_app (goodIn_of _ (by decide +kernel)) ggX11_back_X11_isNot
theorem dX11_back_0 : decode cX11_back 0 = .ok (.aload_n 0, 1) := by decide +kernel
theorem dX11_back_1 : decode cX11_back 1 = .ok (.invokevirtual 174, 3) := by decide +kernel
theorem dX11_back_4 : decode cX11_back 4 = .ok (.iload_n 1, 1) := by decide +kernel
theorem dX11_back_5 : decode cX11_back 5 = .ok (.iconst 0, 1) := by decide +kernel
theorem dX11_back_6 : decode cX11_back 6 = .ok (.aload_n 0, 1) := by decide +kernel
theorem dX11_back_7 : decode cX11_back 7 = .ok (.getfield 195, 3) := by decide +kernel
theorem dX11_back_10 : decode cX11_back 10 = .ok (.iconst 1, 1) := by decide +kernel
theorem dX11_back_11 : decode cX11_back 11 = .ok (.isub, 1) := by decide +kernel
theorem dX11_back_12 : decode cX11_back 12 = .ok (.invokestatic 170, 3) := by decide +kernel
theorem dX11_back_15 : decode cX11_back 15 = .ok (.ifCond .ne 9, 3) := by decide +kernel
theorem dX11_back_18 : decode cX11_back 18 = .ok (.aload_n 0, 1) := by decide +kernel
theorem dX11_back_19 : decode cX11_back 19 = .ok (.iconst 1, 1) := by decide +kernel
theorem dX11_back_20 : decode cX11_back 20 = .ok (.invokevirtual 336, 3) := by decide +kernel
theorem dX11_back_23 : decode cX11_back 23 = .ok (.ireturn, 1) := by decide +kernel
theorem dX11_back_24 : decode cX11_back 24 = .ok (.aload_n 0, 1) := by decide +kernel
theorem dX11_back_25 : decode cX11_back 25 = .ok (.getfield 38, 3) := by decide +kernel
theorem dX11_back_28 : decode cX11_back 28 = .ok (.bipush 49, 2) := by decide +kernel
theorem dX11_back_30 : decode cX11_back 30 = .ok (.iload_n 1, 1) := by decide +kernel
theorem dX11_back_31 : decode cX11_back 31 = .ok (.imul, 1) := by decide +kernel
theorem dX11_back_32 : decode cX11_back 32 = .ok (.aload_n 0, 1) := by decide +kernel
theorem dX11_back_33 : decode cX11_back 33 = .ok (.getfield 20, 3) := by decide +kernel
theorem dX11_back_36 : decode cX11_back 36 = .ok (.iconst 0, 1) := by decide +kernel
theorem dX11_back_37 : decode cX11_back 37 = .ok (.bipush 49, 2) := by decide +kernel
theorem dX11_back_39 : decode cX11_back 39 = .ok (.invokestatic 399, 3) := by decide +kernel
theorem dX11_back_42 : decode cX11_back 42 = .ok (.aload_n 0, 1) := by decide +kernel
theorem dX11_back_43 : decode cX11_back 43 = .ok (.iconst 0, 1) := by decide +kernel
theorem dX11_back_44 : decode cX11_back 44 = .ok (.putfield 189, 3) := by decide +kernel
theorem dX11_back_47 : decode cX11_back 47 = .ok (.aload_n 0, 1) := by decide +kernel
theorem dX11_back_48 : decode cX11_back 48 = .ok (.iconst 0, 1) := by decide +kernel
theorem dX11_back_49 : decode cX11_back 49 = .ok (.putfield 192, 3) := by decide +kernel
theorem dX11_back_52 : decode cX11_back 52 = .ok (.aload_n 0, 1) := by decide +kernel
theorem dX11_back_53 : decode cX11_back 53 = .ok (.invokevirtual 186, 3) := by decide +kernel
theorem dX11_back_56 : decode cX11_back 56 = .ok (.iconst 1, 1) := by decide +kernel
theorem dX11_back_57 : decode cX11_back 57 = .ok (.ireturn, 1) := by decide +kernel
set_option maxRecDepth 20000 in
theorem ggX11_act_X11_good : GoodIn wsX11_act wsX11_good := goodIn_r _ [8, 9, 10, 18, 19, 20, 21, 22, 23, 24, 25, 26, 27, 28, 29, 30, 31, 32, 33, 34, 35, 36, 37, 38, 39, 40, 41, 42, 43, 44, 45, 46, 47, 48, 49, 50, 51, 52, 53, 54, 55, 56, 57] (by decide +kernel) (by decide +kernel)
set_option maxRecDepth 20000 in
theorem gX11_act_X11_good : GoodIn wsX11_act (wsV RX11 174 RX11 yX11_good wsX11_good) := goodIn_app (goodIn_of _ (by decide +kernel)) ggX11_act_X11_good
set_option maxRecDepth 20000 in
theorem ggX11_act_X11_no : GoodIn wsX11_act wsX11_no := goodIn_r _ [17, 10, 18, 19, 20, 21, 22, 23, 24, 25, 26, 27, 28, 29, 30, 31, 32, 33, 34, 35, 36, 37, 38, 39, 40, 41, 42, 43, 44, 45, 46, 47, 48, 49, 50, 51, 52, 53, 54, 55, 56, 57] (by decide +kernel) (by decide +kernel)
set_option maxRecDepth 20000 in
theorem gX11_act_X11_no : GoodIn wsX11_act (wsV RX11 177 RX11 yX11_no wsX11_no) := goodIn_app (goodIn_of _ (by decide +kernel)) ggX11_act_X11_no
theorem dX11_act_0 : decode cX11_act 0 = .ok (.aload_n 0, 1) := by decide +kernel
theorem dX11_act_1 : decode cX11_act 1 = .ok (.invokevirtual 174, 3) := by decide +kernel
theorem dX11_act_4 : decode cX11_act 4 = .ok (.aload_n 0, 1) := by decide +kernel
theorem dX11_act_5 : decode cX11_act 5 = .ok (.getfield 183, 3) := by decide +kernel
theorem dX11_act_8 : decode cX11_act 8 = .ok (.ifCond .eq 39, 3) := by decide +kernel
theorem dX11_act_11 : decode cX11_act 11 = .ok (.iload_n 1, 1) := by decide +kernel
theorem dX11_act_12 : decode cX11_act 12 = .ok (.iconst 0, 1) := by decide +kernel
theorem dX11_act_13 : decode cX11_act 13 = .ok (.aload_n 0, 1) := by decide +kernel
theorem dX11_act_14 : decode cX11_act 14 = .ok (.getfield 189, 3) := by decide +kernel
theorem dX11_act_17 : decode cX11_act 17 = .ok (.iconst 1, 1) := by decide +kernel
theorem dX11_act_18 : decode cX11_act 18 = .ok (.isub, 1) := by decide +kernel
theorem dX11_act_19 : decode cX11_act 19 = .ok (.invokestatic 170, 3) := by decide +kernel
theorem dX11_act_22 : decode cX11_act 22 = .ok (.ifCond .eq 25, 3) := by decide +kernel
theorem dX11_act_25 : decode cX11_act 25 = .ok (.iload_n 2, 1) := by decide +kernel
theorem dX11_act_26 : decode cX11_act 26 = .ok (.iconst 0, 1) := by decide +kernel
theorem dX11_act_27 : decode cX11_act 27 = .ok (.iconst 4, 1) := by decide +kernel
theorem dX11_act_28 : decode cX11_act 28 = .ok (.invokestatic 170, 3) := by decide +kernel
theorem dX11_act_31 : decode cX11_act 31 = .ok (.ifCond .eq 16, 3) := by decide +kernel
theorem dX11_act_34 : decode cX11_act 34 = .ok (.aload_n 0, 1) := by decide +kernel
theorem dX11_act_35 : decode cX11_act 35 = .ok (.getfield 41, 3) := by decide +kernel
theorem dX11_act_38 : decode cX11_act 38 = .ok (.iconst 5, 1) := by decide +kernel
theorem dX11_act_39 : decode cX11_act 39 = .ok (.iload_n 1, 1) := by decide +kernel
theorem dX11_act_40 : decode cX11_act 40 = .ok (.imul, 1) := by decide +kernel
theorem dX11_act_41 : decode cX11_act 41 = .ok (.iload_n 2, 1) := by decide +kernel
theorem dX11_act_42 : decode cX11_act 42 = .ok (.iadd, 1) := by decide +kernel
theorem dX11_act_43 : decode cX11_act 43 = .ok (.iaload, 1) := by decide +kernel
theorem dX11_act_44 : decode cX11_act 44 = .ok (.goto 8, 3) := by decide +kernel
theorem dX11_act_47 : decode cX11_act 47 = .ok (.aload_n 0, 1) := by decide +kernel
theorem dX11_act_48 : decode cX11_act 48 = .ok (.iconst 1, 1) := by decide +kernel
theorem dX11_act_49 : decode cX11_act 49 = .ok (.invokevirtual 177, 3) := by decide +kernel
theorem dX11_act_52 : decode cX11_act 52 = .ok (.ireturn, 1) := by decide +kernel
set_option maxRecDepth 20000 in
theorem ggX11_times_X11_good : GoodIn wsX11_times wsX11_good := goodIn_r _ [6, 7, 8, 28, 29, 30, 31, 32, 33, 34, 35, 36, 37, 38, 39, 40, 41, 42, 43, 44, 45, 46, 47, 48, 49, 50, 51, 52, 53, 54, 55, 56, 57, 58, 59, 60, 61, 62, 63, 64, 65, 66, 67] (by decide +kernel) (by decide +kernel)
set_option maxRecDepth 20000 in
theorem gX11_times_X11_good : GoodIn wsX11_times (wsV RX11 174 RX11 yX11_good wsX11_good) := goodIn_app (goodIn_of _ (by decide +kernel)) ggX11_times_X11_good
set_option maxRecDepth 20000 in
theorem ggX11_times_X11_isOutcome : GoodIn wsX11_times wsX11_isOutcome := goodIn_r _ [12, 1, 13, 14, 15, 5, 16, 17, 18, 19, 20, 21, 22, 23, 28, 29, 30, 31, 32, 33, 34, 35, 36, 37, 38, 39, 40, 41, 42, 43, 44, 45, 46, 47, 48, 49, 50, 51, 52, 53, 54, 55, 56, 57, 58, 59, 60, 61, 62, 63, 64, 65, 66, 67] (by decide +kernel) (by decide +kernel)
set_option maxRecDepth 20000 in
theorem gX11_times_X11_isOutcome : GoodIn wsX11_times (wsV RX11 305 RX11 yX11_isOutcome wsX11_isOutcome) := goodIn_app (goodIn_of _ (by decide +kernel)) ggX11_times_X11_isOutcome
set_option maxRecDepth 20000 in
theorem ggX11_times_X11_no : GoodIn wsX11_times wsX11_no := goodIn_r _ [27, 8, 28, 29, 30, 31, 32, 33, 34, 35, 36, 37, 38, 39, 40, 41, 42, 43, 44, 45, 46, 47, 48, 49, 50, 51, 52, 53, 54, 55, 56, 57, 58, 59, 60, 61, 62, 63, 64, 65, 66, 67] (by decide +kernel) (by decide +kernel)
set_option maxRecDepth 20000 in
theorem gX11_times_X11_no : GoodIn wsX11_times (wsV RX11 177 RX11 yX11_no wsX11_no) := goodIn_app (goodIn_of _ (by decide +kernel)) ggX11_times_X11_no
theorem dX11_times_0 : decode cX11_times 0 = .ok (.aload_n 0, 1) := by decide +kernel
theorem dX11_times_1 : decode cX11_times 1 = .ok (.invokevirtual 174, 3) := by decide +kernel
theorem dX11_times_4 : decode cX11_times 4 = .ok (.aload_n 0, 1) := by decide +kernel
theorem dX11_times_5 : decode cX11_times 5 = .ok (.iload_n 1, 1) := by decide +kernel
theorem dX11_times_6 : decode cX11_times 6 = .ok (.iload_n 2, 1) := by decide +kernel
theorem dX11_times_7 : decode cX11_times 7 = .ok (.invokevirtual 305, 3) := by decide +kernel
theorem dX11_times_10 : decode cX11_times 10 = .ok (.ifCond .eq 19, 3) := by decide +kernel
theorem dX11_times_13 : decode cX11_times 13 = .ok (.aload_n 0, 1) := by decide +kernel
theorem dX11_times_14 : decode cX11_times 14 = .ok (.getfield 20, 3) := by decide +kernel
theorem dX11_times_17 : decode cX11_times 17 = .ok (.bipush 17, 2) := by decide +kernel
theorem dX11_times_19 : decode cX11_times 19 = .ok (.iconst 4, 1) := by decide +kernel
theorem dX11_times_20 : decode cX11_times 20 = .ok (.iload_n 1, 1) := by decide +kernel
theorem dX11_times_21 : decode cX11_times 21 = .ok (.imul, 1) := by decide +kernel
theorem dX11_times_22 : decode cX11_times 22 = .ok (.iadd, 1) := by decide +kernel
theorem dX11_times_23 : decode cX11_times 23 = .ok (.iload_n 2, 1) := by decide +kernel
theorem dX11_times_24 : decode cX11_times 24 = .ok (.iadd, 1) := by decide +kernel
theorem dX11_times_25 : decode cX11_times 25 = .ok (.iaload, 1) := by decide +kernel
theorem dX11_times_26 : decode cX11_times 26 = .ok (.goto 8, 3) := by decide +kernel
theorem dX11_times_29 : decode cX11_times 29 = .ok (.aload_n 0, 1) := by decide +kernel
theorem dX11_times_30 : decode cX11_times 30 = .ok (.iconst 1, 1) := by decide +kernel
theorem dX11_times_31 : decode cX11_times 31 = .ok (.invokevirtual 177, 3) := by decide +kernel
theorem dX11_times_34 : decode cX11_times 34 = .ok (.ireturn, 1) := by decide +kernel
set_option maxRecDepth 20000 in
theorem ggX11_look_X11_good : GoodIn wsX11_look wsX11_good := goodIn_r _ [6, 7, 8, 21, 22, 23, 24, 25, 26, 27, 28, 29, 30, 31, 32, 33, 34, 35, 36, 37, 38, 39, 40, 41, 42, 43, 44, 45, 46, 47, 48, 49, 50, 51, 52, 53, 54, 55, 56, 57, 58, 59, 60] (by decide +kernel) (by decide +kernel)
set_option maxRecDepth 20000 in
theorem gX11_look_X11_good : GoodIn wsX11_look (wsV RX11 174 RX11 yX11_good wsX11_good) := goodIn_app (goodIn_of _ (by decide +kernel)) ggX11_look_X11_good
set_option maxRecDepth 20000 in
theorem ggX11_look_X11_isSet : GoodIn wsX11_look wsX11_isSet := goodIn_r _ [12, 13, 1, 14, 15, 5, 16, 21, 22, 23, 24, 25, 26, 27, 28, 29, 30, 31, 32, 33, 34, 35, 36, 37, 38, 39, 40, 41, 42, 43, 44, 45, 46, 47, 48, 49, 50, 51, 52, 53, 54, 55, 56, 57, 58, 59, 60] (by decide +kernel) (by decide +kernel)
set_option maxRecDepth 20000 in
theorem gX11_look_X11_isSet : GoodIn wsX11_look (wsV RX11 244 RX11 yX11_isSet wsX11_isSet) := goodIn_app (goodIn_of _ (by decide +kernel)) ggX11_look_X11_isSet
set_option maxRecDepth 20000 in
theorem ggX11_look_X11_no : GoodIn wsX11_look wsX11_no := goodIn_r _ [20, 8, 21, 22, 23, 24, 25, 26, 27, 28, 29, 30, 31, 32, 33, 34, 35, 36, 37, 38, 39, 40, 41, 42, 43, 44, 45, 46, 47, 48, 49, 50, 51, 52, 53, 54, 55, 56, 57, 58, 59, 60] (by decide +kernel) (by decide +kernel)
set_option maxRecDepth 20000 in
theorem gX11_look_X11_no : GoodIn wsX11_look (wsV RX11 177 RX11 yX11_no wsX11_no) := goodIn_app (goodIn_of _ (by decide +kernel)) ggX11_look_X11_no
theorem dX11_look_0 : decode cX11_look 0 = .ok (.aload_n 0, 1) := by decide +kernel
theorem dX11_look_1 : decode cX11_look 1 = .ok (.invokevirtual 174, 3) := by decide +kernel
theorem dX11_look_4 : decode cX11_look 4 = .ok (.aload_n 0, 1) := by decide +kernel
theorem dX11_look_5 : decode cX11_look 5 = .ok (.iload_n 1, 1) := by decide +kernel
theorem dX11_look_6 : decode cX11_look 6 = .ok (.invokevirtual 244, 3) := by decide +kernel
theorem dX11_look_9 : decode cX11_look 9 = .ok (.ifCond .eq 23, 3) := by decide +kernel
theorem dX11_look_12 : decode cX11_look 12 = .ok (.aload_n 0, 1) := by decide +kernel
theorem dX11_look_13 : decode cX11_look 13 = .ok (.getfield 20, 3) := by decide +kernel
theorem dX11_look_16 : decode cX11_look 16 = .ok (.iload_n 2, 1) := by decide +kernel
theorem dX11_look_17 : decode cX11_look 17 = .ok (.ifCond .eq 8, 3) := by decide +kernel
theorem dX11_look_20 : decode cX11_look 20 = .ok (.bipush 9, 2) := by decide +kernel
theorem dX11_look_22 : decode cX11_look 22 = .ok (.goto 4, 3) := by decide +kernel
theorem dX11_look_25 : decode cX11_look 25 = .ok (.iconst 1, 1) := by decide +kernel
theorem dX11_look_26 : decode cX11_look 26 = .ok (.iload_n 1, 1) := by decide +kernel
theorem dX11_look_27 : decode cX11_look 27 = .ok (.iadd, 1) := by decide +kernel
theorem dX11_look_28 : decode cX11_look 28 = .ok (.iaload, 1) := by decide +kernel
theorem dX11_look_29 : decode cX11_look 29 = .ok (.goto 8, 3) := by decide +kernel
theorem dX11_look_32 : decode cX11_look 32 = .ok (.aload_n 0, 1) := by decide +kernel
theorem dX11_look_33 : decode cX11_look 33 = .ok (.iconst 1, 1) := by decide +kernel
theorem dX11_look_34 : decode cX11_look 34 = .ok (.invokevirtual 177, 3) := by decide +kernel
theorem dX11_look_37 : decode cX11_look 37 = .ok (.ireturn, 1) := by decide +kernel
set_option maxRecDepth 20000 in
theorem ggX11_coins_X11_good : GoodIn wsX11_coins wsX11_good := goodIn_r _ [6, 7, 8, 29, 30, 31, 32, 33, 34, 35, 36, 37, 38, 39, 40, 41, 42, 43, 44, 45, 46, 47, 48, 49, 50, 51, 52, 53, 54, 55, 56, 57, 58, 59, 60, 61, 62, 63, 64, 65, 66, 67, 68] (by decide +kernel) (by decide +kernel)
set_option maxRecDepth 20000 in
theorem gX11_coins_X11_good : GoodIn wsX11_coins (wsV RX11 174 RX11 yX11_good wsX11_good) := goodIn_app (goodIn_of _ (by decide +kernel)) ggX11_coins_X11_good
set_option maxRecDepth 20000 in
theorem ggX11_coins_X11_isOutcome : GoodIn wsX11_coins wsX11_isOutcome := goodIn_r _ [12, 13, 14, 15, 16, 5, 17, 18, 19, 20, 21, 22, 23, 24, 29, 30, 31, 32, 33, 34, 35, 36, 37, 38, 39, 40, 41, 42, 43, 44, 45, 46, 47, 48, 49, 50, 51, 52, 53, 54, 55, 56, 57, 58, 59, 60, 61, 62, 63, 64, 65, 66, 67, 68] (by decide +kernel) (by decide +kernel)
set_option maxRecDepth 20000 in
theorem gX11_coins_X11_isOutcome : GoodIn wsX11_coins (wsV RX11 305 RX11 yX11_isOutcome wsX11_isOutcome) := goodIn_app (goodIn_of _ (by decide +kernel)) ggX11_coins_X11_isOutcome
set_option maxRecDepth 20000 in
theorem ggX11_coins_X11_no : GoodIn wsX11_coins wsX11_no := goodIn_r _ [28, 8, 29, 30, 31, 32, 33, 34, 35, 36, 37, 38, 39, 40, 41, 42, 43, 44, 45, 46, 47, 48, 49, 50, 51, 52, 53, 54, 55, 56, 57, 58, 59, 60, 61, 62, 63, 64, 65, 66, 67, 68] (by decide +kernel) (by decide +kernel)
set_option maxRecDepth 20000 in
theorem gX11_coins_X11_no : GoodIn wsX11_coins (wsV RX11 177 RX11 yX11_no wsX11_no) := goodIn_app (goodIn_of _ (by decide +kernel)) ggX11_coins_X11_no
theorem dX11_coins_0 : decode cX11_coins 0 = .ok (.aload_n 0, 1) := by decide +kernel
theorem dX11_coins_1 : decode cX11_coins 1 = .ok (.invokevirtual 174, 3) := by decide +kernel
theorem dX11_coins_4 : decode cX11_coins 4 = .ok (.aload_n 0, 1) := by decide +kernel
theorem dX11_coins_5 : decode cX11_coins 5 = .ok (.iload_n 1, 1) := by decide +kernel
theorem dX11_coins_6 : decode cX11_coins 6 = .ok (.iload_n 2, 1) := by decide +kernel
theorem dX11_coins_7 : decode cX11_coins 7 = .ok (.invokevirtual 305, 3) := by decide +kernel
theorem dX11_coins_10 : decode cX11_coins 10 = .ok (.ifCond .eq 16, 3) := by decide +kernel
theorem dX11_coins_13 : decode cX11_coins 13 = .ok (.aload_n 0, 1) := by decide +kernel
theorem dX11_coins_14 : decode cX11_coins 14 = .ok (.getfield 26, 3) := by decide +kernel
theorem dX11_coins_17 : decode cX11_coins 17 = .ok (.iconst 4, 1) := by decide +kernel
theorem dX11_coins_18 : decode cX11_coins 18 = .ok (.iload_n 1, 1) := by decide +kernel
theorem dX11_coins_19 : decode cX11_coins 19 = .ok (.imul, 1) := by decide +kernel
theorem dX11_coins_20 : decode cX11_coins 20 = .ok (.iload_n 2, 1) := by decide +kernel
theorem dX11_coins_21 : decode cX11_coins 21 = .ok (.iadd, 1) := by decide +kernel
theorem dX11_coins_22 : decode cX11_coins 22 = .ok (.iaload, 1) := by decide +kernel
theorem dX11_coins_23 : decode cX11_coins 23 = .ok (.goto 8, 3) := by decide +kernel
theorem dX11_coins_26 : decode cX11_coins 26 = .ok (.aload_n 0, 1) := by decide +kernel
theorem dX11_coins_27 : decode cX11_coins 27 = .ok (.iconst 1, 1) := by decide +kernel
theorem dX11_coins_28 : decode cX11_coins 28 = .ok (.invokevirtual 177, 3) := by decide +kernel
theorem dX11_coins_31 : decode cX11_coins 31 = .ok (.ireturn, 1) := by decide +kernel
theorem dX11_led_0 : decode cX11_led 0 = .ok (.iconst 0, 1) := by decide +kernel
theorem dX11_led_1 : decode cX11_led 1 = .ok (.istore_n 2, 1) := by decide +kernel
theorem dX11_led_2 : decode cX11_led 2 = .ok (.iconst 0, 1) := by decide +kernel
theorem dX11_led_3 : decode cX11_led 3 = .ok (.istore_n 3, 1) := by decide +kernel
theorem dX11_led_4 : decode cX11_led 4 = .ok (.aload_n 0, 1) := by decide +kernel
theorem dX11_led_5 : decode cX11_led 5 = .ok (.getfield 183, 3) := by decide +kernel
theorem dX11_led_8 : decode cX11_led 8 = .ok (.ifCond .eq 91, 3) := by decide +kernel
theorem dX11_led_11 : decode cX11_led 11 = .ok (.iload_n 3, 1) := by decide +kernel
theorem dX11_led_12 : decode cX11_led 12 = .ok (.aload_n 0, 1) := by decide +kernel
theorem dX11_led_13 : decode cX11_led 13 = .ok (.getfield 20, 3) := by decide +kernel
theorem dX11_led_16 : decode cX11_led 16 = .ok (.iconst 0, 1) := by decide +kernel
theorem dX11_led_17 : decode cX11_led 17 = .ok (.iaload, 1) := by decide +kernel
theorem dX11_led_18 : decode cX11_led 18 = .ok (.if_icmp .ge 81, 3) := by decide +kernel
theorem dX11_led_21 : decode cX11_led 21 = .ok (.iconst 0, 1) := by decide +kernel
theorem dX11_led_22 : decode cX11_led 22 = .ok (.istore 4, 2) := by decide +kernel
theorem dX11_led_24 : decode cX11_led 24 = .ok (.iload 4, 2) := by decide +kernel
theorem dX11_led_26 : decode cX11_led 26 = .ok (.aload_n 0, 1) := by decide +kernel
theorem dX11_led_27 : decode cX11_led 27 = .ok (.getfield 20, 3) := by decide +kernel
theorem dX11_led_30 : decode cX11_led 30 = .ok (.iload_n 3, 1) := by decide +kernel
theorem dX11_led_31 : decode cX11_led 31 = .ok (.invokestatic 247, 3) := by decide +kernel
theorem dX11_led_34 : decode cX11_led 34 = .ok (.if_icmp .ge 59, 3) := by decide +kernel
theorem dX11_led_37 : decode cX11_led 37 = .ok (.aload_n 0, 1) := by decide +kernel
theorem dX11_led_38 : decode cX11_led 38 = .ok (.getfield 20, 3) := by decide +kernel
theorem dX11_led_41 : decode cX11_led 41 = .ok (.bipush 17, 2) := by decide +kernel
theorem dX11_led_43 : decode cX11_led 43 = .ok (.iconst 4, 1) := by decide +kernel
theorem dX11_led_44 : decode cX11_led 44 = .ok (.iload_n 3, 1) := by decide +kernel
theorem dX11_led_45 : decode cX11_led 45 = .ok (.imul, 1) := by decide +kernel
theorem dX11_led_46 : decode cX11_led 46 = .ok (.iadd, 1) := by decide +kernel
theorem dX11_led_47 : decode cX11_led 47 = .ok (.iload 4, 2) := by decide +kernel
theorem dX11_led_49 : decode cX11_led 49 = .ok (.iadd, 1) := by decide +kernel
theorem dX11_led_50 : decode cX11_led 50 = .ok (.iaload, 1) := by decide +kernel
theorem dX11_led_51 : decode cX11_led 51 = .ok (.ifCond .eq 36, 3) := by decide +kernel
theorem dX11_led_54 : decode cX11_led 54 = .ok (.aload_n 0, 1) := by decide +kernel
theorem dX11_led_55 : decode cX11_led 55 = .ok (.iload_n 3, 1) := by decide +kernel
theorem dX11_led_56 : decode cX11_led 56 = .ok (.iload 4, 2) := by decide +kernel
theorem dX11_led_58 : decode cX11_led 58 = .ok (.invokevirtual 308, 3) := by decide +kernel
theorem dX11_led_61 : decode cX11_led 61 = .ok (.ifCond .eq 6, 3) := by decide +kernel
theorem dX11_led_64 : decode cX11_led 64 = .ok (.goto 23, 3) := by decide +kernel
theorem dX11_led_67 : decode cX11_led 67 = .ok (.iload_n 2, 1) := by decide +kernel
theorem dX11_led_68 : decode cX11_led 68 = .ok (.iload_n 1, 1) := by decide +kernel
theorem dX11_led_69 : decode cX11_led 69 = .ok (.if_icmp .ne 15, 3) := by decide +kernel
theorem dX11_led_72 : decode cX11_led 72 = .ok (.aload_n 0, 1) := by decide +kernel
theorem dX11_led_73 : decode cX11_led 73 = .ok (.iconst 0, 1) := by decide +kernel
theorem dX11_led_74 : decode cX11_led 74 = .ok (.putfield 69, 3) := by decide +kernel
theorem dX11_led_77 : decode cX11_led 77 = .ok (.iconst 4, 1) := by decide +kernel
theorem dX11_led_78 : decode cX11_led 78 = .ok (.iload_n 3, 1) := by decide +kernel
theorem dX11_led_79 : decode cX11_led 79 = .ok (.imul, 1) := by decide +kernel
theorem dX11_led_80 : decode cX11_led 80 = .ok (.iload 4, 2) := by decide +kernel
theorem dX11_led_82 : decode cX11_led 82 = .ok (.iadd, 1) := by decide +kernel
theorem dX11_led_83 : decode cX11_led 83 = .ok (.ireturn, 1) := by decide +kernel
theorem dX11_led_84 : decode cX11_led 84 = .ok (.iinc 2 1, 3) := by decide +kernel
theorem dX11_led_87 : decode cX11_led 87 = .ok (.iinc 4 1, 3) := by decide +kernel
theorem dX11_led_90 : decode cX11_led 90 = .ok (.goto (-66), 3) := by decide +kernel
theorem dX11_led_93 : decode cX11_led 93 = .ok (.iinc 3 1, 3) := by decide +kernel
theorem dX11_led_96 : decode cX11_led 96 = .ok (.goto (-92), 3) := by decide +kernel
theorem dX11_led_99 : decode cX11_led 99 = .ok (.aload_n 0, 1) := by decide +kernel
theorem dX11_led_100 : decode cX11_led 100 = .ok (.iconst 1, 1) := by decide +kernel
theorem dX11_led_101 : decode cX11_led 101 = .ok (.putfield 69, 3) := by decide +kernel
theorem dX11_led_104 : decode cX11_led 104 = .ok (.iconst 0, 1) := by decide +kernel
theorem dX11_led_105 : decode cX11_led 105 = .ok (.ireturn, 1) := by decide +kernel
set_option maxRecDepth 20000 in
theorem ggX11_size_X11_within : GoodIn wsX11_size wsX11_within := goodIn_r _ [11] (by decide +kernel) (by decide +kernel)
set_option maxRecDepth 20000 in
theorem gX11_size_X11_within : GoodIn wsX11_size (va_wsS RX11 170 yX11_within wsX11_within) := goodIn_app (goodIn_of _ (by decide +kernel)) ggX11_size_X11_within
theorem dX11_size_0 : decode cX11_size 0 = .ok (.aload_n 0, 1) := by decide +kernel
theorem dX11_size_1 : decode cX11_size 1 = .ok (.iconst 0, 1) := by decide +kernel
theorem dX11_size_2 : decode cX11_size 2 = .ok (.putfield 69, 3) := by decide +kernel
theorem dX11_size_5 : decode cX11_size 5 = .ok (.iload_n 1, 1) := by decide +kernel
theorem dX11_size_6 : decode cX11_size 6 = .ok (.bipush 10, 2) := by decide +kernel
theorem dX11_size_8 : decode cX11_size 8 = .ok (.if_icmp .ne 8, 3) := by decide +kernel
theorem dX11_size_11 : decode cX11_size 11 = .ok (.aload_n 0, 1) := by decide +kernel
theorem dX11_size_12 : decode cX11_size 12 = .ok (.getfield 75, 3) := by decide +kernel
theorem dX11_size_15 : decode cX11_size 15 = .ok (.ireturn, 1) := by decide +kernel
theorem dX11_size_16 : decode cX11_size 16 = .ok (.aload_n 0, 1) := by decide +kernel
theorem dX11_size_17 : decode cX11_size 17 = .ok (.getfield 183, 3) := by decide +kernel
theorem dX11_size_20 : decode cX11_size 20 = .ok (.ifCond .ne 19, 3) := by decide +kernel
theorem dX11_size_23 : decode cX11_size 23 = .ok (.iload_n 1, 1) := by decide +kernel
theorem dX11_size_24 : decode cX11_size 24 = .ok (.iconst 0, 1) := by decide +kernel
theorem dX11_size_25 : decode cX11_size 25 = .ok (.bipush 9, 2) := by decide +kernel
theorem dX11_size_27 : decode cX11_size 27 = .ok (.invokestatic 170, 3) := by decide +kernel
theorem dX11_size_30 : decode cX11_size 30 = .ok (.ifCond .eq 7, 3) := by decide +kernel
theorem dX11_size_33 : decode cX11_size 33 = .ok (.iconst 0, 1) := by decide +kernel
theorem dX11_size_34 : decode cX11_size 34 = .ok (.goto 4, 3) := by decide +kernel
theorem dX11_size_37 : decode cX11_size 37 = .ok (.iconst (-1), 1) := by decide +kernel
theorem dX11_size_38 : decode cX11_size 38 = .ok (.ireturn, 1) := by decide +kernel
theorem dX11_size_39 : decode cX11_size 39 = .ok (.iload_n 1, 1) := by decide +kernel
theorem dX11_size_40 : decode cX11_size 40 = .ok (.tableswitch 127 0 9 #[56, 64, 72, 79, 87, 95, 104, 112, 117, 122], 56) := by decide +kernel
theorem dX11_size_96 : decode cX11_size 96 = .ok (.aload_n 0, 1) := by decide +kernel
theorem dX11_size_97 : decode cX11_size 97 = .ok (.getfield 20, 3) := by decide +kernel
theorem dX11_size_100 : decode cX11_size 100 = .ok (.bipush 50, 2) := by decide +kernel
theorem dX11_size_102 : decode cX11_size 102 = .ok (.iaload, 1) := by decide +kernel
theorem dX11_size_103 : decode cX11_size 103 = .ok (.ireturn, 1) := by decide +kernel
theorem dX11_size_104 : decode cX11_size 104 = .ok (.aload_n 0, 1) := by decide +kernel
theorem dX11_size_105 : decode cX11_size 105 = .ok (.getfield 20, 3) := by decide +kernel
theorem dX11_size_108 : decode cX11_size 108 = .ok (.bipush 51, 2) := by decide +kernel
theorem dX11_size_110 : decode cX11_size 110 = .ok (.iaload, 1) := by decide +kernel
theorem dX11_size_111 : decode cX11_size 111 = .ok (.ireturn, 1) := by decide +kernel
theorem dX11_size_112 : decode cX11_size 112 = .ok (.aload_n 0, 1) := by decide +kernel
theorem dX11_size_113 : decode cX11_size 113 = .ok (.getfield 20, 3) := by decide +kernel
theorem dX11_size_116 : decode cX11_size 116 = .ok (.iconst 0, 1) := by decide +kernel
theorem dX11_size_117 : decode cX11_size 117 = .ok (.iaload, 1) := by decide +kernel
theorem dX11_size_118 : decode cX11_size 118 = .ok (.ireturn, 1) := by decide +kernel
theorem dX11_size_119 : decode cX11_size 119 = .ok (.aload_n 0, 1) := by decide +kernel
theorem dX11_size_120 : decode cX11_size 120 = .ok (.getfield 20, 3) := by decide +kernel
theorem dX11_size_123 : decode cX11_size 123 = .ok (.bipush 52, 2) := by decide +kernel
theorem dX11_size_125 : decode cX11_size 125 = .ok (.iaload, 1) := by decide +kernel
theorem dX11_size_126 : decode cX11_size 126 = .ok (.ireturn, 1) := by decide +kernel
theorem dX11_size_127 : decode cX11_size 127 = .ok (.aload_n 0, 1) := by decide +kernel
theorem dX11_size_128 : decode cX11_size 128 = .ok (.getfield 20, 3) := by decide +kernel
theorem dX11_size_131 : decode cX11_size 131 = .ok (.bipush 85, 2) := by decide +kernel
theorem dX11_size_133 : decode cX11_size 133 = .ok (.iaload, 1) := by decide +kernel
theorem dX11_size_134 : decode cX11_size 134 = .ok (.ireturn, 1) := by decide +kernel
theorem dX11_size_135 : decode cX11_size 135 = .ok (.aload_n 0, 1) := by decide +kernel
theorem dX11_size_136 : decode cX11_size 136 = .ok (.getfield 20, 3) := by decide +kernel
theorem dX11_size_139 : decode cX11_size 139 = .ok (.sipush 158, 3) := by decide +kernel
theorem dX11_size_142 : decode cX11_size 142 = .ok (.iaload, 1) := by decide +kernel
theorem dX11_size_143 : decode cX11_size 143 = .ok (.ireturn, 1) := by decide +kernel
theorem dX11_size_144 : decode cX11_size 144 = .ok (.aload_n 0, 1) := by decide +kernel
theorem dX11_size_145 : decode cX11_size 145 = .ok (.getfield 20, 3) := by decide +kernel
theorem dX11_size_148 : decode cX11_size 148 = .ok (.bipush 49, 2) := by decide +kernel
theorem dX11_size_150 : decode cX11_size 150 = .ok (.iaload, 1) := by decide +kernel
theorem dX11_size_151 : decode cX11_size 151 = .ok (.ireturn, 1) := by decide +kernel
theorem dX11_size_152 : decode cX11_size 152 = .ok (.aload_n 0, 1) := by decide +kernel
theorem dX11_size_153 : decode cX11_size 153 = .ok (.getfield 189, 3) := by decide +kernel
theorem dX11_size_156 : decode cX11_size 156 = .ok (.ireturn, 1) := by decide +kernel
theorem dX11_size_157 : decode cX11_size 157 = .ok (.aload_n 0, 1) := by decide +kernel
theorem dX11_size_158 : decode cX11_size 158 = .ok (.getfield 192, 3) := by decide +kernel
theorem dX11_size_161 : decode cX11_size 161 = .ok (.ireturn, 1) := by decide +kernel
theorem dX11_size_162 : decode cX11_size 162 = .ok (.aload_n 0, 1) := by decide +kernel
theorem dX11_size_163 : decode cX11_size 163 = .ok (.getfield 195, 3) := by decide +kernel
theorem dX11_size_166 : decode cX11_size 166 = .ok (.ireturn, 1) := by decide +kernel
theorem dX11_size_167 : decode cX11_size 167 = .ok (.iconst (-1), 1) := by decide +kernel
theorem dX11_size_168 : decode cX11_size 168 = .ok (.ireturn, 1) := by decide +kernel
theorem dX11_trouble_0 : decode cX11_trouble 0 = .ok (.aload_n 0, 1) := by decide +kernel
theorem dX11_trouble_1 : decode cX11_trouble 1 = .ok (.iconst 0, 1) := by decide +kernel
theorem dX11_trouble_2 : decode cX11_trouble 2 = .ok (.putfield 69, 3) := by decide +kernel
theorem dX11_trouble_5 : decode cX11_trouble 5 = .ok (.aload_n 0, 1) := by decide +kernel
theorem dX11_trouble_6 : decode cX11_trouble 6 = .ok (.getfield 72, 3) := by decide +kernel
theorem dX11_trouble_9 : decode cX11_trouble 9 = .ok (.ireturn, 1) := by decide +kernel
