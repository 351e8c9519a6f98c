theorem dX11_together_114 : decode cX11_together 114 = .ok (.invokevirtual 251, 3) := by decide +kernel
theorem dX11_together_117 : decode cX11_together 117 = .ok (.if_icmp .ge 28, 3) := by decide +kernel
theorem dX11_together_120 : decode cX11_together 120 = .ok (.iload 9, 2) := by decide +kernel
theorem dX11_together_122 : decode cX11_together 122 = .ok (.iload_n 1, 1) := by decide +kernel
theorem dX11_together_123 : decode cX11_together 123 = .ok (.ishr, 1) := by decide +kernel
theorem dX11_together_124 : decode cX11_together 124 = .ok (.iconst 1, 1) := by decide +kernel
theorem dX11_together_125 : decode cX11_together 125 = .ok (.iand, 1) := by decide +kernel
theorem dX11_together_126 : decode cX11_together 126 = .ok (.iload_n 2, 1) := by decide +kernel
theorem dX11_together_127 : decode cX11_together 127 = .ok (.if_icmp .ne 18, 3) := by decide +kernel
theorem dX11_together_130 : decode cX11_together 130 = .ok (.iload 9, 2) := by decide +kernel
theorem dX11_together_132 : decode cX11_together 132 = .ok (.iload_n 3, 1) := by decide +kernel
theorem dX11_together_133 : decode cX11_together 133 = .ok (.ishr, 1) := by decide +kernel
theorem dX11_together_134 : decode cX11_together 134 = .ok (.iconst 1, 1) := by decide +kernel
theorem dX11_together_135 : decode cX11_together 135 = .ok (.iand, 1) := by decide +kernel
theorem dX11_together_136 : decode cX11_together 136 = .ok (.iload 4, 2) := by decide +kernel
theorem dX11_together_138 : decode cX11_together 138 = .ok (.if_icmp .ne 7, 3) := by decide +kernel
theorem dX11_together_141 : decode cX11_together 141 = .ok (.iconst 1, 1) := by decide +kernel
theorem dX11_together_142 : decode cX11_together 142 = .ok (.goto 4, 3) := by decide +kernel
theorem dX11_together_145 : decode cX11_together 145 = .ok (.iconst 0, 1) := by decide +kernel
theorem dX11_together_146 : decode cX11_together 146 = .ok (.istore 10, 2) := by decide +kernel
theorem dX11_together_148 : decode cX11_together 148 = .ok (.aload_n 0, 1) := by decide +kernel
theorem dX11_together_149 : decode cX11_together 149 = .ok (.getfield 47, 3) := by decide +kernel
theorem dX11_together_152 : decode cX11_together 152 = .ok (.aload_n 0, 1) := by decide +kernel
theorem dX11_together_153 : decode cX11_together 153 = .ok (.getfield 254, 3) := by decide +kernel
theorem dX11_together_156 : decode cX11_together 156 = .ok (.iconst 1, 1) := by decide +kernel
theorem dX11_together_157 : decode cX11_together 157 = .ok (.iadd, 1) := by decide +kernel
theorem dX11_together_158 : decode cX11_together 158 = .ok (.iload 9, 2) := by decide +kernel
theorem dX11_together_160 : decode cX11_together 160 = .ok (.invokestatic 260, 3) := by decide +kernel
theorem dX11_together_163 : decode cX11_together 163 = .ok (.iload 10, 2) := by decide +kernel
theorem dX11_together_165 : decode cX11_together 165 = .ok (.ifCond .eq 13, 3) := by decide +kernel
theorem dX11_together_168 : decode cX11_together 168 = .ok (.lload 7, 2) := by decide +kernel
theorem dX11_together_170 : decode cX11_together 170 = .ok (.aload_n 0, 1) := by decide +kernel
theorem dX11_together_171 : decode cX11_together 171 = .ok (.getfield 268, 3) := by decide +kernel
theorem dX11_together_174 : decode cX11_together 174 = .ok (.lmul, 1) := by decide +kernel
theorem dX11_together_175 : decode cX11_together 175 = .ok (.goto 4, 3) := by decide +kernel
theorem dX11_together_178 : decode cX11_together 178 = .ok (.lconst 0, 1) := by decide +kernel
theorem dX11_together_179 : decode cX11_together 179 = .ok (.lastore, 1) := by decide +kernel
theorem dX11_together_180 : decode cX11_together 180 = .ok (.iinc 9 1, 3) := by decide +kernel
theorem dX11_together_183 : decode cX11_together 183 = .ok (.goto (-81), 3) := by decide +kernel
theorem dX11_together_186 : decode cX11_together 186 = .ok (.iconst 0, 1) := by decide +kernel
theorem dX11_together_187 : decode cX11_together 187 = .ok (.istore 9, 2) := by decide +kernel
theorem dX11_together_189 : decode cX11_together 189 = .ok (.iload 9, 2) := by decide +kernel
theorem dX11_together_191 : decode cX11_together 191 = .ok (.aload_n 0, 1) := by decide +kernel
theorem dX11_together_192 : decode cX11_together 192 = .ok (.getfield 254, 3) := by decide +kernel
theorem dX11_together_195 : decode cX11_together 195 = .ok (.if_icmp .ge 112, 3) := by decide +kernel
theorem dX11_together_198 : decode cX11_together 198 = .ok (.aload_n 0, 1) := by decide +kernel
theorem dX11_together_199 : decode cX11_together 199 = .ok (.getfield 51, 3) := by decide +kernel
theorem dX11_together_202 : decode cX11_together 202 = .ok (.iload 9, 2) := by decide +kernel
theorem dX11_together_204 : decode cX11_together 204 = .ok (.iaload, 1) := by decide +kernel
theorem dX11_together_205 : decode cX11_together 205 = .ok (.istore 10, 2) := by decide +kernel
theorem dX11_together_207 : decode cX11_together 207 = .ok (.iload 10, 2) := by decide +kernel
theorem dX11_together_209 : decode cX11_together 209 = .ok (.aload_n 0, 1) := by decide +kernel
theorem dX11_together_210 : decode cX11_together 210 = .ok (.invokevirtual 251, 3) := by decide +kernel
theorem dX11_together_213 : decode cX11_together 213 = .ok (.if_icmp .ge 28, 3) := by decide +kernel
theorem dX11_together_216 : decode cX11_together 216 = .ok (.iload 10, 2) := by decide +kernel
theorem dX11_together_218 : decode cX11_together 218 = .ok (.iload_n 1, 1) := by decide +kernel
theorem dX11_together_219 : decode cX11_together 219 = .ok (.ishr, 1) := by decide +kernel
theorem dX11_together_220 : decode cX11_together 220 = .ok (.iconst 1, 1) := by decide +kernel
theorem dX11_together_221 : decode cX11_together 221 = .ok (.iand, 1) := by decide +kernel
theorem dX11_together_222 : decode cX11_together 222 = .ok (.iload_n 2, 1) := by decide +kernel
theorem dX11_together_223 : decode cX11_together 223 = .ok (.if_icmp .ne 18, 3) := by decide +kernel
theorem dX11_together_226 : decode cX11_together 226 = .ok (.iload 10, 2) := by decide +kernel
theorem dX11_together_228 : decode cX11_together 228 = .ok (.iload_n 3, 1) := by decide +kernel
theorem dX11_together_229 : decode cX11_together 229 = .ok (.ishr, 1) := by decide +kernel
theorem dX11_together_230 : decode cX11_together 230 = .ok (.iconst 1, 1) := by decide +kernel
theorem dX11_together_231 : decode cX11_together 231 = .ok (.iand, 1) := by decide +kernel
theorem dX11_together_232 : decode cX11_together 232 = .ok (.iload 4, 2) := by decide +kernel
theorem dX11_together_234 : decode cX11_together 234 = .ok (.if_icmp .ne 7, 3) := by decide +kernel
theorem dX11_together_237 : decode cX11_together 237 = .ok (.iconst 1, 1) := by decide +kernel
theorem dX11_together_238 : decode cX11_together 238 = .ok (.goto 4, 3) := by decide +kernel
theorem dX11_together_241 : decode cX11_together 241 = .ok (.iconst 0, 1) := by decide +kernel
theorem dX11_together_242 : decode cX11_together 242 = .ok (.istore 11, 2) := by decide +kernel
theorem dX11_together_244 : decode cX11_together 244 = .ok (.iconst 0, 1) := by decide +kernel
theorem dX11_together_245 : decode cX11_together 245 = .ok (.istore 12, 2) := by decide +kernel
theorem dX11_together_247 : decode cX11_together 247 = .ok (.iload 12, 2) := by decide +kernel
theorem dX11_together_249 : decode cX11_together 249 = .ok (.aload_n 0, 1) := by decide +kernel
theorem dX11_together_250 : decode cX11_together 250 = .ok (.getfield 257, 3) := by decide +kernel
theorem dX11_together_253 : decode cX11_together 253 = .ok (.if_icmp .ge 48, 3) := by decide +kernel
theorem dX11_together_256 : decode cX11_together 256 = .ok (.iload 11, 2) := by decide +kernel
theorem dX11_together_258 : decode cX11_together 258 = .ok (.ifCond .eq 43, 3) := by decide +kernel
theorem dX11_together_261 : decode cX11_together 261 = .ok (.aload_n 0, 1) := by decide +kernel
theorem dX11_together_262 : decode cX11_together 262 = .ok (.getfield 47, 3) := by decide +kernel
theorem dX11_together_265 : decode cX11_together 265 = .ok (.aload_n 0, 1) := by decide +kernel
theorem dX11_together_266 : decode cX11_together 266 = .ok (.getfield 254, 3) := by decide +kernel
theorem dX11_together_269 : decode cX11_together 269 = .ok (.iconst 1, 1) := by decide +kernel
theorem dX11_together_270 : decode cX11_together 270 = .ok (.iadd, 1) := by decide +kernel
theorem dX11_together_271 : decode cX11_together 271 = .ok (.iload 12, 2) := by decide +kernel
theorem dX11_together_273 : decode cX11_together 273 = .ok (.invokestatic 260, 3) := by decide +kernel
theorem dX11_together_276 : decode cX11_together 276 = .ok (.dup2, 1) := by decide +kernel
theorem dX11_together_277 : decode cX11_together 277 = .ok (.laload, 1) := by decide +kernel
theorem dX11_together_278 : decode cX11_together 278 = .ok (.lload 7, 2) := by decide +kernel
theorem dX11_together_280 : decode cX11_together 280 = .ok (.aload_n 0, 1) := by decide +kernel
theorem dX11_together_281 : decode cX11_together 281 = .ok (.getfield 47, 3) := by decide +kernel
theorem dX11_together_284 : decode cX11_together 284 = .ok (.iload 9, 2) := by decide +kernel
theorem dX11_together_286 : decode cX11_together 286 = .ok (.iload 12, 2) := by decide +kernel
theorem dX11_together_288 : decode cX11_together 288 = .ok (.invokestatic 260, 3) := by decide +kernel
theorem dX11_together_291 : decode cX11_together 291 = .ok (.laload, 1) := by decide +kernel
theorem dX11_together_292 : decode cX11_together 292 = .ok (.lmul, 1) := by decide +kernel
theorem dX11_together_293 : decode cX11_together 293 = .ok (.lsub, 1) := by decide +kernel
theorem dX11_together_294 : decode cX11_together 294 = .ok (.lastore, 1) := by decide +kernel
theorem dX11_together_295 : decode cX11_together 295 = .ok (.iinc 12 1, 3) := by decide +kernel
theorem dX11_together_298 : decode cX11_together 298 = .ok (.goto (-51), 3) := by decide +kernel
theorem dX11_together_301 : decode cX11_together 301 = .ok (.iinc 9 1, 3) := by decide +kernel
theorem dX11_together_304 : decode cX11_together 304 = .ok (.goto (-115), 3) := by decide +kernel
theorem dX11_together_307 : decode cX11_together 307 = .ok (.aload_n 0, 1) := by decide +kernel
theorem dX11_together_308 : decode cX11_together 308 = .ok (.aload_n 0, 1) := by decide +kernel
theorem dX11_together_309 : decode cX11_together 309 = .ok (.getfield 254, 3) := by decide +kernel
theorem dX11_together_312 : decode cX11_together 312 = .ok (.iconst 1, 1) := by decide +kernel
theorem dX11_together_313 : decode cX11_together 313 = .ok (.iadd, 1) := by decide +kernel
theorem dX11_together_314 : decode cX11_together 314 = .ok (.invokevirtual 285, 3) := by decide +kernel
theorem dX11_together_317 : decode cX11_together 317 = .ok (.lload 7, 2) := by decide +kernel
theorem dX11_together_319 : decode cX11_together 319 = .ok (.lneg, 1) := by decide +kernel
theorem dX11_together_320 : decode cX11_together 320 = .ok (.aload_n 0, 1) := by decide +kernel
theorem dX11_together_321 : decode cX11_together 321 = .ok (.getfield 47, 3) := by decide +kernel
theorem dX11_together_324 : decode cX11_together 324 = .ok (.aload_n 0, 1) := by decide +kernel
theorem dX11_together_325 : decode cX11_together 325 = .ok (.getfield 254, 3) := by decide +kernel
theorem dX11_together_328 : decode cX11_together 328 = .ok (.iconst 1, 1) := by decide +kernel
theorem dX11_together_329 : decode cX11_together 329 = .ok (.iadd, 1) := by decide +kernel
theorem dX11_together_330 : decode cX11_together 330 = .ok (.aload_n 0, 1) := by decide +kernel
theorem dX11_together_331 : decode cX11_together 331 = .ok (.getfield 257, 3) := by decide +kernel
theorem dX11_together_334 : decode cX11_together 334 = .ok (.iconst 1, 1) := by decide +kernel
theorem dX11_together_335 : decode cX11_together 335 = .ok (.isub, 1) := by decide +kernel
theorem dX11_together_336 : decode cX11_together 336 = .ok (.invokestatic 260, 3) := by decide +kernel
theorem dX11_together_339 : decode cX11_together 339 = .ok (.laload, 1) := by decide +kernel
theorem dX11_together_340 : decode cX11_together 340 = .ok (.lmul, 1) := by decide +kernel
theorem dX11_together_341 : decode cX11_together 341 = .ok (.lstore 9, 2) := by decide +kernel
theorem dX11_together_343 : decode cX11_together 343 = .ok (.lload 9, 2) := by decide +kernel
theorem dX11_together_345 : decode cX11_together 345 = .ok (.aload_n 0, 1) := by decide +kernel
theorem dX11_together_346 : decode cX11_together 346 = .ok (.getfield 268, 3) := by decide +kernel
theorem dX11_together_349 : decode cX11_together 349 = .ok (.aload_n 0, 1) := by decide +kernel
theorem dX11_together_350 : decode cX11_together 350 = .ok (.getfield 20, 3) := by decide +kernel
theorem dX11_together_353 : decode cX11_together 353 = .ok (.bipush 49, 2) := by decide +kernel
theorem dX11_together_355 : decode cX11_together 355 = .ok (.iaload, 1) := by decide +kernel
theorem dX11_together_356 : decode cX11_together 356 = .ok (.i2l, 1) := by decide +kernel
theorem dX11_together_357 : decode cX11_together 357 = .ok (.lmul, 1) := by decide +kernel
theorem dX11_together_358 : decode cX11_together 358 = .ok (.iload 6, 2) := by decide +kernel
theorem dX11_together_360 : decode cX11_together 360 = .ok (.invokestatic 292, 3) := by decide +kernel
theorem dX11_together_363 : decode cX11_together 363 = .ok (.ireturn, 1) := by decide +kernel
set_option maxRecDepth 20000 in
theorem ggX11_extend_X11_good : GoodIn wsX11_extend wsX11_good := goodIn_r _ [5, 6, 7, 44, 45, 46, 47, 48, 49, 50, 51, 52, 53, 54, 55, 56, 57, 58, 59, 60, 61, 62, 63, 64, 65, 66, 67, 68, 69, 70, 71, 72, 73, 74, 75, 76, 77, 78, 79, 80, 81, 82, 83] (by decide +kernel) (by decide +kernel)
set_option maxRecDepth 20000 in
theorem gX11_extend_X11_good : GoodIn wsX11_extend (wsV RX11 174 RX11 yX11_good wsX11_good) := goodIn_app (goodIn_of _ (by decide +kernel)) ggX11_extend_X11_good
set_option maxRecDepth 20000 in
theorem ggX11_extend_X11_isOutcome : GoodIn wsX11_extend wsX11_isOutcome := goodIn_r _ [11, 12, 13, 14, 15, 4, 16, 17, 18, 19, 20, 21, 22, 23, 44, 45, 46, 47, 48, 49, 50, 51, 52, 53, 54, 55, 56, 57, 58, 59, 60, 61, 62, 63, 64, 65, 66, 67, 68, 69, 70, 71, 72, 73, 74, 75, 76, 77, 78, 79, 80, 81, 82, 83] (by decide +kernel) (by decide +kernel)
set_option maxRecDepth 20000 in
theorem gX11_extend_X11_isOutcome : GoodIn wsX11_extend (wsV RX11 305 RX11 yX11_isOutcome wsX11_isOutcome) := goodIn_app (goodIn_of _ (by decide +kernel)) ggX11_extend_X11_isOutcome
set_option maxRecDepth 20000 in
theorem ggX11_extend_X11_no : GoodIn wsX11_extend wsX11_no := goodIn_r _ [43, 7, 44, 45, 46, 47, 48, 49, 50, 51, 52, 53, 54, 55, 56, 57, 58, 59, 60, 61, 62, 63, 64, 65, 66, 67, 68, 69, 70, 71, 72, 73, 74, 75, 76, 77, 78, 79, 80, 81, 82, 83] (by decide +kernel) (by decide +kernel)
set_option maxRecDepth 20000 in
theorem gX11_extend_X11_no : GoodIn wsX11_extend (wsV RX11 177 RX11 yX11_no wsX11_no) := goodIn_app (goodIn_of _ (by decide +kernel)) ggX11_extend_X11_no
theorem dX11_extend_0 : decode cX11_extend 0 = .ok (.aload_n 0, 1) := by decide +kernel
theorem dX11_extend_1 : decode cX11_extend 1 = .ok (.invokevirtual 174, 3) := by decide +kernel
theorem dX11_extend_4 : decode cX11_extend 4 = .ok (.aload_n 0, 1) := by decide +kernel
theorem dX11_extend_5 : decode cX11_extend 5 = .ok (.iload_n 1, 1) := by decide +kernel
theorem dX11_extend_6 : decode cX11_extend 6 = .ok (.iload_n 2, 1) := by decide +kernel
theorem dX11_extend_7 : decode cX11_extend 7 = .ok (.invokevirtual 305, 3) := by decide +kernel
theorem dX11_extend_10 : decode cX11_extend 10 = .ok (.ifCond .eq 20, 3) := by decide +kernel
theorem dX11_extend_13 : decode cX11_extend 13 = .ok (.aload_n 0, 1) := by decide +kernel
theorem dX11_extend_14 : decode cX11_extend 14 = .ok (.iload_n 1, 1) := by decide +kernel
theorem dX11_extend_15 : decode cX11_extend 15 = .ok (.iload_n 2, 1) := by decide +kernel
theorem dX11_extend_16 : decode cX11_extend 16 = .ok (.invokevirtual 308, 3) := by decide +kernel
theorem dX11_extend_19 : decode cX11_extend 19 = .ok (.ifCond .eq 7, 3) := by decide +kernel
theorem dX11_extend_22 : decode cX11_extend 22 = .ok (.iconst 1, 1) := by decide +kernel
theorem dX11_extend_23 : decode cX11_extend 23 = .ok (.goto 12, 3) := by decide +kernel
theorem dX11_extend_26 : decode cX11_extend 26 = .ok (.iconst 0, 1) := by decide +kernel
theorem dX11_extend_27 : decode cX11_extend 27 = .ok (.goto 8, 3) := by decide +kernel
theorem dX11_extend_30 : decode cX11_extend 30 = .ok (.aload_n 0, 1) := by decide +kernel
theorem dX11_extend_31 : decode cX11_extend 31 = .ok (.iconst 1, 1) := by decide +kernel
theorem dX11_extend_32 : decode cX11_extend 32 = .ok (.invokevirtual 177, 3) := by decide +kernel
theorem dX11_extend_35 : decode cX11_extend 35 = .ok (.ireturn, 1) := by decide +kernel
set_option maxRecDepth 20000 in
theorem ggX11_level_X11_good : GoodIn wsX11_level wsX11_good := goodIn_r _ [7, 8, 9, 62, 63, 64, 65, 66, 67, 68, 69, 70, 71, 72, 73, 74, 75, 76, 77, 78, 79, 80, 81, 82, 83, 84, 85, 86, 87, 88, 89, 90, 91, 92, 93, 94, 95, 96, 97, 98, 99, 100, 101] (by decide +kernel) (by decide +kernel)
set_option maxRecDepth 20000 in
theorem gX11_level_X11_good : GoodIn wsX11_level (wsV RX11 174 RX11 yX11_good wsX11_good) := goodIn_app (goodIn_of _ (by decide +kernel)) ggX11_level_X11_good
set_option maxRecDepth 20000 in
theorem ggX11_level_X11_no : GoodIn wsX11_level wsX11_no := goodIn_r _ [13, 9, 62, 63, 64, 65, 66, 67, 68, 69, 70, 71, 72, 73, 74, 75, 76, 77, 78, 79, 80, 81, 82, 83, 84, 85, 86, 87, 88, 89, 90, 91, 92, 93, 94, 95, 96, 97, 98, 99, 100, 101] (by decide +kernel) (by decide +kernel)
set_option maxRecDepth 20000 in
theorem gX11_level_X11_no : GoodIn wsX11_level (wsV RX11 177 RX11 yX11_no wsX11_no) := goodIn_app (goodIn_of _ (by decide +kernel)) ggX11_level_X11_no
theorem dX11_level_0 : decode cX11_level 0 = .ok (.aload_n 0, 1) := by decide +kernel
theorem dX11_level_1 : decode cX11_level 1 = .ok (.invokevirtual 174, 3) := by decide +kernel
theorem dX11_level_4 : decode cX11_level 4 = .ok (.aload_n 0, 1) := by decide +kernel
theorem dX11_level_5 : decode cX11_level 5 = .ok (.getfield 183, 3) := by decide +kernel
theorem dX11_level_8 : decode cX11_level 8 = .ok (.ifCond .ne 9, 3) := by decide +kernel
theorem dX11_level_11 : decode cX11_level 11 = .ok (.aload_n 0, 1) := by decide +kernel
theorem dX11_level_12 : decode cX11_level 12 = .ok (.iconst 1, 1) := by decide +kernel
theorem dX11_level_13 : decode cX11_level 13 = .ok (.invokevirtual 177, 3) := by decide +kernel
theorem dX11_level_16 : decode cX11_level 16 = .ok (.ireturn, 1) := by decide +kernel
theorem dX11_level_17 : decode cX11_level 17 = .ok (.aload_n 0, 1) := by decide +kernel
theorem dX11_level_18 : decode cX11_level 18 = .ok (.invokevirtual 289, 3) := by decide +kernel
theorem dX11_level_21 : decode cX11_level 21 = .ok (.ifCond .eq 5, 3) := by decide +kernel
theorem dX11_level_24 : decode cX11_level 24 = .ok (.iconst 0, 1) := by decide +kernel
theorem dX11_level_25 : decode cX11_level 25 = .ok (.ireturn, 1) := by decide +kernel
theorem dX11_level_26 : decode cX11_level 26 = .ok (.iconst 0, 1) := by decide +kernel
theorem dX11_level_27 : decode cX11_level 27 = .ok (.istore_n 1, 1) := by decide +kernel
theorem dX11_level_28 : decode cX11_level 28 = .ok (.iconst 0, 1) := by decide +kernel
theorem dX11_level_29 : decode cX11_level 29 = .ok (.istore_n 2, 1) := by decide +kernel
theorem dX11_level_30 : decode cX11_level 30 = .ok (.iconst 0, 1) := by decide +kernel
theorem dX11_level_31 : decode cX11_level 31 = .ok (.istore_n 3, 1) := by decide +kernel
theorem dX11_level_32 : decode cX11_level 32 = .ok (.iload_n 3, 1) := by decide +kernel
theorem dX11_level_33 : decode cX11_level 33 = .ok (.aload_n 0, 1) := by decide +kernel
theorem dX11_level_34 : decode cX11_level 34 = .ok (.getfield 20, 3) := by decide +kernel
theorem dX11_level_37 : decode cX11_level 37 = .ok (.iconst 0, 1) := by decide +kernel
theorem dX11_level_38 : decode cX11_level 38 = .ok (.iaload, 1) := by decide +kernel
theorem dX11_level_39 : decode cX11_level 39 = .ok (.if_icmp .ge 70, 3) := by decide +kernel
theorem dX11_level_42 : decode cX11_level 42 = .ok (.iconst 0, 1) := by decide +kernel
theorem dX11_level_43 : decode cX11_level 43 = .ok (.istore 4, 2) := by decide +kernel
theorem dX11_level_45 : decode cX11_level 45 = .ok (.iload 4, 2) := by decide +kernel
theorem dX11_level_47 : decode cX11_level 47 = .ok (.aload_n 0, 1) := by decide +kernel
theorem dX11_level_48 : decode cX11_level 48 = .ok (.getfield 20, 3) := by decide +kernel
theorem dX11_level_51 : decode cX11_level 51 = .ok (.iload_n 3, 1) := by decide +kernel
theorem dX11_level_52 : decode cX11_level 52 = .ok (.invokestatic 247, 3) := by decide +kernel
theorem dX11_level_55 : decode cX11_level 55 = .ok (.if_icmp .ge 48, 3) := by decide +kernel
theorem dX11_level_58 : decode cX11_level 58 = .ok (.aload_n 0, 1) := by decide +kernel
theorem dX11_level_59 : decode cX11_level 59 = .ok (.getfield 20, 3) := by decide +kernel
theorem dX11_level_62 : decode cX11_level 62 = .ok (.bipush 17, 2) := by decide +kernel
theorem dX11_level_64 : decode cX11_level 64 = .ok (.iconst 4, 1) := by decide +kernel
theorem dX11_level_65 : decode cX11_level 65 = .ok (.iload_n 3, 1) := by decide +kernel
theorem dX11_level_66 : decode cX11_level 66 = .ok (.imul, 1) := by decide +kernel
theorem dX11_level_67 : decode cX11_level 67 = .ok (.iadd, 1) := by decide +kernel
theorem dX11_level_68 : decode cX11_level 68 = .ok (.iload 4, 2) := by decide +kernel
theorem dX11_level_70 : decode cX11_level 70 = .ok (.iadd, 1) := by decide +kernel
theorem dX11_level_71 : decode cX11_level 71 = .ok (.iaload, 1) := by decide +kernel
theorem dX11_level_72 : decode cX11_level 72 = .ok (.ifCond .ne 6, 3) := by decide +kernel
theorem dX11_level_75 : decode cX11_level 75 = .ok (.goto 22, 3) := by decide +kernel
theorem dX11_level_78 : decode cX11_level 78 = .ok (.aload_n 0, 1) := by decide +kernel
theorem dX11_level_79 : decode cX11_level 79 = .ok (.iload_n 3, 1) := by decide +kernel
theorem dX11_level_80 : decode cX11_level 80 = .ok (.iload 4, 2) := by decide +kernel
theorem dX11_level_82 : decode cX11_level 82 = .ok (.invokevirtual 308, 3) := by decide +kernel
theorem dX11_level_85 : decode cX11_level 85 = .ok (.ifCond .eq 9, 3) := by decide +kernel
theorem dX11_level_88 : decode cX11_level 88 = .ok (.iinc 1 1, 3) := by decide +kernel
theorem dX11_level_91 : decode cX11_level 91 = .ok (.goto 6, 3) := by decide +kernel
theorem dX11_level_94 : decode cX11_level 94 = .ok (.iinc 2 1, 3) := by decide +kernel
theorem dX11_level_97 : decode cX11_level 97 = .ok (.iinc 4 1, 3) := by decide +kernel
theorem dX11_level_100 : decode cX11_level 100 = .ok (.goto (-55), 3) := by decide +kernel
theorem dX11_level_103 : decode cX11_level 103 = .ok (.iinc 3 1, 3) := by decide +kernel
theorem dX11_level_106 : decode cX11_level 106 = .ok (.goto (-74), 3) := by decide +kernel
theorem dX11_level_109 : decode cX11_level 109 = .ok (.iload_n 2, 1) := by decide +kernel
theorem dX11_level_110 : decode cX11_level 110 = .ok (.ifCond .ne 7, 3) := by decide +kernel
theorem dX11_level_113 : decode cX11_level 113 = .ok (.iconst 1, 1) := by decide +kernel
theorem dX11_level_114 : decode cX11_level 114 = .ok (.goto 12, 3) := by decide +kernel
theorem dX11_level_117 : decode cX11_level 117 = .ok (.iload_n 1, 1) := by decide +kernel
theorem dX11_level_118 : decode cX11_level 118 = .ok (.ifCond .le 7, 3) := by decide +kernel
theorem dX11_level_121 : decode cX11_level 121 = .ok (.iconst 2, 1) := by decide +kernel
theorem dX11_level_122 : decode cX11_level 122 = .ok (.goto 4, 3) := by decide +kernel
theorem dX11_level_125 : decode cX11_level 125 = .ok (.iconst 3, 1) := by decide +kernel
theorem dX11_level_126 : decode cX11_level 126 = .ok (.ireturn, 1) := by decide +kernel
set_option maxRecDepth 20000 in
theorem ggX11_hidden_X11_good : GoodIn wsX11_hidden wsX11_good := goodIn_r _ [6, 7, 8, 30, 31, 32, 33, 34, 35, 36, 37, 38, 39, 40, 41, 42, 43, 44, 45, 46, 47, 48, 49, 50, 51, 52, 53, 54, 55, 56, 57, 58, 59, 60, 61, 62, 63, 64, 65, 66, 67, 68, 69] (by decide +kernel) (by decide +kernel)
set_option maxRecDepth 20000 in
theorem gX11_hidden_X11_good : GoodIn wsX11_hidden (wsV RX11 174 RX11 yX11_good wsX11_good) := goodIn_app (goodIn_of _ (by decide +kernel)) ggX11_hidden_X11_good
set_option maxRecDepth 20000 in
theorem ggX11_hidden_X11_no : GoodIn wsX11_hidden wsX11_no := goodIn_r _ [29, 8, 30, 31, 32, 33, 34, 35, 36, 37, 38, 39, 40, 41, 42, 43, 44, 45, 46, 47, 48, 49, 50, 51, 52, 53, 54, 55, 56, 57, 58, 59, 60, 61, 62, 63, 64, 65, 66, 67, 68, 69] (by decide +kernel) (by decide +kernel)
set_option maxRecDepth 20000 in
theorem gX11_hidden_X11_no : GoodIn wsX11_hidden (wsV RX11 177 RX11 yX11_no wsX11_no) := goodIn_app (goodIn_of _ (by decide +kernel)) ggX11_hidden_X11_no
theorem dX11_hidden_0 : decode cX11_hidden 0 = .ok (.aload_n 0, 1) := by decide +kernel
theorem dX11_hidden_1 : decode cX11_hidden 1 = .ok (.invokevirtual 174, 3) := by decide +kernel
theorem dX11_hidden_4 : decode cX11_hidden 4 = .ok (.aload_n 0, 1) := by decide +kernel
theorem dX11_hidden_5 : decode cX11_hidden 5 = .ok (.getfield 183, 3) := by decide +kernel
theorem dX11_hidden_8 : decode cX11_hidden 8 = .ok (.ifCond .eq 15, 3) := by decide +kernel
theorem dX11_hidden_11 : decode cX11_hidden 11 = .ok (.aload_n 0, 1) := by decide +kernel
theorem dX11_hidden_12 : decode cX11_hidden 12 = .ok (.iconst (-1), 1) := by decide +kernel
theorem dX11_hidden_13 : decode cX11_hidden 13 = .ok (.invokevirtual 311, 3) := by decide +kernel
theorem dX11_hidden_16 : decode cX11_hidden 16 = .ok (.sipush 1000, 3) := by decide +kernel
theorem dX11_hidden_19 : decode cX11_hidden 19 = .ok (.iadd, 1) := by decide +kernel
theorem dX11_hidden_20 : decode cX11_hidden 20 = .ok (.goto 8, 3) := by decide +kernel
theorem dX11_hidden_23 : decode cX11_hidden 23 = .ok (.aload_n 0, 1) := by decide +kernel
theorem dX11_hidden_24 : decode cX11_hidden 24 = .ok (.iconst 1, 1) := by decide +kernel
theorem dX11_hidden_25 : decode cX11_hidden 25 = .ok (.invokevirtual 177, 3) := by decide +kernel
theorem dX11_hidden_28 : decode cX11_hidden 28 = .ok (.ireturn, 1) := by decide +kernel
set_option maxRecDepth 20000 in
theorem ggX11_answer_X11_good : GoodIn wsX11_answer wsX11_good := goodIn_r _ [6, 7, 8, 30, 31, 32, 33, 34, 35, 36, 37, 38, 39, 40, 41, 42, 43, 44, 45, 46, 47, 48, 49, 50, 51, 52, 53, 54, 55, 56, 57, 58, 59, 60, 61, 62, 63, 64, 65, 66, 67, 68, 69] (by decide +kernel) (by decide +kernel)
set_option maxRecDepth 20000 in
theorem gX11_answer_X11_good : GoodIn wsX11_answer (wsV RX11 174 RX11 yX11_good wsX11_good) := goodIn_app (goodIn_of _ (by decide +kernel)) ggX11_answer_X11_good
set_option maxRecDepth 20000 in
theorem ggX11_answer_X11_no : GoodIn wsX11_answer wsX11_no := goodIn_r _ [12, 8, 30, 31, 32, 33, 34, 35, 36, 37, 38, 39, 40, 41, 42, 43, 44, 45, 46, 47, 48, 49, 50, 51, 52, 53, 54, 55, 56, 57, 58, 59, 60, 61, 62, 63, 64, 65, 66, 67, 68, 69] (by decide +kernel) (by decide +kernel)
set_option maxRecDepth 20000 in
theorem gX11_answer_X11_no : GoodIn wsX11_answer (wsV RX11 177 RX11 yX11_no wsX11_no) := goodIn_app (goodIn_of _ (by decide +kernel)) ggX11_answer_X11_no
theorem dX11_answer_0 : decode cX11_answer 0 = .ok (.aload_n 0, 1) := by decide +kernel
theorem dX11_answer_1 : decode cX11_answer 1 = .ok (.invokevirtual 174, 3) := by decide +kernel
theorem dX11_answer_4 : decode cX11_answer 4 = .ok (.aload_n 0, 1) := by decide +kernel
theorem dX11_answer_5 : decode cX11_answer 5 = .ok (.getfield 183, 3) := by decide +kernel
theorem dX11_answer_8 : decode cX11_answer 8 = .ok (.ifCond .eq 7, 3) := by decide +kernel
theorem dX11_answer_11 : decode cX11_answer 11 = .ok (.iload_n 1, 1) := by decide +kernel
theorem dX11_answer_12 : decode cX11_answer 12 = .ok (.ifCond .ge 9, 3) := by decide +kernel
theorem dX11_answer_15 : decode cX11_answer 15 = .ok (.aload_n 0, 1) := by decide +kernel
theorem dX11_answer_16 : decode cX11_answer 16 = .ok (.iconst 1, 1) := by decide +kernel
theorem dX11_answer_17 : decode cX11_answer 17 = .ok (.invokevirtual 177, 3) := by decide +kernel
theorem dX11_answer_20 : decode cX11_answer 20 = .ok (.ireturn, 1) := by decide +kernel
theorem dX11_answer_21 : decode cX11_answer 21 = .ok (.aload_n 0, 1) := by decide +kernel
theorem dX11_answer_22 : decode cX11_answer 22 = .ok (.iload_n 1, 1) := by decide +kernel
theorem dX11_answer_23 : decode cX11_answer 23 = .ok (.invokevirtual 311, 3) := by decide +kernel
theorem dX11_answer_26 : decode cX11_answer 26 = .ok (.istore_n 2, 1) := by decide +kernel
theorem dX11_answer_27 : decode cX11_answer 27 = .ok (.iload_n 2, 1) := by decide +kernel
theorem dX11_answer_28 : decode cX11_answer 28 = .ok (.ifCond .ge 11, 3) := by decide +kernel
theorem dX11_answer_31 : decode cX11_answer 31 = .ok (.aload_n 0, 1) := by decide +kernel
theorem dX11_answer_32 : decode cX11_answer 32 = .ok (.iconst 1, 1) := by decide +kernel
theorem dX11_answer_33 : decode cX11_answer 33 = .ok (.invokevirtual 177, 3) := by decide +kernel
theorem dX11_answer_36 : decode cX11_answer 36 = .ok (.goto 4, 3) := by decide +kernel
theorem dX11_answer_39 : decode cX11_answer 39 = .ok (.iload_n 2, 1) := by decide +kernel
theorem dX11_answer_40 : decode cX11_answer 40 = .ok (.ireturn, 1) := by decide +kernel
set_option maxRecDepth 20000 in
theorem ggX11_disturbed_X11_good : GoodIn wsX11_disturbed wsX11_good := goodIn_r _ [7, 8, 9, 18, 19, 20, 21, 22, 23, 24, 25, 26, 27, 28, 29, 30, 31, 32, 33, 34, 35, 36, 37, 38, 39, 40, 41, 42, 43, 44, 45, 46, 47, 48, 49, 50, 51, 52, 53, 54, 55, 56, 57] (by decide +kernel) (by decide +kernel)
set_option maxRecDepth 20000 in
theorem gX11_disturbed_X11_good : GoodIn wsX11_disturbed (wsV RX11 174 RX11 yX11_good wsX11_good) := goodIn_app (goodIn_of _ (by decide +kernel)) ggX11_disturbed_X11_good
set_option maxRecDepth 20000 in
theorem ggX11_disturbed_X11_no : GoodIn wsX11_disturbed wsX11_no := goodIn_r _ [13, 9, 18, 19, 20, 21, 22, 23, 24, 25, 26, 27, 28, 29, 30, 31, 32, 33, 34, 35, 36, 37, 38, 39, 40, 41, 42, 43, 44, 45, 46, 47, 48, 49, 50, 51, 52, 53, 54, 55, 56, 57] (by decide +kernel) (by decide +kernel)
set_option maxRecDepth 20000 in
theorem gX11_disturbed_X11_no : GoodIn wsX11_disturbed (wsV RX11 177 RX11 yX11_no wsX11_no) := goodIn_app (goodIn_of _ (by decide +kernel)) ggX11_disturbed_X11_no
theorem dX11_disturbed_0 : decode cX11_disturbed 0 = .ok (.aload_n 0, 1) := by decide +kernel
theorem dX11_disturbed_1 : decode cX11_disturbed 1 = .ok (.invokevirtual 174, 3) := by decide +kernel
theorem dX11_disturbed_4 : decode cX11_disturbed 4 = .ok (.aload_n 0, 1) := by decide +kernel
theorem dX11_disturbed_5 : decode cX11_disturbed 5 = .ok (.getfield 183, 3) := by decide +kernel
theorem dX11_disturbed_8 : decode cX11_disturbed 8 = .ok (.ifCond .ne 9, 3) := by decide +kernel
theorem dX11_disturbed_11 : decode cX11_disturbed 11 = .ok (.aload_n 0, 1) := by decide +kernel
theorem dX11_disturbed_12 : decode cX11_disturbed 12 = .ok (.iconst 1, 1) := by decide +kernel
theorem dX11_disturbed_13 : decode cX11_disturbed 13 = .ok (.invokevirtual 177, 3) := by decide +kernel
theorem dX11_disturbed_16 : decode cX11_disturbed 16 = .ok (.ireturn, 1) := by decide +kernel
theorem dX11_disturbed_17 : decode cX11_disturbed 17 = .ok (.iconst 0, 1) := by decide +kernel
theorem dX11_disturbed_18 : decode cX11_disturbed 18 = .ok (.istore_n 1, 1) := by decide +kernel
theorem dX11_disturbed_19 : decode cX11_disturbed 19 = .ok (.iload_n 1, 1) := by decide +kernel
theorem dX11_disturbed_20 : decode cX11_disturbed 20 = .ok (.aload_n 0, 1) := by decide +kernel
theorem dX11_disturbed_21 : decode cX11_disturbed 21 = .ok (.getfield 20, 3) := by decide +kernel
theorem dX11_disturbed_24 : decode cX11_disturbed 24 = .ok (.bipush 50, 2) := by decide +kernel
theorem dX11_disturbed_26 : decode cX11_disturbed 26 = .ok (.iaload, 1) := by decide +kernel
theorem dX11_disturbed_27 : decode cX11_disturbed 27 = .ok (.if_icmp .ge 66, 3) := by decide +kernel
theorem dX11_disturbed_30 : decode cX11_disturbed 30 = .ok (.iconst (-1), 1) := by decide +kernel
theorem dX11_disturbed_31 : decode cX11_disturbed 31 = .ok (.istore_n 2, 1) := by decide +kernel
theorem dX11_disturbed_32 : decode cX11_disturbed 32 = .ok (.iconst 0, 1) := by decide +kernel
theorem dX11_disturbed_33 : decode cX11_disturbed 33 = .ok (.istore_n 3, 1) := by decide +kernel
theorem dX11_disturbed_34 : decode cX11_disturbed 34 = .ok (.iload_n 3, 1) := by decide +kernel
theorem dX11_disturbed_35 : decode cX11_disturbed 35 = .ok (.aload_n 0, 1) := by decide +kernel
theorem dX11_disturbed_36 : decode cX11_disturbed 36 = .ok (.getfield 20, 3) := by decide +kernel
theorem dX11_disturbed_39 : decode cX11_disturbed 39 = .ok (.iconst 0, 1) := by decide +kernel
theorem dX11_disturbed_40 : decode cX11_disturbed 40 = .ok (.iaload, 1) := by decide +kernel
theorem dX11_disturbed_41 : decode cX11_disturbed 41 = .ok (.if_icmp .ge 46, 3) := by decide +kernel
theorem dX11_disturbed_44 : decode cX11_disturbed 44 = .ok (.aload_n 0, 1) := by decide +kernel
theorem dX11_disturbed_45 : decode cX11_disturbed 45 = .ok (.iload_n 3, 1) := by decide +kernel
theorem dX11_disturbed_46 : decode cX11_disturbed 46 = .ok (.iload_n 1, 1) := by decide +kernel
theorem dX11_disturbed_47 : decode cX11_disturbed 47 = .ok (.invokevirtual 314, 3) := by decide +kernel
theorem dX11_disturbed_50 : decode cX11_disturbed 50 = .ok (.istore 4, 2) := by decide +kernel
theorem dX11_disturbed_52 : decode cX11_disturbed 52 = .ok (.iload 4, 2) := by decide +kernel
theorem dX11_disturbed_54 : decode cX11_disturbed 54 = .ok (.ifCond .lt 15, 3) := by decide +kernel
theorem dX11_disturbed_57 : decode cX11_disturbed 57 = .ok (.iload_n 2, 1) := by decide +kernel
theorem dX11_disturbed_58 : decode cX11_disturbed 58 = .ok (.ifCond .lt 11, 3) := by decide +kernel
theorem dX11_disturbed_61 : decode cX11_disturbed 61 = .ok (.iload 4, 2) := by decide +kernel
theorem dX11_disturbed_63 : decode cX11_disturbed 63 = .ok (.iload_n 2, 1) := by decide +kernel
theorem dX11_disturbed_64 : decode cX11_disturbed 64 = .ok (.if_icmp .eq 5, 3) := by decide +kernel
theorem dX11_disturbed_67 : decode cX11_disturbed 67 = .ok (.iload_n 1, 1) := by decide +kernel
theorem dX11_disturbed_68 : decode cX11_disturbed 68 = .ok (.ireturn, 1) := by decide +kernel
theorem dX11_disturbed_69 : decode cX11_disturbed 69 = .ok (.iload 4, 2) := by decide +kernel
theorem dX11_disturbed_71 : decode cX11_disturbed 71 = .ok (.ifCond .lt 8, 3) := by decide +kernel
theorem dX11_disturbed_74 : decode cX11_disturbed 74 = .ok (.iload 4, 2) := by decide +kernel
theorem dX11_disturbed_76 : decode cX11_disturbed 76 = .ok (.goto 4, 3) := by decide +kernel
theorem dX11_disturbed_79 : decode cX11_disturbed 79 = .ok (.iload_n 2, 1) := by decide +kernel
theorem dX11_disturbed_80 : decode cX11_disturbed 80 = .ok (.istore_n 2, 1) := by decide +kernel
theorem dX11_disturbed_81 : decode cX11_disturbed 81 = .ok (.iinc 3 1, 3) := by decide +kernel
theorem dX11_disturbed_84 : decode cX11_disturbed 84 = .ok (.goto (-50), 3) := by decide +kernel
theorem dX11_disturbed_87 : decode cX11_disturbed 87 = .ok (.iinc 1 1, 3) := by decide +kernel
theorem dX11_disturbed_90 : decode cX11_disturbed 90 = .ok (.goto (-71), 3) := by decide +kernel
theorem dX11_disturbed_93 : decode cX11_disturbed 93 = .ok (.bipush (-2), 2) := by decide +kernel
theorem dX11_disturbed_95 : decode cX11_disturbed 95 = .ok (.ireturn, 1) := by decide +kernel
set_option maxRecDepth 20000 in
theorem ggX11_same_X11_good : GoodIn wsX11_same wsX11_good := goodIn_r _ [6, 7, 8, 25, 26, 27, 28, 29, 30, 31, 32, 33, 34, 35, 36, 37, 38, 39, 40, 41, 42, 43, 44, 45, 46, 47, 48, 49, 50, 51, 52, 53, 54, 55, 56, 57, 58, 59, 60, 61, 62, 63, 64] (by decide +kernel) (by decide +kernel)
set_option maxRecDepth 20000 in
theorem gX11_same_X11_good : GoodIn wsX11_same (wsV RX11 174 RX11 yX11_good wsX11_good) := goodIn_app (goodIn_of _ (by decide +kernel)) ggX11_same_X11_good
set_option maxRecDepth 20000 in
theorem ggX11_same_X11_isSet : GoodIn wsX11_same wsX11_isSet := goodIn_r _ [12, 13, 1, 14, 15, 5, 16, 25, 26, 27, 28, 29, 30, 31, 32, 33, 34, 35, 36, 37, 38, 39, 40, 41, 42, 43, 44, 45, 46, 47, 48, 49, 50, 51, 52, 53, 54, 55, 56, 57, 58, 59, 60, 61, 62, 63, 64] (by decide +kernel) (by decide +kernel)
set_option maxRecDepth 20000 in
theorem gX11_same_X11_isSet : GoodIn wsX11_same (wsV RX11 244 RX11 yX11_isSet wsX11_isSet) := goodIn_app (goodIn_of _ (by decide +kernel)) ggX11_same_X11_isSet
set_option maxRecDepth 20000 in
theorem ggX11_same_X11_less : GoodIn wsX11_same wsX11_less := goodIn_r _ [24, 8, 25, 26, 27, 28, 29, 30, 31, 32, 33, 34, 35, 36, 37, 38, 39, 40, 41, 42, 43, 44, 45, 46, 47, 48, 49, 50, 51, 52, 53, 54, 55, 56, 57, 58, 59, 60, 61, 62, 63, 64] (by decide +kernel) (by decide +kernel)
set_option maxRecDepth 20000 in
theorem gX11_same_X11_less : GoodIn wsX11_same (wsV RX11 320 RX11 yX11_less wsX11_less) := goodIn_app (goodIn_of _ (by decide +kernel)) ggX11_same_X11_less
theorem dX11_same_0 : decode cX11_same 0 = .ok (.aload_n 0, 1) := by decide +kernel
theorem dX11_same_1 : decode cX11_same 1 = .ok (.invokevirtual 174, 3) := by decide +kernel
theorem dX11_same_4 : decode cX11_same 4 = .ok (.aload_n 0, 1) := by decide +kernel
theorem dX11_same_5 : decode cX11_same 5 = .ok (.iload_n 1, 1) := by decide +kernel
theorem dX11_same_6 : decode cX11_same 6 = .ok (.invokevirtual 244, 3) := by decide +kernel
theorem dX11_same_9 : decode cX11_same 9 = .ok (.ifCond .eq 25, 3) := by decide +kernel
theorem dX11_same_12 : decode cX11_same 12 = .ok (.aload_n 0, 1) := by decide +kernel
theorem dX11_same_13 : decode cX11_same 13 = .ok (.getfield 20, 3) := by decide +kernel
theorem dX11_same_16 : decode cX11_same 16 = .ok (.bipush 9, 2) := by decide +kernel
theorem dX11_same_18 : decode cX11_same 18 = .ok (.iload_n 1, 1) := by decide +kernel
theorem dX11_same_19 : decode cX11_same 19 = .ok (.iadd, 1) := by decide +kernel
theorem dX11_same_20 : decode cX11_same 20 = .ok (.iaload, 1) := by decide +kernel
theorem dX11_same_21 : decode cX11_same 21 = .ok (.bipush (-2), 2) := by decide +kernel
theorem dX11_same_23 : decode cX11_same 23 = .ok (.if_icmp .eq 11, 3) := by decide +kernel
theorem dX11_same_26 : decode cX11_same 26 = .ok (.aload_n 0, 1) := by decide +kernel
theorem dX11_same_27 : decode cX11_same 27 = .ok (.iload_n 1, 1) := by decide +kernel
theorem dX11_same_28 : decode cX11_same 28 = .ok (.invokevirtual 317, 3) := by decide +kernel
theorem dX11_same_31 : decode cX11_same 31 = .ok (.goto 11, 3) := by decide +kernel
theorem dX11_same_34 : decode cX11_same 34 = .ok (.aload_n 0, 1) := by decide +kernel
theorem dX11_same_35 : decode cX11_same 35 = .ok (.iconst 1, 1) := by decide +kernel
theorem dX11_same_36 : decode cX11_same 36 = .ok (.sipush (-1000), 3) := by decide +kernel
theorem dX11_same_39 : decode cX11_same 39 = .ok (.invokevirtual 320, 3) := by decide +kernel
theorem dX11_same_42 : decode cX11_same 42 = .ok (.ireturn, 1) := by decide +kernel
set_option maxRecDepth 20000 in
theorem ggX11_cycles_X11_good : GoodIn wsX11_cycles wsX11_good := goodIn_r _ [6, 7, 8, 31, 32, 33, 34, 35, 36, 37, 38, 39, 40, 41, 42, 43, 44, 45, 46, 47, 48, 49, 50, 51, 52, 53, 54, 55, 56, 57, 58, 59, 60, 61, 62, 63, 64, 65, 66, 67, 68, 69, 70] (by decide +kernel) (by decide +kernel)
set_option maxRecDepth 20000 in
theorem gX11_cycles_X11_good : GoodIn wsX11_cycles (wsV RX11 174 RX11 yX11_good wsX11_good) := goodIn_app (goodIn_of _ (by decide +kernel)) ggX11_cycles_X11_good
set_option maxRecDepth 20000 in
theorem ggX11_cycles_X11_no : GoodIn wsX11_cycles wsX11_no := goodIn_r _ [30, 8, 31, 32, 33, 34, 35, 36, 37, 38, 39, 40, 41, 42, 43, 44, 45, 46, 47, 48, 49, 50, 51, 52, 53, 54, 55, 56, 57, 58, 59, 60, 61, 62, 63, 64, 65, 66, 67, 68, 69, 70] (by decide +kernel) (by decide +kernel)
set_option maxRecDepth 20000 in
theorem gX11_cycles_X11_no : GoodIn wsX11_cycles (wsV RX11 177 RX11 yX11_no wsX11_no) := goodIn_app (goodIn_of _ (by decide +kernel)) ggX11_cycles_X11_no
theorem dX11_cycles_0 : decode cX11_cycles 0 = .ok (.aload_n 0, 1) := by decide +kernel
theorem dX11_cycles_1 : decode cX11_cycles 1 = .ok (.invokevirtual 174, 3) := by decide +kernel
theorem dX11_cycles_4 : decode cX11_cycles 4 = .ok (.aload_n 0, 1) := by decide +kernel
theorem dX11_cycles_5 : decode cX11_cycles 5 = .ok (.getfield 183, 3) := by decide +kernel
theorem dX11_cycles_8 : decode cX11_cycles 8 = .ok (.ifCond .eq 15, 3) := by decide +kernel
theorem dX11_cycles_11 : decode cX11_cycles 11 = .ok (.aload_n 0, 1) := by decide +kernel
theorem dX11_cycles_12 : decode cX11_cycles 12 = .ok (.iconst (-1), 1) := by decide +kernel
theorem dX11_cycles_13 : decode cX11_cycles 13 = .ok (.invokevirtual 329, 3) := by decide +kernel
theorem dX11_cycles_16 : decode cX11_cycles 16 = .ok (.sipush 1000, 3) := by decide +kernel
theorem dX11_cycles_19 : decode cX11_cycles 19 = .ok (.iadd, 1) := by decide +kernel
theorem dX11_cycles_20 : decode cX11_cycles 20 = .ok (.goto 8, 3) := by decide +kernel
theorem dX11_cycles_23 : decode cX11_cycles 23 = .ok (.aload_n 0, 1) := by decide +kernel
theorem dX11_cycles_24 : decode cX11_cycles 24 = .ok (.iconst 1, 1) := by decide +kernel
theorem dX11_cycles_25 : decode cX11_cycles 25 = .ok (.invokevirtual 177, 3) := by decide +kernel
theorem dX11_cycles_28 : decode cX11_cycles 28 = .ok (.ireturn, 1) := by decide +kernel
set_option maxRecDepth 20000 in
theorem ggX11_cycle_X11_good : GoodIn wsX11_cycle wsX11_good := goodIn_r _ [6, 7, 8, 31, 32, 33, 34, 35, 36, 37, 38, 39, 40, 41, 42, 43, 44, 45, 46, 47, 48, 49, 50, 51, 52, 53, 54, 55, 56, 57, 58, 59, 60, 61, 62, 63, 64, 65, 66, 67, 68, 69, 70] (by decide +kernel) (by decide +kernel)
set_option maxRecDepth 20000 in
theorem gX11_cycle_X11_good : GoodIn wsX11_cycle (wsV RX11 174 RX11 yX11_good wsX11_good) := goodIn_app (goodIn_of _ (by decide +kernel)) ggX11_cycle_X11_good
set_option maxRecDepth 20000 in
theorem ggX11_cycle_X11_no : GoodIn wsX11_cycle wsX11_no := goodIn_r _ [12, 8, 31, 32, 33, 34, 35, 36, 37, 38, 39, 40, 41, 42, 43, 44, 45, 46, 47, 48, 49, 50, 51, 52, 53, 54, 55, 56, 57, 58, 59, 60, 61, 62, 63, 64, 65, 66, 67, 68, 69, 70] (by decide +kernel) (by decide +kernel)
set_option maxRecDepth 20000 in
theorem gX11_cycle_X11_no : GoodIn wsX11_cycle (wsV RX11 177 RX11 yX11_no wsX11_no) := goodIn_app (goodIn_of _ (by decide +kernel)) ggX11_cycle_X11_no
theorem dX11_cycle_0 : decode cX11_cycle 0 = .ok (.aload_n 0, 1) := by decide +kernel
theorem dX11_cycle_1 : decode cX11_cycle 1 = .ok (.invokevirtual 174, 3) := by decide +kernel
theorem dX11_cycle_4 : decode cX11_cycle 4 = .ok (.aload_n 0, 1) := by decide +kernel
theorem dX11_cycle_5 : decode cX11_cycle 5 = .ok (.getfield 183, 3) := by decide +kernel
theorem dX11_cycle_8 : decode cX11_cycle 8 = .ok (.ifCond .eq 7, 3) := by decide +kernel
theorem dX11_cycle_11 : decode cX11_cycle 11 = .ok (.iload_n 1, 1) := by decide +kernel
theorem dX11_cycle_12 : decode cX11_cycle 12 = .ok (.ifCond .ge 9, 3) := by decide +kernel
theorem dX11_cycle_15 : decode cX11_cycle 15 = .ok (.aload_n 0, 1) := by decide +kernel
theorem dX11_cycle_16 : decode cX11_cycle 16 = .ok (.iconst 1, 1) := by decide +kernel
theorem dX11_cycle_17 : decode cX11_cycle 17 = .ok (.invokevirtual 177, 3) := by decide +kernel
theorem dX11_cycle_20 : decode cX11_cycle 20 = .ok (.ireturn, 1) := by decide +kernel
theorem dX11_cycle_21 : decode cX11_cycle 21 = .ok (.aload_n 0, 1) := by decide +kernel
theorem dX11_cycle_22 : decode cX11_cycle 22 = .ok (.iload_n 1, 1) := by decide +kernel
theorem dX11_cycle_23 : decode cX11_cycle 23 = .ok (.invokevirtual 329, 3) := by decide +kernel
theorem dX11_cycle_26 : decode cX11_cycle 26 = .ok (.istore_n 2, 1) := by decide +kernel
theorem dX11_cycle_27 : decode cX11_cycle 27 = .ok (.iload_n 2, 1) := by decide +kernel
theorem dX11_cycle_28 : decode cX11_cycle 28 = .ok (.ifCond .ge 11, 3) := by decide +kernel
theorem dX11_cycle_31 : decode cX11_cycle 31 = .ok (.aload_n 0, 1) := by decide +kernel
theorem dX11_cycle_32 : decode cX11_cycle 32 = .ok (.iconst 1, 1) := by decide +kernel
theorem dX11_cycle_33 : decode cX11_cycle 33 = .ok (.invokevirtual 177, 3) := by decide +kernel
theorem dX11_cycle_36 : decode cX11_cycle 36 = .ok (.goto 4, 3) := by decide +kernel
theorem dX11_cycle_39 : decode cX11_cycle 39 = .ok (.iload_n 2, 1) := by decide +kernel
theorem dX11_cycle_40 : decode cX11_cycle 40 = .ok (.ireturn, 1) := by decide +kernel
set_option maxRecDepth 20000 in
theorem ggX11_excess_X11_good : GoodIn wsX11_excess wsX11_good := goodIn_r _ [6, 7, 8, 36, 37, 38, 39, 40, 41, 42, 43, 44, 45, 46, 47, 48, 49, 50, 51, 52, 53, 54, 55, 56, 57, 58, 59, 60, 61, 62, 63, 64, 65, 66, 67, 68, 69, 70, 71, 72, 73, 74, 75] (by decide +kernel) (by decide +kernel)
set_option maxRecDepth 20000 in
theorem gX11_excess_X11_good : GoodIn wsX11_excess (wsV RX11 174 RX11 yX11_good wsX11_good) := goodIn_app (goodIn_of _ (by decide +kernel)) ggX11_excess_X11_good
set_option maxRecDepth 20000 in
theorem ggX11_excess_X11_less : GoodIn wsX11_excess wsX11_less := goodIn_r _ [12, 8, 36, 37, 38, 39, 40, 41, 42, 43, 44, 45, 46, 47, 48, 49, 50, 51, 52, 53, 54, 55, 56, 57, 58, 59, 60, 61, 62, 63, 64, 65, 66, 67, 68, 69, 70, 71, 72, 73, 74, 75] (by decide +kernel) (by decide +kernel)
set_option maxRecDepth 20000 in
theorem gX11_excess_X11_less : GoodIn wsX11_excess (wsV RX11 320 RX11 yX11_less wsX11_less) := goodIn_app (goodIn_of _ (by decide +kernel)) ggX11_excess_X11_less
theorem dX11_excess_0 : decode cX11_excess 0 = .ok (.aload_n 0, 1) := by decide +kernel
theorem dX11_excess_1 : decode cX11_excess 1 = .ok (.invokevirtual 174, 3) := by decide +kernel
theorem dX11_excess_4 : decode cX11_excess 4 = .ok (.aload_n 0, 1) := by decide +kernel
theorem dX11_excess_5 : decode cX11_excess 5 = .ok (.getfield 183, 3) := by decide +kernel
theorem dX11_excess_8 : decode cX11_excess 8 = .ok (.ifCond .ne 12, 3) := by decide +kernel
theorem dX11_excess_11 : decode cX11_excess 11 = .ok (.aload_n 0, 1) := by decide +kernel
theorem dX11_excess_12 : decode cX11_excess 12 = .ok (.iconst 1, 1) := by decide +kernel
theorem dX11_excess_13 : decode cX11_excess 13 = .ok (.sipush (-1000), 3) := by decide +kernel
theorem dX11_excess_16 : decode cX11_excess 16 = .ok (.invokevirtual 320, 3) := by decide +kernel
theorem dX11_excess_19 : decode cX11_excess 19 = .ok (.ireturn, 1) := by decide +kernel
theorem dX11_excess_20 : decode cX11_excess 20 = .ok (.aload_n 0, 1) := by decide +kernel
theorem dX11_excess_21 : decode cX11_excess 21 = .ok (.iload_n 1, 1) := by decide +kernel
theorem dX11_excess_22 : decode cX11_excess 22 = .ok (.invokevirtual 326, 3) := by decide +kernel
theorem dX11_excess_25 : decode cX11_excess 25 = .ok (.ifCond .eq 11, 3) := by decide +kernel
theorem dX11_excess_28 : decode cX11_excess 28 = .ok (.aload_n 0, 1) := by decide +kernel
theorem dX11_excess_29 : decode cX11_excess 29 = .ok (.iload_n 1, 1) := by decide +kernel
theorem dX11_excess_30 : decode cX11_excess 30 = .ok (.invokevirtual 333, 3) := by decide +kernel
theorem dX11_excess_33 : decode cX11_excess 33 = .ok (.goto 11, 3) := by decide +kernel
theorem dX11_excess_36 : decode cX11_excess 36 = .ok (.aload_n 0, 1) := by decide +kernel
theorem dX11_excess_37 : decode cX11_excess 37 = .ok (.iconst 5, 1) := by decide +kernel
theorem dX11_excess_38 : decode cX11_excess 38 = .ok (.sipush (-1000), 3) := by decide +kernel
theorem dX11_excess_41 : decode cX11_excess 41 = .ok (.invokevirtual 320, 3) := by decide +kernel
theorem dX11_excess_44 : decode cX11_excess 44 = .ok (.ireturn, 1) := by decide +kernel
set_option maxRecDepth 20000 in
theorem ggX11_widest_X11_good : GoodIn wsX11_widest wsX11_good := goodIn_r _ [7, 8, 9, 36, 37, 38, 39, 40, 41, 42, 43, 44, 45, 46, 47, 48, 49, 50, 51, 52, 53, 54, 55, 56, 57, 58, 59, 60, 61, 62, 63, 64, 65, 66, 67, 68, 69, 70, 71, 72, 73, 74, 75] (by decide +kernel) (by decide +kernel)
set_option maxRecDepth 20000 in
theorem gX11_widest_X11_good : GoodIn wsX11_widest (wsV RX11 174 RX11 yX11_good wsX11_good) := goodIn_app (goodIn_of _ (by decide +kernel)) ggX11_widest_X11_good
set_option maxRecDepth 20000 in
theorem ggX11_widest_X11_no : GoodIn wsX11_widest wsX11_no := goodIn_r _ [13, 9, 36, 37, 38, 39, 40, 41, 42, 43, 44, 45, 46, 47, 48, 49, 50, 51, 52, 53, 54, 55, 56, 57, 58, 59, 60, 61, 62, 63, 64, 65, 66, 67, 68, 69, 70, 71, 72, 73, 74, 75] (by decide +kernel) (by decide +kernel)
set_option maxRecDepth 20000 in
theorem gX11_widest_X11_no : GoodIn wsX11_widest (wsV RX11 177 RX11 yX11_no wsX11_no) := goodIn_app (goodIn_of _ (by decide +kernel)) ggX11_widest_X11_no
theorem dX11_widest_0 : decode cX11_widest 0 = .ok (.aload_n 0, 1) := by decide +kernel
theorem dX11_widest_1 : decode cX11_widest 1 = .ok (.invokevirtual 174, 3) := by decide +kernel
theorem dX11_widest_4 : decode cX11_widest 4 = .ok (.aload_n 0, 1) := by decide +kernel
theorem dX11_widest_5 : decode cX11_widest 5 = .ok (.getfield 183, 3) := by decide +kernel
theorem dX11_widest_8 : decode cX11_widest 8 = .ok (.ifCond .ne 9, 3) := by decide +kernel
theorem dX11_widest_11 : decode cX11_widest 11 = .ok (.aload_n 0, 1) := by decide +kernel
theorem dX11_widest_12 : decode cX11_widest 12 = .ok (.iconst 1, 1) := by decide +kernel
theorem dX11_widest_13 : decode cX11_widest 13 = .ok (.invokevirtual 177, 3) := by decide +kernel
theorem dX11_widest_16 : decode cX11_widest 16 = .ok (.ireturn, 1) := by decide +kernel
theorem dX11_widest_17 : decode cX11_widest 17 = .ok (.bipush (-2), 2) := by decide +kernel
theorem dX11_widest_19 : decode cX11_widest 19 = .ok (.istore_n 1, 1) := by decide +kernel
theorem dX11_widest_20 : decode cX11_widest 20 = .ok (.iconst 0, 1) := by decide +kernel
theorem dX11_widest_21 : decode cX11_widest 21 = .ok (.istore_n 2, 1) := by decide +kernel
theorem dX11_widest_22 : decode cX11_widest 22 = .ok (.iconst 0, 1) := by decide +kernel
theorem dX11_widest_23 : decode cX11_widest 23 = .ok (.istore_n 3, 1) := by decide +kernel
theorem dX11_widest_24 : decode cX11_widest 24 = .ok (.iload_n 3, 1) := by decide +kernel
theorem dX11_widest_25 : decode cX11_widest 25 = .ok (.iconst 1, 1) := by decide +kernel
theorem dX11_widest_26 : decode cX11_widest 26 = .ok (.aload_n 0, 1) := by decide +kernel
theorem dX11_widest_27 : decode cX11_widest 27 = .ok (.getfield 20, 3) := by decide +kernel
theorem dX11_widest_30 : decode cX11_widest 30 = .ok (.iconst 0, 1) := by decide +kernel
theorem dX11_widest_31 : decode cX11_widest 31 = .ok (.iaload, 1) := by decide +kernel
theorem dX11_widest_32 : decode cX11_widest 32 = .ok (.ishl, 1) := by decide +kernel
theorem dX11_widest_33 : decode cX11_widest 33 = .ok (.if_icmp .ge 47, 3) := by decide +kernel
theorem dX11_widest_36 : decode cX11_widest 36 = .ok (.aload_n 0, 1) := by decide +kernel
theorem dX11_widest_37 : decode cX11_widest 37 = .ok (.iload_n 3, 1) := by decide +kernel
theorem dX11_widest_38 : decode cX11_widest 38 = .ok (.invokevirtual 326, 3) := by decide +kernel
theorem dX11_widest_41 : decode cX11_widest 41 = .ok (.ifCond .ne 6, 3) := by decide +kernel
theorem dX11_widest_44 : decode cX11_widest 44 = .ok (.goto 30, 3) := by decide +kernel
theorem dX11_widest_47 : decode cX11_widest 47 = .ok (.aload_n 0, 1) := by decide +kernel
theorem dX11_widest_48 : decode cX11_widest 48 = .ok (.iload_n 3, 1) := by decide +kernel
theorem dX11_widest_49 : decode cX11_widest 49 = .ok (.invokevirtual 333, 3) := by decide +kernel
theorem dX11_widest_52 : decode cX11_widest 52 = .ok (.istore 4, 2) := by decide +kernel
theorem dX11_widest_54 : decode cX11_widest 54 = .ok (.iload_n 1, 1) := by decide +kernel
theorem dX11_widest_55 : decode cX11_widest 55 = .ok (.bipush (-2), 2) := by decide +kernel
theorem dX11_widest_57 : decode cX11_widest 57 = .ok (.if_icmp .eq 12, 3) := by decide +kernel
theorem dX11_widest_60 : decode cX11_widest 60 = .ok (.iload 4, 2) := by decide +kernel
theorem dX11_widest_62 : decode cX11_widest 62 = .ok (.iload_n 2, 1) := by decide +kernel
theorem dX11_widest_63 : decode cX11_widest 63 = .ok (.if_icmp .gt 6, 3) := by decide +kernel
theorem dX11_widest_66 : decode cX11_widest 66 = .ok (.goto 8, 3) := by decide +kernel
theorem dX11_widest_69 : decode cX11_widest 69 = .ok (.iload_n 3, 1) := by decide +kernel
theorem dX11_widest_70 : decode cX11_widest 70 = .ok (.istore_n 1, 1) := by decide +kernel
theorem dX11_widest_71 : decode cX11_widest 71 = .ok (.iload 4, 2) := by decide +kernel
theorem dX11_widest_73 : decode cX11_widest 73 = .ok (.istore_n 2, 1) := by decide +kernel
theorem dX11_widest_74 : decode cX11_widest 74 = .ok (.iinc 3 1, 3) := by decide +kernel
theorem dX11_widest_77 : decode cX11_widest 77 = .ok (.goto (-53), 3) := by decide +kernel
theorem dX11_widest_80 : decode cX11_widest 80 = .ok (.iload_n 1, 1) := by decide +kernel
theorem dX11_widest_81 : decode cX11_widest 81 = .ok (.ireturn, 1) := by decide +kernel
set_option maxRecDepth 20000 in
theorem ggX11_stake_X11_good : GoodIn wsX11_stake wsX11_good := goodIn_r _ [6, 7, 8, 29, 30, 31, 32, 33, 34, 35, 36, 37, 38, 39, 40, 41, 42, 43, 44, 45, 46, 47, 48, 49, 50, 51, 52, 53, 54, 55, 56, 57, 58, 59, 60, 61, 62, 63, 64, 65, 66, 67, 68] (by decide +kernel) (by decide +kernel)
set_option maxRecDepth 20000 in
theorem gX11_stake_X11_good : GoodIn wsX11_stake (wsV RX11 174 RX11 yX11_good wsX11_good) := goodIn_app (goodIn_of _ (by decide +kernel)) ggX11_stake_X11_good
set_option maxRecDepth 20000 in
theorem ggX11_stake_X11_isOutcome : GoodIn wsX11_stake wsX11_isOutcome := goodIn_r _ [12, 13, 14, 15, 16, 5, 17, 18, 19, 20, 21, 22, 23, 24, 29, 30, 31, 32, 33, 34, 35, 36, 37, 38, 39, 40, 41, 42, 43, 44, 45, 46, 47, 48, 49, 50, 51, 52, 53, 54, 55, 56, 57, 58, 59, 60, 61, 62, 63, 64, 65, 66, 67, 68] (by decide +kernel) (by decide +kernel)
set_option maxRecDepth 20000 in
theorem gX11_stake_X11_isOutcome : GoodIn wsX11_stake (wsV RX11 305 RX11 yX11_isOutcome wsX11_isOutcome) := goodIn_app (goodIn_of _ (by decide +kernel)) ggX11_stake_X11_isOutcome
set_option maxRecDepth 20000 in
theorem ggX11_stake_X11_isNot : GoodIn wsX11_stake wsX11_isNot := goodIn_r _ [28, 8, 29, 30, 31, 32, 33, 34, 35, 36, 37, 38, 39, 40, 41, 42, 43, 44, 45, 46, 47, 48, 49, 50, 51, 52, 53, 54, 55, 56, 57, 58, 59, 60, 61, 62, 63, 64, 65, 66, 67, 68] (by decide +kernel) (by decide +kernel)
set_option maxRecDepth 20000 in
theorem gX11_stake_X11_isNot : GoodIn wsX11_stake (wsV RX11 336 RX11 yX11_isNot wsX11_isNot) := goodIn_app (goodIn_of _ (by decide +kernel)) ggX11_stake_X11_isNot
theorem dX11_stake_0 : decode cX11_stake 0 = .ok (.aload_n 0, 1) := by decide +kernel
theorem dX11_stake_1 : decode cX11_stake 1 = .ok (.invokevirtual 174, 3) := by decide +kernel
theorem dX11_stake_4 : decode cX11_stake 4 = .ok (.aload_n 0, 1) := by decide +kernel
theorem dX11_stake_5 : decode cX11_stake 5 = .ok (.iload_n 1, 1) := by decide +kernel
theorem dX11_stake_6 : decode cX11_stake 6 = .ok (.iload_n 2, 1) := by decide +kernel
theorem dX11_stake_7 : decode cX11_stake 7 = .ok (.invokevirtual 305, 3) := by decide +kernel
theorem dX11_stake_10 : decode cX11_stake 10 = .ok (.ifCond .ne 9, 3) := by decide +kernel
theorem dX11_stake_13 : decode cX11_stake 13 = .ok (.aload_n 0, 1) := by decide +kernel
theorem dX11_stake_14 : decode cX11_stake 14 = .ok (.iconst 1, 1) := by decide +kernel
theorem dX11_stake_15 : decode cX11_stake 15 = .ok (.invokevirtual 336, 3) := by decide +kernel
theorem dX11_stake_18 : decode cX11_stake 18 = .ok (.ireturn, 1) := by decide +kernel
theorem dX11_stake_19 : decode cX11_stake 19 = .ok (.iload_n 3, 1) := by decide +kernel
theorem dX11_stake_20 : decode cX11_stake 20 = .ok (.iconst 0, 1) := by decide +kernel
theorem dX11_stake_21 : decode cX11_stake 21 = .ok (.bipush 99, 2) := by decide +kernel
theorem dX11_stake_23 : decode cX11_stake 23 = .ok (.invokestatic 170, 3) := by decide +kernel
theorem dX11_stake_26 : decode cX11_stake 26 = .ok (.ifCond .ne 9, 3) := by decide +kernel
theorem dX11_stake_29 : decode cX11_stake 29 = .ok (.aload_n 0, 1) := by decide +kernel
theorem dX11_stake_30 : decode cX11_stake 30 = .ok (.iconst 2, 1) := by decide +kernel
theorem dX11_stake_31 : decode cX11_stake 31 = .ok (.invokevirtual 336, 3) := by decide +kernel
theorem dX11_stake_34 : decode cX11_stake 34 = .ok (.ireturn, 1) := by decide +kernel
theorem dX11_stake_35 : decode cX11_stake 35 = .ok (.aload_n 0, 1) := by decide +kernel
theorem dX11_stake_36 : decode cX11_stake 36 = .ok (.getfield 26, 3) := by decide +kernel
theorem dX11_stake_39 : decode cX11_stake 39 = .ok (.iconst 4, 1) := by decide +kernel
theorem dX11_stake_40 : decode cX11_stake 40 = .ok (.iload_n 1, 1) := by decide +kernel
theorem dX11_stake_41 : decode cX11_stake 41 = .ok (.imul, 1) := by decide +kernel
theorem dX11_stake_42 : decode cX11_stake 42 = .ok (.iload_n 2, 1) := by decide +kernel
theorem dX11_stake_43 : decode cX11_stake 43 = .ok (.iadd, 1) := by decide +kernel
theorem dX11_stake_44 : decode cX11_stake 44 = .ok (.iload_n 3, 1) := by decide +kernel
theorem dX11_stake_45 : decode cX11_stake 45 = .ok (.iastore, 1) := by decide +kernel
theorem dX11_stake_46 : decode cX11_stake 46 = .ok (.iconst 1, 1) := by decide +kernel
theorem dX11_stake_47 : decode cX11_stake 47 = .ok (.ireturn, 1) := by decide +kernel
set_option maxRecDepth 20000 in
theorem ggX11_wins_X11_good : GoodIn wsX11_wins wsX11_good := goodIn_r _ [6, 7, 8, 22, 23, 24, 25, 26, 27, 28, 29, 30, 31, 32, 33, 34, 35, 36, 37, 38, 39, 40, 41, 42, 43, 44, 45, 46, 47, 48, 49, 50, 51, 52, 53, 54, 55, 56, 57, 58, 59, 60, 61] (by decide +kernel) (by decide +kernel)
set_option maxRecDepth 20000 in
theorem gX11_wins_X11_good : GoodIn wsX11_wins (wsV RX11 174 RX11 yX11_good wsX11_good) := goodIn_app (goodIn_of _ (by decide +kernel)) ggX11_wins_X11_good
set_option maxRecDepth 20000 in
theorem ggX11_wins_X11_no : GoodIn wsX11_wins wsX11_no := goodIn_r _ [21, 8, 22, 23, 24, 25, 26, 27, 28, 29, 30, 31, 32, 33, 34, 35, 36, 37, 38, 39, 40, 41, 42, 43, 44, 45, 46, 47, 48, 49, 50, 51, 52, 53, 54, 55, 56, 57, 58, 59, 60, 61] (by decide +kernel) (by decide +kernel)
set_option maxRecDepth 20000 in
theorem gX11_wins_X11_no : GoodIn wsX11_wins (wsV RX11 177 RX11 yX11_no wsX11_no) := goodIn_app (goodIn_of _ (by decide +kernel)) ggX11_wins_X11_no
theorem dX11_wins_0 : decode cX11_wins 0 = .ok (.aload_n 0, 1) := by decide +kernel
theorem dX11_wins_1 : decode cX11_wins 1 = .ok (.invokevirtual 174, 3) := by decide +kernel
theorem dX11_wins_4 : decode cX11_wins 4 = .ok (.aload_n 0, 1) := by decide +kernel
theorem dX11_wins_5 : decode cX11_wins 5 = .ok (.getfield 183, 3) := by decide +kernel
theorem dX11_wins_8 : decode cX11_wins 8 = .ok (.ifCond .eq 10, 3) := by decide +kernel
theorem dX11_wins_11 : decode cX11_wins 11 = .ok (.aload_n 0, 1) := by decide +kernel
theorem dX11_wins_12 : decode cX11_wins 12 = .ok (.invokevirtual 342, 3) := by decide +kernel
theorem dX11_wins_15 : decode cX11_wins 15 = .ok (.goto 8, 3) := by decide +kernel
theorem dX11_wins_18 : decode cX11_wins 18 = .ok (.aload_n 0, 1) := by decide +kernel
theorem dX11_wins_19 : decode cX11_wins 19 = .ok (.iconst 1, 1) := by decide +kernel
theorem dX11_wins_20 : decode cX11_wins 20 = .ok (.invokevirtual 177, 3) := by decide +kernel
theorem dX11_wins_23 : decode cX11_wins 23 = .ok (.ireturn, 1) := by decide +kernel
set_option maxRecDepth 20000 in
theorem ggX11_worst_X11_good : GoodIn wsX11_worst wsX11_good := goodIn_r _ [6, 7, 8, 31, 32, 33, 34, 35, 36, 37, 38, 39, 40, 41, 42, 43, 44, 45, 46, 47, 48, 49, 50, 51, 52, 53, 54, 55, 56, 57, 58, 59, 60, 61, 62, 63, 64, 65, 66, 67, 68, 69, 70] (by decide +kernel) (by decide +kernel)
set_option maxRecDepth 20000 in
theorem gX11_worst_X11_good : GoodIn wsX11_worst (wsV RX11 174 RX11 yX11_good wsX11_good) := goodIn_app (goodIn_of _ (by decide +kernel)) ggX11_worst_X11_good
set_option maxRecDepth 20000 in
theorem ggX11_worst_X11_no : GoodIn wsX11_worst wsX11_no := goodIn_r _ [30, 8, 31, 32, 33, 34, 35, 36, 37, 38, 39, 40, 41, 42, 43, 44, 45, 46, 47, 48, 49, 50, 51, 52, 53, 54, 55, 56, 57, 58, 59, 60, 61, 62, 63, 64, 65, 66, 67, 68, 69, 70] (by decide +kernel) (by decide +kernel)
set_option maxRecDepth 20000 in
theorem gX11_worst_X11_no : GoodIn wsX11_worst (wsV RX11 177 RX11 yX11_no wsX11_no) := goodIn_app (goodIn_of _ (by decide +kernel)) ggX11_worst_X11_no
theorem dX11_worst_0 : decode cX11_worst 0 = .ok (.aload_n 0, 1) := by decide +kernel
theorem dX11_worst_1 : decode cX11_worst 1 = .ok (.invokevirtual 174, 3) := by decide +kernel
theorem dX11_worst_4 : decode cX11_worst 4 = .ok (.aload_n 0, 1) := by decide +kernel
theorem dX11_worst_5 : decode cX11_worst 5 = .ok (.getfield 183, 3) := by decide +kernel
theorem dX11_worst_8 : decode cX11_worst 8 = .ok (.ifCond .eq 14, 3) := by decide +kernel
theorem dX11_worst_11 : decode cX11_worst 11 = .ok (.aload_n 0, 1) := by decide +kernel
theorem dX11_worst_12 : decode cX11_worst 12 = .ok (.aload_n 0, 1) := by decide +kernel
theorem dX11_worst_13 : decode cX11_worst 13 = .ok (.invokevirtual 345, 3) := by decide +kernel
theorem dX11_worst_16 : decode cX11_worst 16 = .ok (.invokevirtual 339, 3) := by decide +kernel
theorem dX11_worst_19 : decode cX11_worst 19 = .ok (.goto 8, 3) := by decide +kernel
theorem dX11_worst_22 : decode cX11_worst 22 = .ok (.aload_n 0, 1) := by decide +kernel
theorem dX11_worst_23 : decode cX11_worst 23 = .ok (.iconst 1, 1) := by decide +kernel
theorem dX11_worst_24 : decode cX11_worst 24 = .ok (.invokevirtual 177, 3) := by decide +kernel
theorem dX11_worst_27 : decode cX11_worst 27 = .ok (.ireturn, 1) := by decide +kernel
set_option maxRecDepth 20000 in
theorem ggX11_worstAt_X11_good : GoodIn wsX11_worstAt wsX11_good := goodIn_r _ [6, 7, 8, 31, 32, 33, 34, 35, 36, 37, 38, 39, 40, 41, 42, 43, 44, 45, 46, 47, 48, 49, 50, 51, 52, 53, 54, 55, 56, 57, 58, 59, 60, 61, 62, 63, 64, 65, 66, 67, 68, 69, 70] (by decide +kernel) (by decide +kernel)
set_option maxRecDepth 20000 in
theorem gX11_worstAt_X11_good : GoodIn wsX11_worstAt (wsV RX11 174 RX11 yX11_good wsX11_good) := goodIn_app (goodIn_of _ (by decide +kernel)) ggX11_worstAt_X11_good
set_option maxRecDepth 20000 in
theorem ggX11_worstAt_X11_no : GoodIn wsX11_worstAt wsX11_no := goodIn_r _ [30, 8, 31, 32, 33, 34, 35, 36, 37, 38, 39, 40, 41, 42, 43, 44, 45, 46, 47, 48, 49, 50, 51, 52, 53, 54, 55, 56, 57, 58, 59, 60, 61, 62, 63, 64, 65, 66, 67, 68, 69, 70] (by decide +kernel) (by decide +kernel)
set_option maxRecDepth 20000 in
theorem gX11_worstAt_X11_no : GoodIn wsX11_worstAt (wsV RX11 177 RX11 yX11_no wsX11_no) := goodIn_app (goodIn_of _ (by decide +kernel)) ggX11_worstAt_X11_no
theorem dX11_worstAt_0 : decode cX11_worstAt 0 = .ok (.aload_n 0, 1) := by decide +kernel
theorem dX11_worstAt_1 : decode cX11_worstAt 1 = .ok (.invokevirtual 174, 3) := by decide +kernel
theorem dX11_worstAt_4 : decode cX11_worstAt 4 = .ok (.aload_n 0, 1) := by decide +kernel
theorem dX11_worstAt_5 : decode cX11_worstAt 5 = .ok (.getfield 183, 3) := by decide +kernel
theorem dX11_worstAt_8 : decode cX11_worstAt 8 = .ok (.ifCond .eq 10, 3) := by decide +kernel
theorem dX11_worstAt_11 : decode cX11_worstAt 11 = .ok (.aload_n 0, 1) := by decide +kernel
theorem dX11_worstAt_12 : decode cX11_worstAt 12 = .ok (.invokevirtual 345, 3) := by decide +kernel
theorem dX11_worstAt_15 : decode cX11_worstAt 15 = .ok (.goto 8, 3) := by decide +kernel
theorem dX11_worstAt_18 : decode cX11_worstAt 18 = .ok (.aload_n 0, 1) := by decide +kernel
theorem dX11_worstAt_19 : decode cX11_worstAt 19 = .ok (.iconst 1, 1) := by decide +kernel
theorem dX11_worstAt_20 : decode cX11_worstAt 20 = .ok (.invokevirtual 177, 3) := by decide +kernel
theorem dX11_worstAt_23 : decode cX11_worstAt 23 = .ok (.ireturn, 1) := by decide +kernel
set_option maxRecDepth 20000 in
theorem ggX11_bars_X11_good : GoodIn wsX11_bars wsX11_good := goodIn_r _ [7, 8, 9, 38, 39, 40, 41, 42, 43, 44, 45, 46, 47, 48, 49, 50, 51, 52, 53, 54, 55, 56, 57, 58, 59, 60, 61, 62, 63, 64, 65, 66, 67, 68, 69, 70, 71, 72, 73, 74, 75, 76, 77] (by decide +kernel) (by decide +kernel)
set_option maxRecDepth 20000 in
theorem gX11_bars_X11_good : GoodIn wsX11_bars (wsV RX11 174 RX11 yX11_good wsX11_good) := goodIn_app (goodIn_of _ (by decide +kernel)) ggX11_bars_X11_good
set_option maxRecDepth 20000 in
theorem ggX11_bars_X11_no : GoodIn wsX11_bars wsX11_no := goodIn_r _ [37, 9, 38, 39, 40, 41, 42, 43, 44, 45, 46, 47, 48, 49, 50, 51, 52, 53, 54, 55, 56, 57, 58, 59, 60, 61, 62, 63, 64, 65, 66, 67, 68, 69, 70, 71, 72, 73, 74, 75, 76, 77] (by decide +kernel) (by decide +kernel)
set_option maxRecDepth 20000 in
theorem gX11_bars_X11_no : GoodIn wsX11_bars (wsV RX11 177 RX11 yX11_no wsX11_no) := goodIn_app (goodIn_of _ (by decide +kernel)) ggX11_bars_X11_no
theorem dX11_bars_0 : decode cX11_bars 0 = .ok (.aload_n 0, 1) := by decide +kernel
theorem dX11_bars_1 : decode cX11_bars 1 = .ok (.invokevirtual 174, 3) := by decide +kernel
theorem dX11_bars_4 : decode cX11_bars 4 = .ok (.aload_n 0, 1) := by decide +kernel
theorem dX11_bars_5 : decode cX11_bars 5 = .ok (.getfield 183, 3) := by decide +kernel
theorem dX11_bars_8 : decode cX11_bars 8 = .ok (.ifCond .eq 34, 3) := by decide +kernel
theorem dX11_bars_11 : decode cX11_bars 11 = .ok (.aload_n 0, 1) := by decide +kernel
theorem dX11_bars_12 : decode cX11_bars 12 = .ok (.invokevirtual 342, 3) := by decide +kernel
theorem dX11_bars_15 : decode cX11_bars 15 = .ok (.aload_n 0, 1) := by decide +kernel
theorem dX11_bars_16 : decode cX11_bars 16 = .ok (.aload_n 0, 1) := by decide +kernel
theorem dX11_bars_17 : decode cX11_bars 17 = .ok (.invokevirtual 345, 3) := by decide +kernel
theorem dX11_bars_20 : decode cX11_bars 20 = .ok (.invokevirtual 339, 3) := by decide +kernel
theorem dX11_bars_23 : decode cX11_bars 23 = .ok (.aload_n 0, 1) := by decide +kernel
theorem dX11_bars_24 : decode cX11_bars 24 = .ok (.getfield 20, 3) := by decide +kernel
theorem dX11_bars_27 : decode cX11_bars 27 = .ok (.bipush 49, 2) := by decide +kernel
theorem dX11_bars_29 : decode cX11_bars 29 = .ok (.iaload, 1) := by decide +kernel
theorem dX11_bars_30 : decode cX11_bars 30 = .ok (.imul, 1) := by decide +kernel
theorem dX11_bars_31 : decode cX11_bars 31 = .ok (.if_icmp .ge 7, 3) := by decide +kernel
theorem dX11_bars_34 : decode cX11_bars 34 = .ok (.iconst 1, 1) := by decide +kernel
theorem dX11_bars_35 : decode cX11_bars 35 = .ok (.goto 12, 3) := by decide +kernel
theorem dX11_bars_38 : decode cX11_bars 38 = .ok (.iconst 0, 1) := by decide +kernel
theorem dX11_bars_39 : decode cX11_bars 39 = .ok (.goto 8, 3) := by decide +kernel
theorem dX11_bars_42 : decode cX11_bars 42 = .ok (.aload_n 0, 1) := by decide +kernel
theorem dX11_bars_43 : decode cX11_bars 43 = .ok (.iconst 1, 1) := by decide +kernel
theorem dX11_bars_44 : decode cX11_bars 44 = .ok (.invokevirtual 177, 3) := by decide +kernel
theorem dX11_bars_47 : decode cX11_bars 47 = .ok (.ireturn, 1) := by decide +kernel
set_option maxRecDepth 20000 in
theorem ggX11_fair_X11_good : GoodIn wsX11_fair wsX11_good := goodIn_r _ [7, 8, 9, 44, 45, 46, 47, 48, 49, 50, 51, 52, 53, 54, 55, 56, 57, 58, 59, 60, 61, 62, 63, 64, 65, 66, 67, 68, 69, 70, 71, 72, 73, 74, 75, 76, 77, 78, 79, 80, 81, 82, 83] (by decide +kernel) (by decide +kernel)
set_option maxRecDepth 20000 in
theorem gX11_fair_X11_good : GoodIn wsX11_fair (wsV RX11 174 RX11 yX11_good wsX11_good) := goodIn_app (goodIn_of _ (by decide +kernel)) ggX11_fair_X11_good
set_option maxRecDepth 20000 in
theorem ggX11_fair_X11_no : GoodIn wsX11_fair wsX11_no := goodIn_r _ [13, 9, 44, 45, 46, 47, 48, 49, 50, 51, 52, 53, 54, 55, 56, 57, 58, 59, 60, 61, 62, 63, 64, 65, 66, 67, 68, 69, 70, 71, 72, 73, 74, 75, 76, 77, 78, 79, 80, 81, 82, 83] (by decide +kernel) (by decide +kernel)
set_option maxRecDepth 20000 in
theorem gX11_fair_X11_no : GoodIn wsX11_fair (wsV RX11 177 RX11 yX11_no wsX11_no) := goodIn_app (goodIn_of _ (by decide +kernel)) ggX11_fair_X11_no
theorem dX11_fair_0 : decode cX11_fair 0 = .ok (.aload_n 0, 1) := by decide +kernel
theorem dX11_fair_1 : decode cX11_fair 1 = .ok (.invokevirtual 174, 3) := by decide +kernel
theorem dX11_fair_4 : decode cX11_fair 4 = .ok (.aload_n 0, 1) := by decide +kernel
theorem dX11_fair_5 : decode cX11_fair 5 = .ok (.getfield 183, 3) := by decide +kernel
theorem dX11_fair_8 : decode cX11_fair 8 = .ok (.ifCond .ne 9, 3) := by decide +kernel
theorem dX11_fair_11 : decode cX11_fair 11 = .ok (.aload_n 0, 1) := by decide +kernel
theorem dX11_fair_12 : decode cX11_fair 12 = .ok (.iconst 1, 1) := by decide +kernel
theorem dX11_fair_13 : decode cX11_fair 13 = .ok (.invokevirtual 177, 3) := by decide +kernel
theorem dX11_fair_16 : decode cX11_fair 16 = .ok (.ireturn, 1) := by decide +kernel
theorem dX11_fair_17 : decode cX11_fair 17 = .ok (.aload_n 0, 1) := by decide +kernel
theorem dX11_fair_18 : decode cX11_fair 18 = .ok (.aload_n 0, 1) := by decide +kernel
theorem dX11_fair_19 : decode cX11_fair 19 = .ok (.invokevirtual 345, 3) := by decide +kernel
theorem dX11_fair_22 : decode cX11_fair 22 = .ok (.invokevirtual 339, 3) := by decide +kernel
theorem dX11_fair_25 : decode cX11_fair 25 = .ok (.aload_n 0, 1) := by decide +kernel
theorem dX11_fair_26 : decode cX11_fair 26 = .ok (.getfield 20, 3) := by decide +kernel
theorem dX11_fair_29 : decode cX11_fair 29 = .ok (.bipush 49, 2) := by decide +kernel
theorem dX11_fair_31 : decode cX11_fair 31 = .ok (.iaload, 1) := by decide +kernel
theorem dX11_fair_32 : decode cX11_fair 32 = .ok (.imul, 1) := by decide +kernel
theorem dX11_fair_33 : decode cX11_fair 33 = .ok (.istore_n 2, 1) := by decide +kernel
theorem dX11_fair_34 : decode cX11_fair 34 = .ok (.iload_n 2, 1) := by decide +kernel
theorem dX11_fair_35 : decode cX11_fair 35 = .ok (.ifCond .eq 11, 3) := by decide +kernel
theorem dX11_fair_38 : decode cX11_fair 38 = .ok (.aload_n 0, 1) := by decide +kernel
theorem dX11_fair_39 : decode cX11_fair 39 = .ok (.invokevirtual 342, 3) := by decide +kernel
theorem dX11_fair_42 : decode cX11_fair 42 = .ok (.iload_n 2, 1) := by decide +kernel
theorem dX11_fair_43 : decode cX11_fair 43 = .ok (.if_icmp .lt 7, 3) := by decide +kernel
theorem dX11_fair_46 : decode cX11_fair 46 = .ok (.iconst 1, 1) := by decide +kernel
theorem dX11_fair_47 : decode cX11_fair 47 = .ok (.goto 14, 3) := by decide +kernel
theorem dX11_fair_50 : decode cX11_fair 50 = .ok (.aload_n 0, 1) := by decide +kernel
theorem dX11_fair_51 : decode cX11_fair 51 = .ok (.invokevirtual 342, 3) := by decide +kernel
theorem dX11_fair_54 : decode cX11_fair 54 = .ok (.i2l, 1) := by decide +kernel
theorem dX11_fair_55 : decode cX11_fair 55 = .ok (.iload_n 2, 1) := by decide +kernel
theorem dX11_fair_56 : decode cX11_fair 56 = .ok (.i2l, 1) := by decide +kernel
theorem dX11_fair_57 : decode cX11_fair 57 = .ok (.iload_n 1, 1) := by decide +kernel
theorem dX11_fair_58 : decode cX11_fair 58 = .ok (.invokestatic 292, 3) := by decide +kernel
theorem dX11_fair_61 : decode cX11_fair 61 = .ok (.ireturn, 1) := by decide +kernel
set_option maxRecDepth 20000 in
theorem ggX11_ways_X11_good : GoodIn wsX11_ways wsX11_good := goodIn_r _ [7, 8, 9, 22, 23, 24, 25, 26, 27, 28, 29, 30, 31, 32, 33, 34, 35, 36, 37, 38, 39, 40, 41, 42, 43, 44, 45, 46, 47, 48, 49, 50, 51, 52, 53, 54, 55, 56, 57, 58, 59, 60, 61] (by decide +kernel) (by decide +kernel)
set_option maxRecDepth 20000 in
theorem gX11_ways_X11_good : GoodIn wsX11_ways (wsV RX11 174 RX11 yX11_good wsX11_good) := goodIn_app (goodIn_of _ (by decide +kernel)) ggX11_ways_X11_good
set_option maxRecDepth 20000 in
theorem ggX11_ways_X11_no : GoodIn wsX11_ways wsX11_no := goodIn_r _ [13, 9, 22, 23, 24, 25, 26, 27, 28, 29, 30, 31, 32, 33, 34, 35, 36, 37, 38, 39, 40, 41, 42, 43, 44, 45, 46, 47, 48, 49, 50, 51, 52, 53, 54, 55, 56, 57, 58, 59, 60, 61] (by decide +kernel) (by decide +kernel)
set_option maxRecDepth 20000 in
theorem gX11_ways_X11_no : GoodIn wsX11_ways (wsV RX11 177 RX11 yX11_no wsX11_no) := goodIn_app (goodIn_of _ (by decide +kernel)) ggX11_ways_X11_no
theorem dX11_ways_0 : decode cX11_ways 0 = .ok (.aload_n 0, 1) := by decide +kernel
theorem dX11_ways_1 : decode cX11_ways 1 = .ok (.invokevirtual 174, 3) := by decide +kernel
theorem dX11_ways_4 : decode cX11_ways 4 = .ok (.aload_n 0, 1) := by decide +kernel
theorem dX11_ways_5 : decode cX11_ways 5 = .ok (.getfield 183, 3) := by decide +kernel
theorem dX11_ways_8 : decode cX11_ways 8 = .ok (.ifCond .ne 9, 3) := by decide +kernel
theorem dX11_ways_11 : decode cX11_ways 11 = .ok (.aload_n 0, 1) := by decide +kernel
theorem dX11_ways_12 : decode cX11_ways 12 = .ok (.iconst 1, 1) := by decide +kernel
theorem dX11_ways_13 : decode cX11_ways 13 = .ok (.invokevirtual 177, 3) := by decide +kernel
theorem dX11_ways_16 : decode cX11_ways 16 = .ok (.ireturn, 1) := by decide +kernel
theorem dX11_ways_17 : decode cX11_ways 17 = .ok (.iconst 0, 1) := by decide +kernel
theorem dX11_ways_18 : decode cX11_ways 18 = .ok (.istore_n 1, 1) := by decide +kernel
theorem dX11_ways_19 : decode cX11_ways 19 = .ok (.iconst 0, 1) := by decide +kernel
theorem dX11_ways_20 : decode cX11_ways 20 = .ok (.istore_n 2, 1) := by decide +kernel
theorem dX11_ways_21 : decode cX11_ways 21 = .ok (.iload_n 2, 1) := by decide +kernel
theorem dX11_ways_22 : decode cX11_ways 22 = .ok (.iconst 1, 1) := by decide +kernel
theorem dX11_ways_23 : decode cX11_ways 23 = .ok (.aload_n 0, 1) := by decide +kernel
theorem dX11_ways_24 : decode cX11_ways 24 = .ok (.getfield 20, 3) := by decide +kernel
theorem dX11_ways_27 : decode cX11_ways 27 = .ok (.bipush 51, 2) := by decide +kernel
theorem dX11_ways_29 : decode cX11_ways 29 = .ok (.iaload, 1) := by decide +kernel
theorem dX11_ways_30 : decode cX11_ways 30 = .ok (.ishl, 1) := by decide +kernel
theorem dX11_ways_31 : decode cX11_ways 31 = .ok (.if_icmp .ge 29, 3) := by decide +kernel
theorem dX11_ways_34 : decode cX11_ways 34 = .ok (.iload_n 1, 1) := by decide +kernel
theorem dX11_ways_35 : decode cX11_ways 35 = .ok (.aload_n 0, 1) := by decide +kernel
theorem dX11_ways_36 : decode cX11_ways 36 = .ok (.iload_n 2, 1) := by decide +kernel
theorem dX11_ways_37 : decode cX11_ways 37 = .ok (.invokevirtual 348, 3) := by decide +kernel
theorem dX11_ways_40 : decode cX11_ways 40 = .ok (.aload_n 0, 1) := by decide +kernel
theorem dX11_ways_41 : decode cX11_ways 41 = .ok (.invokevirtual 351, 3) := by decide +kernel
theorem dX11_ways_44 : decode cX11_ways 44 = .ok (.if_icmp .ne 7, 3) := by decide +kernel
theorem dX11_ways_47 : decode cX11_ways 47 = .ok (.iconst 1, 1) := by decide +kernel
theorem dX11_ways_48 : decode cX11_ways 48 = .ok (.goto 4, 3) := by decide +kernel
theorem dX11_ways_51 : decode cX11_ways 51 = .ok (.iconst 0, 1) := by decide +kernel
theorem dX11_ways_52 : decode cX11_ways 52 = .ok (.iadd, 1) := by decide +kernel
theorem dX11_ways_53 : decode cX11_ways 53 = .ok (.istore_n 1, 1) := by decide +kernel
theorem dX11_ways_54 : decode cX11_ways 54 = .ok (.iinc 2 1, 3) := by decide +kernel
theorem dX11_ways_57 : decode cX11_ways 57 = .ok (.goto (-36), 3) := by decide +kernel
theorem dX11_ways_60 : decode cX11_ways 60 = .ok (.iload_n 1, 1) := by decide +kernel
theorem dX11_ways_61 : decode cX11_ways 61 = .ok (.ireturn, 1) := by decide +kernel
set_option maxRecDepth 20000 in
theorem ggX11_forced_X11_good : GoodIn wsX11_forced wsX11_good := goodIn_r _ [7, 8, 9, 28, 29, 30, 31, 32, 33, 34, 35, 36, 37, 38, 39, 40, 41, 42, 43, 44, 45, 46, 47, 48, 49, 50, 51, 52, 53, 54, 55, 56, 57, 58, 59, 60, 61, 62, 63, 64, 65, 66, 67] (by decide +kernel) (by decide +kernel)
set_option maxRecDepth 20000 in
theorem gX11_forced_X11_good : GoodIn wsX11_forced (wsV RX11 174 RX11 yX11_good wsX11_good) := goodIn_app (goodIn_of _ (by decide +kernel)) ggX11_forced_X11_good
set_option maxRecDepth 20000 in
theorem ggX11_forced_X11_no : GoodIn wsX11_forced wsX11_no := goodIn_r _ [16, 9, 28, 29, 30, 31, 32, 33, 34, 35, 36, 37, 38, 39, 40, 41, 42, 43, 44, 45, 46, 47, 48, 49, 50, 51, 52, 53, 54, 55, 56, 57, 58, 59, 60, 61, 62, 63, 64, 65, 66, 67] (by decide +kernel) (by decide +kernel)
set_option maxRecDepth 20000 in
theorem gX11_forced_X11_no : GoodIn wsX11_forced (wsV RX11 177 RX11 yX11_no wsX11_no) := goodIn_app (goodIn_of _ (by decide +kernel)) ggX11_forced_X11_no
theorem dX11_forced_0 : decode cX11_forced 0 = .ok (.aload_n 0, 1) := by decide +kernel
theorem dX11_forced_1 : decode cX11_forced 1 = .ok (.invokevirtual 174, 3) := by decide +kernel
theorem dX11_forced_4 : decode cX11_forced 4 = .ok (.aload_n 0, 1) := by decide +kernel
theorem dX11_forced_5 : decode cX11_forced 5 = .ok (.getfield 183, 3) := by decide +kernel
theorem dX11_forced_8 : decode cX11_forced 8 = .ok (.ifCond .eq 20, 3) := by decide +kernel
theorem dX11_forced_11 : decode cX11_forced 11 = .ok (.iload_n 1, 1) := by decide +kernel
theorem dX11_forced_12 : decode cX11_forced 12 = .ok (.iconst 0, 1) := by decide +kernel
theorem dX11_forced_13 : decode cX11_forced 13 = .ok (.aload_n 0, 1) := by decide +kernel
theorem dX11_forced_14 : decode cX11_forced 14 = .ok (.getfield 20, 3) := by decide +kernel
theorem dX11_forced_17 : decode cX11_forced 17 = .ok (.bipush 51, 2) := by decide +kernel
theorem dX11_forced_19 : decode cX11_forced 19 = .ok (.iaload, 1) := by decide +kernel
theorem dX11_forced_20 : decode cX11_forced 20 = .ok (.iconst 1, 1) := by decide +kernel
theorem dX11_forced_21 : decode cX11_forced 21 = .ok (.isub, 1) := by decide +kernel
theorem dX11_forced_22 : decode cX11_forced 22 = .ok (.invokestatic 170, 3) := by decide +kernel
theorem dX11_forced_25 : decode cX11_forced 25 = .ok (.ifCond .ne 9, 3) := by decide +kernel
theorem dX11_forced_28 : decode cX11_forced 28 = .ok (.aload_n 0, 1) := by decide +kernel
theorem dX11_forced_29 : decode cX11_forced 29 = .ok (.iconst 1, 1) := by decide +kernel
theorem dX11_forced_30 : decode cX11_forced 30 = .ok (.invokevirtual 177, 3) := by decide +kernel
theorem dX11_forced_33 : decode cX11_forced 33 = .ok (.ireturn, 1) := by decide +kernel
theorem dX11_forced_34 : decode cX11_forced 34 = .ok (.iconst 0, 1) := by decide +kernel
theorem dX11_forced_35 : decode cX11_forced 35 = .ok (.istore_n 2, 1) := by decide +kernel
theorem dX11_forced_36 : decode cX11_forced 36 = .ok (.iconst 0, 1) := by decide +kernel
theorem dX11_forced_37 : decode cX11_forced 37 = .ok (.istore_n 3, 1) := by decide +kernel
theorem dX11_forced_38 : decode cX11_forced 38 = .ok (.iconst 0, 1) := by decide +kernel
theorem dX11_forced_39 : decode cX11_forced 39 = .ok (.istore 4, 2) := by decide +kernel
theorem dX11_forced_41 : decode cX11_forced 41 = .ok (.iload 4, 2) := by decide +kernel
theorem dX11_forced_43 : decode cX11_forced 43 = .ok (.iconst 1, 1) := by decide +kernel
theorem dX11_forced_44 : decode cX11_forced 44 = .ok (.aload_n 0, 1) := by decide +kernel
theorem dX11_forced_45 : decode cX11_forced 45 = .ok (.getfield 20, 3) := by decide +kernel
theorem dX11_forced_48 : decode cX11_forced 48 = .ok (.bipush 51, 2) := by decide +kernel
theorem dX11_forced_50 : decode cX11_forced 50 = .ok (.iaload, 1) := by decide +kernel
theorem dX11_forced_51 : decode cX11_forced 51 = .ok (.ishl, 1) := by decide +kernel
theorem dX11_forced_52 : decode cX11_forced 52 = .ok (.if_icmp .ge 43, 3) := by decide +kernel
theorem dX11_forced_55 : decode cX11_forced 55 = .ok (.aload_n 0, 1) := by decide +kernel
theorem dX11_forced_56 : decode cX11_forced 56 = .ok (.iload 4, 2) := by decide +kernel
theorem dX11_forced_58 : decode cX11_forced 58 = .ok (.invokevirtual 348, 3) := by decide +kernel
theorem dX11_forced_61 : decode cX11_forced 61 = .ok (.aload_n 0, 1) := by decide +kernel
theorem dX11_forced_62 : decode cX11_forced 62 = .ok (.invokevirtual 351, 3) := by decide +kernel
theorem dX11_forced_65 : decode cX11_forced 65 = .ok (.if_icmp .eq 6, 3) := by decide +kernel
theorem dX11_forced_68 : decode cX11_forced 68 = .ok (.goto 21, 3) := by decide +kernel
theorem dX11_forced_71 : decode cX11_forced 71 = .ok (.iload 4, 2) := by decide +kernel
theorem dX11_forced_73 : decode cX11_forced 73 = .ok (.iload_n 1, 1) := by decide +kernel
theorem dX11_forced_74 : decode cX11_forced 74 = .ok (.invokestatic 162, 3) := by decide +kernel
theorem dX11_forced_77 : decode cX11_forced 77 = .ok (.ifCond .eq 9, 3) := by decide +kernel
theorem dX11_forced_80 : decode cX11_forced 80 = .ok (.iinc 3 1, 3) := by decide +kernel
theorem dX11_forced_83 : decode cX11_forced 83 = .ok (.goto 6, 3) := by decide +kernel
theorem dX11_forced_86 : decode cX11_forced 86 = .ok (.iinc 2 1, 3) := by decide +kernel
theorem dX11_forced_89 : decode cX11_forced 89 = .ok (.iinc 4 1, 3) := by decide +kernel
theorem dX11_forced_92 : decode cX11_forced 92 = .ok (.goto (-51), 3) := by decide +kernel
theorem dX11_forced_95 : decode cX11_forced 95 = .ok (.iload_n 2, 1) := by decide +kernel
theorem dX11_forced_96 : decode cX11_forced 96 = .ok (.iload_n 3, 1) := by decide +kernel
theorem dX11_forced_97 : decode cX11_forced 97 = .ok (.iadd, 1) := by decide +kernel
theorem dX11_forced_98 : decode cX11_forced 98 = .ok (.ifCond .ne 10, 3) := by decide +kernel
theorem dX11_forced_101 : decode cX11_forced 101 = .ok (.aload_n 0, 1) := by decide +kernel
theorem dX11_forced_102 : decode cX11_forced 102 = .ok (.bipush 6, 2) := by decide +kernel
theorem dX11_forced_104 : decode cX11_forced 104 = .ok (.invokevirtual 177, 3) := by decide +kernel
theorem dX11_forced_107 : decode cX11_forced 107 = .ok (.ireturn, 1) := by decide +kernel
theorem dX11_forced_108 : decode cX11_forced 108 = .ok (.iload_n 2, 1) := by decide +kernel
theorem dX11_forced_109 : decode cX11_forced 109 = .ok (.ifCond .ne 7, 3) := by decide +kernel
theorem dX11_forced_112 : decode cX11_forced 112 = .ok (.iconst 1, 1) := by decide +kernel
theorem dX11_forced_113 : decode cX11_forced 113 = .ok (.goto 13, 3) := by decide +kernel
theorem dX11_forced_116 : decode cX11_forced 116 = .ok (.iload_n 3, 1) := by decide +kernel
theorem dX11_forced_117 : decode cX11_forced 117 = .ok (.ifCond .ne 7, 3) := by decide +kernel
theorem dX11_forced_120 : decode cX11_forced 120 = .ok (.iconst 0, 1) := by decide +kernel
theorem dX11_forced_121 : decode cX11_forced 121 = .ok (.goto 5, 3) := by decide +kernel
theorem dX11_forced_124 : decode cX11_forced 124 = .ok (.bipush (-2), 2) := by decide +kernel
theorem dX11_forced_126 : decode cX11_forced 126 = .ok (.ireturn, 1) := by decide +kernel
set_option maxRecDepth 20000 in
theorem ggX11_core_X11_good : GoodIn wsX11_core wsX11_good := goodIn_r _ [6, 7, 8, 29, 30, 31, 32, 33, 34, 35, 36, 37, 38, 39, 40, 41, 42, 43, 44, 45, 46, 47, 48, 49, 50, 51, 52, 53, 54, 55, 56, 57, 58, 59, 60, 61, 62, 63, 64, 65, 66, 67, 68] (by decide +kernel) (by decide +kernel)
set_option maxRecDepth 20000 in
theorem gX11_core_X11_good : GoodIn wsX11_core (wsV RX11 174 RX11 yX11_good wsX11_good) := goodIn_app (goodIn_of _ (by decide +kernel)) ggX11_core_X11_good
set_option maxRecDepth 20000 in
theorem ggX11_core_X11_no : GoodIn wsX11_core wsX11_no := goodIn_r _ [12, 8, 29, 30, 31, 32, 33, 34, 35, 36, 37, 38, 39, 40, 41, 42, 43, 44, 45, 46, 47, 48, 49, 50, 51, 52, 53, 54, 55, 56, 57, 58, 59, 60, 61, 62, 63, 64, 65, 66, 67, 68] (by decide +kernel) (by decide +kernel)
set_option maxRecDepth 20000 in
theorem gX11_core_X11_no : GoodIn wsX11_core (wsV RX11 177 RX11 yX11_no wsX11_no) := goodIn_app (goodIn_of _ (by decide +kernel)) ggX11_core_X11_no
theorem dX11_core_0 : decode cX11_core 0 = .ok (.aload_n 0, 1) := by decide +kernel
theorem dX11_core_1 : decode cX11_core 1 = .ok (.invokevirtual 174, 3) := by decide +kernel
theorem dX11_core_4 : decode cX11_core 4 = .ok (.aload_n 0, 1) := by decide +kernel
theorem dX11_core_5 : decode cX11_core 5 = .ok (.getfield 183, 3) := by decide +kernel
theorem dX11_core_8 : decode cX11_core 8 = .ok (.ifCond .ne 9, 3) := by decide +kernel
theorem dX11_core_11 : decode cX11_core 11 = .ok (.aload_n 0, 1) := by decide +kernel
theorem dX11_core_12 : decode cX11_core 12 = .ok (.iconst 1, 1) := by decide +kernel
theorem dX11_core_13 : decode cX11_core 13 = .ok (.invokevirtual 177, 3) := by decide +kernel
theorem dX11_core_16 : decode cX11_core 16 = .ok (.ireturn, 1) := by decide +kernel
theorem dX11_core_17 : decode cX11_core 17 = .ok (.bipush (-2), 2) := by decide +kernel
theorem dX11_core_19 : decode cX11_core 19 = .ok (.istore_n 1, 1) := by decide +kernel
theorem dX11_core_20 : decode cX11_core 20 = .ok (.iconst 0, 1) := by decide +kernel
theorem dX11_core_21 : decode cX11_core 21 = .ok (.istore_n 2, 1) := by decide +kernel
theorem dX11_core_22 : decode cX11_core 22 = .ok (.iload_n 2, 1) := by decide +kernel
theorem dX11_core_23 : decode cX11_core 23 = .ok (.aload_n 0, 1) := by decide +kernel
theorem dX11_core_24 : decode cX11_core 24 = .ok (.invokevirtual 351, 3) := by decide +kernel
theorem dX11_core_27 : decode cX11_core 27 = .ok (.if_icmp .gt 36, 3) := by decide +kernel
theorem dX11_core_30 : decode cX11_core 30 = .ok (.iload_n 1, 1) := by decide +kernel
theorem dX11_core_31 : decode cX11_core 31 = .ok (.bipush (-2), 2) := by decide +kernel
theorem dX11_core_33 : decode cX11_core 33 = .ok (.if_icmp .eq 14, 3) := by decide +kernel
theorem dX11_core_36 : decode cX11_core 36 = .ok (.iload_n 2, 1) := by decide +kernel
theorem dX11_core_37 : decode cX11_core 37 = .ok (.invokestatic 323, 3) := by decide +kernel
theorem dX11_core_40 : decode cX11_core 40 = .ok (.iload_n 1, 1) := by decide +kernel
theorem dX11_core_41 : decode cX11_core 41 = .ok (.invokestatic 323, 3) := by decide +kernel
theorem dX11_core_44 : decode cX11_core 44 = .ok (.if_icmp .ge 13, 3) := by decide +kernel
theorem dX11_core_47 : decode cX11_core 47 = .ok (.aload_n 0, 1) := by decide +kernel
theorem dX11_core_48 : decode cX11_core 48 = .ok (.iload_n 2, 1) := by decide +kernel
theorem dX11_core_49 : decode cX11_core 49 = .ok (.invokevirtual 354, 3) := by decide +kernel
theorem dX11_core_52 : decode cX11_core 52 = .ok (.ifCond .ne 5, 3) := by decide +kernel
theorem dX11_core_55 : decode cX11_core 55 = .ok (.iload_n 2, 1) := by decide +kernel
theorem dX11_core_56 : decode cX11_core 56 = .ok (.istore_n 1, 1) := by decide +kernel
theorem dX11_core_57 : decode cX11_core 57 = .ok (.iinc 2 1, 3) := by decide +kernel
theorem dX11_core_60 : decode cX11_core 60 = .ok (.goto (-38), 3) := by decide +kernel
theorem dX11_core_63 : decode cX11_core 63 = .ok (.iload_n 1, 1) := by decide +kernel
theorem dX11_core_64 : decode cX11_core 64 = .ok (.ireturn, 1) := by decide +kernel
set_option maxRecDepth 20000 in
theorem ggX11_can_X11_good : GoodIn wsX11_can wsX11_good := goodIn_r _ [6, 7, 8, 29, 30, 31, 32, 33, 34, 35, 36, 37, 38, 39, 40, 41, 42, 43, 44, 45, 46, 47, 48, 49, 50, 51, 52, 53, 54, 55, 56, 57, 58, 59, 60, 61, 62, 63, 64, 65, 66, 67, 68] (by decide +kernel) (by decide +kernel)
set_option maxRecDepth 20000 in
theorem gX11_can_X11_good : GoodIn wsX11_can (wsV RX11 174 RX11 yX11_good wsX11_good) := goodIn_app (goodIn_of _ (by decide +kernel)) ggX11_can_X11_good
set_option maxRecDepth 20000 in
theorem ggX11_can_X11_no : GoodIn wsX11_can wsX11_no := goodIn_r _ [12, 8, 29, 30, 31, 32, 33, 34, 35, 36, 37, 38, 39, 40, 41, 42, 43, 44, 45, 46, 47, 48, 49, 50, 51, 52, 53, 54, 55, 56, 57, 58, 59, 60, 61, 62, 63, 64, 65, 66, 67, 68] (by decide +kernel) (by decide +kernel)
set_option maxRecDepth 20000 in
theorem gX11_can_X11_no : GoodIn wsX11_can (wsV RX11 177 RX11 yX11_no wsX11_no) := goodIn_app (goodIn_of _ (by decide +kernel)) ggX11_can_X11_no
theorem dX11_can_0 : decode cX11_can 0 = .ok (.aload_n 0, 1) := by decide +kernel
theorem dX11_can_1 : decode cX11_can 1 = .ok (.invokevirtual 174, 3) := by decide +kernel
theorem dX11_can_4 : decode cX11_can 4 = .ok (.aload_n 0, 1) := by decide +kernel
theorem dX11_can_5 : decode cX11_can 5 = .ok (.getfield 183, 3) := by decide +kernel
theorem dX11_can_8 : decode cX11_can 8 = .ok (.ifCond .ne 9, 3) := by decide +kernel
theorem dX11_can_11 : decode cX11_can 11 = .ok (.aload_n 0, 1) := by decide +kernel
theorem dX11_can_12 : decode cX11_can 12 = .ok (.iconst 1, 1) := by decide +kernel
theorem dX11_can_13 : decode cX11_can 13 = .ok (.invokevirtual 177, 3) := by decide +kernel
theorem dX11_can_16 : decode cX11_can 16 = .ok (.ireturn, 1) := by decide +kernel
theorem dX11_can_17 : decode cX11_can 17 = .ok (.iload_n 1, 1) := by decide +kernel
theorem dX11_can_18 : decode cX11_can 18 = .ok (.iconst 0, 1) := by decide +kernel
theorem dX11_can_19 : decode cX11_can 19 = .ok (.aload_n 0, 1) := by decide +kernel
theorem dX11_can_20 : decode cX11_can 20 = .ok (.invokevirtual 351, 3) := by decide +kernel
theorem dX11_can_23 : decode cX11_can 23 = .ok (.invokestatic 170, 3) := by decide +kernel
theorem dX11_can_26 : decode cX11_can 26 = .ok (.ifCond .eq 19, 3) := by decide +kernel
theorem dX11_can_29 : decode cX11_can 29 = .ok (.aload_n 0, 1) := by decide +kernel
theorem dX11_can_30 : decode cX11_can 30 = .ok (.iload_n 1, 1) := by decide +kernel
theorem dX11_can_31 : decode cX11_can 31 = .ok (.invokevirtual 354, 3) := by decide +kernel
theorem dX11_can_34 : decode cX11_can 34 = .ok (.ifCond .eq 7, 3) := by decide +kernel
theorem dX11_can_37 : decode cX11_can 37 = .ok (.iconst 1, 1) := by decide +kernel
theorem dX11_can_38 : decode cX11_can 38 = .ok (.goto 12, 3) := by decide +kernel
theorem dX11_can_41 : decode cX11_can 41 = .ok (.iconst 0, 1) := by decide +kernel
theorem dX11_can_42 : decode cX11_can 42 = .ok (.goto 8, 3) := by decide +kernel
theorem dX11_can_45 : decode cX11_can 45 = .ok (.aload_n 0, 1) := by decide +kernel
theorem dX11_can_46 : decode cX11_can 46 = .ok (.iconst 2, 1) := by decide +kernel
theorem dX11_can_47 : decode cX11_can 47 = .ok (.invokevirtual 177, 3) := by decide +kernel
theorem dX11_can_50 : decode cX11_can 50 = .ok (.ireturn, 1) := by decide +kernel
set_option maxRecDepth 20000 in
theorem ggX11_game_X11_good : GoodIn wsX11_game wsX11_good := goodIn_r _ [7, 8, 9, 21, 22, 23, 24, 25, 26, 27, 28, 29, 30, 31, 32, 33, 34, 35, 36, 37, 38, 39, 40, 41, 42, 43, 44, 45, 46, 47, 48, 49, 50, 51, 52, 53, 54, 55, 56, 57, 58, 59, 60] (by decide +kernel) (by decide +kernel)
set_option maxRecDepth 20000 in
theorem gX11_game_X11_good : GoodIn wsX11_game (wsV RX11 174 RX11 yX11_good wsX11_good) := goodIn_app (goodIn_of _ (by decide +kernel)) ggX11_game_X11_good
set_option maxRecDepth 20000 in
theorem ggX11_game_X11_no : GoodIn wsX11_game wsX11_no := goodIn_r _ [13, 9, 21, 22, 23, 24, 25, 26, 27, 28, 29, 30, 31, 32, 33, 34, 35, 36, 37, 38, 39, 40, 41, 42, 43, 44, 45, 46, 47, 48, 49, 50, 51, 52, 53, 54, 55, 56, 57, 58, 59, 60] (by decide +kernel) (by decide +kernel)
set_option maxRecDepth 20000 in
theorem gX11_game_X11_no : GoodIn wsX11_game (wsV RX11 177 RX11 yX11_no wsX11_no) := goodIn_app (goodIn_of _ (by decide +kernel)) ggX11_game_X11_no
theorem dX11_game_0 : decode cX11_game 0 = .ok (.aload_n 0, 1) := by decide +kernel
theorem dX11_game_1 : decode cX11_game 1 = .ok (.invokevirtual 174, 3) := by decide +kernel
theorem dX11_game_4 : decode cX11_game 4 = .ok (.aload_n 0, 1) := by decide +kernel
theorem dX11_game_5 : decode cX11_game 5 = .ok (.getfield 183, 3) := by decide +kernel
theorem dX11_game_8 : decode cX11_game 8 = .ok (.ifCond .ne 9, 3) := by decide +kernel
theorem dX11_game_11 : decode cX11_game 11 = .ok (.aload_n 0, 1) := by decide +kernel
theorem dX11_game_12 : decode cX11_game 12 = .ok (.iconst 1, 1) := by decide +kernel
theorem dX11_game_13 : decode cX11_game 13 = .ok (.invokevirtual 177, 3) := by decide +kernel
theorem dX11_game_16 : decode cX11_game 16 = .ok (.ireturn, 1) := by decide +kernel
theorem dX11_game_17 : decode cX11_game 17 = .ok (.iconst 0, 1) := by decide +kernel
theorem dX11_game_18 : decode cX11_game 18 = .ok (.istore_n 1, 1) := by decide +kernel
theorem dX11_game_19 : decode cX11_game 19 = .ok (.iconst 0, 1) := by decide +kernel
theorem dX11_game_20 : decode cX11_game 20 = .ok (.istore_n 2, 1) := by decide +kernel
theorem dX11_game_21 : decode cX11_game 21 = .ok (.iload_n 2, 1) := by decide +kernel
theorem dX11_game_22 : decode cX11_game 22 = .ok (.iconst 1, 1) := by decide +kernel
theorem dX11_game_23 : decode cX11_game 23 = .ok (.aload_n 0, 1) := by decide +kernel
theorem dX11_game_24 : decode cX11_game 24 = .ok (.getfield 20, 3) := by decide +kernel
theorem dX11_game_27 : decode cX11_game 27 = .ok (.bipush 51, 2) := by decide +kernel
theorem dX11_game_29 : decode cX11_game 29 = .ok (.iaload, 1) := by decide +kernel
theorem dX11_game_30 : decode cX11_game 30 = .ok (.ishl, 1) := by decide +kernel
theorem dX11_game_31 : decode cX11_game 31 = .ok (.if_icmp .ge 34, 3) := by decide +kernel
theorem dX11_game_34 : decode cX11_game 34 = .ok (.aload_n 0, 1) := by decide +kernel
theorem dX11_game_35 : decode cX11_game 35 = .ok (.iload_n 2, 1) := by decide +kernel
theorem dX11_game_36 : decode cX11_game 36 = .ok (.invokevirtual 348, 3) := by decide +kernel
theorem dX11_game_39 : decode cX11_game 39 = .ok (.invokestatic 323, 3) := by decide +kernel
theorem dX11_game_42 : decode cX11_game 42 = .ok (.iload_n 1, 1) := by decide +kernel
theorem dX11_game_43 : decode cX11_game 43 = .ok (.if_icmp .le 14, 3) := by decide +kernel
theorem dX11_game_46 : decode cX11_game 46 = .ok (.aload_n 0, 1) := by decide +kernel
theorem dX11_game_47 : decode cX11_game 47 = .ok (.iload_n 2, 1) := by decide +kernel
theorem dX11_game_48 : decode cX11_game 48 = .ok (.invokevirtual 348, 3) := by decide +kernel
theorem dX11_game_51 : decode cX11_game 51 = .ok (.invokestatic 323, 3) := by decide +kernel
theorem dX11_game_54 : decode cX11_game 54 = .ok (.goto 4, 3) := by decide +kernel
theorem dX11_game_57 : decode cX11_game 57 = .ok (.iload_n 1, 1) := by decide +kernel
theorem dX11_game_58 : decode cX11_game 58 = .ok (.istore_n 1, 1) := by decide +kernel
theorem dX11_game_59 : decode cX11_game 59 = .ok (.iinc 2 1, 3) := by decide +kernel
theorem dX11_game_62 : decode cX11_game 62 = .ok (.goto (-41), 3) := by decide +kernel
theorem dX11_game_65 : decode cX11_game 65 = .ok (.iload_n 1, 1) := by decide +kernel
theorem dX11_game_66 : decode cX11_game 66 = .ok (.ireturn, 1) := by decide +kernel
theorem dX11_isRay_0 : decode cX11_isRay 0 = .ok (.aload_n 0, 1) := by decide +kernel
theorem dX11_isRay_1 : decode cX11_isRay 1 = .ok (.getfield 183, 3) := by decide +kernel
theorem dX11_isRay_4 : decode cX11_isRay 4 = .ok (.ifCond .eq 24, 3) := by decide +kernel
theorem dX11_isRay_7 : decode cX11_isRay 7 = .ok (.iload_n 1, 1) := by decide +kernel
theorem dX11_isRay_8 : decode cX11_isRay 8 = .ok (.iconst 0, 1) := by decide +kernel
theorem dX11_isRay_9 : decode cX11_isRay 9 = .ok (.aload_n 0, 1) := by decide +kernel
theorem dX11_isRay_10 : decode cX11_isRay 10 = .ok (.getfield 20, 3) := by decide +kernel
theorem dX11_isRay_13 : decode cX11_isRay 13 = .ok (.bipush 85, 2) := by decide +kernel
theorem dX11_isRay_15 : decode cX11_isRay 15 = .ok (.iaload, 1) := by decide +kernel
theorem dX11_isRay_16 : decode cX11_isRay 16 = .ok (.iconst 1, 1) := by decide +kernel
theorem dX11_isRay_17 : decode cX11_isRay 17 = .ok (.isub, 1) := by decide +kernel
theorem dX11_isRay_18 : decode cX11_isRay 18 = .ok (.invokestatic 170, 3) := by decide +kernel
theorem dX11_isRay_21 : decode cX11_isRay 21 = .ok (.ifCond .eq 7, 3) := by decide +kernel
theorem dX11_isRay_24 : decode cX11_isRay 24 = .ok (.iconst 1, 1) := by decide +kernel
theorem dX11_isRay_25 : decode cX11_isRay 25 = .ok (.goto 4, 3) := by decide +kernel
theorem dX11_isRay_28 : decode cX11_isRay 28 = .ok (.iconst 0, 1) := by decide +kernel
theorem dX11_isRay_29 : decode cX11_isRay 29 = .ok (.ireturn, 1) := by decide +kernel
set_option maxRecDepth 20000 in
theorem ggX11_square_X11_good : GoodIn wsX11_square wsX11_good := goodIn_r _ [5, 6, 7, 25, 26, 27, 28, 29, 30, 31, 32, 33, 34, 35, 36, 37, 38, 39, 40, 41, 42, 43, 44, 45, 46, 47, 48, 49, 50, 51, 52, 53, 54, 55, 56, 57, 58, 59, 60, 61, 62, 63, 64] (by decide +kernel) (by decide +kernel)
set_option maxRecDepth 20000 in
theorem gX11_square_X11_good : GoodIn wsX11_square (wsV RX11 174 RX11 yX11_good wsX11_good) := goodIn_app (goodIn_of _ (by decide +kernel)) ggX11_square_X11_good
set_option maxRecDepth 20000 in
theorem ggX11_square_X11_isRay : GoodIn wsX11_square wsX11_isRay := goodIn_r _ [11, 12, 13, 14, 15, 4, 16, 25, 26, 27, 28, 29, 30, 31, 32, 33, 34, 35, 36, 37, 38, 39, 40, 41, 42, 43, 44, 45, 46, 47, 48, 49, 50, 51, 52, 53, 54, 55, 56, 57, 58, 59, 60, 61, 62, 63, 64] (by decide +kernel) (by decide +kernel)
set_option maxRecDepth 20000 in
theorem gX11_square_X11_isRay : GoodIn wsX11_square (wsV RX11 357 RX11 yX11_isRay wsX11_isRay) := goodIn_app (goodIn_of _ (by decide +kernel)) ggX11_square_X11_isRay
set_option maxRecDepth 20000 in
theorem ggX11_square_X11_no : GoodIn wsX11_square wsX11_no := goodIn_r _ [24, 7, 25, 26, 27, 28, 29, 30, 31, 32, 33, 34, 35, 36, 37, 38, 39, 40, 41, 42, 43, 44, 45, 46, 47, 48, 49, 50, 51, 52, 53, 54, 55, 56, 57, 58, 59, 60, 61, 62, 63, 64] (by decide +kernel) (by decide +kernel)
set_option maxRecDepth 20000 in
theorem gX11_square_X11_no : GoodIn wsX11_square (wsV RX11 177 RX11 yX11_no wsX11_no) := goodIn_app (goodIn_of _ (by decide +kernel)) ggX11_square_X11_no
theorem dX11_square_0 : decode cX11_square 0 = .ok (.aload_n 0, 1) := by decide +kernel
theorem dX11_square_1 : decode cX11_square 1 = .ok (.invokevirtual 174, 3) := by decide +kernel
theorem dX11_square_4 : decode cX11_square 4 = .ok (.aload_n 0, 1) := by decide +kernel
theorem dX11_square_5 : decode cX11_square 5 = .ok (.iload_n 1, 1) := by decide +kernel
theorem dX11_square_6 : decode cX11_square 6 = .ok (.invokevirtual 357, 3) := by decide +kernel
theorem dX11_square_9 : decode cX11_square 9 = .ok (.ifCond .eq 33, 3) := by decide +kernel
theorem dX11_square_12 : decode cX11_square 12 = .ok (.aload_n 0, 1) := by decide +kernel
theorem dX11_square_13 : decode cX11_square 13 = .ok (.iload_n 2, 1) := by decide +kernel
theorem dX11_square_14 : decode cX11_square 14 = .ok (.invokevirtual 357, 3) := by decide +kernel
theorem dX11_square_17 : decode cX11_square 17 = .ok (.ifCond .eq 25, 3) := by decide +kernel
theorem dX11_square_20 : decode cX11_square 20 = .ok (.iload_n 1, 1) := by decide +kernel
theorem dX11_square_21 : decode cX11_square 21 = .ok (.iload_n 2, 1) := by decide +kernel
theorem dX11_square_22 : decode cX11_square 22 = .ok (.if_icmp .eq 20, 3) := by decide +kernel
theorem dX11_square_25 : decode cX11_square 25 = .ok (.aload_n 0, 1) := by decide +kernel
theorem dX11_square_26 : decode cX11_square 26 = .ok (.iload_n 1, 1) := by decide +kernel
theorem dX11_square_27 : decode cX11_square 27 = .ok (.iload_n 2, 1) := by decide +kernel
theorem dX11_square_28 : decode cX11_square 28 = .ok (.invokevirtual 360, 3) := by decide +kernel
theorem dX11_square_31 : decode cX11_square 31 = .ok (.ifCond .eq 7, 3) := by decide +kernel
theorem dX11_square_34 : decode cX11_square 34 = .ok (.iconst 1, 1) := by decide +kernel
theorem dX11_square_35 : decode cX11_square 35 = .ok (.goto 12, 3) := by decide +kernel
theorem dX11_square_38 : decode cX11_square 38 = .ok (.iconst 0, 1) := by decide +kernel
theorem dX11_square_39 : decode cX11_square 39 = .ok (.goto 8, 3) := by decide +kernel
theorem dX11_square_42 : decode cX11_square 42 = .ok (.aload_n 0, 1) := by decide +kernel
theorem dX11_square_43 : decode cX11_square 43 = .ok (.iconst 1, 1) := by decide +kernel
theorem dX11_square_44 : decode cX11_square 44 = .ok (.invokevirtual 177, 3) := by decide +kernel
theorem dX11_square_47 : decode cX11_square 47 = .ok (.ireturn, 1) := by decide +kernel
set_option maxRecDepth 20000 in
theorem ggX11_corners_X11_good : GoodIn wsX11_corners wsX11_good := goodIn_r _ [7, 8, 9, 28, 29, 30, 31, 32, 33, 34, 35, 36, 37, 38, 39, 40, 41, 42, 43, 44, 45, 46, 47, 48, 49, 50, 51, 52, 53, 54, 55, 56, 57, 58, 59, 60, 61, 62, 63, 64, 65, 66, 67] (by decide +kernel) (by decide +kernel)
set_option maxRecDepth 20000 in
theorem gX11_corners_X11_good : GoodIn wsX11_corners (wsV RX11 174 RX11 yX11_good wsX11_good) := goodIn_app (goodIn_of _ (by decide +kernel)) ggX11_corners_X11_good
set_option maxRecDepth 20000 in
theorem ggX11_corners_X11_no : GoodIn wsX11_corners wsX11_no := goodIn_r _ [13, 9, 28, 29, 30, 31, 32, 33, 34, 35, 36, 37, 38, 39, 40, 41, 42, 43, 44, 45, 46, 47, 48, 49, 50, 51, 52, 53, 54, 55, 56, 57, 58, 59, 60, 61, 62, 63, 64, 65, 66, 67] (by decide +kernel) (by decide +kernel)
set_option maxRecDepth 20000 in
theorem gX11_corners_X11_no : GoodIn wsX11_corners (wsV RX11 177 RX11 yX11_no wsX11_no) := goodIn_app (goodIn_of _ (by decide +kernel)) ggX11_corners_X11_no
theorem dX11_corners_0 : decode cX11_corners 0 = .ok (.aload_n 0, 1) := by decide +kernel
theorem dX11_corners_1 : decode cX11_corners 1 = .ok (.invokevirtual 174, 3) := by decide +kernel
theorem dX11_corners_4 : decode cX11_corners 4 = .ok (.aload_n 0, 1) := by decide +kernel
theorem dX11_corners_5 : decode cX11_corners 5 = .ok (.getfield 183, 3) := by decide +kernel
theorem dX11_corners_8 : decode cX11_corners 8 = .ok (.ifCond .ne 9, 3) := by decide +kernel
theorem dX11_corners_11 : decode cX11_corners 11 = .ok (.aload_n 0, 1) := by decide +kernel
theorem dX11_corners_12 : decode cX11_corners 12 = .ok (.iconst 1, 1) := by decide +kernel
theorem dX11_corners_13 : decode cX11_corners 13 = .ok (.invokevirtual 177, 3) := by decide +kernel
theorem dX11_corners_16 : decode cX11_corners 16 = .ok (.ireturn, 1) := by decide +kernel
theorem dX11_corners_17 : decode cX11_corners 17 = .ok (.aload_n 0, 1) := by decide +kernel
theorem dX11_corners_18 : decode cX11_corners 18 = .ok (.invokevirtual 366, 3) := by decide +kernel
theorem dX11_corners_21 : decode cX11_corners 21 = .ok (.aload_n 0, 1) := by decide +kernel
theorem dX11_corners_22 : decode cX11_corners 22 = .ok (.getfield 363, 3) := by decide +kernel
theorem dX11_corners_25 : decode cX11_corners 25 = .ok (.ireturn, 1) := by decide +kernel
set_option maxRecDepth 20000 in
theorem ggX11_colours_X11_good : GoodIn wsX11_colours wsX11_good := goodIn_r _ [8, 9, 10, 47, 48, 49, 50, 51, 52, 53, 54, 55, 56, 57, 58, 59, 60, 61, 62, 63, 64, 65, 66, 67, 68, 69, 70, 71, 72, 73, 74, 75, 76, 77, 78, 79, 80, 81, 82, 83, 84, 85, 86] (by decide +kernel) (by decide +kernel)
set_option maxRecDepth 20000 in
theorem gX11_colours_X11_good : GoodIn wsX11_colours (wsV RX11 174 RX11 yX11_good wsX11_good) := goodIn_app (goodIn_of _ (by decide +kernel)) ggX11_colours_X11_good
set_option maxRecDepth 20000 in
theorem ggX11_colours_X11_no : GoodIn wsX11_colours wsX11_no := goodIn_r _ [14, 10, 47, 48, 49, 50, 51, 52, 53, 54, 55, 56, 57, 58, 59, 60, 61, 62, 63, 64, 65, 66, 67, 68, 69, 70, 71, 72, 73, 74, 75, 76, 77, 78, 79, 80, 81, 82, 83, 84, 85, 86] (by decide +kernel) (by decide +kernel)
set_option maxRecDepth 20000 in
theorem gX11_colours_X11_no : GoodIn wsX11_colours (wsV RX11 177 RX11 yX11_no wsX11_no) := goodIn_app (goodIn_of _ (by decide +kernel)) ggX11_colours_X11_no
theorem dX11_colours_0 : decode cX11_colours 0 = .ok (.aload_n 0, 1) := by decide +kernel
theorem dX11_colours_1 : decode cX11_colours 1 = .ok (.invokevirtual 174, 3) := by decide +kernel
theorem dX11_colours_4 : decode cX11_colours 4 = .ok (.aload_n 0, 1) := by decide +kernel
theorem dX11_colours_5 : decode cX11_colours 5 = .ok (.getfield 183, 3) := by decide +kernel
theorem dX11_colours_8 : decode cX11_colours 8 = .ok (.ifCond .ne 9, 3) := by decide +kernel
theorem dX11_colours_11 : decode cX11_colours 11 = .ok (.aload_n 0, 1) := by decide +kernel
theorem dX11_colours_12 : decode cX11_colours 12 = .ok (.iconst 1, 1) := by decide +kernel
theorem dX11_colours_13 : decode cX11_colours 13 = .ok (.invokevirtual 177, 3) := by decide +kernel
theorem dX11_colours_16 : decode cX11_colours 16 = .ok (.ireturn, 1) := by decide +kernel
theorem dX11_colours_17 : decode cX11_colours 17 = .ok (.aload_n 0, 1) := by decide +kernel
theorem dX11_colours_18 : decode cX11_colours 18 = .ok (.invokevirtual 366, 3) := by decide +kernel
theorem dX11_colours_21 : decode cX11_colours 21 = .ok (.aload_n 0, 1) := by decide +kernel
theorem dX11_colours_22 : decode cX11_colours 22 = .ok (.aload_n 0, 1) := by decide +kernel
theorem dX11_colours_23 : decode cX11_colours 23 = .ok (.invokevirtual 381, 3) := by decide +kernel
theorem dX11_colours_26 : decode cX11_colours 26 = .ok (.ldc_w 384, 3) := by decide +kernel
theorem dX11_colours_29 : decode cX11_colours 29 = .ok (.invokevirtual 378, 3) := by decide +kernel
theorem dX11_colours_32 : decode cX11_colours 32 = .ok (.aload_n 0, 1) := by decide +kernel
theorem dX11_colours_33 : decode cX11_colours 33 = .ok (.getfield 369, 3) := by decide +kernel
theorem dX11_colours_36 : decode cX11_colours 36 = .ok (.ireturn, 1) := by decide +kernel
set_option maxRecDepth 20000 in
theorem ggX11_ones_X11_good : GoodIn wsX11_ones wsX11_good := goodIn_r _ [9, 10, 11, 47, 48, 49, 50, 51, 52, 53, 54, 55, 56, 57, 58, 59, 60, 61, 62, 63, 64, 65, 66, 67, 68, 69, 70, 71, 72, 73, 74, 75, 76, 77, 78, 79, 80, 81, 82, 83, 84, 85, 86] (by decide +kernel) (by decide +kernel)
set_option maxRecDepth 20000 in
theorem gX11_ones_X11_good : GoodIn wsX11_ones (wsV RX11 174 RX11 yX11_good wsX11_good) := goodIn_app (goodIn_of _ (by decide +kernel)) ggX11_ones_X11_good
set_option maxRecDepth 20000 in
theorem ggX11_ones_X11_no : GoodIn wsX11_ones wsX11_no := goodIn_r _ [15, 11, 47, 48, 49, 50, 51, 52, 53, 54, 55, 56, 57, 58, 59, 60, 61, 62, 63, 64, 65, 66, 67, 68, 69, 70, 71, 72, 73, 74, 75, 76, 77, 78, 79, 80, 81, 82, 83, 84, 85, 86] (by decide +kernel) (by decide +kernel)
set_option maxRecDepth 20000 in
theorem gX11_ones_X11_no : GoodIn wsX11_ones (wsV RX11 177 RX11 yX11_no wsX11_no) := goodIn_app (goodIn_of _ (by decide +kernel)) ggX11_ones_X11_no
theorem dX11_ones_0 : decode cX11_ones 0 = .ok (.aload_n 0, 1) := by decide +kernel
theorem dX11_ones_1 : decode cX11_ones 1 = .ok (.invokevirtual 174, 3) := by decide +kernel
theorem dX11_ones_4 : decode cX11_ones 4 = .ok (.aload_n 0, 1) := by decide +kernel
theorem dX11_ones_5 : decode cX11_ones 5 = .ok (.getfield 183, 3) := by decide +kernel
theorem dX11_ones_8 : decode cX11_ones 8 = .ok (.ifCond .ne 9, 3) := by decide +kernel
theorem dX11_ones_11 : decode cX11_ones 11 = .ok (.aload_n 0, 1) := by decide +kernel
theorem dX11_ones_12 : decode cX11_ones 12 = .ok (.iconst 1, 1) := by decide +kernel
theorem dX11_ones_13 : decode cX11_ones 13 = .ok (.invokevirtual 177, 3) := by decide +kernel
theorem dX11_ones_16 : decode cX11_ones 16 = .ok (.ireturn, 1) := by decide +kernel
theorem dX11_ones_17 : decode cX11_ones 17 = .ok (.aload_n 0, 1) := by decide +kernel
theorem dX11_ones_18 : decode cX11_ones 18 = .ok (.invokevirtual 366, 3) := by decide +kernel
theorem dX11_ones_21 : decode cX11_ones 21 = .ok (.aload_n 0, 1) := by decide +kernel
theorem dX11_ones_22 : decode cX11_ones 22 = .ok (.aload_n 0, 1) := by decide +kernel
theorem dX11_ones_23 : decode cX11_ones 23 = .ok (.invokevirtual 381, 3) := by decide +kernel
theorem dX11_ones_26 : decode cX11_ones 26 = .ok (.ldc_w 384, 3) := by decide +kernel
theorem dX11_ones_29 : decode cX11_ones 29 = .ok (.invokevirtual 378, 3) := by decide +kernel
theorem dX11_ones_32 : decode cX11_ones 32 = .ok (.aload_n 0, 1) := by decide +kernel
theorem dX11_ones_33 : decode cX11_ones 33 = .ok (.getfield 369, 3) := by decide +kernel
theorem dX11_ones_36 : decode cX11_ones 36 = .ok (.ifCond .ne 12, 3) := by decide +kernel
theorem dX11_ones_39 : decode cX11_ones 39 = .ok (.aload_n 0, 1) := by decide +kernel
theorem dX11_ones_40 : decode cX11_ones 40 = .ok (.bipush 6, 2) := by decide +kernel
theorem dX11_ones_42 : decode cX11_ones 42 = .ok (.invokevirtual 177, 3) := by decide +kernel
theorem dX11_ones_45 : decode cX11_ones 45 = .ok (.goto 7, 3) := by decide +kernel
theorem dX11_ones_48 : decode cX11_ones 48 = .ok (.aload_n 0, 1) := by decide +kernel
theorem dX11_ones_49 : decode cX11_ones 49 = .ok (.getfield 372, 3) := by decide +kernel
theorem dX11_ones_52 : decode cX11_ones 52 = .ok (.ireturn, 1) := by decide +kernel
set_option maxRecDepth 20000 in
theorem ggX11_spare_X11_good : GoodIn wsX11_spare wsX11_good := goodIn_r _ [7, 8, 9, 50, 51, 52, 53, 54, 55, 56, 57, 58, 59, 60, 61, 62, 63, 64, 65, 66, 67, 68, 69, 70, 71, 72, 73, 74, 75, 76, 77, 78, 79, 80, 81, 82, 83, 84, 85, 86, 87, 88, 89] (by decide +kernel) (by decide +kernel)
set_option maxRecDepth 20000 in
theorem gX11_spare_X11_good : GoodIn wsX11_spare (wsV RX11 174 RX11 yX11_good wsX11_good) := goodIn_app (goodIn_of _ (by decide +kernel)) ggX11_spare_X11_good
set_option maxRecDepth 20000 in
theorem ggX11_spare_X11_no : GoodIn wsX11_spare wsX11_no := goodIn_r _ [13, 9, 50, 51, 52, 53, 54, 55, 56, 57, 58, 59, 60, 61, 62, 63, 64, 65, 66, 67, 68, 69, 70, 71, 72, 73, 74, 75, 76, 77, 78, 79, 80, 81, 82, 83, 84, 85, 86, 87, 88, 89] (by decide +kernel) (by decide +kernel)
set_option maxRecDepth 20000 in
theorem gX11_spare_X11_no : GoodIn wsX11_spare (wsV RX11 177 RX11 yX11_no wsX11_no) := goodIn_app (goodIn_of _ (by decide +kernel)) ggX11_spare_X11_no
theorem dX11_spare_0 : decode cX11_spare 0 = .ok (.aload_n 0, 1) := by decide +kernel
theorem dX11_spare_1 : decode cX11_spare 1 = .ok (.invokevirtual 174, 3) := by decide +kernel
theorem dX11_spare_4 : decode cX11_spare 4 = .ok (.aload_n 0, 1) := by decide +kernel
theorem dX11_spare_5 : decode cX11_spare 5 = .ok (.getfield 183, 3) := by decide +kernel
theorem dX11_spare_8 : decode cX11_spare 8 = .ok (.ifCond .ne 9, 3) := by decide +kernel
theorem dX11_spare_11 : decode cX11_spare 11 = .ok (.aload_n 0, 1) := by decide +kernel
theorem dX11_spare_12 : decode cX11_spare 12 = .ok (.iconst 1, 1) := by decide +kernel
theorem dX11_spare_13 : decode cX11_spare 13 = .ok (.invokevirtual 177, 3) := by decide +kernel
theorem dX11_spare_16 : decode cX11_spare 16 = .ok (.ireturn, 1) := by decide +kernel
theorem dX11_spare_17 : decode cX11_spare 17 = .ok (.aload_n 0, 1) := by decide +kernel
theorem dX11_spare_18 : decode cX11_spare 18 = .ok (.invokevirtual 366, 3) := by decide +kernel
theorem dX11_spare_21 : decode cX11_spare 21 = .ok (.aload_n 0, 1) := by decide +kernel
theorem dX11_spare_22 : decode cX11_spare 22 = .ok (.aload_n 0, 1) := by decide +kernel
theorem dX11_spare_23 : decode cX11_spare 23 = .ok (.invokevirtual 381, 3) := by decide +kernel
theorem dX11_spare_26 : decode cX11_spare 26 = .ok (.invokevirtual 385, 3) := by decide +kernel
theorem dX11_spare_29 : decode cX11_spare 29 = .ok (.ifCond .eq 5, 3) := by decide +kernel
theorem dX11_spare_32 : decode cX11_spare 32 = .ok (.iconst 0, 1) := by decide +kernel
theorem dX11_spare_33 : decode cX11_spare 33 = .ok (.ireturn, 1) := by decide +kernel
theorem dX11_spare_34 : decode cX11_spare 34 = .ok (.iconst 0, 1) := by decide +kernel
theorem dX11_spare_35 : decode cX11_spare 35 = .ok (.istore_n 1, 1) := by decide +kernel
theorem dX11_spare_36 : decode cX11_spare 36 = .ok (.iconst 0, 1) := by decide +kernel
theorem dX11_spare_37 : decode cX11_spare 37 = .ok (.istore_n 2, 1) := by decide +kernel
theorem dX11_spare_38 : decode cX11_spare 38 = .ok (.iload_n 2, 1) := by decide +kernel
theorem dX11_spare_39 : decode cX11_spare 39 = .ok (.aload_n 0, 1) := by decide +kernel
theorem dX11_spare_40 : decode cX11_spare 40 = .ok (.getfield 20, 3) := by decide +kernel
theorem dX11_spare_43 : decode cX11_spare 43 = .ok (.bipush 85, 2) := by decide +kernel
theorem dX11_spare_45 : decode cX11_spare 45 = .ok (.iaload, 1) := by decide +kernel
theorem dX11_spare_46 : decode cX11_spare 46 = .ok (.if_icmp .ge 36, 3) := by decide +kernel
theorem dX11_spare_49 : decode cX11_spare 49 = .ok (.iload_n 1, 1) := by decide +kernel
theorem dX11_spare_50 : decode cX11_spare 50 = .ok (.aload_n 0, 1) := by decide +kernel
theorem dX11_spare_51 : decode cX11_spare 51 = .ok (.aload_n 0, 1) := by decide +kernel
theorem dX11_spare_52 : decode cX11_spare 52 = .ok (.invokevirtual 381, 3) := by decide +kernel
theorem dX11_spare_55 : decode cX11_spare 55 = .ok (.iconst 1, 1) := by decide +kernel
theorem dX11_spare_56 : decode cX11_spare 56 = .ok (.iload_n 2, 1) := by decide +kernel
theorem dX11_spare_57 : decode cX11_spare 57 = .ok (.ishl, 1) := by decide +kernel
theorem dX11_spare_58 : decode cX11_spare 58 = .ok (.iconst (-1), 1) := by decide +kernel
theorem dX11_spare_59 : decode cX11_spare 59 = .ok (.ixor, 1) := by decide +kernel
theorem dX11_spare_60 : decode cX11_spare 60 = .ok (.iand, 1) := by decide +kernel
theorem dX11_spare_61 : decode cX11_spare 61 = .ok (.invokevirtual 385, 3) := by decide +kernel
theorem dX11_spare_64 : decode cX11_spare 64 = .ok (.ifCond .eq 7, 3) := by decide +kernel
theorem dX11_spare_67 : decode cX11_spare 67 = .ok (.iconst 0, 1) := by decide +kernel
theorem dX11_spare_68 : decode cX11_spare 68 = .ok (.goto 6, 3) := by decide +kernel
theorem dX11_spare_71 : decode cX11_spare 71 = .ok (.iconst 1, 1) := by decide +kernel
theorem dX11_spare_72 : decode cX11_spare 72 = .ok (.iload_n 2, 1) := by decide +kernel
theorem dX11_spare_73 : decode cX11_spare 73 = .ok (.ishl, 1) := by decide +kernel
theorem dX11_spare_74 : decode cX11_spare 74 = .ok (.ior, 1) := by decide +kernel
theorem dX11_spare_75 : decode cX11_spare 75 = .ok (.istore_n 1, 1) := by decide +kernel
theorem dX11_spare_76 : decode cX11_spare 76 = .ok (.iinc 2 1, 3) := by decide +kernel
theorem dX11_spare_79 : decode cX11_spare 79 = .ok (.goto (-41), 3) := by decide +kernel
theorem dX11_spare_82 : decode cX11_spare 82 = .ok (.iload_n 1, 1) := by decide +kernel
theorem dX11_spare_83 : decode cX11_spare 83 = .ok (.ireturn, 1) := by decide +kernel
set_option maxRecDepth 20000 in
theorem ggX11_critical_X11_good : GoodIn wsX11_critical wsX11_good := goodIn_r _ [7, 8, 9, 50, 51, 52, 53, 54, 55, 56, 57, 58, 59, 60, 61, 62, 63, 64, 65, 66, 67, 68, 69, 70, 71, 72, 73, 74, 75, 76, 77, 78, 79, 80, 81, 82, 83, 84, 85, 86, 87, 88, 89] (by decide +kernel) (by decide +kernel)
set_option maxRecDepth 20000 in
theorem gX11_critical_X11_good : GoodIn wsX11_critical (wsV RX11 174 RX11 yX11_good wsX11_good) := goodIn_app (goodIn_of _ (by decide +kernel)) ggX11_critical_X11_good
set_option maxRecDepth 20000 in
theorem ggX11_critical_X11_no : GoodIn wsX11_critical wsX11_no := goodIn_r _ [13, 9, 50, 51, 52, 53, 54, 55, 56, 57, 58, 59, 60, 61, 62, 63, 64, 65, 66, 67, 68, 69, 70, 71, 72, 73, 74, 75, 76, 77, 78, 79, 80, 81, 82, 83, 84, 85, 86, 87, 88, 89] (by decide +kernel) (by decide +kernel)
set_option maxRecDepth 20000 in
theorem gX11_critical_X11_no : GoodIn wsX11_critical (wsV RX11 177 RX11 yX11_no wsX11_no) := goodIn_app (goodIn_of _ (by decide +kernel)) ggX11_critical_X11_no
theorem dX11_critical_0 : decode cX11_critical 0 = .ok (.aload_n 0, 1) := by decide +kernel
theorem dX11_critical_1 : decode cX11_critical 1 = .ok (.invokevirtual 174, 3) := by decide +kernel
theorem dX11_critical_4 : decode cX11_critical 4 = .ok (.aload_n 0, 1) := by decide +kernel
theorem dX11_critical_5 : decode cX11_critical 5 = .ok (.getfield 183, 3) := by decide +kernel
theorem dX11_critical_8 : decode cX11_critical 8 = .ok (.ifCond .ne 9, 3) := by decide +kernel
theorem dX11_critical_11 : decode cX11_critical 11 = .ok (.aload_n 0, 1) := by decide +kernel
theorem dX11_critical_12 : decode cX11_critical 12 = .ok (.iconst 1, 1) := by decide +kernel
theorem dX11_critical_13 : decode cX11_critical 13 = .ok (.invokevirtual 177, 3) := by decide +kernel
theorem dX11_critical_16 : decode cX11_critical 16 = .ok (.ireturn, 1) := by decide +kernel
theorem dX11_critical_17 : decode cX11_critical 17 = .ok (.aload_n 0, 1) := by decide +kernel
theorem dX11_critical_18 : decode cX11_critical 18 = .ok (.invokevirtual 366, 3) := by decide +kernel
theorem dX11_critical_21 : decode cX11_critical 21 = .ok (.aload_n 0, 1) := by decide +kernel
theorem dX11_critical_22 : decode cX11_critical 22 = .ok (.aload_n 0, 1) := by decide +kernel
theorem dX11_critical_23 : decode cX11_critical 23 = .ok (.invokevirtual 381, 3) := by decide +kernel
theorem dX11_critical_26 : decode cX11_critical 26 = .ok (.invokevirtual 385, 3) := by decide +kernel
theorem dX11_critical_29 : decode cX11_critical 29 = .ok (.ifCond .eq 10, 3) := by decide +kernel
theorem dX11_critical_32 : decode cX11_critical 32 = .ok (.aload_n 0, 1) := by decide +kernel
theorem dX11_critical_33 : decode cX11_critical 33 = .ok (.bipush 6, 2) := by decide +kernel
theorem dX11_critical_35 : decode cX11_critical 35 = .ok (.invokevirtual 177, 3) := by decide +kernel
theorem dX11_critical_38 : decode cX11_critical 38 = .ok (.ireturn, 1) := by decide +kernel
theorem dX11_critical_39 : decode cX11_critical 39 = .ok (.aload_n 0, 1) := by decide +kernel
theorem dX11_critical_40 : decode cX11_critical 40 = .ok (.invokevirtual 381, 3) := by decide +kernel
theorem dX11_critical_43 : decode cX11_critical 43 = .ok (.istore_n 1, 1) := by decide +kernel
theorem dX11_critical_44 : decode cX11_critical 44 = .ok (.iconst 0, 1) := by decide +kernel
theorem dX11_critical_45 : decode cX11_critical 45 = .ok (.istore_n 2, 1) := by decide +kernel
theorem dX11_critical_46 : decode cX11_critical 46 = .ok (.iload_n 2, 1) := by decide +kernel
theorem dX11_critical_47 : decode cX11_critical 47 = .ok (.aload_n 0, 1) := by decide +kernel
theorem dX11_critical_48 : decode cX11_critical 48 = .ok (.getfield 20, 3) := by decide +kernel
theorem dX11_critical_51 : decode cX11_critical 51 = .ok (.bipush 85, 2) := by decide +kernel
theorem dX11_critical_53 : decode cX11_critical 53 = .ok (.iaload, 1) := by decide +kernel
theorem dX11_critical_54 : decode cX11_critical 54 = .ok (.if_icmp .ge 31, 3) := by decide +kernel
theorem dX11_critical_57 : decode cX11_critical 57 = .ok (.aload_n 0, 1) := by decide +kernel
theorem dX11_critical_58 : decode cX11_critical 58 = .ok (.iload_n 1, 1) := by decide +kernel
theorem dX11_critical_59 : decode cX11_critical 59 = .ok (.iconst 1, 1) := by decide +kernel
theorem dX11_critical_60 : decode cX11_critical 60 = .ok (.iload_n 2, 1) := by decide +kernel
theorem dX11_critical_61 : decode cX11_critical 61 = .ok (.ishl, 1) := by decide +kernel
theorem dX11_critical_62 : decode cX11_critical 62 = .ok (.iconst (-1), 1) := by decide +kernel
theorem dX11_critical_63 : decode cX11_critical 63 = .ok (.ixor, 1) := by decide +kernel
theorem dX11_critical_64 : decode cX11_critical 64 = .ok (.iand, 1) := by decide +kernel
theorem dX11_critical_65 : decode cX11_critical 65 = .ok (.invokevirtual 385, 3) := by decide +kernel
theorem dX11_critical_68 : decode cX11_critical 68 = .ok (.ifCond .ne 11, 3) := by decide +kernel
theorem dX11_critical_71 : decode cX11_critical 71 = .ok (.iload_n 1, 1) := by decide +kernel
theorem dX11_critical_72 : decode cX11_critical 72 = .ok (.iconst 1, 1) := by decide +kernel
theorem dX11_critical_73 : decode cX11_critical 73 = .ok (.iload_n 2, 1) := by decide +kernel
theorem dX11_critical_74 : decode cX11_critical 74 = .ok (.ishl, 1) := by decide +kernel
theorem dX11_critical_75 : decode cX11_critical 75 = .ok (.iconst (-1), 1) := by decide +kernel
theorem dX11_critical_76 : decode cX11_critical 76 = .ok (.ixor, 1) := by decide +kernel
theorem dX11_critical_77 : decode cX11_critical 77 = .ok (.iand, 1) := by decide +kernel
theorem dX11_critical_78 : decode cX11_critical 78 = .ok (.istore_n 1, 1) := by decide +kernel
theorem dX11_critical_79 : decode cX11_critical 79 = .ok (.iinc 2 1, 3) := by decide +kernel
theorem dX11_critical_82 : decode cX11_critical 82 = .ok (.goto (-36), 3) := by decide +kernel
theorem dX11_critical_85 : decode cX11_critical 85 = .ok (.iload_n 1, 1) := by decide +kernel
theorem dX11_critical_86 : decode cX11_critical 86 = .ok (.ireturn, 1) := by decide +kernel
set_option maxRecDepth 20000 in
theorem ggX11_memory_X11_good : GoodIn wsX11_memory wsX11_good := goodIn_r _ [6, 7, 8, 24, 25, 26, 27, 28, 29, 30, 31, 32, 33, 34, 35, 36, 37, 38, 39, 40, 41, 42, 43, 44, 45, 46, 47, 48, 49, 50, 51, 52, 53, 54, 55, 56, 57, 58, 59, 60, 61, 62, 63] (by decide +kernel) (by decide +kernel)
set_option maxRecDepth 20000 in
theorem gX11_memory_X11_good : GoodIn wsX11_memory (wsV RX11 174 RX11 yX11_good wsX11_good) := goodIn_app (goodIn_of _ (by decide +kernel)) ggX11_memory_X11_good
set_option maxRecDepth 20000 in
theorem ggX11_memory_X11_no : GoodIn wsX11_memory wsX11_no := goodIn_r _ [23, 8, 24, 25, 26, 27, 28, 29, 30, 31, 32, 33, 34, 35, 36, 37, 38, 39, 40, 41, 42, 43, 44, 45, 46, 47, 48, 49, 50, 51, 52, 53, 54, 55, 56, 57, 58, 59, 60, 61, 62, 63] (by decide +kernel) (by decide +kernel)
set_option maxRecDepth 20000 in
theorem gX11_memory_X11_no : GoodIn wsX11_memory (wsV RX11 177 RX11 yX11_no wsX11_no) := goodIn_app (goodIn_of _ (by decide +kernel)) ggX11_memory_X11_no
theorem dX11_memory_0 : decode cX11_memory 0 = .ok (.aload_n 0, 1) := by decide +kernel
theorem dX11_memory_1 : decode cX11_memory 1 = .ok (.invokevirtual 174, 3) := by decide +kernel
theorem dX11_memory_4 : decode cX11_memory 4 = .ok (.aload_n 0, 1) := by decide +kernel
theorem dX11_memory_5 : decode cX11_memory 5 = .ok (.getfield 183, 3) := by decide +kernel
theorem dX11_memory_8 : decode cX11_memory 8 = .ok (.ifCond .eq 10, 3) := by decide +kernel
theorem dX11_memory_11 : decode cX11_memory 11 = .ok (.aload_n 0, 1) := by decide +kernel
theorem dX11_memory_12 : decode cX11_memory 12 = .ok (.invokevirtual 392, 3) := by decide +kernel
theorem dX11_memory_15 : decode cX11_memory 15 = .ok (.goto 8, 3) := by decide +kernel
theorem dX11_memory_18 : decode cX11_memory 18 = .ok (.aload_n 0, 1) := by decide +kernel
theorem dX11_memory_19 : decode cX11_memory 19 = .ok (.iconst 1, 1) := by decide +kernel
theorem dX11_memory_20 : decode cX11_memory 20 = .ok (.invokevirtual 177, 3) := by decide +kernel
theorem dX11_memory_23 : decode cX11_memory 23 = .ok (.ireturn, 1) := by decide +kernel
set_option maxRecDepth 20000 in
theorem ggX11_machine_X11_good : GoodIn wsX11_machine wsX11_good := goodIn_r _ [7, 8, 9, 31, 32, 33, 34, 35, 36, 37, 38, 39, 40, 41, 42, 43, 44, 45, 46, 47, 48, 49, 50, 51, 52, 53, 54, 55, 56, 57, 58, 59, 60, 61, 62, 63, 64, 65, 66, 67, 68, 69, 70] (by decide +kernel) (by decide +kernel)
set_option maxRecDepth 20000 in
theorem gX11_machine_X11_good : GoodIn wsX11_machine (wsV RX11 174 RX11 yX11_good wsX11_good) := goodIn_app (goodIn_of _ (by decide +kernel)) ggX11_machine_X11_good
set_option maxRecDepth 20000 in
theorem ggX11_machine_X11_isLook : GoodIn wsX11_machine wsX11_isLook := goodIn_r _ [13, 14, 15, 16, 17, 6, 18, 31, 32, 33, 34, 35, 36, 37, 38, 39, 40, 41, 42, 43, 44, 45, 46, 47, 48, 49, 50, 51, 52, 53, 54, 55, 56, 57, 58, 59, 60, 61, 62, 63, 64, 65, 66, 67, 68, 69, 70] (by decide +kernel) (by decide +kernel)
set_option maxRecDepth 20000 in
theorem gX11_machine_X11_isLook : GoodIn wsX11_machine (wsV RX11 296 RX11 yX11_isLook wsX11_isLook) := goodIn_app (goodIn_of _ (by decide +kernel)) ggX11_machine_X11_isLook
set_option maxRecDepth 20000 in
theorem ggX11_machine_X11_no : GoodIn wsX11_machine wsX11_no := goodIn_r _ [22, 9, 31, 32, 33, 34, 35, 36, 37, 38, 39, 40, 41, 42, 43, 44, 45, 46, 47, 48, 49, 50, 51, 52, 53, 54, 55, 56, 57, 58, 59, 60, 61, 62, 63, 64, 65, 66, 67, 68, 69, 70] (by decide +kernel) (by decide +kernel)
set_option maxRecDepth 20000 in
theorem gX11_machine_X11_no : GoodIn wsX11_machine (wsV RX11 177 RX11 yX11_no wsX11_no) := goodIn_app (goodIn_of _ (by decide +kernel)) ggX11_machine_X11_no
theorem dX11_machine_0 : decode cX11_machine 0 = .ok (.aload_n 0, 1) := by decide +kernel
theorem dX11_machine_1 : decode cX11_machine 1 = .ok (.invokevirtual 174, 3) := by decide +kernel
theorem dX11_machine_4 : decode cX11_machine 4 = .ok (.aload_n 0, 1) := by decide +kernel
theorem dX11_machine_5 : decode cX11_machine 5 = .ok (.iload_n 2, 1) := by decide +kernel
theorem dX11_machine_6 : decode cX11_machine 6 = .ok (.invokevirtual 296, 3) := by decide +kernel
theorem dX11_machine_9 : decode cX11_machine 9 = .ok (.ifCond .eq 12, 3) := by decide +kernel
theorem dX11_machine_12 : decode cX11_machine 12 = .ok (.iload_n 1, 1) := by decide +kernel
theorem dX11_machine_13 : decode cX11_machine 13 = .ok (.iconst 0, 1) := by decide +kernel
theorem dX11_machine_14 : decode cX11_machine 14 = .ok (.iconst 2, 1) := by decide +kernel
theorem dX11_machine_15 : decode cX11_machine 15 = .ok (.invokestatic 170, 3) := by decide +kernel
theorem dX11_machine_18 : decode cX11_machine 18 = .ok (.ifCond .ne 9, 3) := by decide +kernel
theorem dX11_machine_21 : decode cX11_machine 21 = .ok (.aload_n 0, 1) := by decide +kernel
theorem dX11_machine_22 : decode cX11_machine 22 = .ok (.iconst 1, 1) := by decide +kernel
theorem dX11_machine_23 : decode cX11_machine 23 = .ok (.invokevirtual 177, 3) := by decide +kernel
theorem dX11_machine_26 : decode cX11_machine 26 = .ok (.ireturn, 1) := by decide +kernel
theorem dX11_machine_27 : decode cX11_machine 27 = .ok (.aload_n 0, 1) := by decide +kernel
theorem dX11_machine_28 : decode cX11_machine 28 = .ok (.invokevirtual 392, 3) := by decide +kernel
theorem dX11_machine_31 : decode cX11_machine 31 = .ok (.bipush (-2), 2) := by decide +kernel
theorem dX11_machine_33 : decode cX11_machine 33 = .ok (.if_icmp .ne 10, 3) := by decide +kernel
theorem dX11_machine_36 : decode cX11_machine 36 = .ok (.aload_n 0, 1) := by decide +kernel
theorem dX11_machine_37 : decode cX11_machine 37 = .ok (.bipush 6, 2) := by decide +kernel
theorem dX11_machine_39 : decode cX11_machine 39 = .ok (.invokevirtual 177, 3) := by decide +kernel
theorem dX11_machine_42 : decode cX11_machine 42 = .ok (.ireturn, 1) := by decide +kernel
theorem dX11_machine_43 : decode cX11_machine 43 = .ok (.bipush 6, 2) := by decide +kernel
theorem dX11_machine_45 : decode cX11_machine 45 = .ok (.iload_n 1, 1) := by decide +kernel
theorem dX11_machine_46 : decode cX11_machine 46 = .ok (.imul, 1) := by decide +kernel
theorem dX11_machine_47 : decode cX11_machine 47 = .ok (.iload_n 2, 1) := by decide +kernel
theorem dX11_machine_48 : decode cX11_machine 48 = .ok (.iadd, 1) := by decide +kernel
theorem dX11_machine_49 : decode cX11_machine 49 = .ok (.istore 4, 2) := by decide +kernel
theorem dX11_machine_51 : decode cX11_machine 51 = .ok (.aload_n 0, 1) := by decide +kernel
theorem dX11_machine_52 : decode cX11_machine 52 = .ok (.getfield 63, 3) := by decide +kernel
theorem dX11_machine_55 : decode cX11_machine 55 = .ok (.iload 4, 2) := by decide +kernel
theorem dX11_machine_57 : decode cX11_machine 57 = .ok (.iaload, 1) := by decide +kernel
theorem dX11_machine_58 : decode cX11_machine 58 = .ok (.iconst 2, 1) := by decide +kernel
theorem dX11_machine_59 : decode cX11_machine 59 = .ok (.if_icmp .ne 8, 3) := by decide +kernel
theorem dX11_machine_62 : decode cX11_machine 62 = .ok (.bipush (-2), 2) := by decide +kernel
theorem dX11_machine_64 : decode cX11_machine 64 = .ok (.goto 24, 3) := by decide +kernel
theorem dX11_machine_67 : decode cX11_machine 67 = .ok (.iload_n 3, 1) := by decide +kernel
theorem dX11_machine_68 : decode cX11_machine 68 = .ok (.ifCond .eq 13, 3) := by decide +kernel
theorem dX11_machine_71 : decode cX11_machine 71 = .ok (.aload_n 0, 1) := by decide +kernel
theorem dX11_machine_72 : decode cX11_machine 72 = .ok (.getfield 66, 3) := by decide +kernel
theorem dX11_machine_75 : decode cX11_machine 75 = .ok (.iload 4, 2) := by decide +kernel
theorem dX11_machine_77 : decode cX11_machine 77 = .ok (.iaload, 1) := by decide +kernel
theorem dX11_machine_78 : decode cX11_machine 78 = .ok (.goto 10, 3) := by decide +kernel
theorem dX11_machine_81 : decode cX11_machine 81 = .ok (.aload_n 0, 1) := by decide +kernel
theorem dX11_machine_82 : decode cX11_machine 82 = .ok (.getfield 63, 3) := by decide +kernel
theorem dX11_machine_85 : decode cX11_machine 85 = .ok (.iload 4, 2) := by decide +kernel
theorem dX11_machine_87 : decode cX11_machine 87 = .ok (.iaload, 1) := by decide +kernel
theorem dX11_machine_88 : decode cX11_machine 88 = .ok (.ireturn, 1) := by decide +kernel
set_option maxRecDepth 20000 in
theorem ggX11_flip_X11_good : GoodIn wsX11_flip wsX11_good := goodIn_r _ [8, 9, 10, 40, 41, 42, 43, 44, 45, 46, 47, 48, 49, 50, 51, 52, 53, 54, 55, 56, 57, 58, 59, 60, 61, 62, 63, 64, 65, 66, 67, 68, 69, 70, 71, 72, 73, 74, 75, 76, 77, 78, 79] (by decide +kernel) (by decide +kernel)
set_option maxRecDepth 20000 in
theorem gX11_flip_X11_good : GoodIn wsX11_flip (wsV RX11 174 RX11 yX11_good wsX11_good) := goodIn_app (goodIn_of _ (by decide +kernel)) ggX11_flip_X11_good
set_option maxRecDepth 20000 in
theorem ggX11_flip_X11_isLook : GoodIn wsX11_flip wsX11_isLook := goodIn_r _ [14, 15, 1, 16, 17, 7, 18, 40, 41, 42, 43, 44, 45, 46, 47, 48, 49, 50, 51, 52, 53, 54, 55, 56, 57, 58, 59, 60, 61, 62, 63, 64, 65, 66, 67, 68, 69, 70, 71, 72, 73, 74, 75, 76, 77, 78, 79] (by decide +kernel) (by decide +kernel)
set_option maxRecDepth 20000 in
theorem gX11_flip_X11_isLook : GoodIn wsX11_flip (wsV RX11 296 RX11 yX11_isLook wsX11_isLook) := goodIn_app (goodIn_of _ (by decide +kernel)) ggX11_flip_X11_isLook
set_option maxRecDepth 20000 in
theorem ggX11_flip_X11_isNot : GoodIn wsX11_flip wsX11_isNot := goodIn_r _ [22, 10, 40, 41, 42, 43, 44, 45, 46, 47, 48, 49, 50, 51, 52, 53, 54, 55, 56, 57, 58, 59, 60, 61, 62, 63, 64, 65, 66, 67, 68, 69, 70, 71, 72, 73, 74, 75, 76, 77, 78, 79] (by decide +kernel) (by decide +kernel)
set_option maxRecDepth 20000 in
theorem gX11_flip_X11_isNot : GoodIn wsX11_flip (wsV RX11 336 RX11 yX11_isNot wsX11_isNot) := goodIn_app (goodIn_of _ (by decide +kernel)) ggX11_flip_X11_isNot
theorem dX11_flip_0 : decode cX11_flip 0 = .ok (.aload_n 0, 1) := by decide +kernel
theorem dX11_flip_1 : decode cX11_flip 1 = .ok (.invokevirtual 174, 3) := by decide +kernel
theorem dX11_flip_4 : decode cX11_flip 4 = .ok (.aload_n 0, 1) := by decide +kernel
theorem dX11_flip_5 : decode cX11_flip 5 = .ok (.iload_n 1, 1) := by decide +kernel
theorem dX11_flip_6 : decode cX11_flip 6 = .ok (.invokevirtual 296, 3) := by decide +kernel
theorem dX11_flip_9 : decode cX11_flip 9 = .ok (.ifCond .ne 9, 3) := by decide +kernel
theorem dX11_flip_12 : decode cX11_flip 12 = .ok (.aload_n 0, 1) := by decide +kernel
theorem dX11_flip_13 : decode cX11_flip 13 = .ok (.iconst 1, 1) := by decide +kernel
theorem dX11_flip_14 : decode cX11_flip 14 = .ok (.invokevirtual 336, 3) := by decide +kernel
theorem dX11_flip_17 : decode cX11_flip 17 = .ok (.ireturn, 1) := by decide +kernel
theorem dX11_flip_18 : decode cX11_flip 18 = .ok (.aload_n 0, 1) := by decide +kernel
theorem dX11_flip_19 : decode cX11_flip 19 = .ok (.getfield 20, 3) := by decide +kernel
theorem dX11_flip_22 : decode cX11_flip 22 = .ok (.iconst 0, 1) := by decide +kernel
theorem dX11_flip_23 : decode cX11_flip 23 = .ok (.aload_n 0, 1) := by decide +kernel
theorem dX11_flip_24 : decode cX11_flip 24 = .ok (.getfield 29, 3) := by decide +kernel
theorem dX11_flip_27 : decode cX11_flip 27 = .ok (.iconst 0, 1) := by decide +kernel
theorem dX11_flip_28 : decode cX11_flip 28 = .ok (.bipush 49, 2) := by decide +kernel
theorem dX11_flip_30 : decode cX11_flip 30 = .ok (.invokestatic 399, 3) := by decide +kernel
theorem dX11_flip_33 : decode cX11_flip 33 = .ok (.iconst 0, 1) := by decide +kernel
theorem dX11_flip_34 : decode cX11_flip 34 = .ok (.istore_n 2, 1) := by decide +kernel
theorem dX11_flip_35 : decode cX11_flip 35 = .ok (.iload_n 2, 1) := by decide +kernel
theorem dX11_flip_36 : decode cX11_flip 36 = .ok (.aload_n 0, 1) := by decide +kernel
theorem dX11_flip_37 : decode cX11_flip 37 = .ok (.getfield 20, 3) := by decide +kernel
theorem dX11_flip_40 : decode cX11_flip 40 = .ok (.iconst 0, 1) := by decide +kernel
theorem dX11_flip_41 : decode cX11_flip 41 = .ok (.iaload, 1) := by decide +kernel
theorem dX11_flip_42 : decode cX11_flip 42 = .ok (.if_icmp .ge 215, 3) := by decide +kernel
theorem dX11_flip_45 : decode cX11_flip 45 = .ok (.aload_n 0, 1) := by decide +kernel
theorem dX11_flip_46 : decode cX11_flip 46 = .ok (.getfield 20, 3) := by decide +kernel
theorem dX11_flip_49 : decode cX11_flip 49 = .ok (.bipush 9, 2) := by decide +kernel
theorem dX11_flip_51 : decode cX11_flip 51 = .ok (.iload_n 2, 1) := by decide +kernel
theorem dX11_flip_52 : decode cX11_flip 52 = .ok (.iadd, 1) := by decide +kernel
theorem dX11_flip_53 : decode cX11_flip 53 = .ok (.iaload, 1) := by decide +kernel
theorem dX11_flip_54 : decode cX11_flip 54 = .ok (.bipush (-2), 2) := by decide +kernel
theorem dX11_flip_56 : decode cX11_flip 56 = .ok (.if_icmp .ne 23, 3) := by decide +kernel
theorem dX11_flip_59 : decode cX11_flip 59 = .ok (.aload_n 0, 1) := by decide +kernel
theorem dX11_flip_60 : decode cX11_flip 60 = .ok (.getfield 20, 3) := by decide +kernel
theorem dX11_flip_63 : decode cX11_flip 63 = .ok (.iconst 1, 1) := by decide +kernel
theorem dX11_flip_64 : decode cX11_flip 64 = .ok (.iload_n 2, 1) := by decide +kernel
theorem dX11_flip_65 : decode cX11_flip 65 = .ok (.iadd, 1) := by decide +kernel
theorem dX11_flip_66 : decode cX11_flip 66 = .ok (.iaload, 1) := by decide +kernel
theorem dX11_flip_67 : decode cX11_flip 67 = .ok (.iload_n 1, 1) := by decide +kernel
theorem dX11_flip_68 : decode cX11_flip 68 = .ok (.if_icmp .ne 7, 3) := by decide +kernel
theorem dX11_flip_71 : decode cX11_flip 71 = .ok (.iconst 1, 1) := by decide +kernel
theorem dX11_flip_72 : decode cX11_flip 72 = .ok (.goto 41, 3) := by decide +kernel
theorem dX11_flip_75 : decode cX11_flip 75 = .ok (.iconst 0, 1) := by decide +kernel
theorem dX11_flip_76 : decode cX11_flip 76 = .ok (.goto 37, 3) := by decide +kernel
theorem dX11_flip_79 : decode cX11_flip 79 = .ok (.aload_n 0, 1) := by decide +kernel
theorem dX11_flip_80 : decode cX11_flip 80 = .ok (.getfield 20, 3) := by decide +kernel
theorem dX11_flip_83 : decode cX11_flip 83 = .ok (.iconst 1, 1) := by decide +kernel
theorem dX11_flip_84 : decode cX11_flip 84 = .ok (.iload_n 2, 1) := by decide +kernel
theorem dX11_flip_85 : decode cX11_flip 85 = .ok (.iadd, 1) := by decide +kernel
theorem dX11_flip_86 : decode cX11_flip 86 = .ok (.iaload, 1) := by decide +kernel
theorem dX11_flip_87 : decode cX11_flip 87 = .ok (.iload_n 1, 1) := by decide +kernel
theorem dX11_flip_88 : decode cX11_flip 88 = .ok (.if_icmp .ne 7, 3) := by decide +kernel
theorem dX11_flip_91 : decode cX11_flip 91 = .ok (.iconst 2, 1) := by decide +kernel
theorem dX11_flip_92 : decode cX11_flip 92 = .ok (.goto 21, 3) := by decide +kernel
theorem dX11_flip_95 : decode cX11_flip 95 = .ok (.aload_n 0, 1) := by decide +kernel
theorem dX11_flip_96 : decode cX11_flip 96 = .ok (.getfield 20, 3) := by decide +kernel
theorem dX11_flip_99 : decode cX11_flip 99 = .ok (.bipush 9, 2) := by decide +kernel
theorem dX11_flip_101 : decode cX11_flip 101 = .ok (.iload_n 2, 1) := by decide +kernel
theorem dX11_flip_102 : decode cX11_flip 102 = .ok (.iadd, 1) := by decide +kernel
theorem dX11_flip_103 : decode cX11_flip 103 = .ok (.iaload, 1) := by decide +kernel
theorem dX11_flip_104 : decode cX11_flip 104 = .ok (.iload_n 1, 1) := by decide +kernel
theorem dX11_flip_105 : decode cX11_flip 105 = .ok (.if_icmp .ne 7, 3) := by decide +kernel
theorem dX11_flip_108 : decode cX11_flip 108 = .ok (.iconst 1, 1) := by decide +kernel
theorem dX11_flip_109 : decode cX11_flip 109 = .ok (.goto 4, 3) := by decide +kernel
theorem dX11_flip_112 : decode cX11_flip 112 = .ok (.iconst 0, 1) := by decide +kernel
theorem dX11_flip_113 : decode cX11_flip 113 = .ok (.istore_n 3, 1) := by decide +kernel
theorem dX11_flip_114 : decode cX11_flip 114 = .ok (.iload_n 3, 1) := by decide +kernel
theorem dX11_flip_115 : decode cX11_flip 115 = .ok (.ifCond .ne 6, 3) := by decide +kernel
theorem dX11_flip_118 : decode cX11_flip 118 = .ok (.goto 133, 3) := by decide +kernel
theorem dX11_flip_121 : decode cX11_flip 121 = .ok (.iconst 0, 1) := by decide +kernel
theorem dX11_flip_122 : decode cX11_flip 122 = .ok (.istore 4, 2) := by decide +kernel
theorem dX11_flip_124 : decode cX11_flip 124 = .ok (.iload 4, 2) := by decide +kernel
theorem dX11_flip_126 : decode cX11_flip 126 = .ok (.aload_n 0, 1) := by decide +kernel
theorem dX11_flip_127 : decode cX11_flip 127 = .ok (.getfield 20, 3) := by decide +kernel
theorem dX11_flip_130 : decode cX11_flip 130 = .ok (.iload_n 2, 1) := by decide +kernel
theorem dX11_flip_131 : decode cX11_flip 131 = .ok (.invokestatic 247, 3) := by decide +kernel
theorem dX11_flip_134 : decode cX11_flip 134 = .ok (.if_icmp .ge 117, 3) := by decide +kernel
theorem dX11_flip_137 : decode cX11_flip 137 = .ok (.iload 4, 2) := by decide +kernel
theorem dX11_flip_139 : decode cX11_flip 139 = .ok (.iload_n 3, 1) := by decide +kernel
theorem dX11_flip_140 : decode cX11_flip 140 = .ok (.ixor, 1) := by decide +kernel
theorem dX11_flip_141 : decode cX11_flip 141 = .ok (.istore 5, 2) := by decide +kernel
theorem dX11_flip_143 : decode cX11_flip 143 = .ok (.iload 5, 2) := by decide +kernel
theorem dX11_flip_145 : decode cX11_flip 145 = .ok (.iload 4, 2) := by decide +kernel
theorem dX11_flip_147 : decode cX11_flip 147 = .ok (.if_icmp .ge 6, 3) := by decide +kernel
theorem dX11_flip_150 : decode cX11_flip 150 = .ok (.goto 95, 3) := by decide +kernel
theorem dX11_flip_153 : decode cX11_flip 153 = .ok (.iconst 4, 1) := by decide +kernel
theorem dX11_flip_154 : decode cX11_flip 154 = .ok (.iload_n 2, 1) := by decide +kernel
theorem dX11_flip_155 : decode cX11_flip 155 = .ok (.imul, 1) := by decide +kernel
theorem dX11_flip_156 : decode cX11_flip 156 = .ok (.iload 4, 2) := by decide +kernel
theorem dX11_flip_158 : decode cX11_flip 158 = .ok (.iadd, 1) := by decide +kernel
theorem dX11_flip_159 : decode cX11_flip 159 = .ok (.istore 6, 2) := by decide +kernel
theorem dX11_flip_161 : decode cX11_flip 161 = .ok (.iconst 4, 1) := by decide +kernel
theorem dX11_flip_162 : decode cX11_flip 162 = .ok (.iload_n 2, 1) := by decide +kernel
theorem dX11_flip_163 : decode cX11_flip 163 = .ok (.imul, 1) := by decide +kernel
theorem dX11_flip_164 : decode cX11_flip 164 = .ok (.iload 5, 2) := by decide +kernel
theorem dX11_flip_166 : decode cX11_flip 166 = .ok (.iadd, 1) := by decide +kernel
theorem dX11_flip_167 : decode cX11_flip 167 = .ok (.istore 7, 2) := by decide +kernel
theorem dX11_flip_169 : decode cX11_flip 169 = .ok (.aload_n 0, 1) := by decide +kernel
theorem dX11_flip_170 : decode cX11_flip 170 = .ok (.getfield 20, 3) := by decide +kernel
theorem dX11_flip_173 : decode cX11_flip 173 = .ok (.bipush 17, 2) := by decide +kernel
theorem dX11_flip_175 : decode cX11_flip 175 = .ok (.iload 6, 2) := by decide +kernel
theorem dX11_flip_177 : decode cX11_flip 177 = .ok (.iadd, 1) := by decide +kernel
theorem dX11_flip_178 : decode cX11_flip 178 = .ok (.iaload, 1) := by decide +kernel
theorem dX11_flip_179 : decode cX11_flip 179 = .ok (.istore 8, 2) := by decide +kernel
theorem dX11_flip_181 : decode cX11_flip 181 = .ok (.aload_n 0, 1) := by decide +kernel
theorem dX11_flip_182 : decode cX11_flip 182 = .ok (.getfield 20, 3) := by decide +kernel
theorem dX11_flip_185 : decode cX11_flip 185 = .ok (.bipush 17, 2) := by decide +kernel
theorem dX11_flip_187 : decode cX11_flip 187 = .ok (.iload 6, 2) := by decide +kernel
theorem dX11_flip_189 : decode cX11_flip 189 = .ok (.iadd, 1) := by decide +kernel
theorem dX11_flip_190 : decode cX11_flip 190 = .ok (.aload_n 0, 1) := by decide +kernel
theorem dX11_flip_191 : decode cX11_flip 191 = .ok (.getfield 20, 3) := by decide +kernel
theorem dX11_flip_194 : decode cX11_flip 194 = .ok (.bipush 17, 2) := by decide +kernel
theorem dX11_flip_196 : decode cX11_flip 196 = .ok (.iload 7, 2) := by decide +kernel
theorem dX11_flip_198 : decode cX11_flip 198 = .ok (.iadd, 1) := by decide +kernel
theorem dX11_flip_199 : decode cX11_flip 199 = .ok (.iaload, 1) := by decide +kernel
theorem dX11_flip_200 : decode cX11_flip 200 = .ok (.iastore, 1) := by decide +kernel
theorem dX11_flip_201 : decode cX11_flip 201 = .ok (.aload_n 0, 1) := by decide +kernel
theorem dX11_flip_202 : decode cX11_flip 202 = .ok (.getfield 20, 3) := by decide +kernel
theorem dX11_flip_205 : decode cX11_flip 205 = .ok (.bipush 17, 2) := by decide +kernel
theorem dX11_flip_207 : decode cX11_flip 207 = .ok (.iload 7, 2) := by decide +kernel
theorem dX11_flip_209 : decode cX11_flip 209 = .ok (.iadd, 1) := by decide +kernel
theorem dX11_flip_210 : decode cX11_flip 210 = .ok (.iload 8, 2) := by decide +kernel
theorem dX11_flip_212 : decode cX11_flip 212 = .ok (.iastore, 1) := by decide +kernel
theorem dX11_flip_213 : decode cX11_flip 213 = .ok (.aload_n 0, 1) := by decide +kernel
theorem dX11_flip_214 : decode cX11_flip 214 = .ok (.getfield 26, 3) := by decide +kernel
theorem dX11_flip_217 : decode cX11_flip 217 = .ok (.iload 6, 2) := by decide +kernel
theorem dX11_flip_219 : decode cX11_flip 219 = .ok (.iaload, 1) := by decide +kernel
theorem dX11_flip_220 : decode cX11_flip 220 = .ok (.istore 8, 2) := by decide +kernel
theorem dX11_flip_222 : decode cX11_flip 222 = .ok (.aload_n 0, 1) := by decide +kernel
theorem dX11_flip_223 : decode cX11_flip 223 = .ok (.getfield 26, 3) := by decide +kernel
theorem dX11_flip_226 : decode cX11_flip 226 = .ok (.iload 6, 2) := by decide +kernel
theorem dX11_flip_228 : decode cX11_flip 228 = .ok (.aload_n 0, 1) := by decide +kernel
theorem dX11_flip_229 : decode cX11_flip 229 = .ok (.getfield 26, 3) := by decide +kernel
theorem dX11_flip_232 : decode cX11_flip 232 = .ok (.iload 7, 2) := by decide +kernel
theorem dX11_flip_234 : decode cX11_flip 234 = .ok (.iaload, 1) := by decide +kernel
theorem dX11_flip_235 : decode cX11_flip 235 = .ok (.iastore, 1) := by decide +kernel
theorem dX11_flip_236 : decode cX11_flip 236 = .ok (.aload_n 0, 1) := by decide +kernel
theorem dX11_flip_237 : decode cX11_flip 237 = .ok (.getfield 26, 3) := by decide +kernel
theorem dX11_flip_240 : decode cX11_flip 240 = .ok (.iload 7, 2) := by decide +kernel
theorem dX11_flip_242 : decode cX11_flip 242 = .ok (.iload 8, 2) := by decide +kernel
theorem dX11_flip_244 : decode cX11_flip 244 = .ok (.iastore, 1) := by decide +kernel
theorem dX11_flip_245 : decode cX11_flip 245 = .ok (.iinc 4 1, 3) := by decide +kernel
theorem dX11_flip_248 : decode cX11_flip 248 = .ok (.goto (-124), 3) := by decide +kernel
theorem dX11_flip_251 : decode cX11_flip 251 = .ok (.iinc 2 1, 3) := by decide +kernel
theorem dX11_flip_254 : decode cX11_flip 254 = .ok (.goto (-219), 3) := by decide +kernel
theorem dX11_flip_257 : decode cX11_flip 257 = .ok (.aload_n 0, 1) := by decide +kernel
theorem dX11_flip_258 : decode cX11_flip 258 = .ok (.iconst 0, 1) := by decide +kernel
theorem dX11_flip_259 : decode cX11_flip 259 = .ok (.iload_n 1, 1) := by decide +kernel
theorem dX11_flip_260 : decode cX11_flip 260 = .ok (.bipush (-2), 2) := by decide +kernel
theorem dX11_flip_262 : decode cX11_flip 262 = .ok (.bipush (-2), 2) := by decide +kernel
theorem dX11_flip_264 : decode cX11_flip 264 = .ok (.bipush (-2), 2) := by decide +kernel
theorem dX11_flip_266 : decode cX11_flip 266 = .ok (.invokevirtual 403, 3) := by decide +kernel
theorem dX11_flip_269 : decode cX11_flip 269 = .ok (.ireturn, 1) := by decide +kernel
set_option maxRecDepth 20000 in
theorem ggX11_drop_X11_good : GoodIn wsX11_drop wsX11_good := goodIn_r _ [7, 8, 9, 41, 42, 43, 44, 45, 46, 47, 48, 49, 50, 51, 52, 53, 54, 55, 56, 57, 58, 59, 60, 61, 62, 63, 64, 65, 66, 67, 68, 69, 70, 71, 72, 73, 74, 75, 76, 77, 78, 79, 80] (by decide +kernel) (by decide +kernel)
set_option maxRecDepth 20000 in
theorem gX11_drop_X11_good : GoodIn wsX11_drop (wsV RX11 174 RX11 yX11_good wsX11_good) := goodIn_app (goodIn_of _ (by decide +kernel)) ggX11_drop_X11_good
set_option maxRecDepth 20000 in
theorem ggX11_drop_X11_isSet : GoodIn wsX11_drop wsX11_isSet := goodIn_r _ [13, 14, 1, 15, 16, 6, 17, 41, 42, 43, 44, 45, 46, 47, 48, 49, 50, 51, 52, 53, 54, 55, 56, 57, 58, 59, 60, 61, 62, 63, 64, 65, 66, 67, 68, 69, 70, 71, 72, 73, 74, 75, 76, 77, 78, 79, 80] (by decide +kernel) (by decide +kernel)
set_option maxRecDepth 20000 in
theorem gX11_drop_X11_isSet : GoodIn wsX11_drop (wsV RX11 244 RX11 yX11_isSet wsX11_isSet) := goodIn_app (goodIn_of _ (by decide +kernel)) ggX11_drop_X11_isSet
set_option maxRecDepth 20000 in
theorem ggX11_drop_X11_isNot : GoodIn wsX11_drop wsX11_isNot := goodIn_r _ [21, 9, 41, 42, 43, 44, 45, 46, 47, 48, 49, 50, 51, 52, 53, 54, 55, 56, 57, 58, 59, 60, 61, 62, 63, 64, 65, 66, 67, 68, 69, 70, 71, 72, 73, 74, 75, 76, 77, 78, 79, 80] (by decide +kernel) (by decide +kernel)
set_option maxRecDepth 20000 in
theorem gX11_drop_X11_isNot : GoodIn wsX11_drop (wsV RX11 336 RX11 yX11_isNot wsX11_isNot) := goodIn_app (goodIn_of _ (by decide +kernel)) ggX11_drop_X11_isNot
theorem dX11_drop_0 : decode cX11_drop 0 = .ok (.aload_n 0, 1) := by decide +kernel
theorem dX11_drop_1 : decode cX11_drop 1 = .ok (.invokevirtual 174, 3) := by decide +kernel
theorem dX11_drop_4 : decode cX11_drop 4 = .ok (.aload_n 0, 1) := by decide +kernel
theorem dX11_drop_5 : decode cX11_drop 5 = .ok (.iload_n 1, 1) := by decide +kernel
theorem dX11_drop_6 : decode cX11_drop 6 = .ok (.invokevirtual 244, 3) := by decide +kernel
theorem dX11_drop_9 : decode cX11_drop 9 = .ok (.ifCond .ne 9, 3) := by decide +kernel
theorem dX11_drop_12 : decode cX11_drop 12 = .ok (.aload_n 0, 1) := by decide +kernel
theorem dX11_drop_13 : decode cX11_drop 13 = .ok (.iconst 1, 1) := by decide +kernel
theorem dX11_drop_14 : decode cX11_drop 14 = .ok (.invokevirtual 336, 3) := by decide +kernel
theorem dX11_drop_17 : decode cX11_drop 17 = .ok (.ireturn, 1) := by decide +kernel
theorem dX11_drop_18 : decode cX11_drop 18 = .ok (.aload_n 0, 1) := by decide +kernel
theorem dX11_drop_19 : decode cX11_drop 19 = .ok (.getfield 20, 3) := by decide +kernel
theorem dX11_drop_22 : decode cX11_drop 22 = .ok (.iconst 0, 1) := by decide +kernel
theorem dX11_drop_23 : decode cX11_drop 23 = .ok (.aload_n 0, 1) := by decide +kernel
theorem dX11_drop_24 : decode cX11_drop 24 = .ok (.getfield 29, 3) := by decide +kernel
theorem dX11_drop_27 : decode cX11_drop 27 = .ok (.iconst 0, 1) := by decide +kernel
theorem dX11_drop_28 : decode cX11_drop 28 = .ok (.bipush 49, 2) := by decide +kernel
theorem dX11_drop_30 : decode cX11_drop 30 = .ok (.invokestatic 399, 3) := by decide +kernel
theorem dX11_drop_33 : decode cX11_drop 33 = .ok (.aload_n 0, 1) := by decide +kernel
theorem dX11_drop_34 : decode cX11_drop 34 = .ok (.iload_n 1, 1) := by decide +kernel
theorem dX11_drop_35 : decode cX11_drop 35 = .ok (.invokevirtual 407, 3) := by decide +kernel
theorem dX11_drop_38 : decode cX11_drop 38 = .ok (.aload_n 0, 1) := by decide +kernel
theorem dX11_drop_39 : decode cX11_drop 39 = .ok (.iconst 1, 1) := by decide +kernel
theorem dX11_drop_40 : decode cX11_drop 40 = .ok (.iload_n 1, 1) := by decide +kernel
theorem dX11_drop_41 : decode cX11_drop 41 = .ok (.bipush (-2), 2) := by decide +kernel
theorem dX11_drop_43 : decode cX11_drop 43 = .ok (.bipush (-2), 2) := by decide +kernel
theorem dX11_drop_45 : decode cX11_drop 45 = .ok (.bipush (-2), 2) := by decide +kernel
theorem dX11_drop_47 : decode cX11_drop 47 = .ok (.invokevirtual 403, 3) := by decide +kernel
theorem dX11_drop_50 : decode cX11_drop 50 = .ok (.ireturn, 1) := by decide +kernel
set_option maxRecDepth 20000 in
theorem ggX11_forget_X11_good : GoodIn wsX11_forget wsX11_good := goodIn_r _ [8, 9, 10, 41, 42, 43, 44, 45, 46, 47, 48, 49, 50, 51, 52, 53, 54, 55, 56, 57, 58, 59, 60, 61, 62, 63, 64, 65, 66, 67, 68, 69, 70, 71, 72, 73, 74, 75, 76, 77, 78, 79, 80] (by decide +kernel) (by decide +kernel)
set_option maxRecDepth 20000 in
theorem gX11_forget_X11_good : GoodIn wsX11_forget (wsV RX11 174 RX11 yX11_good wsX11_good) := goodIn_app (goodIn_of _ (by decide +kernel)) ggX11_forget_X11_good
set_option maxRecDepth 20000 in
theorem ggX11_forget_X11_isLook : GoodIn wsX11_forget wsX11_isLook := goodIn_r _ [14, 15, 1, 16, 17, 7, 18, 41, 42, 43, 44, 45, 46, 47, 48, 49, 50, 51, 52, 53, 54, 55, 56, 57, 58, 59, 60, 61, 62, 63, 64, 65, 66, 67, 68, 69, 70, 71, 72, 73, 74, 75, 76, 77, 78, 79, 80] (by decide +kernel) (by decide +kernel)
set_option maxRecDepth 20000 in
theorem gX11_forget_X11_isLook : GoodIn wsX11_forget (wsV RX11 296 RX11 yX11_isLook wsX11_isLook) := goodIn_app (goodIn_of _ (by decide +kernel)) ggX11_forget_X11_isLook
set_option maxRecDepth 20000 in
theorem ggX11_forget_X11_isNot : GoodIn wsX11_forget wsX11_isNot := goodIn_r _ [22, 10, 41, 42, 43, 44, 45, 46, 47, 48, 49, 50, 51, 52, 53, 54, 55, 56, 57, 58, 59, 60, 61, 62, 63, 64, 65, 66, 67, 68, 69, 70, 71, 72, 73, 74, 75, 76, 77, 78, 79, 80] (by decide +kernel) (by decide +kernel)
set_option maxRecDepth 20000 in
theorem gX11_forget_X11_isNot : GoodIn wsX11_forget (wsV RX11 336 RX11 yX11_isNot wsX11_isNot) := goodIn_app (goodIn_of _ (by decide +kernel)) ggX11_forget_X11_isNot
theorem dX11_forget_0 : decode cX11_forget 0 = .ok (.aload_n 0, 1) := by decide +kernel
theorem dX11_forget_1 : decode cX11_forget 1 = .ok (.invokevirtual 174, 3) := by decide +kernel
theorem dX11_forget_4 : decode cX11_forget 4 = .ok (.aload_n 0, 1) := by decide +kernel
theorem dX11_forget_5 : decode cX11_forget 5 = .ok (.iload_n 1, 1) := by decide +kernel
theorem dX11_forget_6 : decode cX11_forget 6 = .ok (.invokevirtual 296, 3) := by decide +kernel
theorem dX11_forget_9 : decode cX11_forget 9 = .ok (.ifCond .ne 9, 3) := by decide +kernel
theorem dX11_forget_12 : decode cX11_forget 12 = .ok (.aload_n 0, 1) := by decide +kernel
theorem dX11_forget_13 : decode cX11_forget 13 = .ok (.iconst 1, 1) := by decide +kernel
theorem dX11_forget_14 : decode cX11_forget 14 = .ok (.invokevirtual 336, 3) := by decide +kernel
theorem dX11_forget_17 : decode cX11_forget 17 = .ok (.ireturn, 1) := by decide +kernel
theorem dX11_forget_18 : decode cX11_forget 18 = .ok (.iconst 0, 1) := by decide +kernel
theorem dX11_forget_19 : decode cX11_forget 19 = .ok (.istore_n 2, 1) := by decide +kernel
theorem dX11_forget_20 : decode cX11_forget 20 = .ok (.iconst 0, 1) := by decide +kernel
theorem dX11_forget_21 : decode cX11_forget 21 = .ok (.istore_n 3, 1) := by decide +kernel
theorem dX11_forget_22 : decode cX11_forget 22 = .ok (.iload_n 3, 1) := by decide +kernel
theorem dX11_forget_23 : decode cX11_forget 23 = .ok (.aload_n 0, 1) := by decide +kernel
theorem dX11_forget_24 : decode cX11_forget 24 = .ok (.getfield 20, 3) := by decide +kernel
theorem dX11_forget_27 : decode cX11_forget 27 = .ok (.iconst 0, 1) := by decide +kernel
theorem dX11_forget_28 : decode cX11_forget 28 = .ok (.iaload, 1) := by decide +kernel
theorem dX11_forget_29 : decode cX11_forget 29 = .ok (.if_icmp .ge 44, 3) := by decide +kernel
theorem dX11_forget_32 : decode cX11_forget 32 = .ok (.iload_n 2, 1) := by decide +kernel
theorem dX11_forget_33 : decode cX11_forget 33 = .ok (.ifCond .ne 28, 3) := by decide +kernel
theorem dX11_forget_36 : decode cX11_forget 36 = .ok (.aload_n 0, 1) := by decide +kernel
theorem dX11_forget_37 : decode cX11_forget 37 = .ok (.getfield 20, 3) := by decide +kernel
theorem dX11_forget_40 : decode cX11_forget 40 = .ok (.iconst 1, 1) := by decide +kernel
theorem dX11_forget_41 : decode cX11_forget 41 = .ok (.iload_n 3, 1) := by decide +kernel
theorem dX11_forget_42 : decode cX11_forget 42 = .ok (.iadd, 1) := by decide +kernel
theorem dX11_forget_43 : decode cX11_forget 43 = .ok (.iaload, 1) := by decide +kernel
theorem dX11_forget_44 : decode cX11_forget 44 = .ok (.iload_n 1, 1) := by decide +kernel
theorem dX11_forget_45 : decode cX11_forget 45 = .ok (.if_icmp .eq 16, 3) := by decide +kernel
theorem dX11_forget_48 : decode cX11_forget 48 = .ok (.aload_n 0, 1) := by decide +kernel
theorem dX11_forget_49 : decode cX11_forget 49 = .ok (.getfield 20, 3) := by decide +kernel
theorem dX11_forget_52 : decode cX11_forget 52 = .ok (.bipush 9, 2) := by decide +kernel
theorem dX11_forget_54 : decode cX11_forget 54 = .ok (.iload_n 3, 1) := by decide +kernel
theorem dX11_forget_55 : decode cX11_forget 55 = .ok (.iadd, 1) := by decide +kernel
theorem dX11_forget_56 : decode cX11_forget 56 = .ok (.iaload, 1) := by decide +kernel
theorem dX11_forget_57 : decode cX11_forget 57 = .ok (.iload_n 1, 1) := by decide +kernel
theorem dX11_forget_58 : decode cX11_forget 58 = .ok (.if_icmp .ne 7, 3) := by decide +kernel
theorem dX11_forget_61 : decode cX11_forget 61 = .ok (.iconst 1, 1) := by decide +kernel
theorem dX11_forget_62 : decode cX11_forget 62 = .ok (.goto 4, 3) := by decide +kernel
theorem dX11_forget_65 : decode cX11_forget 65 = .ok (.iconst 0, 1) := by decide +kernel
theorem dX11_forget_66 : decode cX11_forget 66 = .ok (.istore_n 2, 1) := by decide +kernel
theorem dX11_forget_67 : decode cX11_forget 67 = .ok (.iinc 3 1, 3) := by decide +kernel
theorem dX11_forget_70 : decode cX11_forget 70 = .ok (.goto (-48), 3) := by decide +kernel
theorem dX11_forget_73 : decode cX11_forget 73 = .ok (.iload_n 2, 1) := by decide +kernel
theorem dX11_forget_74 : decode cX11_forget 74 = .ok (.ifCond .ne 9, 3) := by decide +kernel
theorem dX11_forget_77 : decode cX11_forget 77 = .ok (.aload_n 0, 1) := by decide +kernel
theorem dX11_forget_78 : decode cX11_forget 78 = .ok (.iconst 5, 1) := by decide +kernel
theorem dX11_forget_79 : decode cX11_forget 79 = .ok (.invokevirtual 336, 3) := by decide +kernel
theorem dX11_forget_82 : decode cX11_forget 82 = .ok (.ireturn, 1) := by decide +kernel
theorem dX11_forget_83 : decode cX11_forget 83 = .ok (.aload_n 0, 1) := by decide +kernel
theorem dX11_forget_84 : decode cX11_forget 84 = .ok (.getfield 20, 3) := by decide +kernel
theorem dX11_forget_87 : decode cX11_forget 87 = .ok (.iconst 0, 1) := by decide +kernel
theorem dX11_forget_88 : decode cX11_forget 88 = .ok (.aload_n 0, 1) := by decide +kernel
theorem dX11_forget_89 : decode cX11_forget 89 = .ok (.getfield 29, 3) := by decide +kernel
theorem dX11_forget_92 : decode cX11_forget 92 = .ok (.iconst 0, 1) := by decide +kernel
theorem dX11_forget_93 : decode cX11_forget 93 = .ok (.bipush 49, 2) := by decide +kernel
theorem dX11_forget_95 : decode cX11_forget 95 = .ok (.invokestatic 399, 3) := by decide +kernel
theorem dX11_forget_98 : decode cX11_forget 98 = .ok (.aload_n 0, 1) := by decide +kernel
theorem dX11_forget_99 : decode cX11_forget 99 = .ok (.getfield 20, 3) := by decide +kernel
theorem dX11_forget_102 : decode cX11_forget 102 = .ok (.iconst 0, 1) := by decide +kernel
theorem dX11_forget_103 : decode cX11_forget 103 = .ok (.iaload, 1) := by decide +kernel
theorem dX11_forget_104 : decode cX11_forget 104 = .ok (.iconst 1, 1) := by decide +kernel
theorem dX11_forget_105 : decode cX11_forget 105 = .ok (.isub, 1) := by decide +kernel
theorem dX11_forget_106 : decode cX11_forget 106 = .ok (.istore_n 3, 1) := by decide +kernel
theorem dX11_forget_107 : decode cX11_forget 107 = .ok (.iload_n 3, 1) := by decide +kernel
theorem dX11_forget_108 : decode cX11_forget 108 = .ok (.ifCond .lt 282, 3) := by decide +kernel
theorem dX11_forget_111 : decode cX11_forget 111 = .ok (.aload_n 0, 1) := by decide +kernel
theorem dX11_forget_112 : decode cX11_forget 112 = .ok (.getfield 20, 3) := by decide +kernel
theorem dX11_forget_115 : decode cX11_forget 115 = .ok (.iconst 1, 1) := by decide +kernel
theorem dX11_forget_116 : decode cX11_forget 116 = .ok (.iload_n 3, 1) := by decide +kernel
theorem dX11_forget_117 : decode cX11_forget 117 = .ok (.iadd, 1) := by decide +kernel
theorem dX11_forget_118 : decode cX11_forget 118 = .ok (.iaload, 1) := by decide +kernel
theorem dX11_forget_119 : decode cX11_forget 119 = .ok (.iload_n 1, 1) := by decide +kernel
theorem dX11_forget_120 : decode cX11_forget 120 = .ok (.if_icmp .ne 7, 3) := by decide +kernel
theorem dX11_forget_123 : decode cX11_forget 123 = .ok (.iconst 1, 1) := by decide +kernel
theorem dX11_forget_124 : decode cX11_forget 124 = .ok (.goto 4, 3) := by decide +kernel
theorem dX11_forget_127 : decode cX11_forget 127 = .ok (.iconst 0, 1) := by decide +kernel
theorem dX11_forget_128 : decode cX11_forget 128 = .ok (.istore 4, 2) := by decide +kernel
theorem dX11_forget_130 : decode cX11_forget 130 = .ok (.iload 4, 2) := by decide +kernel
theorem dX11_forget_132 : decode cX11_forget 132 = .ok (.ifCond .ne 19, 3) := by decide +kernel
