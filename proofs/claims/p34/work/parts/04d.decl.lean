theorem dL_holds_55 : decode cL_holds 55 = .ok (.iadd, 1) := by decide +kernel
theorem dL_holds_56 : decode cL_holds 56 = .ok (.istore_n 1, 1) := by decide +kernel
theorem dL_holds_57 : decode cL_holds 57 = .ok (.lload_n 2, 1) := by decide +kernel
theorem dL_holds_58 : decode cL_holds 58 = .ok (.aload_n 0, 1) := by decide +kernel
theorem dL_holds_59 : decode cL_holds 59 = .ok (.iload 8, 2) := by decide +kernel
theorem dL_holds_61 : decode cL_holds 61 = .ok (.invokestatic 137, 3) := by decide +kernel
theorem dL_holds_64 : decode cL_holds 64 = .ok (.i2l, 1) := by decide +kernel
theorem dL_holds_65 : decode cL_holds 65 = .ok (.ladd, 1) := by decide +kernel
theorem dL_holds_66 : decode cL_holds 66 = .ok (.lstore_n 2, 1) := by decide +kernel
theorem dL_holds_67 : decode cL_holds 67 = .ok (.aload_n 0, 1) := by decide +kernel
theorem dL_holds_68 : decode cL_holds 68 = .ok (.iload 8, 2) := by decide +kernel
theorem dL_holds_70 : decode cL_holds 70 = .ok (.invokestatic 137, 3) := by decide +kernel
theorem dL_holds_73 : decode cL_holds 73 = .ok (.ifCond .lt 56, 3) := by decide +kernel
theorem dL_holds_76 : decode cL_holds 76 = .ok (.aload_n 0, 1) := by decide +kernel
theorem dL_holds_77 : decode cL_holds 77 = .ok (.iload 8, 2) := by decide +kernel
theorem dL_holds_79 : decode cL_holds 79 = .ok (.invokestatic 139, 3) := by decide +kernel
theorem dL_holds_82 : decode cL_holds 82 = .ok (.ifCond .lt 47, 3) := by decide +kernel
theorem dL_holds_85 : decode cL_holds 85 = .ok (.iload 9, 2) := by decide +kernel
theorem dL_holds_87 : decode cL_holds 87 = .ok (.aload_n 0, 1) := by decide +kernel
theorem dL_holds_88 : decode cL_holds 88 = .ok (.iload 8, 2) := by decide +kernel
theorem dL_holds_90 : decode cL_holds 90 = .ok (.invokestatic 135, 3) := by decide +kernel
theorem dL_holds_93 : decode cL_holds 93 = .ok (.if_icmp .gt 36, 3) := by decide +kernel
theorem dL_holds_96 : decode cL_holds 96 = .ok (.aload_n 0, 1) := by decide +kernel
theorem dL_holds_97 : decode cL_holds 97 = .ok (.iload 8, 2) := by decide +kernel
theorem dL_holds_99 : decode cL_holds 99 = .ok (.invokestatic 141, 3) := by decide +kernel
theorem dL_holds_102 : decode cL_holds 102 = .ok (.ifCond .lt 27, 3) := by decide +kernel
theorem dL_holds_105 : decode cL_holds 105 = .ok (.aload_n 0, 1) := by decide +kernel
theorem dL_holds_106 : decode cL_holds 106 = .ok (.iload 8, 2) := by decide +kernel
theorem dL_holds_108 : decode cL_holds 108 = .ok (.invokestatic 141, 3) := by decide +kernel
theorem dL_holds_111 : decode cL_holds 111 = .ok (.iload 9, 2) := by decide +kernel
theorem dL_holds_113 : decode cL_holds 113 = .ok (.if_icmp .gt 16, 3) := by decide +kernel
theorem dL_holds_116 : decode cL_holds 116 = .ok (.aload_n 0, 1) := by decide +kernel
theorem dL_holds_117 : decode cL_holds 117 = .ok (.iload 8, 2) := by decide +kernel
theorem dL_holds_119 : decode cL_holds 119 = .ok (.invokestatic 143, 3) := by decide +kernel
theorem dL_holds_122 : decode cL_holds 122 = .ok (.ifCond .lt 7, 3) := by decide +kernel
theorem dL_holds_125 : decode cL_holds 125 = .ok (.iconst 1, 1) := by decide +kernel
theorem dL_holds_126 : decode cL_holds 126 = .ok (.goto 4, 3) := by decide +kernel
theorem dL_holds_129 : decode cL_holds 129 = .ok (.iconst 0, 1) := by decide +kernel
theorem dL_holds_130 : decode cL_holds 130 = .ok (.istore 7, 2) := by decide +kernel
theorem dL_holds_132 : decode cL_holds 132 = .ok (.iinc 8 1, 3) := by decide +kernel
theorem dL_holds_135 : decode cL_holds 135 = .ok (.goto (-116), 3) := by decide +kernel
theorem dL_holds_138 : decode cL_holds 138 = .ok (.iconst 0, 1) := by decide +kernel
theorem dL_holds_139 : decode cL_holds 139 = .ok (.istore 8, 2) := by decide +kernel
theorem dL_holds_141 : decode cL_holds 141 = .ok (.iload 8, 2) := by decide +kernel
theorem dL_holds_143 : decode cL_holds 143 = .ok (.aload_n 0, 1) := by decide +kernel
theorem dL_holds_144 : decode cL_holds 144 = .ok (.invokevirtual 89, 3) := by decide +kernel
theorem dL_holds_147 : decode cL_holds 147 = .ok (.if_icmp .ge 122, 3) := by decide +kernel
theorem dL_holds_150 : decode cL_holds 150 = .ok (.iload 7, 2) := by decide +kernel
theorem dL_holds_152 : decode cL_holds 152 = .ok (.ifCond .eq 117, 3) := by decide +kernel
theorem dL_holds_155 : decode cL_holds 155 = .ok (.aload_n 0, 1) := by decide +kernel
theorem dL_holds_156 : decode cL_holds 156 = .ok (.iload 8, 2) := by decide +kernel
theorem dL_holds_158 : decode cL_holds 158 = .ok (.invokestatic 127, 3) := by decide +kernel
theorem dL_holds_161 : decode cL_holds 161 = .ok (.istore 9, 2) := by decide +kernel
theorem dL_holds_163 : decode cL_holds 163 = .ok (.iload 4, 2) := by decide +kernel
theorem dL_holds_165 : decode cL_holds 165 = .ok (.aload_n 0, 1) := by decide +kernel
theorem dL_holds_166 : decode cL_holds 166 = .ok (.iload 8, 2) := by decide +kernel
theorem dL_holds_168 : decode cL_holds 168 = .ok (.invokestatic 129, 3) := by decide +kernel
theorem dL_holds_171 : decode cL_holds 171 = .ok (.iadd, 1) := by decide +kernel
theorem dL_holds_172 : decode cL_holds 172 = .ok (.istore 4, 2) := by decide +kernel
theorem dL_holds_174 : decode cL_holds 174 = .ok (.iload 5, 2) := by decide +kernel
theorem dL_holds_176 : decode cL_holds 176 = .ok (.iload 9, 2) := by decide +kernel
theorem dL_holds_178 : decode cL_holds 178 = .ok (.ifCond .ne 7, 3) := by decide +kernel
theorem dL_holds_181 : decode cL_holds 181 = .ok (.iconst 0, 1) := by decide +kernel
theorem dL_holds_182 : decode cL_holds 182 = .ok (.goto 9, 3) := by decide +kernel
theorem dL_holds_185 : decode cL_holds 185 = .ok (.aload_n 0, 1) := by decide +kernel
theorem dL_holds_186 : decode cL_holds 186 = .ok (.iload 8, 2) := by decide +kernel
theorem dL_holds_188 : decode cL_holds 188 = .ok (.invokestatic 129, 3) := by decide +kernel
theorem dL_holds_191 : decode cL_holds 191 = .ok (.iadd, 1) := by decide +kernel
theorem dL_holds_192 : decode cL_holds 192 = .ok (.istore 5, 2) := by decide +kernel
theorem dL_holds_194 : decode cL_holds 194 = .ok (.iload 4, 2) := by decide +kernel
theorem dL_holds_196 : decode cL_holds 196 = .ok (.aload_n 0, 1) := by decide +kernel
theorem dL_holds_197 : decode cL_holds 197 = .ok (.iload 8, 2) := by decide +kernel
theorem dL_holds_199 : decode cL_holds 199 = .ok (.invokestatic 131, 3) := by decide +kernel
theorem dL_holds_202 : decode cL_holds 202 = .ok (.aload_n 0, 1) := by decide +kernel
theorem dL_holds_203 : decode cL_holds 203 = .ok (.iload 8, 2) := by decide +kernel
theorem dL_holds_205 : decode cL_holds 205 = .ok (.invokestatic 133, 3) := by decide +kernel
theorem dL_holds_208 : decode cL_holds 208 = .ok (.isub, 1) := by decide +kernel
theorem dL_holds_209 : decode cL_holds 209 = .ok (.if_icmp .ne 47, 3) := by decide +kernel
theorem dL_holds_212 : decode cL_holds 212 = .ok (.iload 9, 2) := by decide +kernel
theorem dL_holds_214 : decode cL_holds 214 = .ok (.iload 6, 2) := by decide +kernel
theorem dL_holds_216 : decode cL_holds 216 = .ok (.if_icmp .gt 40, 3) := by decide +kernel
theorem dL_holds_219 : decode cL_holds 219 = .ok (.iload 9, 2) := by decide +kernel
theorem dL_holds_221 : decode cL_holds 221 = .ok (.ifCond .eq 9, 3) := by decide +kernel
theorem dL_holds_224 : decode cL_holds 224 = .ok (.iload 6, 2) := by decide +kernel
theorem dL_holds_226 : decode cL_holds 226 = .ok (.iconst 2, 1) := by decide +kernel
theorem dL_holds_227 : decode cL_holds 227 = .ok (.if_icmp .ne 29, 3) := by decide +kernel
theorem dL_holds_230 : decode cL_holds 230 = .ok (.iload 8, 2) := by decide +kernel
theorem dL_holds_232 : decode cL_holds 232 = .ok (.ifCond .eq 20, 3) := by decide +kernel
theorem dL_holds_235 : decode cL_holds 235 = .ok (.aload_n 0, 1) := by decide +kernel
theorem dL_holds_236 : decode cL_holds 236 = .ok (.iload 8, 2) := by decide +kernel
theorem dL_holds_238 : decode cL_holds 238 = .ok (.invokestatic 131, 3) := by decide +kernel
theorem dL_holds_241 : decode cL_holds 241 = .ok (.aload_n 0, 1) := by decide +kernel
theorem dL_holds_242 : decode cL_holds 242 = .ok (.iload 8, 2) := by decide +kernel
theorem dL_holds_244 : decode cL_holds 244 = .ok (.iconst 1, 1) := by decide +kernel
theorem dL_holds_245 : decode cL_holds 245 = .ok (.isub, 1) := by decide +kernel
theorem dL_holds_246 : decode cL_holds 246 = .ok (.invokestatic 131, 3) := by decide +kernel
theorem dL_holds_249 : decode cL_holds 249 = .ok (.if_icmp .lt 7, 3) := by decide +kernel
theorem dL_holds_252 : decode cL_holds 252 = .ok (.iconst 1, 1) := by decide +kernel
theorem dL_holds_253 : decode cL_holds 253 = .ok (.goto 4, 3) := by decide +kernel
theorem dL_holds_256 : decode cL_holds 256 = .ok (.iconst 0, 1) := by decide +kernel
theorem dL_holds_257 : decode cL_holds 257 = .ok (.istore 7, 2) := by decide +kernel
theorem dL_holds_259 : decode cL_holds 259 = .ok (.iload 9, 2) := by decide +kernel
theorem dL_holds_261 : decode cL_holds 261 = .ok (.istore 6, 2) := by decide +kernel
theorem dL_holds_263 : decode cL_holds 263 = .ok (.iinc 8 1, 3) := by decide +kernel
theorem dL_holds_266 : decode cL_holds 266 = .ok (.goto (-125), 3) := by decide +kernel
theorem dL_holds_269 : decode cL_holds 269 = .ok (.iconst 1, 1) := by decide +kernel
theorem dL_holds_270 : decode cL_holds 270 = .ok (.istore 8, 2) := by decide +kernel
theorem dL_holds_272 : decode cL_holds 272 = .ok (.iload 8, 2) := by decide +kernel
theorem dL_holds_274 : decode cL_holds 274 = .ok (.aload_n 0, 1) := by decide +kernel
theorem dL_holds_275 : decode cL_holds 275 = .ok (.invokevirtual 86, 3) := by decide +kernel
theorem dL_holds_278 : decode cL_holds 278 = .ok (.if_icmp .ge 107, 3) := by decide +kernel
theorem dL_holds_281 : decode cL_holds 281 = .ok (.iload 7, 2) := by decide +kernel
theorem dL_holds_283 : decode cL_holds 283 = .ok (.ifCond .eq 102, 3) := by decide +kernel
theorem dL_holds_286 : decode cL_holds 286 = .ok (.aload_n 0, 1) := by decide +kernel
theorem dL_holds_287 : decode cL_holds 287 = .ok (.iload 8, 2) := by decide +kernel
theorem dL_holds_289 : decode cL_holds 289 = .ok (.iconst 1, 1) := by decide +kernel
theorem dL_holds_290 : decode cL_holds 290 = .ok (.isub, 1) := by decide +kernel
theorem dL_holds_291 : decode cL_holds 291 = .ok (.invokestatic 145, 3) := by decide +kernel
theorem dL_holds_294 : decode cL_holds 294 = .ok (.istore 9, 2) := by decide +kernel
theorem dL_holds_296 : decode cL_holds 296 = .ok (.aload_n 0, 1) := by decide +kernel
theorem dL_holds_297 : decode cL_holds 297 = .ok (.iload 8, 2) := by decide +kernel
theorem dL_holds_299 : decode cL_holds 299 = .ok (.invokestatic 145, 3) := by decide +kernel
theorem dL_holds_302 : decode cL_holds 302 = .ok (.istore 10, 2) := by decide +kernel
theorem dL_holds_304 : decode cL_holds 304 = .ok (.iload 9, 2) := by decide +kernel
theorem dL_holds_306 : decode cL_holds 306 = .ok (.iload 10, 2) := by decide +kernel
theorem dL_holds_308 : decode cL_holds 308 = .ok (.if_icmp .eq 68, 3) := by decide +kernel
theorem dL_holds_311 : decode cL_holds 311 = .ok (.aload_n 0, 1) := by decide +kernel
theorem dL_holds_312 : decode cL_holds 312 = .ok (.iload 10, 2) := by decide +kernel
theorem dL_holds_314 : decode cL_holds 314 = .ok (.invokestatic 135, 3) := by decide +kernel
theorem dL_holds_317 : decode cL_holds 317 = .ok (.ifCond .eq 55, 3) := by decide +kernel
theorem dL_holds_320 : decode cL_holds 320 = .ok (.aload_n 0, 1) := by decide +kernel
theorem dL_holds_321 : decode cL_holds 321 = .ok (.iload 9, 2) := by decide +kernel
theorem dL_holds_323 : decode cL_holds 323 = .ok (.invokestatic 135, 3) := by decide +kernel
theorem dL_holds_326 : decode cL_holds 326 = .ok (.ifCond .le 37, 3) := by decide +kernel
theorem dL_holds_329 : decode cL_holds 329 = .ok (.aload_n 0, 1) := by decide +kernel
theorem dL_holds_330 : decode cL_holds 330 = .ok (.iload 9, 2) := by decide +kernel
theorem dL_holds_332 : decode cL_holds 332 = .ok (.invokestatic 137, 3) := by decide +kernel
theorem dL_holds_335 : decode cL_holds 335 = .ok (.i2l, 1) := by decide +kernel
theorem dL_holds_336 : decode cL_holds 336 = .ok (.aload_n 0, 1) := by decide +kernel
theorem dL_holds_337 : decode cL_holds 337 = .ok (.iload 10, 2) := by decide +kernel
theorem dL_holds_339 : decode cL_holds 339 = .ok (.invokestatic 135, 3) := by decide +kernel
theorem dL_holds_342 : decode cL_holds 342 = .ok (.i2l, 1) := by decide +kernel
theorem dL_holds_343 : decode cL_holds 343 = .ok (.lmul, 1) := by decide +kernel
theorem dL_holds_344 : decode cL_holds 344 = .ok (.aload_n 0, 1) := by decide +kernel
theorem dL_holds_345 : decode cL_holds 345 = .ok (.iload 10, 2) := by decide +kernel
theorem dL_holds_347 : decode cL_holds 347 = .ok (.invokestatic 137, 3) := by decide +kernel
theorem dL_holds_350 : decode cL_holds 350 = .ok (.i2l, 1) := by decide +kernel
theorem dL_holds_351 : decode cL_holds 351 = .ok (.aload_n 0, 1) := by decide +kernel
theorem dL_holds_352 : decode cL_holds 352 = .ok (.iload 9, 2) := by decide +kernel
theorem dL_holds_354 : decode cL_holds 354 = .ok (.invokestatic 135, 3) := by decide +kernel
theorem dL_holds_357 : decode cL_holds 357 = .ok (.i2l, 1) := by decide +kernel
theorem dL_holds_358 : decode cL_holds 358 = .ok (.lmul, 1) := by decide +kernel
theorem dL_holds_359 : decode cL_holds 359 = .ok (.lcmp, 1) := by decide +kernel
theorem dL_holds_360 : decode cL_holds 360 = .ok (.ifCond .ge 12, 3) := by decide +kernel
theorem dL_holds_363 : decode cL_holds 363 = .ok (.aload_n 0, 1) := by decide +kernel
theorem dL_holds_364 : decode cL_holds 364 = .ok (.iload 10, 2) := by decide +kernel
theorem dL_holds_366 : decode cL_holds 366 = .ok (.invokestatic 137, 3) := by decide +kernel
theorem dL_holds_369 : decode cL_holds 369 = .ok (.ifCond .ne 7, 3) := by decide +kernel
theorem dL_holds_372 : decode cL_holds 372 = .ok (.iconst 1, 1) := by decide +kernel
theorem dL_holds_373 : decode cL_holds 373 = .ok (.goto 4, 3) := by decide +kernel
theorem dL_holds_376 : decode cL_holds 376 = .ok (.iconst 0, 1) := by decide +kernel
theorem dL_holds_377 : decode cL_holds 377 = .ok (.istore 7, 2) := by decide +kernel
theorem dL_holds_379 : decode cL_holds 379 = .ok (.iinc 8 1, 3) := by decide +kernel
theorem dL_holds_382 : decode cL_holds 382 = .ok (.goto (-110), 3) := by decide +kernel
theorem dL_holds_385 : decode cL_holds 385 = .ok (.iload 7, 2) := by decide +kernel
theorem dL_holds_387 : decode cL_holds 387 = .ok (.ifCond .eq 59, 3) := by decide +kernel
theorem dL_holds_390 : decode cL_holds 390 = .ok (.aload_n 0, 1) := by decide +kernel
theorem dL_holds_391 : decode cL_holds 391 = .ok (.invokevirtual 153, 3) := by decide +kernel
theorem dL_holds_394 : decode cL_holds 394 = .ok (.iload_n 1, 1) := by decide +kernel
theorem dL_holds_395 : decode cL_holds 395 = .ok (.if_icmp .ne 51, 3) := by decide +kernel
theorem dL_holds_398 : decode cL_holds 398 = .ok (.aload_n 0, 1) := by decide +kernel
theorem dL_holds_399 : decode cL_holds 399 = .ok (.invokevirtual 165, 3) := by decide +kernel
theorem dL_holds_402 : decode cL_holds 402 = .ok (.iload 5, 2) := by decide +kernel
theorem dL_holds_404 : decode cL_holds 404 = .ok (.if_icmp .ne 42, 3) := by decide +kernel
theorem dL_holds_407 : decode cL_holds 407 = .ok (.aload_n 0, 1) := by decide +kernel
theorem dL_holds_408 : decode cL_holds 408 = .ok (.invokevirtual 168, 3) := by decide +kernel
theorem dL_holds_411 : decode cL_holds 411 = .ok (.iload_n 1, 1) := by decide +kernel
theorem dL_holds_412 : decode cL_holds 412 = .ok (.iload 5, 2) := by decide +kernel
theorem dL_holds_414 : decode cL_holds 414 = .ok (.isub, 1) := by decide +kernel
theorem dL_holds_415 : decode cL_holds 415 = .ok (.if_icmp .ne 31, 3) := by decide +kernel
theorem dL_holds_418 : decode cL_holds 418 = .ok (.aload_n 0, 1) := by decide +kernel
theorem dL_holds_419 : decode cL_holds 419 = .ok (.invokevirtual 156, 3) := by decide +kernel
theorem dL_holds_422 : decode cL_holds 422 = .ok (.iload_n 1, 1) := by decide +kernel
theorem dL_holds_423 : decode cL_holds 423 = .ok (.ifCond .ne 7, 3) := by decide +kernel
theorem dL_holds_426 : decode cL_holds 426 = .ok (.iconst 0, 1) := by decide +kernel
theorem dL_holds_427 : decode cL_holds 427 = .ok (.goto 12, 3) := by decide +kernel
theorem dL_holds_430 : decode cL_holds 430 = .ok (.lload_n 2, 1) := by decide +kernel
theorem dL_holds_431 : decode cL_holds 431 = .ok (.ldc2_w 171, 3) := by decide +kernel
theorem dL_holds_434 : decode cL_holds 434 = .ok (.lmul, 1) := by decide +kernel
theorem dL_holds_435 : decode cL_holds 435 = .ok (.iload_n 1, 1) := by decide +kernel
theorem dL_holds_436 : decode cL_holds 436 = .ok (.i2l, 1) := by decide +kernel
theorem dL_holds_437 : decode cL_holds 437 = .ok (.ldiv, 1) := by decide +kernel
theorem dL_holds_438 : decode cL_holds 438 = .ok (.l2i, 1) := by decide +kernel
theorem dL_holds_439 : decode cL_holds 439 = .ok (.if_icmp .ne 7, 3) := by decide +kernel
theorem dL_holds_442 : decode cL_holds 442 = .ok (.iconst 1, 1) := by decide +kernel
theorem dL_holds_443 : decode cL_holds 443 = .ok (.goto 4, 3) := by decide +kernel
theorem dL_holds_446 : decode cL_holds 446 = .ok (.iconst 0, 1) := by decide +kernel
theorem dL_holds_447 : decode cL_holds 447 = .ok (.ireturn, 1) := by decide +kernel
set_option maxRecDepth 20000 in
theorem ggL_act_X0_lines : GoodIn wsL_act wsX0_lines := goodIn_r _ [6, 7, 201, 202, 203, 204, 205, 206, 207, 208, 209, 210, 211, 212, 213, 214, 215] (by decide +kernel) (by decide +kernel)
set_option maxRecDepth 20000 in
theorem gL_act_X0_lines : GoodIn wsL_act (wsV RL 86 RX0 yX0_lines wsX0_lines) := goodIn_app (goodIn_of _ (by decide +kernel)) ggL_act_X0_lines
set_option maxRecDepth 20000 in
theorem ggL_act_L_value : GoodIn wsL_act wsL_value := goodIn_ca (goodIn_r _ [11, 12, 13, 14, 15, 16, 5, 17, 18, 19, 20, 21, 22, 23, 24, 7, 201, 202, 203, 204, 205, 206, 207, 208, 209, 210, 211, 212, 213, 214, 215] (by decide +kernel) (by decide +kernel)) (goodIn_sub (fun _ h => List.mem_cons_of_mem _ (List.mem_append_left _ (List.mem_append_left _ (List.mem_append_right _ h)))) (by decide +kernel))
set_option maxRecDepth 20000 in
theorem gL_act_L_value : GoodIn wsL_act (va_wsS RL 135 yL_value wsL_value) := goodIn_app (goodIn_of _ (by decide +kernel)) ggL_act_L_value
set_option maxRecDepth 20000 in
theorem ggL_act_L_adds : GoodIn wsL_act wsL_adds := goodIn_ca (goodIn_ca (goodIn_r _ [27, 28, 29, 30, 31, 32, 33, 34, 5, 35, 36, 7, 18, 37, 38, 39, 40, 41, 42, 43, 44, 45, 46, 47, 201, 202, 203, 204, 205, 206, 207, 208, 209, 210, 211, 212, 213, 214, 215] (by decide +kernel) (by decide +kernel)) (goodIn_sub (fun _ h => List.mem_cons_of_mem _ (List.mem_append_left _ (List.mem_append_right _ h))) (by decide +kernel))) (goodIn_sub (fun _ h => List.mem_cons_of_mem _ (List.mem_append_right _ h)) (by decide +kernel))
set_option maxRecDepth 20000 in
theorem gL_act_L_adds : GoodIn wsL_act (va_wsS RL 92 yL_adds wsL_adds) := goodIn_app (goodIn_of _ (by decide +kernel)) ggL_act_L_adds
set_option maxRecDepth 20000 in
theorem ggL_act_L_changes : GoodIn wsL_act wsL_changes := goodIn_ca (goodIn_ca (goodIn_ca (goodIn_r _ [50, 12, 28, 29, 13, 30, 31, 51, 52, 53, 5, 54, 46, 47, 36, 55, 18, 19, 20, 21, 22, 23, 24, 7, 37, 38, 39, 40, 41, 201, 202, 203, 204, 205, 206, 207, 208, 209, 210, 211, 212, 213, 214, 215] (by decide +kernel) (by decide +kernel)) (goodIn_sub (fun _ h => List.mem_cons_of_mem _ (List.mem_append_right _ h)) (by decide +kernel))) (goodIn_sub (fun _ h => List.mem_cons_of_mem _ (List.mem_append_left _ (List.mem_append_left _ (List.mem_append_right _ h)))) (by decide +kernel))) (goodIn_sub (fun _ h => List.mem_cons_of_mem _ (List.mem_append_left _ (List.mem_append_right _ h))) (by decide +kernel))
set_option maxRecDepth 20000 in
theorem gL_act_L_changes : GoodIn wsL_act (va_wsS RL 99 yL_changes wsL_changes) := goodIn_app (goodIn_of _ (by decide +kernel)) ggL_act_L_changes
set_option maxRecDepth 20000 in
theorem ggL_act_L_works : GoodIn wsL_act wsL_works := goodIn_ca (goodIn_ca (goodIn_ca (goodIn_r _ [58, 12, 28, 29, 13, 30, 31, 59, 60, 61, 5, 62, 46, 47, 18, 63, 55, 19, 20, 21, 22, 23, 24, 7, 37, 38, 39, 40, 41, 64, 65, 66, 67, 68, 69, 70, 71, 72, 73, 74, 75, 76, 201, 202, 203, 204, 205, 206, 207, 208, 209, 210, 211, 212, 213, 214, 215] (by decide +kernel) (by decide +kernel)) (goodIn_sub (fun _ h => List.mem_cons_of_mem _ (List.mem_append_right _ h)) (by decide +kernel))) (goodIn_sub (fun _ h => List.mem_cons_of_mem _ (List.mem_append_left _ (List.mem_append_left _ (List.mem_append_right _ h)))) (by decide +kernel))) (goodIn_sub (fun _ h => List.mem_cons_of_mem _ (List.mem_append_left _ (List.mem_append_right _ h))) (by decide +kernel))
set_option maxRecDepth 20000 in
theorem gL_act_L_works : GoodIn wsL_act (va_wsS RL 106 yL_works wsL_works) := goodIn_app (goodIn_of _ (by decide +kernel)) ggL_act_L_works
set_option maxRecDepth 20000 in
theorem ggL_act_L_stores : GoodIn wsL_act wsL_stores := goodIn_ca (goodIn_ca (goodIn_ca (goodIn_r _ [79, 12, 28, 29, 13, 30, 31, 80, 81, 82, 5, 83, 36, 55, 63, 19, 20, 21, 22, 23, 24, 7, 37, 38, 39, 40, 41, 73, 74, 75, 76, 46, 47, 18, 201, 202, 203, 204, 205, 206, 207, 208, 209, 210, 211, 212, 213, 214, 215] (by decide +kernel) (by decide +kernel)) (goodIn_sub (fun _ h => List.mem_cons_of_mem _ (List.mem_append_left _ (List.mem_append_left _ (List.mem_append_right _ h)))) (by decide +kernel))) (goodIn_sub (fun _ h => List.mem_cons_of_mem _ (List.mem_append_left _ (List.mem_append_right _ h))) (by decide +kernel))) (goodIn_sub (fun _ h => List.mem_cons_of_mem _ (List.mem_append_right _ h)) (by decide +kernel))
set_option maxRecDepth 20000 in
theorem gL_act_L_stores : GoodIn wsL_act (va_wsS RL 109 yL_stores wsL_stores) := goodIn_app (goodIn_of _ (by decide +kernel)) ggL_act_L_stores
set_option maxRecDepth 20000 in
theorem ggL_act_L_places : GoodIn wsL_act wsL_places := goodIn_ca (goodIn_ca (goodIn_ca (goodIn_r _ [86, 12, 28, 29, 13, 30, 31, 87, 88, 89, 5, 90, 46, 47, 36, 55, 63, 19, 20, 21, 22, 23, 24, 7, 37, 38, 39, 40, 41, 201, 202, 203, 204, 205, 206, 207, 208, 209, 210, 211, 212, 213, 214, 215] (by decide +kernel) (by decide +kernel)) (goodIn_sub (fun _ h => List.mem_cons_of_mem _ (List.mem_append_right _ h)) (by decide +kernel))) (goodIn_sub (fun _ h => List.mem_cons_of_mem _ (List.mem_append_left _ (List.mem_append_left _ (List.mem_append_right _ h)))) (by decide +kernel))) (goodIn_sub (fun _ h => List.mem_cons_of_mem _ (List.mem_append_left _ (List.mem_append_right _ h))) (by decide +kernel))
set_option maxRecDepth 20000 in
theorem gL_act_L_places : GoodIn wsL_act (va_wsS RL 112 yL_places wsL_places) := goodIn_app (goodIn_of _ (by decide +kernel)) ggL_act_L_places
set_option maxRecDepth 20000 in
theorem ggL_act_L_sets : GoodIn wsL_act wsL_sets := goodIn_ca (goodIn_ca (goodIn_r _ [93, 28, 29, 30, 31, 94, 95, 96, 5, 97, 98, 37, 38, 39, 40, 41, 99, 100, 101, 102, 103, 104, 105, 106, 107, 108, 46, 47, 201, 202, 203, 204, 205, 206, 207, 208, 209, 210, 211, 212, 213, 214, 215] (by decide +kernel) (by decide +kernel)) (goodIn_sub (fun _ h => List.mem_cons_of_mem _ (List.mem_append_left _ (List.mem_append_right _ h))) (by decide +kernel))) (goodIn_sub (fun _ h => List.mem_cons_of_mem _ (List.mem_append_right _ h)) (by decide +kernel))
set_option maxRecDepth 20000 in
theorem gL_act_L_sets : GoodIn wsL_act (va_wsS RL 115 yL_sets wsL_sets) := goodIn_app (goodIn_of _ (by decide +kernel)) ggL_act_L_sets
set_option maxRecDepth 20000 in
theorem ggL_act_L_drops : GoodIn wsL_act wsL_drops := goodIn_ca (goodIn_ca (goodIn_r _ [111, 28, 29, 30, 31, 112, 113, 114, 5, 115, 46, 47, 98, 103, 104, 37, 38, 39, 40, 41, 99, 100, 101, 102, 201, 202, 203, 204, 205, 206, 207, 208, 209, 210, 211, 212, 213, 214, 215] (by decide +kernel) (by decide +kernel)) (goodIn_sub (fun _ h => List.mem_cons_of_mem _ (List.mem_append_right _ h)) (by decide +kernel))) (goodIn_sub (fun _ h => List.mem_cons_of_mem _ (List.mem_append_left _ (List.mem_append_right _ h))) (by decide +kernel))
set_option maxRecDepth 20000 in
theorem gL_act_L_drops : GoodIn wsL_act (va_wsS RL 118 yL_drops wsL_drops) := goodIn_app (goodIn_of _ (by decide +kernel)) ggL_act_L_drops
set_option maxRecDepth 20000 in
theorem ggL_act_X0_hold : GoodIn wsL_act wsX0_hold := goodIn_r _ [119, 120, 201, 202, 203, 204, 205, 206, 207, 208, 209, 210, 211, 212, 213, 214, 215] (by decide +kernel) (by decide +kernel)
set_option maxRecDepth 20000 in
theorem gL_act_X0_hold : GoodIn wsL_act (wsV RL 173 RX0 yX0_hold wsX0_hold) := goodIn_app (goodIn_of _ (by decide +kernel)) ggL_act_X0_hold
set_option maxRecDepth 20000 in
theorem ggL_act_L_closes : GoodIn wsL_act wsL_closes := goodIn_ca (goodIn_r _ [123, 29, 31, 124, 125, 126, 5, 127, 46, 47, 7, 128, 129, 130, 131, 132, 133, 134, 135, 136, 137, 138, 55, 139, 140, 141, 142, 103, 104, 98, 143, 144, 145, 146, 63, 147, 148, 149, 150, 151, 152, 153, 18, 154, 155, 156, 69, 70, 71, 72, 157, 158, 159, 160, 120, 64, 65, 66, 67, 68, 161, 162, 163, 164, 201, 202, 203, 204, 205, 206, 207, 208, 209, 210, 211, 212, 213, 214, 215] (by decide +kernel) (by decide +kernel)) (goodIn_sub (fun _ h => List.mem_cons_of_mem _ (List.mem_append_right _ h)) (by decide +kernel))
set_option maxRecDepth 20000 in
theorem gL_act_L_closes : GoodIn wsL_act (va_wsS RL 148 yL_closes wsL_closes) := goodIn_app (goodIn_of _ (by decide +kernel)) ggL_act_L_closes
set_option maxRecDepth 20000 in
theorem ggL_act_X0_applications : GoodIn wsL_act wsX0_applications := goodIn_r _ [168, 128, 201, 202, 203, 204, 205, 206, 207, 208, 209, 210, 211, 212, 213, 214, 215] (by decide +kernel) (by decide +kernel)
set_option maxRecDepth 20000 in
theorem gL_act_X0_applications : GoodIn wsL_act (wsV RL 89 RX0 yX0_applications wsX0_applications) := goodIn_app (goodIn_of _ (by decide +kernel)) ggL_act_X0_applications
set_option maxRecDepth 20000 in
theorem ggL_act_L_unpaid : GoodIn wsL_act wsL_unpaid := goodIn_ca (goodIn_r _ [171, 165, 166, 167, 5, 168, 128, 172, 173, 10, 174, 12, 13, 175, 176, 177, 178, 130, 179, 180, 181, 182, 23, 24, 201, 202, 203, 204, 205, 206, 207, 208, 209, 210, 211, 212, 213, 214, 215] (by decide +kernel) (by decide +kernel)) (goodIn_sub (fun _ h => List.mem_cons_of_mem _ (List.mem_append_left _ (List.mem_append_left _ (List.mem_append_right _ h)))) (by decide +kernel))
set_option maxRecDepth 20000 in
theorem gL_act_L_unpaid : GoodIn wsL_act (va_wsS RL 177 yL_unpaid wsL_unpaid) := goodIn_app (goodIn_of _ (by decide +kernel)) ggL_act_L_unpaid
set_option maxRecDepth 20000 in
theorem ggL_act_L_pays : GoodIn wsL_act wsL_pays := goodIn_ca (goodIn_ca (goodIn_r _ [185, 12, 29, 13, 31, 186, 187, 188, 5, 189, 46, 47, 130, 129, 179, 180, 181, 182, 23, 24, 128, 190, 191, 192, 193, 201, 202, 203, 204, 205, 206, 207, 208, 209, 210, 211, 212, 213, 214, 215] (by decide +kernel) (by decide +kernel)) (goodIn_sub (fun _ h => List.mem_cons_of_mem _ (List.mem_append_right _ h)) (by decide +kernel))) (goodIn_sub (fun _ h => List.mem_cons_of_mem _ (List.mem_append_left _ (List.mem_append_left _ (List.mem_append_right _ h)))) (by decide +kernel))
set_option maxRecDepth 20000 in
theorem gL_act_L_pays : GoodIn wsL_act (va_wsS RL 121 yL_pays wsL_pays) := goodIn_app (goodIn_of _ (by decide +kernel)) ggL_act_L_pays
set_option maxRecDepth 20000 in
theorem ggL_act_L_waives : GoodIn wsL_act wsL_waives := goodIn_ca (goodIn_ca (goodIn_r _ [196, 12, 29, 13, 31, 197, 198, 199, 5, 200, 46, 47, 130, 179, 180, 181, 182, 23, 24, 128, 190, 191, 192, 193, 201, 202, 203, 204, 205, 206, 207, 208, 209, 210, 211, 212, 213, 214, 215] (by decide +kernel) (by decide +kernel)) (goodIn_sub (fun _ h => List.mem_cons_of_mem _ (List.mem_append_right _ h)) (by decide +kernel))) (goodIn_sub (fun _ h => List.mem_cons_of_mem _ (List.mem_append_left _ (List.mem_append_left _ (List.mem_append_right _ h)))) (by decide +kernel))
set_option maxRecDepth 20000 in
theorem gL_act_L_waives : GoodIn wsL_act (va_wsS RL 124 yL_waives wsL_waives) := goodIn_app (goodIn_of _ (by decide +kernel)) ggL_act_L_waives
theorem dL_act_0 : decode cL_act 0 = .ok (.iload_n 1, 1) := by decide +kernel
theorem dL_act_1 : decode cL_act 1 = .ok (.bipush 16, 2) := by decide +kernel
theorem dL_act_3 : decode cL_act 3 = .ok (.idiv, 1) := by decide +kernel
theorem dL_act_4 : decode cL_act 4 = .ok (.istore_n 2, 1) := by decide +kernel
theorem dL_act_5 : decode cL_act 5 = .ok (.aload_n 0, 1) := by decide +kernel
theorem dL_act_6 : decode cL_act 6 = .ok (.invokevirtual 86, 3) := by decide +kernel
theorem dL_act_9 : decode cL_act 9 = .ok (.ifCond .ne 7, 3) := by decide +kernel
theorem dL_act_12 : decode cL_act 12 = .ok (.iconst 0, 1) := by decide +kernel
theorem dL_act_13 : decode cL_act 13 = .ok (.goto 9, 3) := by decide +kernel
theorem dL_act_16 : decode cL_act 16 = .ok (.iload_n 2, 1) := by decide +kernel
theorem dL_act_17 : decode cL_act 17 = .ok (.aload_n 0, 1) := by decide +kernel
theorem dL_act_18 : decode cL_act 18 = .ok (.invokevirtual 86, 3) := by decide +kernel
theorem dL_act_21 : decode cL_act 21 = .ok (.irem, 1) := by decide +kernel
theorem dL_act_22 : decode cL_act 22 = .ok (.istore_n 3, 1) := by decide +kernel
theorem dL_act_23 : decode cL_act 23 = .ok (.aload_n 0, 1) := by decide +kernel
theorem dL_act_24 : decode cL_act 24 = .ok (.invokevirtual 86, 3) := by decide +kernel
theorem dL_act_27 : decode cL_act 27 = .ok (.ifCond .ne 7, 3) := by decide +kernel
theorem dL_act_30 : decode cL_act 30 = .ok (.iconst 0, 1) := by decide +kernel
theorem dL_act_31 : decode cL_act 31 = .ok (.goto 8, 3) := by decide +kernel
theorem dL_act_34 : decode cL_act 34 = .ok (.aload_n 0, 1) := by decide +kernel
theorem dL_act_35 : decode cL_act 35 = .ok (.iload_n 3, 1) := by decide +kernel
theorem dL_act_36 : decode cL_act 36 = .ok (.invokestatic 135, 3) := by decide +kernel
theorem dL_act_39 : decode cL_act 39 = .ok (.istore 4, 2) := by decide +kernel
theorem dL_act_41 : decode cL_act 41 = .ok (.iload_n 1, 1) := by decide +kernel
theorem dL_act_42 : decode cL_act 42 = .ok (.bipush 16, 2) := by decide +kernel
theorem dL_act_44 : decode cL_act 44 = .ok (.irem, 1) := by decide +kernel
theorem dL_act_45 : decode cL_act 45 = .ok (.tableswitch 263 0 14 #[75, 75, 96, 106, 106, 106, 120, 120, 139, 155, 176, 221, 221, 226, 226], 75) := by decide +kernel
theorem dL_act_120 : decode cL_act 120 = .ok (.aload_n 0, 1) := by decide +kernel
theorem dL_act_121 : decode cL_act 121 = .ok (.iload_n 2, 1) := by decide +kernel
theorem dL_act_122 : decode cL_act 122 = .ok (.iload_n 2, 1) := by decide +kernel
theorem dL_act_123 : decode cL_act 123 = .ok (.iconst 2, 1) := by decide +kernel
theorem dL_act_124 : decode cL_act 124 = .ok (.irem, 1) := by decide +kernel
theorem dL_act_125 : decode cL_act 125 = .ok (.ifCond .ne 9, 3) := by decide +kernel
theorem dL_act_128 : decode cL_act 128 = .ok (.sipush 500, 3) := by decide +kernel
theorem dL_act_131 : decode cL_act 131 = .ok (.goto 5, 3) := by decide +kernel
theorem dL_act_134 : decode cL_act 134 = .ok (.ldc 98, 2) := by decide +kernel
theorem dL_act_136 : decode cL_act 136 = .ok (.irem, 1) := by decide +kernel
theorem dL_act_137 : decode cL_act 137 = .ok (.invokestatic 92, 3) := by decide +kernel
theorem dL_act_140 : decode cL_act 140 = .ok (.ireturn, 1) := by decide +kernel
theorem dL_act_141 : decode cL_act 141 = .ok (.aload_n 0, 1) := by decide +kernel
theorem dL_act_142 : decode cL_act 142 = .ok (.iload_n 3, 1) := by decide +kernel
theorem dL_act_143 : decode cL_act 143 = .ok (.iload_n 2, 1) := by decide +kernel
theorem dL_act_144 : decode cL_act 144 = .ok (.ldc 98, 2) := by decide +kernel
theorem dL_act_146 : decode cL_act 146 = .ok (.irem, 1) := by decide +kernel
theorem dL_act_147 : decode cL_act 147 = .ok (.invokestatic 99, 3) := by decide +kernel
theorem dL_act_150 : decode cL_act 150 = .ok (.ireturn, 1) := by decide +kernel
theorem dL_act_151 : decode cL_act 151 = .ok (.aload_n 0, 1) := by decide +kernel
theorem dL_act_152 : decode cL_act 152 = .ok (.iload_n 3, 1) := by decide +kernel
theorem dL_act_153 : decode cL_act 153 = .ok (.iload_n 2, 1) := by decide +kernel
theorem dL_act_154 : decode cL_act 154 = .ok (.bipush 16, 2) := by decide +kernel
theorem dL_act_156 : decode cL_act 156 = .ok (.idiv, 1) := by decide +kernel
theorem dL_act_157 : decode cL_act 157 = .ok (.sipush 1001, 3) := by decide +kernel
theorem dL_act_160 : decode cL_act 160 = .ok (.irem, 1) := by decide +kernel
theorem dL_act_161 : decode cL_act 161 = .ok (.invokestatic 106, 3) := by decide +kernel
theorem dL_act_164 : decode cL_act 164 = .ok (.ireturn, 1) := by decide +kernel
theorem dL_act_165 : decode cL_act 165 = .ok (.aload_n 0, 1) := by decide +kernel
theorem dL_act_166 : decode cL_act 166 = .ok (.iload_n 3, 1) := by decide +kernel
theorem dL_act_167 : decode cL_act 167 = .ok (.iconst 1, 1) := by decide +kernel
theorem dL_act_168 : decode cL_act 168 = .ok (.iload_n 2, 1) := by decide +kernel
theorem dL_act_169 : decode cL_act 169 = .ok (.bipush 16, 2) := by decide +kernel
theorem dL_act_171 : decode cL_act 171 = .ok (.idiv, 1) := by decide +kernel
theorem dL_act_172 : decode cL_act 172 = .ok (.iload 4, 2) := by decide +kernel
theorem dL_act_174 : decode cL_act 174 = .ok (.iconst 2, 1) := by decide +kernel
theorem dL_act_175 : decode cL_act 175 = .ok (.idiv, 1) := by decide +kernel
theorem dL_act_176 : decode cL_act 176 = .ok (.iconst 1, 1) := by decide +kernel
theorem dL_act_177 : decode cL_act 177 = .ok (.iadd, 1) := by decide +kernel
theorem dL_act_178 : decode cL_act 178 = .ok (.irem, 1) := by decide +kernel
theorem dL_act_179 : decode cL_act 179 = .ok (.iadd, 1) := by decide +kernel
theorem dL_act_180 : decode cL_act 180 = .ok (.invokestatic 109, 3) := by decide +kernel
theorem dL_act_183 : decode cL_act 183 = .ok (.ireturn, 1) := by decide +kernel
theorem dL_act_184 : decode cL_act 184 = .ok (.aload_n 0, 1) := by decide +kernel
theorem dL_act_185 : decode cL_act 185 = .ok (.iload_n 3, 1) := by decide +kernel
