theorem dL_act_186 : decode cL_act 186 = .ok (.iconst 1, 1) := by decide +kernel
theorem dL_act_187 : decode cL_act 187 = .ok (.iload_n 2, 1) := by decide +kernel
theorem dL_act_188 : decode cL_act 188 = .ok (.bipush 16, 2) := by decide +kernel
theorem dL_act_190 : decode cL_act 190 = .ok (.idiv, 1) := by decide +kernel
theorem dL_act_191 : decode cL_act 191 = .ok (.sipush 500, 3) := by decide +kernel
theorem dL_act_194 : decode cL_act 194 = .ok (.irem, 1) := by decide +kernel
theorem dL_act_195 : decode cL_act 195 = .ok (.iadd, 1) := by decide +kernel
theorem dL_act_196 : decode cL_act 196 = .ok (.invokestatic 112, 3) := by decide +kernel
theorem dL_act_199 : decode cL_act 199 = .ok (.ireturn, 1) := by decide +kernel
theorem dL_act_200 : decode cL_act 200 = .ok (.aload_n 0, 1) := by decide +kernel
theorem dL_act_201 : decode cL_act 201 = .ok (.iload_n 2, 1) := by decide +kernel
theorem dL_act_202 : decode cL_act 202 = .ok (.bipush 7, 2) := by decide +kernel
theorem dL_act_204 : decode cL_act 204 = .ok (.irem, 1) := by decide +kernel
theorem dL_act_205 : decode cL_act 205 = .ok (.sipush 150, 3) := by decide +kernel
theorem dL_act_208 : decode cL_act 208 = .ok (.imul, 1) := by decide +kernel
theorem dL_act_209 : decode cL_act 209 = .ok (.iload_n 2, 1) := by decide +kernel
theorem dL_act_210 : decode cL_act 210 = .ok (.bipush 7, 2) := by decide +kernel
theorem dL_act_212 : decode cL_act 212 = .ok (.idiv, 1) := by decide +kernel
theorem dL_act_213 : decode cL_act 213 = .ok (.sipush 1001, 3) := by decide +kernel
theorem dL_act_216 : decode cL_act 216 = .ok (.irem, 1) := by decide +kernel
theorem dL_act_217 : decode cL_act 217 = .ok (.invokestatic 115, 3) := by decide +kernel
theorem dL_act_220 : decode cL_act 220 = .ok (.ireturn, 1) := by decide +kernel
theorem dL_act_221 : decode cL_act 221 = .ok (.iload_n 2, 1) := by decide +kernel
theorem dL_act_222 : decode cL_act 222 = .ok (.iconst 3, 1) := by decide +kernel
theorem dL_act_223 : decode cL_act 223 = .ok (.irem, 1) := by decide +kernel
theorem dL_act_224 : decode cL_act 224 = .ok (.ifCond .ne 18, 3) := by decide +kernel
theorem dL_act_227 : decode cL_act 227 = .ok (.aload_n 0, 1) := by decide +kernel
theorem dL_act_228 : decode cL_act 228 = .ok (.iload_n 2, 1) := by decide +kernel
theorem dL_act_229 : decode cL_act 229 = .ok (.bipush 7, 2) := by decide +kernel
theorem dL_act_231 : decode cL_act 231 = .ok (.irem, 1) := by decide +kernel
theorem dL_act_232 : decode cL_act 232 = .ok (.sipush 150, 3) := by decide +kernel
theorem dL_act_235 : decode cL_act 235 = .ok (.imul, 1) := by decide +kernel
theorem dL_act_236 : decode cL_act 236 = .ok (.invokestatic 118, 3) := by decide +kernel
theorem dL_act_239 : decode cL_act 239 = .ok (.goto 26, 3) := by decide +kernel
theorem dL_act_242 : decode cL_act 242 = .ok (.aload_n 0, 1) := by decide +kernel
theorem dL_act_243 : decode cL_act 243 = .ok (.iload_n 2, 1) := by decide +kernel
theorem dL_act_244 : decode cL_act 244 = .ok (.iconst 2, 1) := by decide +kernel
theorem dL_act_245 : decode cL_act 245 = .ok (.irem, 1) := by decide +kernel
theorem dL_act_246 : decode cL_act 246 = .ok (.ifCond .ne 7, 3) := by decide +kernel
theorem dL_act_249 : decode cL_act 249 = .ok (.iconst 1, 1) := by decide +kernel
theorem dL_act_250 : decode cL_act 250 = .ok (.goto 4, 3) := by decide +kernel
theorem dL_act_253 : decode cL_act 253 = .ok (.iconst 0, 1) := by decide +kernel
theorem dL_act_254 : decode cL_act 254 = .ok (.invokevirtual 173, 3) := by decide +kernel
theorem dL_act_257 : decode cL_act 257 = .ok (.ifCond .eq 7, 3) := by decide +kernel
theorem dL_act_260 : decode cL_act 260 = .ok (.iconst 1, 1) := by decide +kernel
theorem dL_act_261 : decode cL_act 261 = .ok (.goto 4, 3) := by decide +kernel
theorem dL_act_264 : decode cL_act 264 = .ok (.iconst 0, 1) := by decide +kernel
theorem dL_act_265 : decode cL_act 265 = .ok (.ireturn, 1) := by decide +kernel
theorem dL_act_266 : decode cL_act 266 = .ok (.aload_n 0, 1) := by decide +kernel
theorem dL_act_267 : decode cL_act 267 = .ok (.invokestatic 148, 3) := by decide +kernel
theorem dL_act_270 : decode cL_act 270 = .ok (.ireturn, 1) := by decide +kernel
theorem dL_act_271 : decode cL_act 271 = .ok (.aload_n 0, 1) := by decide +kernel
theorem dL_act_272 : decode cL_act 272 = .ok (.aload_n 0, 1) := by decide +kernel
theorem dL_act_273 : decode cL_act 273 = .ok (.invokevirtual 89, 3) := by decide +kernel
theorem dL_act_276 : decode cL_act 276 = .ok (.ifCond .ne 7, 3) := by decide +kernel
theorem dL_act_279 : decode cL_act 279 = .ok (.iconst 0, 1) := by decide +kernel
theorem dL_act_280 : decode cL_act 280 = .ok (.goto 24, 3) := by decide +kernel
theorem dL_act_283 : decode cL_act 283 = .ok (.iload_n 2, 1) := by decide +kernel
theorem dL_act_284 : decode cL_act 284 = .ok (.iconst 3, 1) := by decide +kernel
theorem dL_act_285 : decode cL_act 285 = .ok (.irem, 1) := by decide +kernel
theorem dL_act_286 : decode cL_act 286 = .ok (.ifCond .ne 14, 3) := by decide +kernel
theorem dL_act_289 : decode cL_act 289 = .ok (.iload_n 2, 1) := by decide +kernel
theorem dL_act_290 : decode cL_act 290 = .ok (.iconst 3, 1) := by decide +kernel
theorem dL_act_291 : decode cL_act 291 = .ok (.idiv, 1) := by decide +kernel
theorem dL_act_292 : decode cL_act 292 = .ok (.aload_n 0, 1) := by decide +kernel
theorem dL_act_293 : decode cL_act 293 = .ok (.invokevirtual 89, 3) := by decide +kernel
theorem dL_act_296 : decode cL_act 296 = .ok (.irem, 1) := by decide +kernel
theorem dL_act_297 : decode cL_act 297 = .ok (.goto 7, 3) := by decide +kernel
theorem dL_act_300 : decode cL_act 300 = .ok (.aload_n 0, 1) := by decide +kernel
theorem dL_act_301 : decode cL_act 301 = .ok (.invokestatic 177, 3) := by decide +kernel
theorem dL_act_304 : decode cL_act 304 = .ok (.invokestatic 121, 3) := by decide +kernel
theorem dL_act_307 : decode cL_act 307 = .ok (.ireturn, 1) := by decide +kernel
theorem dL_act_308 : decode cL_act 308 = .ok (.aload_n 0, 1) := by decide +kernel
theorem dL_act_309 : decode cL_act 309 = .ok (.aload_n 0, 1) := by decide +kernel
theorem dL_act_310 : decode cL_act 310 = .ok (.invokevirtual 89, 3) := by decide +kernel
theorem dL_act_313 : decode cL_act 313 = .ok (.ifCond .ne 7, 3) := by decide +kernel
theorem dL_act_316 : decode cL_act 316 = .ok (.iconst 0, 1) := by decide +kernel
theorem dL_act_317 : decode cL_act 317 = .ok (.goto 26, 3) := by decide +kernel
theorem dL_act_320 : decode cL_act 320 = .ok (.iload_n 2, 1) := by decide +kernel
theorem dL_act_321 : decode cL_act 321 = .ok (.iconst 3, 1) := by decide +kernel
theorem dL_act_322 : decode cL_act 322 = .ok (.irem, 1) := by decide +kernel
theorem dL_act_323 : decode cL_act 323 = .ok (.ifCond .ne 14, 3) := by decide +kernel
theorem dL_act_326 : decode cL_act 326 = .ok (.iload_n 2, 1) := by decide +kernel
theorem dL_act_327 : decode cL_act 327 = .ok (.iconst 3, 1) := by decide +kernel
theorem dL_act_328 : decode cL_act 328 = .ok (.idiv, 1) := by decide +kernel
theorem dL_act_329 : decode cL_act 329 = .ok (.aload_n 0, 1) := by decide +kernel
theorem dL_act_330 : decode cL_act 330 = .ok (.invokevirtual 89, 3) := by decide +kernel
theorem dL_act_333 : decode cL_act 333 = .ok (.irem, 1) := by decide +kernel
theorem dL_act_334 : decode cL_act 334 = .ok (.goto 9, 3) := by decide +kernel
theorem dL_act_337 : decode cL_act 337 = .ok (.aload_n 0, 1) := by decide +kernel
theorem dL_act_338 : decode cL_act 338 = .ok (.invokestatic 177, 3) := by decide +kernel
theorem dL_act_341 : decode cL_act 341 = .ok (.iconst 1, 1) := by decide +kernel
theorem dL_act_342 : decode cL_act 342 = .ok (.isub, 1) := by decide +kernel
theorem dL_act_343 : decode cL_act 343 = .ok (.invokestatic 124, 3) := by decide +kernel
theorem dL_act_346 : decode cL_act 346 = .ok (.ireturn, 1) := by decide +kernel
set_option maxRecDepth 20000 in
theorem ggL_unpaid_X0_applications : GoodIn wsL_unpaid wsX0_applications := goodIn_r _ [5, 6, 24, 25, 26, 27, 28, 29, 30, 31, 32, 33, 34, 35, 36, 37, 38] (by decide +kernel) (by decide +kernel)
set_option maxRecDepth 20000 in
theorem gL_unpaid_X0_applications : GoodIn wsL_unpaid (wsV RL 89 RX0 yX0_applications wsX0_applications) := goodIn_app (goodIn_of _ (by decide +kernel)) ggL_unpaid_X0_applications
set_option maxRecDepth 20000 in
theorem ggL_unpaid_L_state : GoodIn wsL_unpaid wsL_state := goodIn_ca (goodIn_r _ [10, 11, 12, 13, 14, 15, 4, 16, 17, 18, 19, 20, 21, 22, 23, 6, 24, 25, 26, 27, 28, 29, 30, 31, 32, 33, 34, 35, 36, 37, 38] (by decide +kernel) (by decide +kernel)) (goodIn_sub (fun _ h => List.mem_cons_of_mem _ (List.mem_append_right _ h)) (by decide +kernel))
set_option maxRecDepth 20000 in
theorem gL_unpaid_L_state : GoodIn wsL_unpaid (va_wsS RL 127 yL_state wsL_state) := goodIn_app (goodIn_of _ (by decide +kernel)) ggL_unpaid_L_state
theorem dL_unpaid_0 : decode cL_unpaid 0 = .ok (.iconst 0, 1) := by decide +kernel
theorem dL_unpaid_1 : decode cL_unpaid 1 = .ok (.istore_n 1, 1) := by decide +kernel
theorem dL_unpaid_2 : decode cL_unpaid 2 = .ok (.iload_n 1, 1) := by decide +kernel
theorem dL_unpaid_3 : decode cL_unpaid 3 = .ok (.aload_n 0, 1) := by decide +kernel
theorem dL_unpaid_4 : decode cL_unpaid 4 = .ok (.invokevirtual 89, 3) := by decide +kernel
theorem dL_unpaid_7 : decode cL_unpaid 7 = .ok (.if_icmp .ge 17, 3) := by decide +kernel
theorem dL_unpaid_10 : decode cL_unpaid 10 = .ok (.aload_n 0, 1) := by decide +kernel
theorem dL_unpaid_11 : decode cL_unpaid 11 = .ok (.iload_n 1, 1) := by decide +kernel
theorem dL_unpaid_12 : decode cL_unpaid 12 = .ok (.invokestatic 127, 3) := by decide +kernel
theorem dL_unpaid_15 : decode cL_unpaid 15 = .ok (.ifCond .le 9, 3) := by decide +kernel
theorem dL_unpaid_18 : decode cL_unpaid 18 = .ok (.iinc 1 1, 3) := by decide +kernel
theorem dL_unpaid_21 : decode cL_unpaid 21 = .ok (.goto (-19), 3) := by decide +kernel
theorem dL_unpaid_24 : decode cL_unpaid 24 = .ok (.iload_n 1, 1) := by decide +kernel
theorem dL_unpaid_25 : decode cL_unpaid 25 = .ok (.ireturn, 1) := by decide +kernel
set_option maxRecDepth 20000 in
theorem ggL_law_X0_init : GoodIn wsL_law wsX0_init := goodIn_r _ [6, 7, 8, 9, 10, 11, 12, 13, 14, 15, 16, 17, 18, 19, 20, 21, 22, 327, 328, 329, 330, 331, 332, 333, 334, 335, 336, 337, 338, 339, 340, 341] (by decide +kernel) (by decide +kernel)
set_option maxRecDepth 20000 in
theorem gL_law_X0_init : GoodIn wsL_law (wsX0_init) := ggL_law_X0_init
set_option maxRecDepth 20000 in
theorem ggL_law_L_drawn : GoodIn wsL_law wsL_drawn := goodIn_r _ [26, 27, 28] (by decide +kernel) (by decide +kernel)
set_option maxRecDepth 20000 in
theorem gL_law_L_drawn : GoodIn wsL_law (va_wsS RL 181 yL_drawn wsL_drawn) := goodIn_app (goodIn_of _ (by decide +kernel)) ggL_law_L_drawn
set_option maxRecDepth 20000 in
theorem ggL_law_L_refuses : GoodIn wsL_law wsL_refuses := goodIn_ca (goodIn_ca (goodIn_ca (goodIn_r _ [31, 3, 32, 33, 34, 35, 36, 37, 38, 2, 39, 40, 41, 42, 43, 44, 45, 46, 47, 25, 48, 49, 50, 51, 52, 53, 54, 55, 11, 56, 57, 58, 59, 60, 61, 62, 63, 64, 65, 66, 67, 68, 69, 70, 71, 72, 73, 74, 12, 75, 76, 77, 78, 79, 80, 81, 82, 83, 84, 85, 86, 87, 13, 14, 15, 88, 89, 90, 91, 92, 93, 94, 95, 96, 97, 98, 99, 100, 101, 102, 103, 104, 105, 106, 107, 108, 109, 110, 111, 112, 113, 114, 115, 116, 117, 118, 119, 120, 121, 122, 123, 124, 125, 126, 127, 128, 129, 130, 131, 132, 133, 134, 17, 135, 136, 137, 138, 22, 16, 139, 140, 141, 142, 143, 144, 145, 146, 147, 148, 149, 150, 151, 152, 153, 154, 155, 156, 18, 19, 157, 158, 159, 160, 161, 162, 163, 164, 165, 166, 167, 168, 169, 170, 171, 172, 173, 174, 175, 176, 177, 178, 179, 180, 181, 182, 183, 184, 185, 186, 187, 188, 189, 190, 191, 192, 20, 193, 194, 195, 196, 197, 198, 199, 21, 200, 201, 202, 203, 204, 205, 206, 207, 208, 209, 210, 211, 212, 213, 214, 215, 216, 217, 218, 219, 220, 221, 222, 223, 224, 225, 226, 227, 228, 229, 230, 231, 232, 233, 234, 235, 236, 237, 238, 239, 240, 241, 242, 243, 244, 245, 246, 247, 248, 249, 250, 251, 252, 253, 254, 255, 256, 257, 258, 259, 260, 261, 262, 263, 264, 265, 266, 267, 268, 269, 270, 271, 272, 273, 274, 275, 276, 277, 278, 279, 280, 281, 282, 283, 284, 285, 286, 287, 288, 289, 290, 291, 292, 327, 328, 329, 330, 331, 332, 333, 334, 335, 336, 337, 338, 339, 340, 341] rfl (by decide +kernel)) (goodIn_sub (fun _ h => List.mem_append_left _ (List.mem_append_left _ (List.mem_append_right _ h))) (by decide +kernel))) (goodIn_sub (fun _ h => List.mem_append_left _ (List.mem_append_right _ h)) (by decide +kernel))) (goodIn_sub (fun _ h => List.mem_append_right _ h) (by decide +kernel))
set_option maxRecDepth 20000 in
theorem gL_law_L_refuses : GoodIn wsL_law (va_wsS RL 185 yL_refuses wsL_refuses) := goodIn_app (goodIn_of _ (by decide +kernel)) ggL_law_L_refuses
set_option maxRecDepth 20000 in
theorem ggL_law_L_act : GoodIn wsL_law wsL_act := goodIn_ca (goodIn_ca (goodIn_ca (goodIn_r _ [295, 32, 36, 37, 38, 2, 39, 40, 200, 201, 25, 202, 70, 33, 203, 204, 205, 206, 11, 75, 76, 77, 78, 79, 80, 46, 47, 48, 49, 50, 3, 34, 51, 52, 53, 54, 55, 56, 57, 58, 59, 60, 61, 62, 63, 64, 65, 66, 67, 68, 69, 71, 72, 73, 74, 12, 98, 99, 100, 101, 102, 103, 104, 13, 105, 106, 107, 108, 109, 94, 95, 96, 97, 110, 111, 112, 113, 114, 115, 116, 117, 118, 119, 120, 121, 122, 123, 124, 125, 126, 127, 128, 129, 130, 131, 132, 133, 134, 17, 135, 136, 137, 138, 22, 16, 139, 140, 141, 142, 143, 144, 145, 146, 147, 148, 149, 296, 297, 298, 299, 288, 258, 259, 260, 261, 262, 263, 264, 45, 19, 18, 20, 14, 21, 15, 265, 266, 267, 268, 269, 270, 271, 272, 273, 274, 275, 276, 277, 278, 279, 280, 281, 282, 283, 91, 92, 93, 284, 285, 286, 287, 289, 290, 291, 292, 41, 42, 43, 44, 300, 301, 302, 172, 173, 174, 175, 176, 177, 178, 157, 158, 159, 160, 150, 151, 152, 153, 154, 155, 156, 161, 162, 163, 164, 165, 166, 167, 168, 169, 170, 171, 327, 328, 329, 330, 331, 332, 333, 334, 335, 336, 337, 338, 339, 340, 341] rfl (by decide +kernel)) (goodIn_sub (fun _ h => List.mem_append_right _ h) (by decide +kernel))) (goodIn_sub (fun _ h => List.mem_append_left _ (List.mem_append_left _ (List.mem_append_right _ h))) (by decide +kernel))) (goodIn_sub (fun _ h => List.mem_append_left _ (List.mem_append_right _ h)) (by decide +kernel))
set_option maxRecDepth 20000 in
theorem gL_law_L_act : GoodIn wsL_law (va_wsS RL 189 yL_act wsL_act) := goodIn_app (goodIn_of _ (by decide +kernel)) ggL_law_L_act
set_option maxRecDepth 20000 in
theorem ggL_law_L_alike : GoodIn wsL_law wsL_alike := goodIn_ca (goodIn_r _ [305, 36, 37, 38, 2, 39, 40, 207, 208, 25, 209, 70, 33, 210, 211, 212, 213, 13, 75, 76, 77, 78, 79, 80, 214, 215, 216, 217, 218, 219, 220, 12, 221, 222, 223, 224, 225, 226, 227, 14, 228, 229, 230, 231, 232, 233, 234, 15, 306, 281, 282, 283, 11, 277, 278, 279, 307, 274, 275, 276, 280, 91, 92, 93, 94, 95, 96, 97, 308, 270, 271, 272, 22, 16, 17, 273, 309, 310, 311, 312, 327, 328, 329, 330, 331, 332, 333, 334, 335, 336, 337, 338, 339, 340, 341] rfl (by decide +kernel)) (goodIn_sub (fun _ h => List.mem_append_right _ h) (by decide +kernel))
set_option maxRecDepth 20000 in
theorem gL_law_L_alike : GoodIn wsL_law (va_wsS RL 192 yL_alike wsL_alike) := goodIn_app (goodIn_of _ (by decide +kernel)) ggL_law_L_alike
set_option maxRecDepth 20000 in
theorem ggL_law_X0_nextAmount : GoodIn wsL_law wsX0_nextAmount := goodIn_r _ [268, 12, 40, 19, 45, 269, 270, 271, 2, 272, 22, 16, 17, 273, 274, 275, 276, 13, 277, 278, 279, 280, 281, 282, 283, 11, 91, 92, 93, 94, 95, 96, 97, 284, 285, 286, 287, 288, 15, 14, 105, 106, 107, 108, 109, 327, 328, 329, 330, 331, 332, 333, 334, 335, 336, 337, 338, 339, 340, 341] (by decide +kernel) (by decide +kernel)
set_option maxRecDepth 20000 in
theorem gL_law_X0_nextAmount : GoodIn wsL_law (wsV RL 196 RX0 yX0_nextAmount wsX0_nextAmount) := goodIn_app (goodIn_of _ (by decide +kernel)) ggL_law_X0_nextAmount
set_option maxRecDepth 20000 in
theorem ggL_law_X0_paid : GoodIn wsL_law wsX0_paid := goodIn_r _ [317, 45, 18, 19, 327, 328, 329, 330, 331, 332, 333, 334, 335, 336, 337, 338, 339, 340, 341] (by decide +kernel) (by decide +kernel)
set_option maxRecDepth 20000 in
theorem gL_law_X0_paid : GoodIn wsL_law (wsV RL 165 RX0 yX0_paid wsX0_paid) := goodIn_app (goodIn_of _ (by decide +kernel)) ggL_law_X0_paid
set_option maxRecDepth 20000 in
theorem ggL_law_L_holds : GoodIn wsL_law wsL_holds := goodIn_ca (goodIn_r _ [320, 321, 36, 37, 38, 2, 39, 40, 207, 208, 25, 209, 70, 33, 210, 211, 212, 213, 13, 75, 76, 77, 78, 79, 80, 214, 215, 216, 217, 218, 219, 220, 12, 200, 201, 202, 203, 204, 205, 206, 11, 221, 222, 223, 224, 225, 226, 227, 14, 228, 229, 230, 231, 232, 233, 234, 15, 41, 42, 43, 44, 45, 172, 173, 174, 175, 176, 177, 178, 18, 157, 158, 159, 160, 179, 180, 181, 182, 183, 184, 185, 19, 186, 187, 188, 189, 190, 191, 192, 20, 193, 194, 195, 196, 197, 198, 199, 21, 235, 236, 237, 238, 239, 240, 241, 242, 243, 244, 245, 246, 247, 248, 249, 250, 251, 252, 253, 254, 255, 256, 257, 306, 281, 282, 283, 277, 278, 279, 314, 315, 316, 317, 322, 323, 324, 325, 280, 326, 307, 274, 275, 276, 91, 92, 93, 94, 95, 96, 97, 327, 328, 329, 330, 331, 332, 333, 334, 335, 336, 337, 338, 339, 340, 341] rfl (by decide +kernel)) (goodIn_sub (fun _ h => List.mem_append_right _ h) (by decide +kernel))
set_option maxRecDepth 20000 in
theorem gL_law_L_holds : GoodIn wsL_law (va_wsS RL 199 yL_holds wsL_holds) := goodIn_app (goodIn_of _ (by decide +kernel)) ggL_law_L_holds
set_option maxRecDepth 20000 in
theorem ggL_law_X0_lines : GoodIn wsL_law wsX0_lines := goodIn_r _ [39, 40, 327, 328, 329, 330, 331, 332, 333, 334, 335, 336, 337, 338, 339, 340, 341] (by decide +kernel) (by decide +kernel)
set_option maxRecDepth 20000 in
theorem gL_law_X0_lines : GoodIn wsL_law (wsV RL 86 RX0 yX0_lines wsX0_lines) := goodIn_app (goodIn_of _ (by decide +kernel)) ggL_law_X0_lines
set_option maxRecDepth 20000 in
theorem ggL_law_L_value : GoodIn wsL_law wsL_value := goodIn_ca (goodIn_r _ [202, 70, 33, 203, 204, 205, 2, 206, 11, 75, 76, 77, 78, 79, 80, 40, 327, 328, 329, 330, 331, 332, 333, 334, 335, 336, 337, 338, 339, 340, 341] (by decide +kernel) (by decide +kernel)) (goodIn_sub (fun _ h => List.mem_append_right _ h) (by decide +kernel))
set_option maxRecDepth 20000 in
theorem gL_law_L_value : GoodIn wsL_law (va_wsS RL 135 yL_value wsL_value) := goodIn_app (goodIn_of _ (by decide +kernel)) ggL_law_L_value
set_option maxRecDepth 20000 in
theorem ggL_law_L_billed : GoodIn wsL_law wsL_billed := goodIn_ca (goodIn_r _ [223, 70, 33, 224, 225, 226, 2, 227, 14, 75, 76, 77, 78, 79, 80, 40, 327, 328, 329, 330, 331, 332, 333, 334, 335, 336, 337, 338, 339, 340, 341] (by decide +kernel) (by decide +kernel)) (goodIn_sub (fun _ h => List.mem_append_right _ h) (by decide +kernel))
set_option maxRecDepth 20000 in
theorem gL_law_L_billed : GoodIn wsL_law (va_wsS RL 141 yL_billed wsL_billed) := goodIn_app (goodIn_of _ (by decide +kernel)) ggL_law_L_billed
set_option maxRecDepth 20000 in
theorem ggL_law_L_splits : GoodIn wsL_law wsL_splits := goodIn_ca (goodIn_ca (goodIn_ca (goodIn_r _ [83, 70, 49, 50, 33, 3, 34, 84, 85, 86, 2, 87, 11, 40, 12, 13, 14, 15, 75, 76, 77, 78, 79, 80, 56, 57, 58, 59, 60, 61, 62, 63, 64, 65, 66, 88, 89, 90, 91, 92, 93, 94, 95, 96, 97, 327, 328, 329, 330, 331, 332, 333, 334, 335, 336, 337, 338, 339, 340, 341] (by decide +kernel) (by decide +kernel)) (goodIn_sub (fun _ h => List.mem_append_right _ h) (by decide +kernel))) (goodIn_sub (fun _ h => List.mem_append_left _ (List.mem_append_left _ (List.mem_append_right _ h))) (by decide +kernel))) (goodIn_sub (fun _ h => List.mem_append_left _ (List.mem_append_right _ h)) (by decide +kernel))
set_option maxRecDepth 20000 in
theorem gL_law_L_splits : GoodIn wsL_law (va_wsS RL 103 yL_splits wsL_splits) := goodIn_app (goodIn_of _ (by decide +kernel)) ggL_law_L_splits
set_option maxRecDepth 20000 in
theorem ggL_law_X0_applications : GoodIn wsL_law wsX0_applications := goodIn_r _ [44, 45, 327, 328, 329, 330, 331, 332, 333, 334, 335, 336, 337, 338, 339, 340, 341] (by decide +kernel) (by decide +kernel)
set_option maxRecDepth 20000 in
theorem gL_law_X0_applications : GoodIn wsL_law (wsV RL 89 RX0 yX0_applications wsX0_applications) := goodIn_app (goodIn_of _ (by decide +kernel)) ggL_law_X0_applications
set_option maxRecDepth 20000 in
theorem ggL_law_L_closes : GoodIn wsL_law wsL_closes := goodIn_ca (goodIn_r _ [260, 50, 34, 261, 262, 263, 2, 264, 65, 66, 40, 45, 19, 18, 20, 14, 21, 15, 265, 266, 267, 268, 12, 269, 270, 271, 272, 22, 16, 17, 273, 274, 275, 276, 13, 277, 278, 279, 280, 281, 282, 283, 11, 91, 92, 93, 94, 95, 96, 97, 284, 285, 286, 287, 288, 105, 106, 107, 108, 109, 289, 290, 291, 292, 327, 328, 329, 330, 331, 332, 333, 334, 335, 336, 337, 338, 339, 340, 341] (by decide +kernel) (by decide +kernel)) (goodIn_sub (fun _ h => List.mem_append_left _ (List.mem_append_right _ h)) (by decide +kernel))
set_option maxRecDepth 20000 in
theorem gL_law_L_closes : GoodIn wsL_law (va_wsS RL 148 yL_closes wsL_closes) := goodIn_app (goodIn_of _ (by decide +kernel)) ggL_law_L_closes
set_option maxRecDepth 20000 in
theorem ggL_law_L_amount : GoodIn wsL_law wsL_amount := goodIn_ca (goodIn_r _ [181, 70, 33, 182, 183, 184, 2, 185, 19, 157, 158, 159, 160, 79, 80, 45, 327, 328, 329, 330, 331, 332, 333, 334, 335, 336, 337, 338, 339, 340, 341] (by decide +kernel) (by decide +kernel)) (goodIn_sub (fun _ h => List.mem_append_right _ h) (by decide +kernel))
set_option maxRecDepth 20000 in
theorem gL_law_L_amount : GoodIn wsL_law (va_wsS RL 129 yL_amount wsL_amount) := goodIn_app (goodIn_of _ (by decide +kernel)) ggL_law_L_amount
theorem dL_law_0 : decode cL_law 0 = .ok (.new 8, 3) := by decide +kernel
theorem dL_law_3 : decode cL_law 3 = .ok (.dup, 1) := by decide +kernel
theorem dL_law_4 : decode cL_law 4 = .ok (.invokespecial 180, 3) := by decide +kernel
theorem dL_law_7 : decode cL_law 7 = .ok (.astore_n 1, 1) := by decide +kernel
theorem dL_law_8 : decode cL_law 8 = .ok (.new 8, 3) := by decide +kernel
theorem dL_law_11 : decode cL_law 11 = .ok (.dup, 1) := by decide +kernel
theorem dL_law_12 : decode cL_law 12 = .ok (.invokespecial 180, 3) := by decide +kernel
theorem dL_law_15 : decode cL_law 15 = .ok (.astore_n 2, 1) := by decide +kernel
theorem dL_law_16 : decode cL_law 16 = .ok (.bipush 16, 2) := by decide +kernel
theorem dL_law_18 : decode cL_law 18 = .ok (.aload_n 0, 1) := by decide +kernel
theorem dL_law_19 : decode cL_law 19 = .ok (.iconst 0, 1) := by decide +kernel
theorem dL_law_20 : decode cL_law 20 = .ok (.invokestatic 181, 3) := by decide +kernel
theorem dL_law_23 : decode cL_law 23 = .ok (.bipush 45, 2) := by decide +kernel
theorem dL_law_25 : decode cL_law 25 = .ok (.irem, 1) := by decide +kernel
theorem dL_law_26 : decode cL_law 26 = .ok (.iadd, 1) := by decide +kernel
theorem dL_law_27 : decode cL_law 27 = .ok (.istore_n 3, 1) := by decide +kernel
theorem dL_law_28 : decode cL_law 28 = .ok (.iconst 1, 1) := by decide +kernel
theorem dL_law_29 : decode cL_law 29 = .ok (.istore 4, 2) := by decide +kernel
theorem dL_law_31 : decode cL_law 31 = .ok (.iconst 0, 1) := by decide +kernel
theorem dL_law_32 : decode cL_law 32 = .ok (.istore 5, 2) := by decide +kernel
theorem dL_law_34 : decode cL_law 34 = .ok (.iload 5, 2) := by decide +kernel
theorem dL_law_36 : decode cL_law 36 = .ok (.iload_n 3, 1) := by decide +kernel
theorem dL_law_37 : decode cL_law 37 = .ok (.if_icmp .ge 109, 3) := by decide +kernel
theorem dL_law_40 : decode cL_law 40 = .ok (.iload 4, 2) := by decide +kernel
theorem dL_law_42 : decode cL_law 42 = .ok (.ifCond .eq 104, 3) := by decide +kernel
theorem dL_law_45 : decode cL_law 45 = .ok (.aload_n 0, 1) := by decide +kernel
theorem dL_law_46 : decode cL_law 46 = .ok (.iconst 1, 1) := by decide +kernel
theorem dL_law_47 : decode cL_law 47 = .ok (.iload 5, 2) := by decide +kernel
theorem dL_law_49 : decode cL_law 49 = .ok (.iadd, 1) := by decide +kernel
theorem dL_law_50 : decode cL_law 50 = .ok (.invokestatic 181, 3) := by decide +kernel
theorem dL_law_53 : decode cL_law 53 = .ok (.istore 6, 2) := by decide +kernel
theorem dL_law_55 : decode cL_law 55 = .ok (.aload_n 2, 1) := by decide +kernel
theorem dL_law_56 : decode cL_law 56 = .ok (.iload 6, 2) := by decide +kernel
theorem dL_law_58 : decode cL_law 58 = .ok (.sipush 9973, 3) := by decide +kernel
theorem dL_law_61 : decode cL_law 61 = .ok (.irem, 1) := by decide +kernel
theorem dL_law_62 : decode cL_law 62 = .ok (.invokestatic 185, 3) := by decide +kernel
theorem dL_law_65 : decode cL_law 65 = .ok (.ifCond .eq 72, 3) := by decide +kernel
theorem dL_law_68 : decode cL_law 68 = .ok (.aload_n 1, 1) := by decide +kernel
theorem dL_law_69 : decode cL_law 69 = .ok (.iload 6, 2) := by decide +kernel
theorem dL_law_71 : decode cL_law 71 = .ok (.invokestatic 189, 3) := by decide +kernel
theorem dL_law_74 : decode cL_law 74 = .ok (.aload_n 2, 1) := by decide +kernel
theorem dL_law_75 : decode cL_law 75 = .ok (.iload 6, 2) := by decide +kernel
theorem dL_law_77 : decode cL_law 77 = .ok (.invokestatic 189, 3) := by decide +kernel
theorem dL_law_80 : decode cL_law 80 = .ok (.if_icmp .ne 57, 3) := by decide +kernel
theorem dL_law_83 : decode cL_law 83 = .ok (.aload_n 2, 1) := by decide +kernel
theorem dL_law_84 : decode cL_law 84 = .ok (.iload 6, 2) := by decide +kernel
theorem dL_law_86 : decode cL_law 86 = .ok (.sipush 499, 3) := by decide +kernel
theorem dL_law_89 : decode cL_law 89 = .ok (.irem, 1) := by decide +kernel
theorem dL_law_90 : decode cL_law 90 = .ok (.invokestatic 185, 3) := by decide +kernel
theorem dL_law_93 : decode cL_law 93 = .ok (.ifCond .eq 44, 3) := by decide +kernel
theorem dL_law_96 : decode cL_law 96 = .ok (.aload_n 1, 1) := by decide +kernel
theorem dL_law_97 : decode cL_law 97 = .ok (.aload_n 2, 1) := by decide +kernel
theorem dL_law_98 : decode cL_law 98 = .ok (.invokestatic 192, 3) := by decide +kernel
theorem dL_law_101 : decode cL_law 101 = .ok (.ifCond .eq 36, 3) := by decide +kernel
theorem dL_law_104 : decode cL_law 104 = .ok (.aload_n 1, 1) := by decide +kernel
theorem dL_law_105 : decode cL_law 105 = .ok (.invokevirtual 196, 3) := by decide +kernel
theorem dL_law_108 : decode cL_law 108 = .ok (.aload_n 2, 1) := by decide +kernel
theorem dL_law_109 : decode cL_law 109 = .ok (.invokevirtual 196, 3) := by decide +kernel
theorem dL_law_112 : decode cL_law 112 = .ok (.if_icmp .ne 25, 3) := by decide +kernel
theorem dL_law_115 : decode cL_law 115 = .ok (.aload_n 1, 1) := by decide +kernel
theorem dL_law_116 : decode cL_law 116 = .ok (.invokevirtual 165, 3) := by decide +kernel
theorem dL_law_119 : decode cL_law 119 = .ok (.aload_n 2, 1) := by decide +kernel
theorem dL_law_120 : decode cL_law 120 = .ok (.invokevirtual 165, 3) := by decide +kernel
theorem dL_law_123 : decode cL_law 123 = .ok (.if_icmp .ne 14, 3) := by decide +kernel
theorem dL_law_126 : decode cL_law 126 = .ok (.aload_n 2, 1) := by decide +kernel
theorem dL_law_127 : decode cL_law 127 = .ok (.invokestatic 199, 3) := by decide +kernel
theorem dL_law_130 : decode cL_law 130 = .ok (.ifCond .eq 7, 3) := by decide +kernel
theorem dL_law_133 : decode cL_law 133 = .ok (.iconst 1, 1) := by decide +kernel
theorem dL_law_134 : decode cL_law 134 = .ok (.goto 4, 3) := by decide +kernel
theorem dL_law_137 : decode cL_law 137 = .ok (.iconst 0, 1) := by decide +kernel
theorem dL_law_138 : decode cL_law 138 = .ok (.istore 4, 2) := by decide +kernel
theorem dL_law_140 : decode cL_law 140 = .ok (.iinc 5 1, 3) := by decide +kernel
theorem dL_law_143 : decode cL_law 143 = .ok (.goto (-109), 3) := by decide +kernel
theorem dL_law_146 : decode cL_law 146 = .ok (.aload_n 2, 1) := by decide +kernel
theorem dL_law_147 : decode cL_law 147 = .ok (.invokevirtual 86, 3) := by decide +kernel
theorem dL_law_150 : decode cL_law 150 = .ok (.istore 5, 2) := by decide +kernel
theorem dL_law_152 : decode cL_law 152 = .ok (.iconst 0, 1) := by decide +kernel
theorem dL_law_153 : decode cL_law 153 = .ok (.istore 6, 2) := by decide +kernel
theorem dL_law_155 : decode cL_law 155 = .ok (.iload 6, 2) := by decide +kernel
theorem dL_law_157 : decode cL_law 157 = .ok (.iload 5, 2) := by decide +kernel
theorem dL_law_159 : decode cL_law 159 = .ok (.if_icmp .ge 159, 3) := by decide +kernel
theorem dL_law_162 : decode cL_law 162 = .ok (.iload 4, 2) := by decide +kernel
theorem dL_law_164 : decode cL_law 164 = .ok (.ifCond .eq 154, 3) := by decide +kernel
theorem dL_law_167 : decode cL_law 167 = .ok (.aload_n 2, 1) := by decide +kernel
theorem dL_law_168 : decode cL_law 168 = .ok (.invokevirtual 86, 3) := by decide +kernel
theorem dL_law_171 : decode cL_law 171 = .ok (.bipush 16, 2) := by decide +kernel
theorem dL_law_173 : decode cL_law 173 = .ok (.if_icmp .ge 145, 3) := by decide +kernel
theorem dL_law_176 : decode cL_law 176 = .ok (.aload_n 2, 1) := by decide +kernel
theorem dL_law_177 : decode cL_law 177 = .ok (.iload 6, 2) := by decide +kernel
theorem dL_law_179 : decode cL_law 179 = .ok (.invokestatic 135, 3) := by decide +kernel
theorem dL_law_182 : decode cL_law 182 = .ok (.istore 7, 2) := by decide +kernel
theorem dL_law_184 : decode cL_law 184 = .ok (.iload 7, 2) := by decide +kernel
theorem dL_law_186 : decode cL_law 186 = .ok (.iconst 2, 1) := by decide +kernel
theorem dL_law_187 : decode cL_law 187 = .ok (.if_icmp .ge 7, 3) := by decide +kernel
theorem dL_law_190 : decode cL_law 190 = .ok (.iconst 0, 1) := by decide +kernel
theorem dL_law_191 : decode cL_law 191 = .ok (.goto 18, 3) := by decide +kernel
theorem dL_law_194 : decode cL_law 194 = .ok (.iconst 1, 1) := by decide +kernel
theorem dL_law_195 : decode cL_law 195 = .ok (.aload_n 0, 1) := by decide +kernel
theorem dL_law_196 : decode cL_law 196 = .ok (.iconst 0, 1) := by decide +kernel
theorem dL_law_197 : decode cL_law 197 = .ok (.invokestatic 181, 3) := by decide +kernel
theorem dL_law_200 : decode cL_law 200 = .ok (.bipush 45, 2) := by decide +kernel
theorem dL_law_202 : decode cL_law 202 = .ok (.idiv, 1) := by decide +kernel
theorem dL_law_203 : decode cL_law 203 = .ok (.iload 7, 2) := by decide +kernel
theorem dL_law_205 : decode cL_law 205 = .ok (.iconst 1, 1) := by decide +kernel
theorem dL_law_206 : decode cL_law 206 = .ok (.isub, 1) := by decide +kernel
theorem dL_law_207 : decode cL_law 207 = .ok (.irem, 1) := by decide +kernel
theorem dL_law_208 : decode cL_law 208 = .ok (.iadd, 1) := by decide +kernel
theorem dL_law_209 : decode cL_law 209 = .ok (.istore 8, 2) := by decide +kernel
theorem dL_law_211 : decode cL_law 211 = .ok (.aload_n 2, 1) := by decide +kernel
theorem dL_law_212 : decode cL_law 212 = .ok (.iload 6, 2) := by decide +kernel
theorem dL_law_214 : decode cL_law 214 = .ok (.invokestatic 141, 3) := by decide +kernel
theorem dL_law_217 : decode cL_law 217 = .ok (.istore 9, 2) := by decide +kernel
theorem dL_law_219 : decode cL_law 219 = .ok (.aload_n 2, 1) := by decide +kernel
theorem dL_law_220 : decode cL_law 220 = .ok (.iload 6, 2) := by decide +kernel
theorem dL_law_222 : decode cL_law 222 = .ok (.iload 8, 2) := by decide +kernel
theorem dL_law_224 : decode cL_law 224 = .ok (.invokestatic 103, 3) := by decide +kernel
theorem dL_law_227 : decode cL_law 227 = .ok (.iload 7, 2) := by decide +kernel
theorem dL_law_229 : decode cL_law 229 = .ok (.iconst 2, 1) := by decide +kernel
theorem dL_law_230 : decode cL_law 230 = .ok (.if_icmp .ge 8, 3) := by decide +kernel
theorem dL_law_233 : decode cL_law 233 = .ok (.ldc 15, 2) := by decide +kernel
theorem dL_law_235 : decode cL_law 235 = .ok (.goto 9, 3) := by decide +kernel
theorem dL_law_238 : decode cL_law 238 = .ok (.aload_n 2, 1) := by decide +kernel
theorem dL_law_239 : decode cL_law 239 = .ok (.invokevirtual 86, 3) := by decide +kernel
theorem dL_law_242 : decode cL_law 242 = .ok (.iconst 1, 1) := by decide +kernel
theorem dL_law_243 : decode cL_law 243 = .ok (.isub, 1) := by decide +kernel
theorem dL_law_244 : decode cL_law 244 = .ok (.if_icmp .ne 65, 3) := by decide +kernel
theorem dL_law_247 : decode cL_law 247 = .ok (.aload_n 1, 1) := by decide +kernel
theorem dL_law_248 : decode cL_law 248 = .ok (.aload_n 2, 1) := by decide +kernel
theorem dL_law_249 : decode cL_law 249 = .ok (.invokestatic 192, 3) := by decide +kernel
theorem dL_law_252 : decode cL_law 252 = .ok (.ifCond .eq 57, 3) := by decide +kernel
theorem dL_law_255 : decode cL_law 255 = .ok (.aload_n 2, 1) := by decide +kernel
theorem dL_law_256 : decode cL_law 256 = .ok (.invokestatic 199, 3) := by decide +kernel
theorem dL_law_259 : decode cL_law 259 = .ok (.ifCond .eq 50, 3) := by decide +kernel
theorem dL_law_262 : decode cL_law 262 = .ok (.iload 7, 2) := by decide +kernel
theorem dL_law_264 : decode cL_law 264 = .ok (.iconst 2, 1) := by decide +kernel
theorem dL_law_265 : decode cL_law 265 = .ok (.if_icmp .lt 40, 3) := by decide +kernel
theorem dL_law_268 : decode cL_law 268 = .ok (.aload_n 2, 1) := by decide +kernel
theorem dL_law_269 : decode cL_law 269 = .ok (.iload 6, 2) := by decide +kernel
theorem dL_law_271 : decode cL_law 271 = .ok (.invokestatic 141, 3) := by decide +kernel
theorem dL_law_274 : decode cL_law 274 = .ok (.aload_n 2, 1) := by decide +kernel
theorem dL_law_275 : decode cL_law 275 = .ok (.aload_n 2, 1) := by decide +kernel
theorem dL_law_276 : decode cL_law 276 = .ok (.invokevirtual 86, 3) := by decide +kernel
theorem dL_law_279 : decode cL_law 279 = .ok (.iconst 1, 1) := by decide +kernel
theorem dL_law_280 : decode cL_law 280 = .ok (.isub, 1) := by decide +kernel
theorem dL_law_281 : decode cL_law 281 = .ok (.invokestatic 141, 3) := by decide +kernel
theorem dL_law_284 : decode cL_law 284 = .ok (.iadd, 1) := by decide +kernel
theorem dL_law_285 : decode cL_law 285 = .ok (.iload 9, 2) := by decide +kernel
theorem dL_law_287 : decode cL_law 287 = .ok (.if_icmp .ne 22, 3) := by decide +kernel
theorem dL_law_290 : decode cL_law 290 = .ok (.aload_n 2, 1) := by decide +kernel
theorem dL_law_291 : decode cL_law 291 = .ok (.aload_n 2, 1) := by decide +kernel
theorem dL_law_292 : decode cL_law 292 = .ok (.invokevirtual 86, 3) := by decide +kernel
theorem dL_law_295 : decode cL_law 295 = .ok (.iconst 1, 1) := by decide +kernel
theorem dL_law_296 : decode cL_law 296 = .ok (.isub, 1) := by decide +kernel
