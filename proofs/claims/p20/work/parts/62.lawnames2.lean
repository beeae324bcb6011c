theorem dL_act_240 : decode cL_act 240 = .ok (.goto 5, 3) := by decide +kernel
theorem dL_act_243 : decode cL_act 243 = .ok (.iload 8, 2) := by decide +kernel
theorem dL_act_245 : decode cL_act 245 = .ok (.iconst 1, 1) := by decide +kernel
theorem dL_act_246 : decode cL_act 246 = .ok (.iload 5, 2) := by decide +kernel
theorem dL_act_248 : decode cL_act 248 = .ok (.iconst 2, 1) := by decide +kernel
theorem dL_act_249 : decode cL_act 249 = .ok (.irem, 1) := by decide +kernel
theorem dL_act_250 : decode cL_act 250 = .ok (.iadd, 1) := by decide +kernel
theorem dL_act_251 : decode cL_act 251 = .ok (.invokestatic 92, 3) := by decide +kernel
theorem dL_act_254 : decode cL_act 254 = .ok (.ireturn, 1) := by decide +kernel
theorem dL_act_255 : decode cL_act 255 = .ok (.aload_n 0, 1) := by decide +kernel
theorem dL_act_256 : decode cL_act 256 = .ok (.iconst 1, 1) := by decide +kernel
theorem dL_act_257 : decode cL_act 257 = .ok (.iload 6, 2) := by decide +kernel
theorem dL_act_259 : decode cL_act 259 = .ok (.iload 8, 2) := by decide +kernel
theorem dL_act_261 : decode cL_act 261 = .ok (.iconst 1, 1) := by decide +kernel
theorem dL_act_262 : decode cL_act 262 = .ok (.iload 5, 2) := by decide +kernel
theorem dL_act_264 : decode cL_act 264 = .ok (.iconst 2, 1) := by decide +kernel
theorem dL_act_265 : decode cL_act 265 = .ok (.irem, 1) := by decide +kernel
theorem dL_act_266 : decode cL_act 266 = .ok (.iadd, 1) := by decide +kernel
theorem dL_act_267 : decode cL_act 267 = .ok (.invokestatic 92, 3) := by decide +kernel
theorem dL_act_270 : decode cL_act 270 = .ok (.ireturn, 1) := by decide +kernel
theorem dL_act_271 : decode cL_act 271 = .ok (.aload_n 1, 1) := by decide +kernel
theorem dL_act_272 : decode cL_act 272 = .ok (.iconst 2, 1) := by decide +kernel
theorem dL_act_273 : decode cL_act 273 = .ok (.iaload, 1) := by decide +kernel
theorem dL_act_274 : decode cL_act 274 = .ok (.ifCond .ne 7, 3) := by decide +kernel
theorem dL_act_277 : decode cL_act 277 = .ok (.iconst 0, 1) := by decide +kernel
theorem dL_act_278 : decode cL_act 278 = .ok (.goto 9, 3) := by decide +kernel
theorem dL_act_281 : decode cL_act 281 = .ok (.iload 5, 2) := by decide +kernel
theorem dL_act_283 : decode cL_act 283 = .ok (.aload_n 1, 1) := by decide +kernel
theorem dL_act_284 : decode cL_act 284 = .ok (.iconst 2, 1) := by decide +kernel
theorem dL_act_285 : decode cL_act 285 = .ok (.iaload, 1) := by decide +kernel
theorem dL_act_286 : decode cL_act 286 = .ok (.irem, 1) := by decide +kernel
theorem dL_act_287 : decode cL_act 287 = .ok (.istore 9, 2) := by decide +kernel
theorem dL_act_289 : decode cL_act 289 = .ok (.iload 4, 2) := by decide +kernel
theorem dL_act_291 : decode cL_act 291 = .ok (.ifCond .eq 20, 3) := by decide +kernel
theorem dL_act_294 : decode cL_act 294 = .ok (.aload_n 1, 1) := by decide +kernel
theorem dL_act_295 : decode cL_act 295 = .ok (.iconst 2, 1) := by decide +kernel
theorem dL_act_296 : decode cL_act 296 = .ok (.iaload, 1) := by decide +kernel
theorem dL_act_297 : decode cL_act 297 = .ok (.ifCond .le 14, 3) := by decide +kernel
theorem dL_act_300 : decode cL_act 300 = .ok (.aload_n 2, 1) := by decide +kernel
theorem dL_act_301 : decode cL_act 301 = .ok (.iload 9, 2) := by decide +kernel
theorem dL_act_303 : decode cL_act 303 = .ok (.iaload, 1) := by decide +kernel
theorem dL_act_304 : decode cL_act 304 = .ok (.ifCond .ne 7, 3) := by decide +kernel
theorem dL_act_307 : decode cL_act 307 = .ok (.iconst (-1), 1) := by decide +kernel
theorem dL_act_308 : decode cL_act 308 = .ok (.goto 4, 3) := by decide +kernel
theorem dL_act_311 : decode cL_act 311 = .ok (.iconst 1, 1) := by decide +kernel
theorem dL_act_312 : decode cL_act 312 = .ok (.istore 10, 2) := by decide +kernel
theorem dL_act_314 : decode cL_act 314 = .ok (.aload_n 0, 1) := by decide +kernel
theorem dL_act_315 : decode cL_act 315 = .ok (.iload 9, 2) := by decide +kernel
theorem dL_act_317 : decode cL_act 317 = .ok (.iload 10, 2) := by decide +kernel
theorem dL_act_319 : decode cL_act 319 = .ok (.iload 8, 2) := by decide +kernel
theorem dL_act_321 : decode cL_act 321 = .ok (.imul, 1) := by decide +kernel
theorem dL_act_322 : decode cL_act 322 = .ok (.invokestatic 96, 3) := by decide +kernel
theorem dL_act_325 : decode cL_act 325 = .ok (.istore 11, 2) := by decide +kernel
theorem dL_act_327 : decode cL_act 327 = .ok (.iload 11, 2) := by decide +kernel
theorem dL_act_329 : decode cL_act 329 = .ok (.bipush (-50), 2) := by decide +kernel
theorem dL_act_331 : decode cL_act 331 = .ok (.if_icmp .ge 8, 3) := by decide +kernel
theorem dL_act_334 : decode cL_act 334 = .ok (.iload 11, 2) := by decide +kernel
theorem dL_act_336 : decode cL_act 336 = .ok (.goto 8, 3) := by decide +kernel
theorem dL_act_339 : decode cL_act 339 = .ok (.iload 10, 2) := by decide +kernel
theorem dL_act_341 : decode cL_act 341 = .ok (.iload 11, 2) := by decide +kernel
theorem dL_act_343 : decode cL_act 343 = .ok (.imul, 1) := by decide +kernel
theorem dL_act_344 : decode cL_act 344 = .ok (.ireturn, 1) := by decide +kernel
theorem dL_act_345 : decode cL_act 345 = .ok (.aload_n 0, 1) := by decide +kernel
theorem dL_act_346 : decode cL_act 346 = .ok (.aload_n 1, 1) := by decide +kernel
theorem dL_act_347 : decode cL_act 347 = .ok (.iconst 2, 1) := by decide +kernel
theorem dL_act_348 : decode cL_act 348 = .ok (.iaload, 1) := by decide +kernel
theorem dL_act_349 : decode cL_act 349 = .ok (.ifCond .ne 7, 3) := by decide +kernel
theorem dL_act_352 : decode cL_act 352 = .ok (.iconst 0, 1) := by decide +kernel
theorem dL_act_353 : decode cL_act 353 = .ok (.goto 9, 3) := by decide +kernel
theorem dL_act_356 : decode cL_act 356 = .ok (.iload 5, 2) := by decide +kernel
theorem dL_act_358 : decode cL_act 358 = .ok (.aload_n 1, 1) := by decide +kernel
theorem dL_act_359 : decode cL_act 359 = .ok (.iconst 2, 1) := by decide +kernel
theorem dL_act_360 : decode cL_act 360 = .ok (.iaload, 1) := by decide +kernel
theorem dL_act_361 : decode cL_act 361 = .ok (.irem, 1) := by decide +kernel
theorem dL_act_362 : decode cL_act 362 = .ok (.iload 5, 2) := by decide +kernel
theorem dL_act_364 : decode cL_act 364 = .ok (.bipush 10, 2) := by decide +kernel
theorem dL_act_366 : decode cL_act 366 = .ok (.idiv, 1) := by decide +kernel
theorem dL_act_367 : decode cL_act 367 = .ok (.iconst 3, 1) := by decide +kernel
theorem dL_act_368 : decode cL_act 368 = .ok (.irem, 1) := by decide +kernel
theorem dL_act_369 : decode cL_act 369 = .ok (.ifCond .le 7, 3) := by decide +kernel
theorem dL_act_372 : decode cL_act 372 = .ok (.iconst 1, 1) := by decide +kernel
theorem dL_act_373 : decode cL_act 373 = .ok (.goto 4, 3) := by decide +kernel
theorem dL_act_376 : decode cL_act 376 = .ok (.iconst 0, 1) := by decide +kernel
theorem dL_act_377 : decode cL_act 377 = .ok (.invokestatic 100, 3) := by decide +kernel
theorem dL_act_380 : decode cL_act 380 = .ok (.ireturn, 1) := by decide +kernel
theorem dL_act_381 : decode cL_act 381 = .ok (.aload_n 0, 1) := by decide +kernel
theorem dL_act_382 : decode cL_act 382 = .ok (.iload 6, 2) := by decide +kernel
theorem dL_act_384 : decode cL_act 384 = .ok (.iload 5, 2) := by decide +kernel
theorem dL_act_386 : decode cL_act 386 = .ok (.iconst 5, 1) := by decide +kernel
theorem dL_act_387 : decode cL_act 387 = .ok (.idiv, 1) := by decide +kernel
theorem dL_act_388 : decode cL_act 388 = .ok (.iload 5, 2) := by decide +kernel
theorem dL_act_390 : decode cL_act 390 = .ok (.iconst 2, 1) := by decide +kernel
theorem dL_act_391 : decode cL_act 391 = .ok (.irem, 1) := by decide +kernel
theorem dL_act_392 : decode cL_act 392 = .ok (.ifCond .ne 7, 3) := by decide +kernel
theorem dL_act_395 : decode cL_act 395 = .ok (.iconst 5, 1) := by decide +kernel
theorem dL_act_396 : decode cL_act 396 = .ok (.goto 6, 3) := by decide +kernel
theorem dL_act_399 : decode cL_act 399 = .ok (.sipush 201, 3) := by decide +kernel
theorem dL_act_402 : decode cL_act 402 = .ok (.irem, 1) := by decide +kernel
theorem dL_act_403 : decode cL_act 403 = .ok (.invokestatic 129, 3) := by decide +kernel
theorem dL_act_406 : decode cL_act 406 = .ok (.ireturn, 1) := by decide +kernel
set_option maxRecDepth 20000 in
theorem ggL_alike_X4_islands : GoodIn wsL_alike wsX4_islands := goodIn_r _ [6, 7, 234, 235, 236, 237, 238, 239, 240, 241, 242, 243, 244, 245, 246] (by decide +kernel) (by decide +kernel)
set_option maxRecDepth 20000 in
theorem gL_alike_X4_islands : GoodIn wsL_alike (wsV RL 132 RX4 yX4_islands wsX4_islands) := goodIn_app (goodIn_of _ (by decide +kernel)) ggL_alike_X4_islands
set_option maxRecDepth 20000 in
theorem ggL_alike_L_reference : GoodIn wsL_alike wsL_reference := goodIn_ca (goodIn_r _ [11, 12, 13, 14, 15, 16, 5, 17, 7, 18, 19, 20, 21, 22, 23, 24, 25, 26, 27, 28, 29, 234, 235, 236, 237, 238, 239, 240, 241, 242, 243, 244, 245, 246] (by decide +kernel) (by decide +kernel)) (goodIn_sub (fun _ h => List.mem_cons_of_mem _ (List.mem_append_left _ (List.mem_append_right _ h))) (by decide +kernel))
set_option maxRecDepth 20000 in
theorem gL_alike_L_reference : GoodIn wsL_alike (va_wsS RL 89 yL_reference wsL_reference) := goodIn_app (goodIn_of _ (by decide +kernel)) ggL_alike_L_reference
set_option maxRecDepth 20000 in
theorem ggL_alike_L_rank : GoodIn wsL_alike wsL_rank := goodIn_ca (goodIn_r _ [32, 12, 13, 33, 34, 35, 5, 36, 37, 7, 18, 19, 20, 21, 22, 23, 24, 25, 26, 27, 28, 29, 38, 39, 40, 41, 42, 43, 44, 45, 46, 47, 48, 49, 50, 51, 52, 53, 54, 55, 56, 57, 58, 59, 60, 61, 62, 63, 64, 65, 66, 67, 68, 69, 70, 71, 72, 73, 234, 235, 236, 237, 238, 239, 240, 241, 242, 243, 244, 245, 246, 247, 248, 249, 250, 251, 252, 253, 254, 255, 256] (by decide +kernel) (by decide +kernel)) (goodIn_sub (fun _ h => List.mem_cons_of_mem _ (List.mem_append_left _ (List.mem_append_right _ h))) (by decide +kernel))
set_option maxRecDepth 20000 in
theorem gL_alike_L_rank : GoodIn wsL_alike (va_wsS RL 106 yL_rank wsL_rank) := goodIn_app (goodIn_of _ (by decide +kernel)) ggL_alike_L_rank
set_option maxRecDepth 20000 in
theorem ggL_alike_L_top : GoodIn wsL_alike wsL_top := goodIn_ca (goodIn_ca (goodIn_r _ [76, 12, 77, 78, 1, 79, 80, 81, 5, 82, 83, 84, 85, 86, 87, 7, 18, 19, 20, 21, 22, 23, 24, 25, 26, 27, 28, 29, 88, 89, 90, 91, 92, 93, 37, 94, 95, 96, 41, 97, 98, 99, 39, 40, 42, 43, 44, 45, 46, 47, 48, 49, 50, 51, 52, 53, 54, 55, 56, 57, 58, 59, 60, 61, 62, 63, 64, 65, 66, 67, 68, 69, 70, 71, 72, 73, 100, 101, 102, 103, 104, 105, 106, 107, 108, 109, 110, 111, 112, 113, 114, 115, 116, 117, 118, 119, 120, 121, 122, 123, 124, 125, 126, 127, 128, 129, 130, 131, 132, 133, 134, 135, 136, 137, 138, 139, 140, 141, 142, 143, 144, 145, 146, 147, 148, 149, 150, 151, 152, 153, 154, 155, 156, 234, 235, 236, 237, 257, 258, 259, 260, 261, 262, 263, 238, 239, 240, 241, 242, 243, 244, 245, 246, 247, 248, 249, 250, 251, 252, 253, 254, 255, 256] (by decide +kernel) (by decide +kernel)) (goodIn_sub (fun _ h => List.mem_cons_of_mem _ (List.mem_append_left _ (List.mem_append_right _ h))) (by decide +kernel))) (goodIn_sub (fun _ h => List.mem_cons_of_mem _ (List.mem_append_right _ h)) (by decide +kernel))
set_option maxRecDepth 20000 in
theorem gL_alike_L_top : GoodIn wsL_alike (va_wsS RL 114 yL_top wsL_top) := goodIn_app (goodIn_of _ (by decide +kernel)) ggL_alike_L_top
set_option maxRecDepth 20000 in
theorem ggL_alike_L_bottom : GoodIn wsL_alike wsL_bottom := goodIn_ca (goodIn_ca (goodIn_r _ [159, 12, 77, 78, 1, 160, 161, 162, 5, 163, 83, 84, 85, 86, 87, 7, 18, 19, 20, 21, 22, 23, 24, 25, 26, 27, 28, 29, 88, 89, 90, 91, 92, 93, 37, 94, 95, 96, 41, 97, 98, 99, 39, 40, 42, 43, 44, 45, 46, 47, 48, 49, 50, 51, 52, 53, 54, 55, 56, 57, 58, 59, 60, 61, 62, 63, 64, 65, 66, 67, 68, 69, 70, 71, 72, 73, 100, 101, 102, 103, 104, 105, 106, 107, 108, 109, 110, 111, 112, 113, 114, 115, 116, 117, 118, 119, 120, 121, 122, 123, 124, 125, 126, 127, 128, 129, 130, 131, 132, 133, 134, 135, 136, 137, 138, 139, 140, 141, 142, 143, 144, 145, 146, 147, 148, 149, 150, 151, 152, 153, 154, 155, 156, 234, 235, 236, 237, 257, 258, 259, 260, 261, 262, 263, 238, 239, 240, 241, 242, 243, 244, 245, 246, 247, 248, 249, 250, 251, 252, 253, 254, 255, 256] (by decide +kernel) (by decide +kernel)) (goodIn_sub (fun _ h => List.mem_cons_of_mem _ (List.mem_append_left _ (List.mem_append_right _ h))) (by decide +kernel))) (goodIn_sub (fun _ h => List.mem_cons_of_mem _ (List.mem_append_right _ h)) (by decide +kernel))
set_option maxRecDepth 20000 in
theorem gL_alike_L_bottom : GoodIn wsL_alike (va_wsS RL 118 yL_bottom wsL_bottom) := goodIn_app (goodIn_of _ (by decide +kernel)) ggL_alike_L_bottom
set_option maxRecDepth 20000 in
theorem ggL_alike_L_worst : GoodIn wsL_alike wsL_worst := goodIn_ca (goodIn_ca (goodIn_r _ [166, 12, 77, 13, 167, 168, 169, 170, 5, 171, 83, 7, 84, 85, 86, 87, 18, 19, 20, 21, 22, 23, 24, 25, 26, 27, 28, 29, 88, 89, 90, 91, 92, 93, 37, 94, 95, 96, 41, 97, 98, 99, 39, 40, 42, 43, 44, 45, 46, 47, 48, 49, 50, 51, 52, 53, 54, 55, 56, 57, 58, 59, 60, 61, 62, 63, 64, 65, 66, 67, 68, 69, 70, 71, 72, 73, 100, 101, 102, 103, 104, 105, 106, 107, 108, 109, 110, 111, 112, 113, 114, 115, 116, 117, 118, 119, 120, 121, 122, 123, 124, 125, 126, 127, 128, 129, 130, 131, 132, 133, 134, 135, 136, 137, 138, 139, 140, 141, 142, 143, 144, 145, 146, 172, 173, 174, 175, 176, 177, 178, 179, 180, 151, 152, 153, 181, 182, 183, 184, 234, 235, 236, 237, 238, 239, 240, 241, 242, 243, 244, 245, 246, 247, 248, 249, 250, 251, 252, 253, 254, 255, 256, 257, 258, 259, 260, 261, 262, 263] (by decide +kernel) (by decide +kernel)) (goodIn_sub (fun _ h => List.mem_cons_of_mem _ (List.mem_append_left _ (List.mem_append_right _ h))) (by decide +kernel))) (goodIn_sub (fun _ h => List.mem_cons_of_mem _ (List.mem_append_right _ h)) (by decide +kernel))
set_option maxRecDepth 20000 in
theorem gL_alike_L_worst : GoodIn wsL_alike (va_wsS RL 127 yL_worst wsL_worst) := goodIn_app (goodIn_of _ (by decide +kernel)) ggL_alike_L_worst
set_option maxRecDepth 20000 in
theorem ggL_alike_L_over : GoodIn wsL_alike wsL_over := goodIn_ca (goodIn_ca (goodIn_r _ [187, 12, 77, 78, 1, 188, 189, 190, 5, 191, 83, 192, 193, 194, 195, 92, 93, 196, 197, 198, 199, 200, 22, 23, 201, 202, 203, 52, 204, 205, 206, 56, 57, 58, 59, 60, 61, 88, 89, 90, 91, 37, 94, 95, 96, 41, 97, 98, 99, 39, 40, 42, 43, 44, 45, 46, 47, 48, 49, 50, 51, 53, 54, 55, 62, 63, 64, 65, 66, 67, 68, 69, 70, 71, 72, 73, 100, 101, 102, 27, 103, 104, 105, 106, 107, 108, 109, 110, 111, 112, 113, 114, 115, 116, 117, 118, 119, 120, 121, 122, 123, 124, 125, 126, 127, 128, 129, 130, 131, 132, 133, 134, 135, 136, 137, 138, 139, 140, 141, 142, 143, 144, 145, 146, 207, 182, 183, 184, 147, 148, 149, 150, 151, 152, 153, 154, 155, 156, 234, 235, 236, 237, 257, 258, 259, 260, 261, 262, 263, 250, 251, 252, 253, 254, 255, 256, 238, 239, 240, 241, 242, 243, 244, 245, 246, 247, 248, 249] (by decide +kernel) (by decide +kernel)) (goodIn_sub (fun _ h => List.mem_cons_of_mem _ (List.mem_append_right _ h)) (by decide +kernel))) (goodIn_sub (fun _ h => List.mem_cons_of_mem _ (List.mem_append_left _ (List.mem_append_right _ h))) (by decide +kernel))
set_option maxRecDepth 20000 in
theorem gL_alike_L_over : GoodIn wsL_alike (va_wsS RL 121 yL_over wsL_over) := goodIn_app (goodIn_of _ (by decide +kernel)) ggL_alike_L_over
set_option maxRecDepth 20000 in
theorem ggL_alike_L_counts : GoodIn wsL_alike wsL_counts := goodIn_ca (goodIn_r _ [210, 12, 13, 211, 212, 213, 5, 214, 196, 197, 198, 199, 200, 22, 23, 201, 202, 203, 52, 204, 205, 215, 50, 51, 53, 54, 55, 56, 57, 58, 59, 60, 61, 234, 235, 236, 237, 250, 251, 252, 253, 254, 255, 256, 238, 239, 240, 241, 242, 243, 244, 245, 246] (by decide +kernel) (by decide +kernel)) (goodIn_sub (fun _ h => List.mem_cons_of_mem _ (List.mem_append_left _ (List.mem_append_right _ h))) (by decide +kernel))
set_option maxRecDepth 20000 in
theorem gL_alike_L_counts : GoodIn wsL_alike (va_wsS RL 103 yL_counts wsL_counts) := goodIn_app (goodIn_of _ (by decide +kernel)) ggL_alike_L_counts
set_option maxRecDepth 20000 in
theorem ggL_alike_L_critical : GoodIn wsL_alike wsL_critical := goodIn_ca (goodIn_r _ [218, 12, 13, 219, 220, 221, 5, 222, 37, 197, 198, 199, 200, 22, 23, 196, 201, 202, 203, 52, 204, 205, 223, 224, 225, 41, 226, 47, 98, 49, 50, 51, 53, 54, 55, 56, 57, 58, 59, 60, 61, 100, 101, 102, 27, 103, 104, 105, 106, 107, 108, 99, 39, 40, 42, 43, 44, 45, 46, 48, 62, 63, 64, 65, 66, 67, 68, 69, 70, 71, 72, 73, 234, 235, 236, 237, 250, 251, 252, 253, 254, 255, 256, 247, 248, 249, 238, 239, 240, 241, 242, 243, 244, 245, 246] (by decide +kernel) (by decide +kernel)) (goodIn_sub (fun _ h => List.mem_cons_of_mem _ (List.mem_append_left _ (List.mem_append_right _ h))) (by decide +kernel))
set_option maxRecDepth 20000 in
theorem gL_alike_L_critical : GoodIn wsL_alike (va_wsS RL 111 yL_critical wsL_critical) := goodIn_app (goodIn_of _ (by decide +kernel)) ggL_alike_L_critical
set_option maxRecDepth 20000 in
theorem ggL_alike_L_under : GoodIn wsL_alike wsL_under := goodIn_ca (goodIn_ca (goodIn_r _ [229, 12, 77, 78, 1, 230, 231, 232, 5, 233, 83, 192, 193, 194, 195, 92, 93, 196, 197, 198, 199, 200, 22, 23, 201, 202, 203, 52, 204, 205, 206, 56, 57, 58, 59, 60, 61, 88, 89, 90, 91, 37, 94, 95, 96, 41, 97, 98, 99, 39, 40, 42, 43, 44, 45, 46, 47, 48, 49, 50, 51, 53, 54, 55, 62, 63, 64, 65, 66, 67, 68, 69, 70, 71, 72, 73, 100, 101, 102, 27, 103, 104, 105, 106, 107, 108, 109, 110, 111, 112, 113, 114, 115, 116, 117, 118, 119, 120, 121, 122, 123, 124, 125, 126, 127, 128, 129, 130, 131, 132, 133, 134, 135, 136, 137, 138, 139, 140, 141, 142, 143, 144, 145, 146, 207, 182, 183, 184, 147, 148, 149, 150, 151, 152, 153, 154, 155, 156, 234, 235, 236, 237, 257, 258, 259, 260, 261, 262, 263, 250, 251, 252, 253, 254, 255, 256, 238, 239, 240, 241, 242, 243, 244, 245, 246, 247, 248, 249] (by decide +kernel) (by decide +kernel)) (goodIn_sub (fun _ h => List.mem_cons_of_mem _ (List.mem_append_right _ h)) (by decide +kernel))) (goodIn_sub (fun _ h => List.mem_cons_of_mem _ (List.mem_append_left _ (List.mem_append_right _ h))) (by decide +kernel))
set_option maxRecDepth 20000 in
theorem gL_alike_L_under : GoodIn wsL_alike (va_wsS RL 124 yL_under wsL_under) := goodIn_app (goodIn_of _ (by decide +kernel)) ggL_alike_L_under
theorem dL_alike_0 : decode cL_alike 0 = .ok (.aload_n 0, 1) := by decide +kernel
theorem dL_alike_1 : decode cL_alike 1 = .ok (.invokevirtual 132, 3) := by decide +kernel
theorem dL_alike_4 : decode cL_alike 4 = .ok (.aload_n 1, 1) := by decide +kernel
theorem dL_alike_5 : decode cL_alike 5 = .ok (.invokevirtual 132, 3) := by decide +kernel
theorem dL_alike_8 : decode cL_alike 8 = .ok (.if_icmp .ne 7, 3) := by decide +kernel
theorem dL_alike_11 : decode cL_alike 11 = .ok (.iconst 1, 1) := by decide +kernel
theorem dL_alike_12 : decode cL_alike 12 = .ok (.goto 4, 3) := by decide +kernel
theorem dL_alike_15 : decode cL_alike 15 = .ok (.iconst 0, 1) := by decide +kernel
theorem dL_alike_16 : decode cL_alike 16 = .ok (.istore 4, 2) := by decide +kernel
theorem dL_alike_18 : decode cL_alike 18 = .ok (.iconst 0, 1) := by decide +kernel
theorem dL_alike_19 : decode cL_alike 19 = .ok (.istore 5, 2) := by decide +kernel
theorem dL_alike_21 : decode cL_alike 21 = .ok (.iload 5, 2) := by decide +kernel
theorem dL_alike_23 : decode cL_alike 23 = .ok (.aload_n 2, 1) := by decide +kernel
theorem dL_alike_24 : decode cL_alike 24 = .ok (.iconst 0, 1) := by decide +kernel
theorem dL_alike_25 : decode cL_alike 25 = .ok (.iaload, 1) := by decide +kernel
theorem dL_alike_26 : decode cL_alike 26 = .ok (.if_icmp .ge 98, 3) := by decide +kernel
theorem dL_alike_29 : decode cL_alike 29 = .ok (.iload 4, 2) := by decide +kernel
theorem dL_alike_31 : decode cL_alike 31 = .ok (.ifCond .eq 93, 3) := by decide +kernel
theorem dL_alike_34 : decode cL_alike 34 = .ok (.aload_n 0, 1) := by decide +kernel
theorem dL_alike_35 : decode cL_alike 35 = .ok (.iload 5, 2) := by decide +kernel
theorem dL_alike_37 : decode cL_alike 37 = .ok (.invokestatic 89, 3) := by decide +kernel
theorem dL_alike_40 : decode cL_alike 40 = .ok (.aload_n 1, 1) := by decide +kernel
theorem dL_alike_41 : decode cL_alike 41 = .ok (.iload 5, 2) := by decide +kernel
theorem dL_alike_43 : decode cL_alike 43 = .ok (.invokestatic 89, 3) := by decide +kernel
theorem dL_alike_46 : decode cL_alike 46 = .ok (.if_icmp .ne 69, 3) := by decide +kernel
theorem dL_alike_49 : decode cL_alike 49 = .ok (.aload_n 0, 1) := by decide +kernel
theorem dL_alike_50 : decode cL_alike 50 = .ok (.iload 5, 2) := by decide +kernel
theorem dL_alike_52 : decode cL_alike 52 = .ok (.invokestatic 106, 3) := by decide +kernel
theorem dL_alike_55 : decode cL_alike 55 = .ok (.aload_n 1, 1) := by decide +kernel
theorem dL_alike_56 : decode cL_alike 56 = .ok (.iload 5, 2) := by decide +kernel
theorem dL_alike_58 : decode cL_alike 58 = .ok (.invokestatic 106, 3) := by decide +kernel
theorem dL_alike_61 : decode cL_alike 61 = .ok (.if_icmp .ne 54, 3) := by decide +kernel
theorem dL_alike_64 : decode cL_alike 64 = .ok (.aload_n 0, 1) := by decide +kernel
theorem dL_alike_65 : decode cL_alike 65 = .ok (.iload 5, 2) := by decide +kernel
theorem dL_alike_67 : decode cL_alike 67 = .ok (.invokestatic 114, 3) := by decide +kernel
theorem dL_alike_70 : decode cL_alike 70 = .ok (.aload_n 1, 1) := by decide +kernel
theorem dL_alike_71 : decode cL_alike 71 = .ok (.iload 5, 2) := by decide +kernel
theorem dL_alike_73 : decode cL_alike 73 = .ok (.invokestatic 114, 3) := by decide +kernel
theorem dL_alike_76 : decode cL_alike 76 = .ok (.lcmp, 1) := by decide +kernel
theorem dL_alike_77 : decode cL_alike 77 = .ok (.ifCond .ne 38, 3) := by decide +kernel
theorem dL_alike_80 : decode cL_alike 80 = .ok (.aload_n 0, 1) := by decide +kernel
theorem dL_alike_81 : decode cL_alike 81 = .ok (.iload 5, 2) := by decide +kernel
theorem dL_alike_83 : decode cL_alike 83 = .ok (.invokestatic 118, 3) := by decide +kernel
theorem dL_alike_86 : decode cL_alike 86 = .ok (.aload_n 1, 1) := by decide +kernel
theorem dL_alike_87 : decode cL_alike 87 = .ok (.iload 5, 2) := by decide +kernel
theorem dL_alike_89 : decode cL_alike 89 = .ok (.invokestatic 118, 3) := by decide +kernel
theorem dL_alike_92 : decode cL_alike 92 = .ok (.lcmp, 1) := by decide +kernel
theorem dL_alike_93 : decode cL_alike 93 = .ok (.ifCond .ne 22, 3) := by decide +kernel
theorem dL_alike_96 : decode cL_alike 96 = .ok (.aload_n 0, 1) := by decide +kernel
theorem dL_alike_97 : decode cL_alike 97 = .ok (.iload 5, 2) := by decide +kernel
theorem dL_alike_99 : decode cL_alike 99 = .ok (.invokestatic 127, 3) := by decide +kernel
theorem dL_alike_102 : decode cL_alike 102 = .ok (.aload_n 1, 1) := by decide +kernel
theorem dL_alike_103 : decode cL_alike 103 = .ok (.iload 5, 2) := by decide +kernel
theorem dL_alike_105 : decode cL_alike 105 = .ok (.invokestatic 127, 3) := by decide +kernel
theorem dL_alike_108 : decode cL_alike 108 = .ok (.if_icmp .ne 7, 3) := by decide +kernel
theorem dL_alike_111 : decode cL_alike 111 = .ok (.iconst 1, 1) := by decide +kernel
theorem dL_alike_112 : decode cL_alike 112 = .ok (.goto 4, 3) := by decide +kernel
theorem dL_alike_115 : decode cL_alike 115 = .ok (.iconst 0, 1) := by decide +kernel
theorem dL_alike_116 : decode cL_alike 116 = .ok (.istore 4, 2) := by decide +kernel
theorem dL_alike_118 : decode cL_alike 118 = .ok (.iinc 5 1, 3) := by decide +kernel
theorem dL_alike_121 : decode cL_alike 121 = .ok (.goto (-100), 3) := by decide +kernel
theorem dL_alike_124 : decode cL_alike 124 = .ok (.iconst 0, 1) := by decide +kernel
theorem dL_alike_125 : decode cL_alike 125 = .ok (.istore 5, 2) := by decide +kernel
theorem dL_alike_127 : decode cL_alike 127 = .ok (.iload 5, 2) := by decide +kernel
theorem dL_alike_129 : decode cL_alike 129 = .ok (.aload_n 2, 1) := by decide +kernel
theorem dL_alike_130 : decode cL_alike 130 = .ok (.iconst 2, 1) := by decide +kernel
theorem dL_alike_131 : decode cL_alike 131 = .ok (.iaload, 1) := by decide +kernel
theorem dL_alike_132 : decode cL_alike 132 = .ok (.if_icmp .ge 109, 3) := by decide +kernel
theorem dL_alike_135 : decode cL_alike 135 = .ok (.iload 4, 2) := by decide +kernel
theorem dL_alike_137 : decode cL_alike 137 = .ok (.ifCond .eq 104, 3) := by decide +kernel
theorem dL_alike_140 : decode cL_alike 140 = .ok (.aload_n 0, 1) := by decide +kernel
theorem dL_alike_141 : decode cL_alike 141 = .ok (.iload 5, 2) := by decide +kernel
theorem dL_alike_143 : decode cL_alike 143 = .ok (.invokestatic 121, 3) := by decide +kernel
theorem dL_alike_146 : decode cL_alike 146 = .ok (.lstore 6, 2) := by decide +kernel
theorem dL_alike_148 : decode cL_alike 148 = .ok (.aload_n 0, 1) := by decide +kernel
theorem dL_alike_149 : decode cL_alike 149 = .ok (.iload 5, 2) := by decide +kernel
theorem dL_alike_151 : decode cL_alike 151 = .ok (.invokestatic 103, 3) := by decide +kernel
theorem dL_alike_154 : decode cL_alike 154 = .ok (.aload_n 1, 1) := by decide +kernel
theorem dL_alike_155 : decode cL_alike 155 = .ok (.iload 5, 2) := by decide +kernel
theorem dL_alike_157 : decode cL_alike 157 = .ok (.invokestatic 103, 3) := by decide +kernel
theorem dL_alike_160 : decode cL_alike 160 = .ok (.if_icmp .ne 72, 3) := by decide +kernel
theorem dL_alike_163 : decode cL_alike 163 = .ok (.aload_n 0, 1) := by decide +kernel
theorem dL_alike_164 : decode cL_alike 164 = .ok (.iload 5, 2) := by decide +kernel
theorem dL_alike_166 : decode cL_alike 166 = .ok (.invokestatic 111, 3) := by decide +kernel
theorem dL_alike_169 : decode cL_alike 169 = .ok (.aload_n 1, 1) := by decide +kernel
theorem dL_alike_170 : decode cL_alike 170 = .ok (.iload 5, 2) := by decide +kernel
theorem dL_alike_172 : decode cL_alike 172 = .ok (.invokestatic 111, 3) := by decide +kernel
theorem dL_alike_175 : decode cL_alike 175 = .ok (.if_icmp .ne 57, 3) := by decide +kernel
theorem dL_alike_178 : decode cL_alike 178 = .ok (.aload_n 0, 1) := by decide +kernel
theorem dL_alike_179 : decode cL_alike 179 = .ok (.iload 5, 2) := by decide +kernel
theorem dL_alike_181 : decode cL_alike 181 = .ok (.invokestatic 124, 3) := by decide +kernel
theorem dL_alike_184 : decode cL_alike 184 = .ok (.aload_n 1, 1) := by decide +kernel
theorem dL_alike_185 : decode cL_alike 185 = .ok (.iload 5, 2) := by decide +kernel
theorem dL_alike_187 : decode cL_alike 187 = .ok (.invokestatic 124, 3) := by decide +kernel
theorem dL_alike_190 : decode cL_alike 190 = .ok (.lcmp, 1) := by decide +kernel
theorem dL_alike_191 : decode cL_alike 191 = .ok (.ifCond .ne 41, 3) := by decide +kernel
theorem dL_alike_194 : decode cL_alike 194 = .ok (.aload_n 1, 1) := by decide +kernel
theorem dL_alike_195 : decode cL_alike 195 = .ok (.iload 5, 2) := by decide +kernel
theorem dL_alike_197 : decode cL_alike 197 = .ok (.invokestatic 121, 3) := by decide +kernel
theorem dL_alike_200 : decode cL_alike 200 = .ok (.aload_n 3, 1) := by decide +kernel
theorem dL_alike_201 : decode cL_alike 201 = .ok (.iload 5, 2) := by decide +kernel
theorem dL_alike_203 : decode cL_alike 203 = .ok (.iaload, 1) := by decide +kernel
theorem dL_alike_204 : decode cL_alike 204 = .ok (.ifCond .ne 18, 3) := by decide +kernel
theorem dL_alike_207 : decode cL_alike 207 = .ok (.lload 6, 2) := by decide +kernel
theorem dL_alike_209 : decode cL_alike 209 = .ok (.ldc2_w 60, 3) := by decide +kernel
theorem dL_alike_212 : decode cL_alike 212 = .ok (.lcmp, 1) := by decide +kernel
theorem dL_alike_213 : decode cL_alike 213 = .ok (.ifCond .eq 9, 3) := by decide +kernel
theorem dL_alike_216 : decode cL_alike 216 = .ok (.lload 6, 2) := by decide +kernel
theorem dL_alike_218 : decode cL_alike 218 = .ok (.lneg, 1) := by decide +kernel
theorem dL_alike_219 : decode cL_alike 219 = .ok (.goto 5, 3) := by decide +kernel
theorem dL_alike_222 : decode cL_alike 222 = .ok (.lload 6, 2) := by decide +kernel
theorem dL_alike_224 : decode cL_alike 224 = .ok (.lcmp, 1) := by decide +kernel
theorem dL_alike_225 : decode cL_alike 225 = .ok (.ifCond .ne 7, 3) := by decide +kernel
theorem dL_alike_228 : decode cL_alike 228 = .ok (.iconst 1, 1) := by decide +kernel
theorem dL_alike_229 : decode cL_alike 229 = .ok (.goto 4, 3) := by decide +kernel
theorem dL_alike_232 : decode cL_alike 232 = .ok (.iconst 0, 1) := by decide +kernel
theorem dL_alike_233 : decode cL_alike 233 = .ok (.istore 4, 2) := by decide +kernel
theorem dL_alike_235 : decode cL_alike 235 = .ok (.iinc 5 1, 3) := by decide +kernel
theorem dL_alike_238 : decode cL_alike 238 = .ok (.goto (-111), 3) := by decide +kernel
theorem dL_alike_241 : decode cL_alike 241 = .ok (.iload 4, 2) := by decide +kernel
theorem dL_alike_243 : decode cL_alike 243 = .ok (.ireturn, 1) := by decide +kernel
theorem dL_power_0 : decode cL_power 0 = .ok (.lconst 1, 1) := by decide +kernel
theorem dL_power_1 : decode cL_power 1 = .ok (.lstore 4, 2) := by decide +kernel
theorem dL_power_3 : decode cL_power 3 = .ok (.lload_n 0, 1) := by decide +kernel
theorem dL_power_4 : decode cL_power 4 = .ok (.lload_n 2, 1) := by decide +kernel
theorem dL_power_5 : decode cL_power 5 = .ok (.lrem, 1) := by decide +kernel
theorem dL_power_6 : decode cL_power 6 = .ok (.lload_n 2, 1) := by decide +kernel
theorem dL_power_7 : decode cL_power 7 = .ok (.ladd, 1) := by decide +kernel
theorem dL_power_8 : decode cL_power 8 = .ok (.lload_n 2, 1) := by decide +kernel
theorem dL_power_9 : decode cL_power 9 = .ok (.lrem, 1) := by decide +kernel
theorem dL_power_10 : decode cL_power 10 = .ok (.lstore 6, 2) := by decide +kernel
theorem dL_power_12 : decode cL_power 12 = .ok (.lload_n 2, 1) := by decide +kernel
theorem dL_power_13 : decode cL_power 13 = .ok (.ldc2_w 136, 3) := by decide +kernel
theorem dL_power_16 : decode cL_power 16 = .ok (.lsub, 1) := by decide +kernel
theorem dL_power_17 : decode cL_power 17 = .ok (.lstore 8, 2) := by decide +kernel
theorem dL_power_19 : decode cL_power 19 = .ok (.lload 8, 2) := by decide +kernel
theorem dL_power_21 : decode cL_power 21 = .ok (.lconst 0, 1) := by decide +kernel
theorem dL_power_22 : decode cL_power 22 = .ok (.lcmp, 1) := by decide +kernel
theorem dL_power_23 : decode cL_power 23 = .ok (.ifCond .le 48, 3) := by decide +kernel
theorem dL_power_26 : decode cL_power 26 = .ok (.lload 8, 2) := by decide +kernel
theorem dL_power_28 : decode cL_power 28 = .ok (.ldc2_w 136, 3) := by decide +kernel
theorem dL_power_31 : decode cL_power 31 = .ok (.lrem, 1) := by decide +kernel
theorem dL_power_32 : decode cL_power 32 = .ok (.lconst 1, 1) := by decide +kernel
theorem dL_power_33 : decode cL_power 33 = .ok (.lcmp, 1) := by decide +kernel
theorem dL_power_34 : decode cL_power 34 = .ok (.ifCond .ne 13, 3) := by decide +kernel
theorem dL_power_37 : decode cL_power 37 = .ok (.lload 4, 2) := by decide +kernel
theorem dL_power_39 : decode cL_power 39 = .ok (.lload 6, 2) := by decide +kernel
theorem dL_power_41 : decode cL_power 41 = .ok (.lmul, 1) := by decide +kernel
theorem dL_power_42 : decode cL_power 42 = .ok (.lload_n 2, 1) := by decide +kernel
theorem dL_power_43 : decode cL_power 43 = .ok (.lrem, 1) := by decide +kernel
theorem dL_power_44 : decode cL_power 44 = .ok (.goto 5, 3) := by decide +kernel
theorem dL_power_47 : decode cL_power 47 = .ok (.lload 4, 2) := by decide +kernel
theorem dL_power_49 : decode cL_power 49 = .ok (.lstore 4, 2) := by decide +kernel
theorem dL_power_51 : decode cL_power 51 = .ok (.lload 6, 2) := by decide +kernel
theorem dL_power_53 : decode cL_power 53 = .ok (.lload 6, 2) := by decide +kernel
theorem dL_power_55 : decode cL_power 55 = .ok (.lmul, 1) := by decide +kernel
theorem dL_power_56 : decode cL_power 56 = .ok (.lload_n 2, 1) := by decide +kernel
theorem dL_power_57 : decode cL_power 57 = .ok (.lrem, 1) := by decide +kernel
theorem dL_power_58 : decode cL_power 58 = .ok (.lstore 6, 2) := by decide +kernel
theorem dL_power_60 : decode cL_power 60 = .ok (.lload 8, 2) := by decide +kernel
theorem dL_power_62 : decode cL_power 62 = .ok (.ldc2_w 136, 3) := by decide +kernel
theorem dL_power_65 : decode cL_power 65 = .ok (.ldiv, 1) := by decide +kernel
theorem dL_power_66 : decode cL_power 66 = .ok (.lstore 8, 2) := by decide +kernel
theorem dL_power_68 : decode cL_power 68 = .ok (.goto (-49), 3) := by decide +kernel
theorem dL_power_71 : decode cL_power 71 = .ok (.lload 4, 2) := by decide +kernel
theorem dL_power_73 : decode cL_power 73 = .ok (.lreturn, 1) := by decide +kernel
set_option maxRecDepth 20000 in
theorem ggL_vanishes_L_observable : GoodIn wsL_vanishes wsL_observable := goodIn_ca (goodIn_r _ [4, 5, 6, 7, 8, 9, 10, 11, 12, 13, 14, 15, 16, 17, 18, 19, 20, 21, 22, 23, 24, 25, 26, 27, 28, 29, 30, 31, 32, 33, 34, 35, 36, 37, 38, 39, 40, 41, 42, 43, 44, 45, 46, 47, 48, 49, 50, 51, 52, 53, 54, 55, 56, 57, 58, 59, 60, 61, 62, 63, 64, 65, 66, 67, 68, 69, 70, 71, 72, 73, 74, 75, 186, 187, 188, 189, 190, 191, 192, 193, 194, 195, 196, 197, 198, 199, 200, 201, 202, 203, 204, 205, 206, 207, 208] (by decide +kernel) (by decide +kernel)) (goodIn_sub (fun _ h => List.mem_cons_of_mem _ (List.mem_append_left _ (List.mem_append_right _ h))) (by decide +kernel))
set_option maxRecDepth 20000 in
theorem gL_vanishes_L_observable : GoodIn wsL_vanishes (va_wsS RL 108 yL_observable wsL_observable) := goodIn_app (goodIn_of _ (by decide +kernel)) ggL_vanishes_L_observable
set_option maxRecDepth 20000 in
theorem ggL_vanishes_L_counts : GoodIn wsL_vanishes wsL_counts := goodIn_ca (goodIn_r _ [78, 5, 6, 79, 80, 81, 10, 82, 83, 84, 85, 86, 87, 18, 19, 88, 89, 90, 45, 91, 92, 93, 43, 44, 46, 47, 48, 49, 50, 51, 52, 53, 54, 186, 187, 188, 189, 202, 203, 204, 205, 206, 207, 208, 190, 191, 192, 193, 194, 195, 196, 197, 198] (by decide +kernel) (by decide +kernel)) (goodIn_sub (fun _ h => List.mem_cons_of_mem _ (List.mem_append_left _ (List.mem_append_right _ h))) (by decide +kernel))
set_option maxRecDepth 20000 in
theorem gL_vanishes_L_counts : GoodIn wsL_vanishes (va_wsS RL 103 yL_counts wsL_counts) := goodIn_app (goodIn_of _ (by decide +kernel)) ggL_vanishes_L_counts
set_option maxRecDepth 20000 in
theorem ggL_vanishes_L_reference : GoodIn wsL_vanishes wsL_reference := goodIn_ca (goodIn_r _ [96, 5, 6, 97, 98, 99, 10, 100, 13, 14, 15, 16, 17, 18, 19, 20, 21, 22, 23, 24, 25, 186, 187, 188, 189, 190, 191, 192, 193, 194, 195, 196, 197, 198] (by decide +kernel) (by decide +kernel)) (goodIn_sub (fun _ h => List.mem_cons_of_mem _ (List.mem_append_left _ (List.mem_append_right _ h))) (by decide +kernel))
set_option maxRecDepth 20000 in
theorem gL_vanishes_L_reference : GoodIn wsL_vanishes (va_wsS RL 89 yL_reference wsL_reference) := goodIn_app (goodIn_of _ (by decide +kernel)) ggL_vanishes_L_reference
set_option maxRecDepth 20000 in
theorem ggL_vanishes_L_under : GoodIn wsL_vanishes wsL_under := goodIn_ca (goodIn_ca (goodIn_r _ [103, 5, 104, 105, 106, 107, 108, 109, 10, 110, 111, 112, 113, 114, 115, 116, 117, 83, 84, 85, 86, 87, 18, 19, 88, 89, 90, 45, 91, 92, 118, 49, 50, 51, 52, 53, 54, 119, 120, 121, 122, 12, 26, 27, 28, 29, 30, 31, 32, 33, 34, 35, 36, 37, 38, 39, 40, 41, 42, 43, 44, 46, 47, 48, 55, 56, 57, 58, 59, 60, 61, 62, 63, 64, 65, 66, 67, 68, 69, 23, 70, 71, 72, 73, 74, 75, 123, 124, 125, 126, 127, 128, 129, 130, 131, 132, 133, 134, 135, 136, 137, 138, 139, 140, 141, 142, 143, 144, 145, 146, 147, 148, 149, 150, 151, 152, 153, 154, 155, 156, 157, 158, 159, 160, 161, 162, 163, 164, 165, 166, 167, 168, 169, 170, 171, 172, 173, 174, 186, 187, 188, 189, 209, 210, 211, 212, 213, 214, 215, 202, 203, 204, 205, 206, 207, 208, 190, 191, 192, 193, 194, 195, 196, 197, 198, 199, 200, 201] (by decide +kernel) (by decide +kernel)) (goodIn_sub (fun _ h => List.mem_cons_of_mem _ (List.mem_append_right _ h)) (by decide +kernel))) (goodIn_sub (fun _ h => List.mem_cons_of_mem _ (List.mem_append_left _ (List.mem_append_right _ h))) (by decide +kernel))
set_option maxRecDepth 20000 in
theorem gL_vanishes_L_under : GoodIn wsL_vanishes (va_wsS RL 124 yL_under wsL_under) := goodIn_app (goodIn_of _ (by decide +kernel)) ggL_vanishes_L_under
set_option maxRecDepth 20000 in
theorem ggL_vanishes_L_over : GoodIn wsL_vanishes wsL_over := goodIn_ca (goodIn_ca (goodIn_r _ [177, 5, 104, 105, 106, 178, 179, 180, 10, 181, 111, 112, 113, 114, 115, 116, 117, 83, 84, 85, 86, 87, 18, 19, 88, 89, 90, 45, 91, 92, 118, 49, 50, 51, 52, 53, 54, 119, 120, 121, 122, 12, 26, 27, 28, 29, 30, 31, 32, 33, 34, 35, 36, 37, 38, 39, 40, 41, 42, 43, 44, 46, 47, 48, 55, 56, 57, 58, 59, 60, 61, 62, 63, 64, 65, 66, 67, 68, 69, 23, 70, 71, 72, 73, 74, 75, 123, 124, 125, 126, 127, 128, 129, 130, 131, 132, 133, 134, 135, 136, 137, 138, 139, 140, 141, 142, 143, 144, 145, 146, 147, 148, 149, 150, 151, 152, 153, 154, 155, 156, 157, 158, 159, 160, 161, 162, 163, 164, 165, 166, 167, 168, 169, 170, 171, 172, 173, 174, 186, 187, 188, 189, 209, 210, 211, 212, 213, 214, 215, 202, 203, 204, 205, 206, 207, 208, 190, 191, 192, 193, 194, 195, 196, 197, 198, 199, 200, 201] (by decide +kernel) (by decide +kernel)) (goodIn_sub (fun _ h => List.mem_cons_of_mem _ (List.mem_append_right _ h)) (by decide +kernel))) (goodIn_sub (fun _ h => List.mem_cons_of_mem _ (List.mem_append_left _ (List.mem_append_right _ h))) (by decide +kernel))
set_option maxRecDepth 20000 in
theorem gL_vanishes_L_over : GoodIn wsL_vanishes (va_wsS RL 121 yL_over wsL_over) := goodIn_app (goodIn_of _ (by decide +kernel)) ggL_vanishes_L_over
set_option maxRecDepth 20000 in
theorem ggL_vanishes_L_power : GoodIn wsL_vanishes wsL_power := goodIn_r _ [184, 185] (by decide +kernel) (by decide +kernel)
set_option maxRecDepth 20000 in
theorem gL_vanishes_L_power : GoodIn wsL_vanishes (va_wsS RL 138 yL_power wsL_power) := goodIn_app (goodIn_of _ (by decide +kernel)) ggL_vanishes_L_power
theorem dL_vanishes_0 : decode cL_vanishes 0 = .ok (.iconst 1, 1) := by decide +kernel
theorem dL_vanishes_1 : decode cL_vanishes 1 = .ok (.istore 6, 2) := by decide +kernel
theorem dL_vanishes_3 : decode cL_vanishes 3 = .ok (.iconst 0, 1) := by decide +kernel
theorem dL_vanishes_4 : decode cL_vanishes 4 = .ok (.istore 7, 2) := by decide +kernel
theorem dL_vanishes_6 : decode cL_vanishes 6 = .ok (.iload 7, 2) := by decide +kernel
theorem dL_vanishes_8 : decode cL_vanishes 8 = .ok (.aload_n 1, 1) := by decide +kernel
theorem dL_vanishes_9 : decode cL_vanishes 9 = .ok (.iconst 0, 1) := by decide +kernel
theorem dL_vanishes_10 : decode cL_vanishes 10 = .ok (.iaload, 1) := by decide +kernel
theorem dL_vanishes_11 : decode cL_vanishes 11 = .ok (.if_icmp .ge 358, 3) := by decide +kernel
theorem dL_vanishes_14 : decode cL_vanishes 14 = .ok (.iload 6, 2) := by decide +kernel
theorem dL_vanishes_16 : decode cL_vanishes 16 = .ok (.ifCond .eq 353, 3) := by decide +kernel
theorem dL_vanishes_19 : decode cL_vanishes 19 = .ok (.lconst 0, 1) := by decide +kernel
theorem dL_vanishes_20 : decode cL_vanishes 20 = .ok (.lstore 8, 2) := by decide +kernel
theorem dL_vanishes_22 : decode cL_vanishes 22 = .ok (.aload_n 0, 1) := by decide +kernel
theorem dL_vanishes_23 : decode cL_vanishes 23 = .ok (.iload 7, 2) := by decide +kernel
theorem dL_vanishes_25 : decode cL_vanishes 25 = .ok (.invokestatic 108, 3) := by decide +kernel
theorem dL_vanishes_28 : decode cL_vanishes 28 = .ok (.iconst 1, 1) := by decide +kernel
theorem dL_vanishes_29 : decode cL_vanishes 29 = .ok (.if_icmp .ne 7, 3) := by decide +kernel
theorem dL_vanishes_32 : decode cL_vanishes 32 = .ok (.iconst 1, 1) := by decide +kernel
theorem dL_vanishes_33 : decode cL_vanishes 33 = .ok (.goto 4, 3) := by decide +kernel
theorem dL_vanishes_36 : decode cL_vanishes 36 = .ok (.iconst 0, 1) := by decide +kernel
theorem dL_vanishes_37 : decode cL_vanishes 37 = .ok (.istore 10, 2) := by decide +kernel
theorem dL_vanishes_39 : decode cL_vanishes 39 = .ok (.iconst 0, 1) := by decide +kernel
theorem dL_vanishes_40 : decode cL_vanishes 40 = .ok (.istore 11, 2) := by decide +kernel
theorem dL_vanishes_42 : decode cL_vanishes 42 = .ok (.iload 11, 2) := by decide +kernel
theorem dL_vanishes_44 : decode cL_vanishes 44 = .ok (.aload_n 1, 1) := by decide +kernel
theorem dL_vanishes_45 : decode cL_vanishes 45 = .ok (.iconst 2, 1) := by decide +kernel
theorem dL_vanishes_46 : decode cL_vanishes 46 = .ok (.iaload, 1) := by decide +kernel
theorem dL_vanishes_47 : decode cL_vanishes 47 = .ok (.if_icmp .ge 283, 3) := by decide +kernel
theorem dL_vanishes_50 : decode cL_vanishes 50 = .ok (.iload 10, 2) := by decide +kernel
theorem dL_vanishes_52 : decode cL_vanishes 52 = .ok (.ifCond .eq 278, 3) := by decide +kernel
theorem dL_vanishes_55 : decode cL_vanishes 55 = .ok (.aload_n 0, 1) := by decide +kernel
theorem dL_vanishes_56 : decode cL_vanishes 56 = .ok (.iload 11, 2) := by decide +kernel
theorem dL_vanishes_58 : decode cL_vanishes 58 = .ok (.invokestatic 103, 3) := by decide +kernel
theorem dL_vanishes_61 : decode cL_vanishes 61 = .ok (.aload_n 0, 1) := by decide +kernel
theorem dL_vanishes_62 : decode cL_vanishes 62 = .ok (.iload 7, 2) := by decide +kernel
theorem dL_vanishes_64 : decode cL_vanishes 64 = .ok (.invokestatic 89, 3) := by decide +kernel
theorem dL_vanishes_67 : decode cL_vanishes 67 = .ok (.if_icmp .ne 257, 3) := by decide +kernel
theorem dL_vanishes_70 : decode cL_vanishes 70 = .ok (.iconst 0, 1) := by decide +kernel
theorem dL_vanishes_71 : decode cL_vanishes 71 = .ok (.istore 12, 2) := by decide +kernel
theorem dL_vanishes_73 : decode cL_vanishes 73 = .ok (.iconst 0, 1) := by decide +kernel
theorem dL_vanishes_74 : decode cL_vanishes 74 = .ok (.istore 13, 2) := by decide +kernel
theorem dL_vanishes_76 : decode cL_vanishes 76 = .ok (.iload 13, 2) := by decide +kernel
theorem dL_vanishes_78 : decode cL_vanishes 78 = .ok (.aload_n 1, 1) := by decide +kernel
theorem dL_vanishes_79 : decode cL_vanishes 79 = .ok (.iconst 1, 1) := by decide +kernel
theorem dL_vanishes_80 : decode cL_vanishes 80 = .ok (.iaload, 1) := by decide +kernel
theorem dL_vanishes_81 : decode cL_vanishes 81 = .ok (.if_icmp .ge 168, 3) := by decide +kernel
theorem dL_vanishes_84 : decode cL_vanishes 84 = .ok (.aload_n 2, 1) := by decide +kernel
theorem dL_vanishes_85 : decode cL_vanishes 85 = .ok (.iconst 4, 1) := by decide +kernel
theorem dL_vanishes_86 : decode cL_vanishes 86 = .ok (.iload 13, 2) := by decide +kernel
theorem dL_vanishes_88 : decode cL_vanishes 88 = .ok (.imul, 1) := by decide +kernel
theorem dL_vanishes_89 : decode cL_vanishes 89 = .ok (.iaload, 1) := by decide +kernel
theorem dL_vanishes_90 : decode cL_vanishes 90 = .ok (.istore 14, 2) := by decide +kernel
theorem dL_vanishes_92 : decode cL_vanishes 92 = .ok (.aload_n 2, 1) := by decide +kernel
theorem dL_vanishes_93 : decode cL_vanishes 93 = .ok (.iconst 4, 1) := by decide +kernel
theorem dL_vanishes_94 : decode cL_vanishes 94 = .ok (.iload 13, 2) := by decide +kernel
theorem dL_vanishes_96 : decode cL_vanishes 96 = .ok (.imul, 1) := by decide +kernel
theorem dL_vanishes_97 : decode cL_vanishes 97 = .ok (.iconst 1, 1) := by decide +kernel
theorem dL_vanishes_98 : decode cL_vanishes 98 = .ok (.iadd, 1) := by decide +kernel
theorem dL_vanishes_99 : decode cL_vanishes 99 = .ok (.iaload, 1) := by decide +kernel
theorem dL_vanishes_100 : decode cL_vanishes 100 = .ok (.istore 15, 2) := by decide +kernel
theorem dL_vanishes_102 : decode cL_vanishes 102 = .ok (.aload_n 2, 1) := by decide +kernel
theorem dL_vanishes_103 : decode cL_vanishes 103 = .ok (.iconst 4, 1) := by decide +kernel
theorem dL_vanishes_104 : decode cL_vanishes 104 = .ok (.iload 13, 2) := by decide +kernel
theorem dL_vanishes_106 : decode cL_vanishes 106 = .ok (.imul, 1) := by decide +kernel
theorem dL_vanishes_107 : decode cL_vanishes 107 = .ok (.iconst 3, 1) := by decide +kernel
theorem dL_vanishes_108 : decode cL_vanishes 108 = .ok (.iadd, 1) := by decide +kernel
theorem dL_vanishes_109 : decode cL_vanishes 109 = .ok (.iaload, 1) := by decide +kernel
theorem dL_vanishes_110 : decode cL_vanishes 110 = .ok (.ifCond .ne 7, 3) := by decide +kernel
theorem dL_vanishes_113 : decode cL_vanishes 113 = .ok (.iconst 0, 1) := by decide +kernel
