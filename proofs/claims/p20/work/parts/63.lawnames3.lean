theorem dL_vanishes_114 : decode cL_vanishes 114 = .ok (.goto 41, 3) := by decide +kernel
theorem dL_vanishes_117 : decode cL_vanishes 117 = .ok (.iload 14, 2) := by decide +kernel
theorem dL_vanishes_119 : decode cL_vanishes 119 = .ok (.iload 7, 2) := by decide +kernel
theorem dL_vanishes_121 : decode cL_vanishes 121 = .ok (.if_icmp .ne 14, 3) := by decide +kernel
theorem dL_vanishes_124 : decode cL_vanishes 124 = .ok (.aload_n 2, 1) := by decide +kernel
theorem dL_vanishes_125 : decode cL_vanishes 125 = .ok (.iconst 4, 1) := by decide +kernel
theorem dL_vanishes_126 : decode cL_vanishes 126 = .ok (.iload 13, 2) := by decide +kernel
theorem dL_vanishes_128 : decode cL_vanishes 128 = .ok (.imul, 1) := by decide +kernel
theorem dL_vanishes_129 : decode cL_vanishes 129 = .ok (.iconst 2, 1) := by decide +kernel
theorem dL_vanishes_130 : decode cL_vanishes 130 = .ok (.iadd, 1) := by decide +kernel
theorem dL_vanishes_131 : decode cL_vanishes 131 = .ok (.iaload, 1) := by decide +kernel
theorem dL_vanishes_132 : decode cL_vanishes 132 = .ok (.goto 23, 3) := by decide +kernel
theorem dL_vanishes_135 : decode cL_vanishes 135 = .ok (.iload 15, 2) := by decide +kernel
theorem dL_vanishes_137 : decode cL_vanishes 137 = .ok (.iload 7, 2) := by decide +kernel
theorem dL_vanishes_139 : decode cL_vanishes 139 = .ok (.if_icmp .ne 15, 3) := by decide +kernel
theorem dL_vanishes_142 : decode cL_vanishes 142 = .ok (.aload_n 2, 1) := by decide +kernel
theorem dL_vanishes_143 : decode cL_vanishes 143 = .ok (.iconst 4, 1) := by decide +kernel
theorem dL_vanishes_144 : decode cL_vanishes 144 = .ok (.iload 13, 2) := by decide +kernel
theorem dL_vanishes_146 : decode cL_vanishes 146 = .ok (.imul, 1) := by decide +kernel
theorem dL_vanishes_147 : decode cL_vanishes 147 = .ok (.iconst 2, 1) := by decide +kernel
theorem dL_vanishes_148 : decode cL_vanishes 148 = .ok (.iadd, 1) := by decide +kernel
theorem dL_vanishes_149 : decode cL_vanishes 149 = .ok (.iaload, 1) := by decide +kernel
theorem dL_vanishes_150 : decode cL_vanishes 150 = .ok (.ineg, 1) := by decide +kernel
theorem dL_vanishes_151 : decode cL_vanishes 151 = .ok (.goto 4, 3) := by decide +kernel
theorem dL_vanishes_154 : decode cL_vanishes 154 = .ok (.iconst 0, 1) := by decide +kernel
theorem dL_vanishes_155 : decode cL_vanishes 155 = .ok (.istore 16, 2) := by decide +kernel
theorem dL_vanishes_157 : decode cL_vanishes 157 = .ok (.aload_n 3, 1) := by decide +kernel
theorem dL_vanishes_158 : decode cL_vanishes 158 = .ok (.iconst 4, 1) := by decide +kernel
theorem dL_vanishes_159 : decode cL_vanishes 159 = .ok (.iload 11, 2) := by decide +kernel
theorem dL_vanishes_161 : decode cL_vanishes 161 = .ok (.imul, 1) := by decide +kernel
theorem dL_vanishes_162 : decode cL_vanishes 162 = .ok (.iaload, 1) := by decide +kernel
theorem dL_vanishes_163 : decode cL_vanishes 163 = .ok (.ifCond .ne 7, 3) := by decide +kernel
theorem dL_vanishes_166 : decode cL_vanishes 166 = .ok (.iconst 1, 1) := by decide +kernel
theorem dL_vanishes_167 : decode cL_vanishes 167 = .ok (.goto 4, 3) := by decide +kernel
theorem dL_vanishes_170 : decode cL_vanishes 170 = .ok (.iconst 0, 1) := by decide +kernel
theorem dL_vanishes_171 : decode cL_vanishes 171 = .ok (.istore 17, 2) := by decide +kernel
theorem dL_vanishes_173 : decode cL_vanishes 173 = .ok (.iload 12, 2) := by decide +kernel
theorem dL_vanishes_175 : decode cL_vanishes 175 = .ok (.iload 17, 2) := by decide +kernel
theorem dL_vanishes_177 : decode cL_vanishes 177 = .ok (.ifCond .eq 25, 3) := by decide +kernel
theorem dL_vanishes_180 : decode cL_vanishes 180 = .ok (.aload_n 3, 1) := by decide +kernel
theorem dL_vanishes_181 : decode cL_vanishes 181 = .ok (.iconst 4, 1) := by decide +kernel
theorem dL_vanishes_182 : decode cL_vanishes 182 = .ok (.iload 11, 2) := by decide +kernel
theorem dL_vanishes_184 : decode cL_vanishes 184 = .ok (.imul, 1) := by decide +kernel
theorem dL_vanishes_185 : decode cL_vanishes 185 = .ok (.iconst 1, 1) := by decide +kernel
theorem dL_vanishes_186 : decode cL_vanishes 186 = .ok (.iadd, 1) := by decide +kernel
theorem dL_vanishes_187 : decode cL_vanishes 187 = .ok (.iaload, 1) := by decide +kernel
theorem dL_vanishes_188 : decode cL_vanishes 188 = .ok (.iload 13, 2) := by decide +kernel
theorem dL_vanishes_190 : decode cL_vanishes 190 = .ok (.if_icmp .ne 8, 3) := by decide +kernel
theorem dL_vanishes_193 : decode cL_vanishes 193 = .ok (.iload 16, 2) := by decide +kernel
theorem dL_vanishes_195 : decode cL_vanishes 195 = .ok (.goto 45, 3) := by decide +kernel
theorem dL_vanishes_198 : decode cL_vanishes 198 = .ok (.iconst 0, 1) := by decide +kernel
theorem dL_vanishes_199 : decode cL_vanishes 199 = .ok (.goto 41, 3) := by decide +kernel
theorem dL_vanishes_202 : decode cL_vanishes 202 = .ok (.iload 14, 2) := by decide +kernel
theorem dL_vanishes_204 : decode cL_vanishes 204 = .ok (.aload_n 3, 1) := by decide +kernel
theorem dL_vanishes_205 : decode cL_vanishes 205 = .ok (.iconst 4, 1) := by decide +kernel
theorem dL_vanishes_206 : decode cL_vanishes 206 = .ok (.iload 11, 2) := by decide +kernel
theorem dL_vanishes_208 : decode cL_vanishes 208 = .ok (.imul, 1) := by decide +kernel
theorem dL_vanishes_209 : decode cL_vanishes 209 = .ok (.iconst 1, 1) := by decide +kernel
theorem dL_vanishes_210 : decode cL_vanishes 210 = .ok (.iadd, 1) := by decide +kernel
theorem dL_vanishes_211 : decode cL_vanishes 211 = .ok (.iaload, 1) := by decide +kernel
theorem dL_vanishes_212 : decode cL_vanishes 212 = .ok (.if_icmp .ne 8, 3) := by decide +kernel
theorem dL_vanishes_215 : decode cL_vanishes 215 = .ok (.iload 16, 2) := by decide +kernel
theorem dL_vanishes_217 : decode cL_vanishes 217 = .ok (.goto 23, 3) := by decide +kernel
theorem dL_vanishes_220 : decode cL_vanishes 220 = .ok (.iload 15, 2) := by decide +kernel
theorem dL_vanishes_222 : decode cL_vanishes 222 = .ok (.aload_n 3, 1) := by decide +kernel
theorem dL_vanishes_223 : decode cL_vanishes 223 = .ok (.iconst 4, 1) := by decide +kernel
theorem dL_vanishes_224 : decode cL_vanishes 224 = .ok (.iload 11, 2) := by decide +kernel
theorem dL_vanishes_226 : decode cL_vanishes 226 = .ok (.imul, 1) := by decide +kernel
theorem dL_vanishes_227 : decode cL_vanishes 227 = .ok (.iconst 1, 1) := by decide +kernel
theorem dL_vanishes_228 : decode cL_vanishes 228 = .ok (.iadd, 1) := by decide +kernel
theorem dL_vanishes_229 : decode cL_vanishes 229 = .ok (.iaload, 1) := by decide +kernel
theorem dL_vanishes_230 : decode cL_vanishes 230 = .ok (.if_icmp .ne 9, 3) := by decide +kernel
theorem dL_vanishes_233 : decode cL_vanishes 233 = .ok (.iload 16, 2) := by decide +kernel
theorem dL_vanishes_235 : decode cL_vanishes 235 = .ok (.ineg, 1) := by decide +kernel
theorem dL_vanishes_236 : decode cL_vanishes 236 = .ok (.goto 4, 3) := by decide +kernel
theorem dL_vanishes_239 : decode cL_vanishes 239 = .ok (.iconst 0, 1) := by decide +kernel
theorem dL_vanishes_240 : decode cL_vanishes 240 = .ok (.iadd, 1) := by decide +kernel
theorem dL_vanishes_241 : decode cL_vanishes 241 = .ok (.istore 12, 2) := by decide +kernel
theorem dL_vanishes_243 : decode cL_vanishes 243 = .ok (.iinc 13 1, 3) := by decide +kernel
theorem dL_vanishes_246 : decode cL_vanishes 246 = .ok (.goto (-170), 3) := by decide +kernel
theorem dL_vanishes_249 : decode cL_vanishes 249 = .ok (.aload_n 0, 1) := by decide +kernel
theorem dL_vanishes_250 : decode cL_vanishes 250 = .ok (.iload 11, 2) := by decide +kernel
theorem dL_vanishes_252 : decode cL_vanishes 252 = .ok (.invokestatic 124, 3) := by decide +kernel
theorem dL_vanishes_255 : decode cL_vanishes 255 = .ok (.lstore 13, 2) := by decide +kernel
theorem dL_vanishes_257 : decode cL_vanishes 257 = .ok (.lload 13, 2) := by decide +kernel
theorem dL_vanishes_259 : decode cL_vanishes 259 = .ok (.lload 4, 2) := by decide +kernel
theorem dL_vanishes_261 : decode cL_vanishes 261 = .ok (.lrem, 1) := by decide +kernel
theorem dL_vanishes_262 : decode cL_vanishes 262 = .ok (.lconst 0, 1) := by decide +kernel
theorem dL_vanishes_263 : decode cL_vanishes 263 = .ok (.lcmp, 1) := by decide +kernel
theorem dL_vanishes_264 : decode cL_vanishes 264 = .ok (.ifCond .eq 7, 3) := by decide +kernel
theorem dL_vanishes_267 : decode cL_vanishes 267 = .ok (.iconst 1, 1) := by decide +kernel
theorem dL_vanishes_268 : decode cL_vanishes 268 = .ok (.goto 4, 3) := by decide +kernel
theorem dL_vanishes_271 : decode cL_vanishes 271 = .ok (.iconst 0, 1) := by decide +kernel
theorem dL_vanishes_272 : decode cL_vanishes 272 = .ok (.istore 10, 2) := by decide +kernel
theorem dL_vanishes_274 : decode cL_vanishes 274 = .ok (.lload 8, 2) := by decide +kernel
theorem dL_vanishes_276 : decode cL_vanishes 276 = .ok (.aload_n 3, 1) := by decide +kernel
theorem dL_vanishes_277 : decode cL_vanishes 277 = .ok (.iconst 4, 1) := by decide +kernel
theorem dL_vanishes_278 : decode cL_vanishes 278 = .ok (.iload 11, 2) := by decide +kernel
theorem dL_vanishes_280 : decode cL_vanishes 280 = .ok (.imul, 1) := by decide +kernel
theorem dL_vanishes_281 : decode cL_vanishes 281 = .ok (.iconst 2, 1) := by decide +kernel
theorem dL_vanishes_282 : decode cL_vanishes 282 = .ok (.iadd, 1) := by decide +kernel
theorem dL_vanishes_283 : decode cL_vanishes 283 = .ok (.iaload, 1) := by decide +kernel
theorem dL_vanishes_284 : decode cL_vanishes 284 = .ok (.aload_n 3, 1) := by decide +kernel
theorem dL_vanishes_285 : decode cL_vanishes 285 = .ok (.iconst 4, 1) := by decide +kernel
theorem dL_vanishes_286 : decode cL_vanishes 286 = .ok (.iload 11, 2) := by decide +kernel
theorem dL_vanishes_288 : decode cL_vanishes 288 = .ok (.imul, 1) := by decide +kernel
theorem dL_vanishes_289 : decode cL_vanishes 289 = .ok (.iconst 2, 1) := by decide +kernel
theorem dL_vanishes_290 : decode cL_vanishes 290 = .ok (.iadd, 1) := by decide +kernel
theorem dL_vanishes_291 : decode cL_vanishes 291 = .ok (.iaload, 1) := by decide +kernel
theorem dL_vanishes_292 : decode cL_vanishes 292 = .ok (.imul, 1) := by decide +kernel
theorem dL_vanishes_293 : decode cL_vanishes 293 = .ok (.iload 12, 2) := by decide +kernel
theorem dL_vanishes_295 : decode cL_vanishes 295 = .ok (.imul, 1) := by decide +kernel
theorem dL_vanishes_296 : decode cL_vanishes 296 = .ok (.i2l, 1) := by decide +kernel
theorem dL_vanishes_297 : decode cL_vanishes 297 = .ok (.aload_n 0, 1) := by decide +kernel
theorem dL_vanishes_298 : decode cL_vanishes 298 = .ok (.iload 11, 2) := by decide +kernel
theorem dL_vanishes_300 : decode cL_vanishes 300 = .ok (.invokestatic 121, 3) := by decide +kernel
theorem dL_vanishes_303 : decode cL_vanishes 303 = .ok (.lload 4, 2) := by decide +kernel
theorem dL_vanishes_305 : decode cL_vanishes 305 = .ok (.lrem, 1) := by decide +kernel
theorem dL_vanishes_306 : decode cL_vanishes 306 = .ok (.lload 13, 2) := by decide +kernel
theorem dL_vanishes_308 : decode cL_vanishes 308 = .ok (.lload 4, 2) := by decide +kernel
theorem dL_vanishes_310 : decode cL_vanishes 310 = .ok (.invokestatic 138, 3) := by decide +kernel
theorem dL_vanishes_313 : decode cL_vanishes 313 = .ok (.lmul, 1) := by decide +kernel
theorem dL_vanishes_314 : decode cL_vanishes 314 = .ok (.lload 4, 2) := by decide +kernel
theorem dL_vanishes_316 : decode cL_vanishes 316 = .ok (.lrem, 1) := by decide +kernel
theorem dL_vanishes_317 : decode cL_vanishes 317 = .ok (.lmul, 1) := by decide +kernel
theorem dL_vanishes_318 : decode cL_vanishes 318 = .ok (.lload 4, 2) := by decide +kernel
theorem dL_vanishes_320 : decode cL_vanishes 320 = .ok (.lrem, 1) := by decide +kernel
theorem dL_vanishes_321 : decode cL_vanishes 321 = .ok (.ladd, 1) := by decide +kernel
theorem dL_vanishes_322 : decode cL_vanishes 322 = .ok (.lstore 8, 2) := by decide +kernel
theorem dL_vanishes_324 : decode cL_vanishes 324 = .ok (.iinc 11 1, 3) := by decide +kernel
theorem dL_vanishes_327 : decode cL_vanishes 327 = .ok (.goto (-285), 3) := by decide +kernel
theorem dL_vanishes_330 : decode cL_vanishes 330 = .ok (.iload 10, 2) := by decide +kernel
theorem dL_vanishes_332 : decode cL_vanishes 332 = .ok (.ifCond .eq 24, 3) := by decide +kernel
theorem dL_vanishes_335 : decode cL_vanishes 335 = .ok (.aload_n 0, 1) := by decide +kernel
theorem dL_vanishes_336 : decode cL_vanishes 336 = .ok (.iload 7, 2) := by decide +kernel
theorem dL_vanishes_338 : decode cL_vanishes 338 = .ok (.invokestatic 89, 3) := by decide +kernel
theorem dL_vanishes_341 : decode cL_vanishes 341 = .ok (.iload 7, 2) := by decide +kernel
theorem dL_vanishes_343 : decode cL_vanishes 343 = .ok (.if_icmp .eq 13, 3) := by decide +kernel
theorem dL_vanishes_346 : decode cL_vanishes 346 = .ok (.lload 8, 2) := by decide +kernel
theorem dL_vanishes_348 : decode cL_vanishes 348 = .ok (.lload 4, 2) := by decide +kernel
theorem dL_vanishes_350 : decode cL_vanishes 350 = .ok (.lrem, 1) := by decide +kernel
theorem dL_vanishes_351 : decode cL_vanishes 351 = .ok (.lconst 0, 1) := by decide +kernel
theorem dL_vanishes_352 : decode cL_vanishes 352 = .ok (.lcmp, 1) := by decide +kernel
theorem dL_vanishes_353 : decode cL_vanishes 353 = .ok (.ifCond .ne 7, 3) := by decide +kernel
theorem dL_vanishes_356 : decode cL_vanishes 356 = .ok (.iconst 1, 1) := by decide +kernel
theorem dL_vanishes_357 : decode cL_vanishes 357 = .ok (.goto 4, 3) := by decide +kernel
theorem dL_vanishes_360 : decode cL_vanishes 360 = .ok (.iconst 0, 1) := by decide +kernel
theorem dL_vanishes_361 : decode cL_vanishes 361 = .ok (.istore 6, 2) := by decide +kernel
theorem dL_vanishes_363 : decode cL_vanishes 363 = .ok (.iinc 7 1, 3) := by decide +kernel
theorem dL_vanishes_366 : decode cL_vanishes 366 = .ok (.goto (-360), 3) := by decide +kernel
theorem dL_vanishes_369 : decode cL_vanishes 369 = .ok (.iload 6, 2) := by decide +kernel
theorem dL_vanishes_371 : decode cL_vanishes 371 = .ok (.ireturn, 1) := by decide +kernel
set_option maxRecDepth 20000 in
theorem ggL_holds_L_reference : GoodIn wsL_holds wsL_reference := goodIn_ca (goodIn_r _ [4, 5, 6, 7, 8, 9, 10, 11, 12, 13, 14, 15, 16, 17, 18, 19, 20, 21, 22, 23, 24, 248, 249, 250, 251, 252, 253, 254, 255, 256, 257, 258, 259, 260] (by decide +kernel) (by decide +kernel)) (goodIn_sub (fun _ h => List.mem_cons_of_mem _ (List.mem_append_left _ (List.mem_append_right _ h))) (by decide +kernel))
set_option maxRecDepth 20000 in
theorem gL_holds_L_reference : GoodIn wsL_holds (va_wsS RL 89 yL_reference wsL_reference) := goodIn_app (goodIn_of _ (by decide +kernel)) ggL_holds_L_reference
set_option maxRecDepth 20000 in
theorem ggL_holds_L_counts : GoodIn wsL_holds wsL_counts := goodIn_ca (goodIn_r _ [27, 5, 6, 28, 29, 30, 10, 31, 32, 33, 34, 35, 36, 17, 18, 37, 38, 39, 40, 41, 42, 43, 44, 45, 46, 47, 48, 49, 50, 51, 52, 53, 54, 248, 249, 250, 251, 261, 262, 263, 264, 265, 266, 267, 252, 253, 254, 255, 256, 257, 258, 259, 260] (by decide +kernel) (by decide +kernel)) (goodIn_sub (fun _ h => List.mem_cons_of_mem _ (List.mem_append_left _ (List.mem_append_right _ h))) (by decide +kernel))
set_option maxRecDepth 20000 in
theorem gL_holds_L_counts : GoodIn wsL_holds (va_wsS RL 103 yL_counts wsL_counts) := goodIn_app (goodIn_of _ (by decide +kernel)) ggL_holds_L_counts
set_option maxRecDepth 20000 in
theorem ggL_holds_L_worst : GoodIn wsL_holds wsL_worst := goodIn_ca (goodIn_ca (goodIn_r _ [57, 5, 58, 6, 59, 60, 61, 62, 10, 63, 64, 12, 65, 66, 67, 68, 13, 14, 15, 16, 17, 18, 19, 20, 21, 22, 23, 24, 69, 70, 71, 72, 73, 74, 75, 76, 77, 78, 79, 80, 81, 82, 83, 84, 85, 86, 87, 88, 89, 90, 91, 92, 44, 45, 40, 46, 47, 48, 49, 50, 51, 52, 53, 54, 93, 94, 95, 96, 97, 98, 99, 100, 101, 102, 103, 104, 105, 106, 107, 108, 109, 110, 111, 112, 113, 114, 115, 116, 117, 118, 119, 120, 121, 122, 123, 124, 125, 126, 127, 128, 129, 130, 131, 132, 133, 134, 135, 136, 137, 138, 139, 140, 141, 142, 143, 144, 145, 146, 147, 148, 149, 150, 151, 152, 153, 154, 155, 156, 157, 158, 159, 160, 161, 162, 163, 164, 165, 166, 167, 248, 249, 250, 251, 252, 253, 254, 255, 256, 257, 258, 259, 260, 268, 269, 270, 261, 262, 263, 264, 265, 266, 267, 271, 272, 273, 274, 275, 276, 277] (by decide +kernel) (by decide +kernel)) (goodIn_sub (fun _ h => List.mem_cons_of_mem _ (List.mem_append_left _ (List.mem_append_right _ h))) (by decide +kernel))) (goodIn_sub (fun _ h => List.mem_cons_of_mem _ (List.mem_append_right _ h)) (by decide +kernel))
set_option maxRecDepth 20000 in
theorem gL_holds_L_worst : GoodIn wsL_holds (va_wsS RL 127 yL_worst wsL_worst) := goodIn_app (goodIn_of _ (by decide +kernel)) ggL_holds_L_worst
set_option maxRecDepth 20000 in
theorem ggL_holds_L_rank : GoodIn wsL_holds wsL_rank := goodIn_ca (goodIn_r _ [170, 5, 6, 171, 172, 173, 10, 174, 75, 12, 13, 14, 15, 16, 17, 18, 19, 20, 21, 22, 23, 24, 175, 83, 84, 79, 85, 86, 87, 88, 89, 90, 91, 92, 44, 45, 40, 46, 47, 48, 49, 50, 51, 52, 53, 54, 93, 94, 95, 96, 97, 98, 99, 100, 101, 102, 103, 104, 248, 249, 250, 251, 252, 253, 254, 255, 256, 257, 258, 259, 260, 268, 269, 270, 261, 262, 263, 264, 265, 266, 267] (by decide +kernel) (by decide +kernel)) (goodIn_sub (fun _ h => List.mem_cons_of_mem _ (List.mem_append_left _ (List.mem_append_right _ h))) (by decide +kernel))
set_option maxRecDepth 20000 in
theorem gL_holds_L_rank : GoodIn wsL_holds (va_wsS RL 106 yL_rank wsL_rank) := goodIn_app (goodIn_of _ (by decide +kernel)) ggL_holds_L_rank
set_option maxRecDepth 20000 in
theorem ggL_holds_L_observable : GoodIn wsL_holds wsL_observable := goodIn_ca (goodIn_r _ [178, 5, 6, 179, 180, 181, 10, 182, 75, 12, 13, 14, 15, 16, 17, 18, 19, 20, 21, 22, 23, 24, 76, 77, 78, 79, 80, 81, 82, 83, 84, 85, 86, 87, 88, 89, 90, 91, 92, 44, 45, 40, 46, 47, 48, 49, 50, 51, 52, 53, 54, 93, 94, 95, 96, 97, 98, 99, 100, 101, 102, 103, 104, 105, 106, 107, 108, 109, 110, 111, 112, 113, 248, 249, 250, 251, 252, 253, 254, 255, 256, 257, 258, 259, 260, 268, 269, 270, 261, 262, 263, 264, 265, 266, 267] (by decide +kernel) (by decide +kernel)) (goodIn_sub (fun _ h => List.mem_cons_of_mem _ (List.mem_append_left _ (List.mem_append_right _ h))) (by decide +kernel))
set_option maxRecDepth 20000 in
theorem gL_holds_L_observable : GoodIn wsL_holds (va_wsS RL 108 yL_observable wsL_observable) := goodIn_app (goodIn_of _ (by decide +kernel)) ggL_holds_L_observable
set_option maxRecDepth 20000 in
theorem ggL_holds_L_bottom : GoodIn wsL_holds wsL_bottom := goodIn_ca (goodIn_ca (goodIn_r _ [185, 5, 58, 186, 187, 188, 189, 190, 10, 191, 64, 65, 66, 67, 68, 12, 13, 14, 15, 16, 17, 18, 19, 20, 21, 22, 23, 24, 69, 70, 71, 72, 73, 74, 75, 76, 77, 78, 79, 80, 81, 82, 83, 84, 85, 86, 87, 88, 89, 90, 91, 92, 44, 45, 40, 46, 47, 48, 49, 50, 51, 52, 53, 54, 93, 94, 95, 96, 97, 98, 99, 100, 101, 102, 103, 104, 105, 106, 107, 108, 109, 110, 111, 112, 113, 114, 115, 116, 117, 118, 119, 120, 121, 122, 123, 124, 125, 126, 127, 128, 129, 130, 131, 132, 133, 134, 135, 136, 137, 138, 139, 140, 141, 142, 143, 144, 145, 146, 147, 148, 149, 150, 151, 192, 193, 194, 195, 161, 162, 163, 196, 197, 198, 248, 249, 250, 251, 271, 272, 273, 274, 275, 276, 277, 252, 253, 254, 255, 256, 257, 258, 259, 260, 268, 269, 270, 261, 262, 263, 264, 265, 266, 267] (by decide +kernel) (by decide +kernel)) (goodIn_sub (fun _ h => List.mem_cons_of_mem _ (List.mem_append_left _ (List.mem_append_right _ h))) (by decide +kernel))) (goodIn_sub (fun _ h => List.mem_cons_of_mem _ (List.mem_append_right _ h)) (by decide +kernel))
set_option maxRecDepth 20000 in
theorem gL_holds_L_bottom : GoodIn wsL_holds (va_wsS RL 118 yL_bottom wsL_bottom) := goodIn_app (goodIn_of _ (by decide +kernel)) ggL_holds_L_bottom
set_option maxRecDepth 20000 in
theorem ggL_holds_L_top : GoodIn wsL_holds wsL_top := goodIn_ca (goodIn_ca (goodIn_r _ [201, 5, 58, 186, 187, 202, 203, 204, 10, 205, 64, 65, 66, 67, 68, 12, 13, 14, 15, 16, 17, 18, 19, 20, 21, 22, 23, 24, 69, 70, 71, 72, 73, 74, 75, 76, 77, 78, 79, 80, 81, 82, 83, 84, 85, 86, 87, 88, 89, 90, 91, 92, 44, 45, 40, 46, 47, 48, 49, 50, 51, 52, 53, 54, 93, 94, 95, 96, 97, 98, 99, 100, 101, 102, 103, 104, 105, 106, 107, 108, 109, 110, 111, 112, 113, 114, 115, 116, 117, 118, 119, 120, 121, 122, 123, 124, 125, 126, 127, 128, 129, 130, 131, 132, 133, 134, 135, 136, 137, 138, 139, 140, 141, 142, 143, 144, 145, 146, 147, 148, 149, 150, 151, 192, 193, 194, 195, 161, 162, 163, 196, 197, 198, 248, 249, 250, 251, 271, 272, 273, 274, 275, 276, 277, 252, 253, 254, 255, 256, 257, 258, 259, 260, 268, 269, 270, 261, 262, 263, 264, 265, 266, 267] (by decide +kernel) (by decide +kernel)) (goodIn_sub (fun _ h => List.mem_cons_of_mem _ (List.mem_append_left _ (List.mem_append_right _ h))) (by decide +kernel))) (goodIn_sub (fun _ h => List.mem_cons_of_mem _ (List.mem_append_right _ h)) (by decide +kernel))
set_option maxRecDepth 20000 in
theorem gL_holds_L_top : GoodIn wsL_holds (va_wsS RL 114 yL_top wsL_top) := goodIn_app (goodIn_of _ (by decide +kernel)) ggL_holds_L_top
set_option maxRecDepth 20000 in
theorem ggL_holds_L_over : GoodIn wsL_holds wsL_over := goodIn_ca (goodIn_ca (goodIn_r _ [208, 5, 58, 186, 187, 209, 210, 211, 10, 212, 64, 213, 214, 215, 216, 73, 74, 32, 33, 34, 35, 36, 17, 18, 37, 38, 39, 40, 41, 42, 217, 49, 50, 51, 52, 53, 54, 69, 70, 71, 72, 75, 76, 77, 78, 79, 80, 81, 82, 83, 84, 85, 86, 87, 88, 89, 90, 91, 92, 44, 45, 46, 47, 48, 93, 94, 95, 96, 97, 98, 99, 100, 101, 102, 103, 104, 105, 106, 107, 22, 108, 109, 110, 111, 112, 113, 114, 115, 116, 117, 118, 119, 120, 121, 122, 123, 124, 125, 126, 127, 128, 129, 130, 131, 132, 133, 134, 135, 136, 137, 138, 139, 140, 141, 142, 143, 144, 145, 146, 147, 148, 149, 150, 151, 218, 165, 166, 167, 192, 193, 194, 195, 161, 162, 163, 196, 197, 198, 248, 249, 250, 251, 271, 272, 273, 274, 275, 276, 277, 261, 262, 263, 264, 265, 266, 267, 252, 253, 254, 255, 256, 257, 258, 259, 260, 268, 269, 270] (by decide +kernel) (by decide +kernel)) (goodIn_sub (fun _ h => List.mem_cons_of_mem _ (List.mem_append_right _ h)) (by decide +kernel))) (goodIn_sub (fun _ h => List.mem_cons_of_mem _ (List.mem_append_left _ (List.mem_append_right _ h))) (by decide +kernel))
set_option maxRecDepth 20000 in
theorem gL_holds_L_over : GoodIn wsL_holds (va_wsS RL 121 yL_over wsL_over) := goodIn_app (goodIn_of _ (by decide +kernel)) ggL_holds_L_over
set_option maxRecDepth 20000 in
theorem ggL_holds_L_critical : GoodIn wsL_holds wsL_critical := goodIn_ca (goodIn_r _ [221, 5, 6, 222, 223, 224, 10, 225, 75, 33, 34, 35, 36, 17, 18, 32, 37, 38, 39, 40, 41, 42, 226, 227, 228, 79, 229, 90, 81, 92, 44, 45, 46, 47, 48, 49, 50, 51, 52, 53, 54, 105, 106, 107, 22, 108, 109, 110, 111, 112, 113, 82, 83, 84, 85, 86, 87, 88, 89, 91, 93, 94, 95, 96, 97, 98, 99, 100, 101, 102, 103, 104, 248, 249, 250, 251, 261, 262, 263, 264, 265, 266, 267, 268, 269, 270, 252, 253, 254, 255, 256, 257, 258, 259, 260] (by decide +kernel) (by decide +kernel)) (goodIn_sub (fun _ h => List.mem_cons_of_mem _ (List.mem_append_left _ (List.mem_append_right _ h))) (by decide +kernel))
set_option maxRecDepth 20000 in
theorem gL_holds_L_critical : GoodIn wsL_holds (va_wsS RL 111 yL_critical wsL_critical) := goodIn_app (goodIn_of _ (by decide +kernel)) ggL_holds_L_critical
set_option maxRecDepth 20000 in
theorem ggL_holds_L_under : GoodIn wsL_holds wsL_under := goodIn_ca (goodIn_ca (goodIn_r _ [232, 5, 58, 186, 187, 233, 234, 235, 10, 236, 64, 213, 214, 215, 216, 73, 74, 32, 33, 34, 35, 36, 17, 18, 37, 38, 39, 40, 41, 42, 217, 49, 50, 51, 52, 53, 54, 69, 70, 71, 72, 75, 76, 77, 78, 79, 80, 81, 82, 83, 84, 85, 86, 87, 88, 89, 90, 91, 92, 44, 45, 46, 47, 48, 93, 94, 95, 96, 97, 98, 99, 100, 101, 102, 103, 104, 105, 106, 107, 22, 108, 109, 110, 111, 112, 113, 114, 115, 116, 117, 118, 119, 120, 121, 122, 123, 124, 125, 126, 127, 128, 129, 130, 131, 132, 133, 134, 135, 136, 137, 138, 139, 140, 141, 142, 143, 144, 145, 146, 147, 148, 149, 150, 151, 218, 165, 166, 167, 192, 193, 194, 195, 161, 162, 163, 196, 197, 198, 248, 249, 250, 251, 271, 272, 273, 274, 275, 276, 277, 261, 262, 263, 264, 265, 266, 267, 252, 253, 254, 255, 256, 257, 258, 259, 260, 268, 269, 270] (by decide +kernel) (by decide +kernel)) (goodIn_sub (fun _ h => List.mem_cons_of_mem _ (List.mem_append_right _ h)) (by decide +kernel))) (goodIn_sub (fun _ h => List.mem_cons_of_mem _ (List.mem_append_left _ (List.mem_append_right _ h))) (by decide +kernel))
set_option maxRecDepth 20000 in
theorem gL_holds_L_under : GoodIn wsL_holds (va_wsS RL 124 yL_under wsL_under) := goodIn_app (goodIn_of _ (by decide +kernel)) ggL_holds_L_under
set_option maxRecDepth 20000 in
theorem ggL_holds_L_uses : GoodIn wsL_holds wsL_uses := goodIn_ca (goodIn_r _ [239, 5, 6, 240, 241, 242, 10, 243, 32, 33, 34, 35, 36, 17, 18, 37, 38, 39, 40, 41, 42, 248, 249, 250, 251, 261, 262, 263, 264, 265, 266, 267] (by decide +kernel) (by decide +kernel)) (goodIn_sub (fun _ h => List.mem_cons_of_mem _ (List.mem_append_left _ (List.mem_append_right _ h))) (by decide +kernel))
set_option maxRecDepth 20000 in
theorem gL_holds_L_uses : GoodIn wsL_holds (va_wsS RL 100 yL_uses wsL_uses) := goodIn_app (goodIn_of _ (by decide +kernel)) ggL_holds_L_uses
set_option maxRecDepth 20000 in
theorem ggL_holds_X4_islands : GoodIn wsL_holds wsX4_islands := goodIn_r _ [247, 12, 248, 249, 250, 251, 252, 253, 254, 255, 256, 257, 258, 259, 260] (by decide +kernel) (by decide +kernel)
set_option maxRecDepth 20000 in
theorem gL_holds_X4_islands : GoodIn wsL_holds (wsV RL 132 RX4 yX4_islands wsX4_islands) := goodIn_app (goodIn_of _ (by decide +kernel)) ggL_holds_X4_islands
theorem dL_holds_0 : decode cL_holds 0 = .ok (.iconst 0, 1) := by decide +kernel
theorem dL_holds_1 : decode cL_holds 1 = .ok (.istore_n 3, 1) := by decide +kernel
theorem dL_holds_2 : decode cL_holds 2 = .ok (.iconst 1, 1) := by decide +kernel
theorem dL_holds_3 : decode cL_holds 3 = .ok (.istore 4, 2) := by decide +kernel
theorem dL_holds_5 : decode cL_holds 5 = .ok (.iconst 0, 1) := by decide +kernel
theorem dL_holds_6 : decode cL_holds 6 = .ok (.istore 5, 2) := by decide +kernel
theorem dL_holds_8 : decode cL_holds 8 = .ok (.iload 5, 2) := by decide +kernel
theorem dL_holds_10 : decode cL_holds 10 = .ok (.aload_n 1, 1) := by decide +kernel
theorem dL_holds_11 : decode cL_holds 11 = .ok (.iconst 0, 1) := by decide +kernel
theorem dL_holds_12 : decode cL_holds 12 = .ok (.iaload, 1) := by decide +kernel
theorem dL_holds_13 : decode cL_holds 13 = .ok (.if_icmp .ge 284, 3) := by decide +kernel
theorem dL_holds_16 : decode cL_holds 16 = .ok (.iload 4, 2) := by decide +kernel
theorem dL_holds_18 : decode cL_holds 18 = .ok (.ifCond .eq 279, 3) := by decide +kernel
theorem dL_holds_21 : decode cL_holds 21 = .ok (.aload_n 0, 1) := by decide +kernel
theorem dL_holds_22 : decode cL_holds 22 = .ok (.iload 5, 2) := by decide +kernel
theorem dL_holds_24 : decode cL_holds 24 = .ok (.invokestatic 89, 3) := by decide +kernel
theorem dL_holds_27 : decode cL_holds 27 = .ok (.istore 6, 2) := by decide +kernel
theorem dL_holds_29 : decode cL_holds 29 = .ok (.iconst 0, 1) := by decide +kernel
theorem dL_holds_30 : decode cL_holds 30 = .ok (.istore 7, 2) := by decide +kernel
theorem dL_holds_32 : decode cL_holds 32 = .ok (.iconst 0, 1) := by decide +kernel
theorem dL_holds_33 : decode cL_holds 33 = .ok (.istore 8, 2) := by decide +kernel
theorem dL_holds_35 : decode cL_holds 35 = .ok (.iconst 0, 1) := by decide +kernel
theorem dL_holds_36 : decode cL_holds 36 = .ok (.istore 9, 2) := by decide +kernel
theorem dL_holds_38 : decode cL_holds 38 = .ok (.iload 9, 2) := by decide +kernel
theorem dL_holds_40 : decode cL_holds 40 = .ok (.aload_n 1, 1) := by decide +kernel
theorem dL_holds_41 : decode cL_holds 41 = .ok (.iconst 0, 1) := by decide +kernel
theorem dL_holds_42 : decode cL_holds 42 = .ok (.iaload, 1) := by decide +kernel
theorem dL_holds_43 : decode cL_holds 43 = .ok (.if_icmp .ge 30, 3) := by decide +kernel
theorem dL_holds_46 : decode cL_holds 46 = .ok (.iload 7, 2) := by decide +kernel
theorem dL_holds_48 : decode cL_holds 48 = .ok (.aload_n 0, 1) := by decide +kernel
theorem dL_holds_49 : decode cL_holds 49 = .ok (.iload 9, 2) := by decide +kernel
theorem dL_holds_51 : decode cL_holds 51 = .ok (.invokestatic 89, 3) := by decide +kernel
theorem dL_holds_54 : decode cL_holds 54 = .ok (.iload 6, 2) := by decide +kernel
theorem dL_holds_56 : decode cL_holds 56 = .ok (.if_icmp .ne 7, 3) := by decide +kernel
theorem dL_holds_59 : decode cL_holds 59 = .ok (.iconst 1, 1) := by decide +kernel
theorem dL_holds_60 : decode cL_holds 60 = .ok (.goto 4, 3) := by decide +kernel
theorem dL_holds_63 : decode cL_holds 63 = .ok (.iconst 0, 1) := by decide +kernel
theorem dL_holds_64 : decode cL_holds 64 = .ok (.iadd, 1) := by decide +kernel
theorem dL_holds_65 : decode cL_holds 65 = .ok (.istore 7, 2) := by decide +kernel
theorem dL_holds_67 : decode cL_holds 67 = .ok (.iinc 9 1, 3) := by decide +kernel
theorem dL_holds_70 : decode cL_holds 70 = .ok (.goto (-32), 3) := by decide +kernel
theorem dL_holds_73 : decode cL_holds 73 = .ok (.iconst 0, 1) := by decide +kernel
theorem dL_holds_74 : decode cL_holds 74 = .ok (.istore 9, 2) := by decide +kernel
theorem dL_holds_76 : decode cL_holds 76 = .ok (.iload 9, 2) := by decide +kernel
theorem dL_holds_78 : decode cL_holds 78 = .ok (.aload_n 1, 1) := by decide +kernel
theorem dL_holds_79 : decode cL_holds 79 = .ok (.iconst 2, 1) := by decide +kernel
theorem dL_holds_80 : decode cL_holds 80 = .ok (.iaload, 1) := by decide +kernel
theorem dL_holds_81 : decode cL_holds 81 = .ok (.if_icmp .ge 30, 3) := by decide +kernel
theorem dL_holds_84 : decode cL_holds 84 = .ok (.iload 8, 2) := by decide +kernel
theorem dL_holds_86 : decode cL_holds 86 = .ok (.aload_n 0, 1) := by decide +kernel
theorem dL_holds_87 : decode cL_holds 87 = .ok (.iload 9, 2) := by decide +kernel
theorem dL_holds_89 : decode cL_holds 89 = .ok (.invokestatic 103, 3) := by decide +kernel
theorem dL_holds_92 : decode cL_holds 92 = .ok (.iload 6, 2) := by decide +kernel
theorem dL_holds_94 : decode cL_holds 94 = .ok (.if_icmp .ne 7, 3) := by decide +kernel
theorem dL_holds_97 : decode cL_holds 97 = .ok (.iconst 1, 1) := by decide +kernel
theorem dL_holds_98 : decode cL_holds 98 = .ok (.goto 4, 3) := by decide +kernel
theorem dL_holds_101 : decode cL_holds 101 = .ok (.iconst 0, 1) := by decide +kernel
theorem dL_holds_102 : decode cL_holds 102 = .ok (.iadd, 1) := by decide +kernel
theorem dL_holds_103 : decode cL_holds 103 = .ok (.istore 8, 2) := by decide +kernel
theorem dL_holds_105 : decode cL_holds 105 = .ok (.iinc 9 1, 3) := by decide +kernel
theorem dL_holds_108 : decode cL_holds 108 = .ok (.goto (-32), 3) := by decide +kernel
theorem dL_holds_111 : decode cL_holds 111 = .ok (.iload_n 3, 1) := by decide +kernel
theorem dL_holds_112 : decode cL_holds 112 = .ok (.iload 6, 2) := by decide +kernel
theorem dL_holds_114 : decode cL_holds 114 = .ok (.iload 5, 2) := by decide +kernel
theorem dL_holds_116 : decode cL_holds 116 = .ok (.if_icmp .ne 7, 3) := by decide +kernel
theorem dL_holds_119 : decode cL_holds 119 = .ok (.iconst 1, 1) := by decide +kernel
theorem dL_holds_120 : decode cL_holds 120 = .ok (.goto 4, 3) := by decide +kernel
theorem dL_holds_123 : decode cL_holds 123 = .ok (.iconst 0, 1) := by decide +kernel
theorem dL_holds_124 : decode cL_holds 124 = .ok (.iadd, 1) := by decide +kernel
theorem dL_holds_125 : decode cL_holds 125 = .ok (.istore_n 3, 1) := by decide +kernel
theorem dL_holds_126 : decode cL_holds 126 = .ok (.aload_n 0, 1) := by decide +kernel
theorem dL_holds_127 : decode cL_holds 127 = .ok (.iload 5, 2) := by decide +kernel
theorem dL_holds_129 : decode cL_holds 129 = .ok (.invokestatic 127, 3) := by decide +kernel
theorem dL_holds_132 : decode cL_holds 132 = .ok (.istore 9, 2) := by decide +kernel
theorem dL_holds_134 : decode cL_holds 134 = .ok (.iload 6, 2) := by decide +kernel
theorem dL_holds_136 : decode cL_holds 136 = .ok (.iload 5, 2) := by decide +kernel
theorem dL_holds_138 : decode cL_holds 138 = .ok (.if_icmp .gt 150, 3) := by decide +kernel
theorem dL_holds_141 : decode cL_holds 141 = .ok (.aload_n 0, 1) := by decide +kernel
theorem dL_holds_142 : decode cL_holds 142 = .ok (.iload 6, 2) := by decide +kernel
theorem dL_holds_144 : decode cL_holds 144 = .ok (.invokestatic 89, 3) := by decide +kernel
theorem dL_holds_147 : decode cL_holds 147 = .ok (.iload 6, 2) := by decide +kernel
theorem dL_holds_149 : decode cL_holds 149 = .ok (.if_icmp .ne 139, 3) := by decide +kernel
theorem dL_holds_152 : decode cL_holds 152 = .ok (.aload_n 0, 1) := by decide +kernel
theorem dL_holds_153 : decode cL_holds 153 = .ok (.iload 5, 2) := by decide +kernel
theorem dL_holds_155 : decode cL_holds 155 = .ok (.invokestatic 106, 3) := by decide +kernel
theorem dL_holds_158 : decode cL_holds 158 = .ok (.ifCond .lt 130, 3) := by decide +kernel
theorem dL_holds_161 : decode cL_holds 161 = .ok (.aload_n 0, 1) := by decide +kernel
theorem dL_holds_162 : decode cL_holds 162 = .ok (.iload 5, 2) := by decide +kernel
theorem dL_holds_164 : decode cL_holds 164 = .ok (.invokestatic 106, 3) := by decide +kernel
theorem dL_holds_167 : decode cL_holds 167 = .ok (.iload 7, 2) := by decide +kernel
theorem dL_holds_169 : decode cL_holds 169 = .ok (.if_icmp .ge 119, 3) := by decide +kernel
theorem dL_holds_172 : decode cL_holds 172 = .ok (.aload_n 0, 1) := by decide +kernel
theorem dL_holds_173 : decode cL_holds 173 = .ok (.iload 5, 2) := by decide +kernel
theorem dL_holds_175 : decode cL_holds 175 = .ok (.invokestatic 106, 3) := by decide +kernel
theorem dL_holds_178 : decode cL_holds 178 = .ok (.iload 8, 2) := by decide +kernel
theorem dL_holds_180 : decode cL_holds 180 = .ok (.if_icmp .gt 108, 3) := by decide +kernel
theorem dL_holds_183 : decode cL_holds 183 = .ok (.aload_n 0, 1) := by decide +kernel
theorem dL_holds_184 : decode cL_holds 184 = .ok (.iload 5, 2) := by decide +kernel
theorem dL_holds_186 : decode cL_holds 186 = .ok (.invokestatic 108, 3) := by decide +kernel
theorem dL_holds_189 : decode cL_holds 189 = .ok (.iconst 1, 1) := by decide +kernel
theorem dL_holds_190 : decode cL_holds 190 = .ok (.if_icmp .ne 7, 3) := by decide +kernel
theorem dL_holds_193 : decode cL_holds 193 = .ok (.iconst 1, 1) := by decide +kernel
theorem dL_holds_194 : decode cL_holds 194 = .ok (.goto 4, 3) := by decide +kernel
theorem dL_holds_197 : decode cL_holds 197 = .ok (.iconst 0, 1) := by decide +kernel
theorem dL_holds_198 : decode cL_holds 198 = .ok (.aload_n 0, 1) := by decide +kernel
theorem dL_holds_199 : decode cL_holds 199 = .ok (.iload 5, 2) := by decide +kernel
theorem dL_holds_201 : decode cL_holds 201 = .ok (.invokestatic 106, 3) := by decide +kernel
theorem dL_holds_204 : decode cL_holds 204 = .ok (.iload 7, 2) := by decide +kernel
theorem dL_holds_206 : decode cL_holds 206 = .ok (.iconst 1, 1) := by decide +kernel
theorem dL_holds_207 : decode cL_holds 207 = .ok (.isub, 1) := by decide +kernel
theorem dL_holds_208 : decode cL_holds 208 = .ok (.if_icmp .ne 7, 3) := by decide +kernel
theorem dL_holds_211 : decode cL_holds 211 = .ok (.iconst 1, 1) := by decide +kernel
theorem dL_holds_212 : decode cL_holds 212 = .ok (.goto 4, 3) := by decide +kernel
theorem dL_holds_215 : decode cL_holds 215 = .ok (.iconst 0, 1) := by decide +kernel
theorem dL_holds_216 : decode cL_holds 216 = .ok (.if_icmp .ne 72, 3) := by decide +kernel
theorem dL_holds_219 : decode cL_holds 219 = .ok (.aload_n 0, 1) := by decide +kernel
theorem dL_holds_220 : decode cL_holds 220 = .ok (.iload 5, 2) := by decide +kernel
theorem dL_holds_222 : decode cL_holds 222 = .ok (.invokestatic 108, 3) := by decide +kernel
theorem dL_holds_225 : decode cL_holds 225 = .ok (.ifCond .eq 59, 3) := by decide +kernel
theorem dL_holds_228 : decode cL_holds 228 = .ok (.aload_n 0, 1) := by decide +kernel
theorem dL_holds_229 : decode cL_holds 229 = .ok (.iload 5, 2) := by decide +kernel
theorem dL_holds_231 : decode cL_holds 231 = .ok (.invokestatic 118, 3) := by decide +kernel
theorem dL_holds_234 : decode cL_holds 234 = .ok (.lconst 1, 1) := by decide +kernel
theorem dL_holds_235 : decode cL_holds 235 = .ok (.lcmp, 1) := by decide +kernel
theorem dL_holds_236 : decode cL_holds 236 = .ok (.ifCond .lt 52, 3) := by decide +kernel
theorem dL_holds_239 : decode cL_holds 239 = .ok (.iload 6, 2) := by decide +kernel
theorem dL_holds_241 : decode cL_holds 241 = .ok (.iload 5, 2) := by decide +kernel
theorem dL_holds_243 : decode cL_holds 243 = .ok (.if_icmp .ne 14, 3) := by decide +kernel
theorem dL_holds_246 : decode cL_holds 246 = .ok (.aload_n 0, 1) := by decide +kernel
theorem dL_holds_247 : decode cL_holds 247 = .ok (.iload 5, 2) := by decide +kernel
theorem dL_holds_249 : decode cL_holds 249 = .ok (.invokestatic 114, 3) := by decide +kernel
theorem dL_holds_252 : decode cL_holds 252 = .ok (.lconst 0, 1) := by decide +kernel
theorem dL_holds_253 : decode cL_holds 253 = .ok (.lcmp, 1) := by decide +kernel
theorem dL_holds_254 : decode cL_holds 254 = .ok (.ifCond .ne 34, 3) := by decide +kernel
theorem dL_holds_257 : decode cL_holds 257 = .ok (.iload 9, 2) := by decide +kernel
theorem dL_holds_259 : decode cL_holds 259 = .ok (.ifCond .lt 25, 3) := by decide +kernel
theorem dL_holds_262 : decode cL_holds 262 = .ok (.aload_n 0, 1) := by decide +kernel
theorem dL_holds_263 : decode cL_holds 263 = .ok (.iload 9, 2) := by decide +kernel
theorem dL_holds_265 : decode cL_holds 265 = .ok (.invokestatic 103, 3) := by decide +kernel
theorem dL_holds_268 : decode cL_holds 268 = .ok (.iload 6, 2) := by decide +kernel
theorem dL_holds_270 : decode cL_holds 270 = .ok (.if_icmp .ne 18, 3) := by decide +kernel
theorem dL_holds_273 : decode cL_holds 273 = .ok (.aload_n 0, 1) := by decide +kernel
theorem dL_holds_274 : decode cL_holds 274 = .ok (.iload 9, 2) := by decide +kernel
theorem dL_holds_276 : decode cL_holds 276 = .ok (.invokestatic 121, 3) := by decide +kernel
theorem dL_holds_279 : decode cL_holds 279 = .ok (.lconst 0, 1) := by decide +kernel
theorem dL_holds_280 : decode cL_holds 280 = .ok (.lcmp, 1) := by decide +kernel
theorem dL_holds_281 : decode cL_holds 281 = .ok (.ifCond .eq 7, 3) := by decide +kernel
theorem dL_holds_284 : decode cL_holds 284 = .ok (.iconst 1, 1) := by decide +kernel
theorem dL_holds_285 : decode cL_holds 285 = .ok (.goto 4, 3) := by decide +kernel
theorem dL_holds_288 : decode cL_holds 288 = .ok (.iconst 0, 1) := by decide +kernel
theorem dL_holds_289 : decode cL_holds 289 = .ok (.istore 4, 2) := by decide +kernel
theorem dL_holds_291 : decode cL_holds 291 = .ok (.iinc 5 1, 3) := by decide +kernel
theorem dL_holds_294 : decode cL_holds 294 = .ok (.goto (-286), 3) := by decide +kernel
theorem dL_holds_297 : decode cL_holds 297 = .ok (.iconst 0, 1) := by decide +kernel
theorem dL_holds_298 : decode cL_holds 298 = .ok (.istore 5, 2) := by decide +kernel
theorem dL_holds_300 : decode cL_holds 300 = .ok (.iload 5, 2) := by decide +kernel
theorem dL_holds_302 : decode cL_holds 302 = .ok (.aload_n 1, 1) := by decide +kernel
theorem dL_holds_303 : decode cL_holds 303 = .ok (.iconst 2, 1) := by decide +kernel
theorem dL_holds_304 : decode cL_holds 304 = .ok (.iaload, 1) := by decide +kernel
theorem dL_holds_305 : decode cL_holds 305 = .ok (.if_icmp .ge 187, 3) := by decide +kernel
theorem dL_holds_308 : decode cL_holds 308 = .ok (.iload 4, 2) := by decide +kernel
theorem dL_holds_310 : decode cL_holds 310 = .ok (.ifCond .eq 182, 3) := by decide +kernel
theorem dL_holds_313 : decode cL_holds 313 = .ok (.aload_n 0, 1) := by decide +kernel
theorem dL_holds_314 : decode cL_holds 314 = .ok (.iload 5, 2) := by decide +kernel
theorem dL_holds_316 : decode cL_holds 316 = .ok (.invokestatic 103, 3) := by decide +kernel
theorem dL_holds_319 : decode cL_holds 319 = .ok (.istore 6, 2) := by decide +kernel
theorem dL_holds_321 : decode cL_holds 321 = .ok (.iload 6, 2) := by decide +kernel
theorem dL_holds_323 : decode cL_holds 323 = .ok (.iconst (-1), 1) := by decide +kernel
theorem dL_holds_324 : decode cL_holds 324 = .ok (.if_icmp .ne 20, 3) := by decide +kernel
theorem dL_holds_327 : decode cL_holds 327 = .ok (.aload_n 0, 1) := by decide +kernel
theorem dL_holds_328 : decode cL_holds 328 = .ok (.iload 5, 2) := by decide +kernel
theorem dL_holds_330 : decode cL_holds 330 = .ok (.invokestatic 111, 3) := by decide +kernel
theorem dL_holds_333 : decode cL_holds 333 = .ok (.ifCond .ne 7, 3) := by decide +kernel
theorem dL_holds_336 : decode cL_holds 336 = .ok (.iconst 1, 1) := by decide +kernel
theorem dL_holds_337 : decode cL_holds 337 = .ok (.goto 43, 3) := by decide +kernel
theorem dL_holds_340 : decode cL_holds 340 = .ok (.iconst 0, 1) := by decide +kernel
theorem dL_holds_341 : decode cL_holds 341 = .ok (.goto 39, 3) := by decide +kernel
theorem dL_holds_344 : decode cL_holds 344 = .ok (.aload_n 0, 1) := by decide +kernel
theorem dL_holds_345 : decode cL_holds 345 = .ok (.iload 5, 2) := by decide +kernel
theorem dL_holds_347 : decode cL_holds 347 = .ok (.invokestatic 111, 3) := by decide +kernel
theorem dL_holds_350 : decode cL_holds 350 = .ok (.ifCond .eq 25, 3) := by decide +kernel
theorem dL_holds_353 : decode cL_holds 353 = .ok (.aload_n 0, 1) := by decide +kernel
theorem dL_holds_354 : decode cL_holds 354 = .ok (.iload 5, 2) := by decide +kernel
theorem dL_holds_356 : decode cL_holds 356 = .ok (.invokestatic 121, 3) := by decide +kernel
theorem dL_holds_359 : decode cL_holds 359 = .ok (.lconst 0, 1) := by decide +kernel
theorem dL_holds_360 : decode cL_holds 360 = .ok (.lcmp, 1) := by decide +kernel
theorem dL_holds_361 : decode cL_holds 361 = .ok (.ifCond .ne 18, 3) := by decide +kernel
theorem dL_holds_364 : decode cL_holds 364 = .ok (.aload_n 0, 1) := by decide +kernel
theorem dL_holds_365 : decode cL_holds 365 = .ok (.iload 5, 2) := by decide +kernel
theorem dL_holds_367 : decode cL_holds 367 = .ok (.invokestatic 124, 3) := by decide +kernel
theorem dL_holds_370 : decode cL_holds 370 = .ok (.lconst 1, 1) := by decide +kernel
theorem dL_holds_371 : decode cL_holds 371 = .ok (.lcmp, 1) := by decide +kernel
theorem dL_holds_372 : decode cL_holds 372 = .ok (.ifCond .ne 7, 3) := by decide +kernel
theorem dL_holds_375 : decode cL_holds 375 = .ok (.iconst 1, 1) := by decide +kernel
theorem dL_holds_376 : decode cL_holds 376 = .ok (.goto 4, 3) := by decide +kernel
theorem dL_holds_379 : decode cL_holds 379 = .ok (.iconst 0, 1) := by decide +kernel
theorem dL_holds_380 : decode cL_holds 380 = .ok (.istore 4, 2) := by decide +kernel
theorem dL_holds_382 : decode cL_holds 382 = .ok (.iload 4, 2) := by decide +kernel
theorem dL_holds_384 : decode cL_holds 384 = .ok (.ifCond .eq 102, 3) := by decide +kernel
theorem dL_holds_387 : decode cL_holds 387 = .ok (.iload 6, 2) := by decide +kernel
