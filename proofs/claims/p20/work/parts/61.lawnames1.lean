theorem dL_refuses_120 : decode cL_refuses 120 = .ok (.aload_n 0, 1) := by decide +kernel
theorem dL_refuses_121 : decode cL_refuses 121 = .ok (.iload 6, 2) := by decide +kernel
theorem dL_refuses_123 : decode cL_refuses 123 = .ok (.iload 6, 2) := by decide +kernel
theorem dL_refuses_125 : decode cL_refuses 125 = .ok (.iconst 1, 1) := by decide +kernel
theorem dL_refuses_126 : decode cL_refuses 126 = .ok (.iadd, 1) := by decide +kernel
theorem dL_refuses_127 : decode cL_refuses 127 = .ok (.aload_n 1, 1) := by decide +kernel
theorem dL_refuses_128 : decode cL_refuses 128 = .ok (.iconst 0, 1) := by decide +kernel
theorem dL_refuses_129 : decode cL_refuses 129 = .ok (.iaload, 1) := by decide +kernel
theorem dL_refuses_130 : decode cL_refuses 130 = .ok (.irem, 1) := by decide +kernel
theorem dL_refuses_131 : decode cL_refuses 131 = .ok (.iconst 3, 1) := by decide +kernel
theorem dL_refuses_132 : decode cL_refuses 132 = .ok (.iload_n 2, 1) := by decide +kernel
theorem dL_refuses_133 : decode cL_refuses 133 = .ok (.iadd, 1) := by decide +kernel
theorem dL_refuses_134 : decode cL_refuses 134 = .ok (.invokestatic 79, 3) := by decide +kernel
theorem dL_refuses_137 : decode cL_refuses 137 = .ok (.ldc 18, 2) := by decide +kernel
theorem dL_refuses_139 : decode cL_refuses 139 = .ok (.if_icmp .ne 398, 3) := by decide +kernel
theorem dL_refuses_142 : decode cL_refuses 142 = .ok (.aload_n 0, 1) := by decide +kernel
theorem dL_refuses_143 : decode cL_refuses 143 = .ok (.iload 6, 2) := by decide +kernel
theorem dL_refuses_145 : decode cL_refuses 145 = .ok (.iload 6, 2) := by decide +kernel
theorem dL_refuses_147 : decode cL_refuses 147 = .ok (.iconst 1, 1) := by decide +kernel
theorem dL_refuses_148 : decode cL_refuses 148 = .ok (.iadd, 1) := by decide +kernel
theorem dL_refuses_149 : decode cL_refuses 149 = .ok (.aload_n 1, 1) := by decide +kernel
theorem dL_refuses_150 : decode cL_refuses 150 = .ok (.iconst 0, 1) := by decide +kernel
theorem dL_refuses_151 : decode cL_refuses 151 = .ok (.iaload, 1) := by decide +kernel
theorem dL_refuses_152 : decode cL_refuses 152 = .ok (.irem, 1) := by decide +kernel
theorem dL_refuses_153 : decode cL_refuses 153 = .ok (.iload_n 2, 1) := by decide +kernel
theorem dL_refuses_154 : decode cL_refuses 154 = .ok (.ineg, 1) := by decide +kernel
theorem dL_refuses_155 : decode cL_refuses 155 = .ok (.invokestatic 79, 3) := by decide +kernel
theorem dL_refuses_158 : decode cL_refuses 158 = .ok (.ldc 18, 2) := by decide +kernel
theorem dL_refuses_160 : decode cL_refuses 160 = .ok (.if_icmp .ne 377, 3) := by decide +kernel
theorem dL_refuses_163 : decode cL_refuses 163 = .ok (.aload_n 0, 1) := by decide +kernel
theorem dL_refuses_164 : decode cL_refuses 164 = .ok (.iload 4, 2) := by decide +kernel
theorem dL_refuses_166 : decode cL_refuses 166 = .ok (.iconst 1, 1) := by decide +kernel
theorem dL_refuses_167 : decode cL_refuses 167 = .ok (.invokestatic 85, 3) := by decide +kernel
theorem dL_refuses_170 : decode cL_refuses 170 = .ok (.ldc 15, 2) := by decide +kernel
theorem dL_refuses_172 : decode cL_refuses 172 = .ok (.if_icmp .ne 365, 3) := by decide +kernel
theorem dL_refuses_175 : decode cL_refuses 175 = .ok (.aload_n 0, 1) := by decide +kernel
theorem dL_refuses_176 : decode cL_refuses 176 = .ok (.iload_n 3, 1) := by decide +kernel
theorem dL_refuses_177 : decode cL_refuses 177 = .ok (.invokestatic 89, 3) := by decide +kernel
theorem dL_refuses_180 : decode cL_refuses 180 = .ok (.ldc 15, 2) := by decide +kernel
theorem dL_refuses_182 : decode cL_refuses 182 = .ok (.if_icmp .ne 355, 3) := by decide +kernel
theorem dL_refuses_185 : decode cL_refuses 185 = .ok (.aload_n 0, 1) := by decide +kernel
theorem dL_refuses_186 : decode cL_refuses 186 = .ok (.iconst 2, 1) := by decide +kernel
theorem dL_refuses_187 : decode cL_refuses 187 = .ok (.iload_n 2, 1) := by decide +kernel
theorem dL_refuses_188 : decode cL_refuses 188 = .ok (.iadd, 1) := by decide +kernel
theorem dL_refuses_189 : decode cL_refuses 189 = .ok (.iload_n 3, 1) := by decide +kernel
theorem dL_refuses_190 : decode cL_refuses 190 = .ok (.iconst 0, 1) := by decide +kernel
theorem dL_refuses_191 : decode cL_refuses 191 = .ok (.iconst 1, 1) := by decide +kernel
theorem dL_refuses_192 : decode cL_refuses 192 = .ok (.invokestatic 92, 3) := by decide +kernel
theorem dL_refuses_195 : decode cL_refuses 195 = .ok (.ldc 18, 2) := by decide +kernel
theorem dL_refuses_197 : decode cL_refuses 197 = .ok (.if_icmp .ne 340, 3) := by decide +kernel
theorem dL_refuses_200 : decode cL_refuses 200 = .ok (.aload_n 0, 1) := by decide +kernel
theorem dL_refuses_201 : decode cL_refuses 201 = .ok (.iconst (-1), 1) := by decide +kernel
theorem dL_refuses_202 : decode cL_refuses 202 = .ok (.iconst 0, 1) := by decide +kernel
theorem dL_refuses_203 : decode cL_refuses 203 = .ok (.iconst 0, 1) := by decide +kernel
theorem dL_refuses_204 : decode cL_refuses 204 = .ok (.iconst 1, 1) := by decide +kernel
theorem dL_refuses_205 : decode cL_refuses 205 = .ok (.invokestatic 92, 3) := by decide +kernel
theorem dL_refuses_208 : decode cL_refuses 208 = .ok (.ldc 18, 2) := by decide +kernel
theorem dL_refuses_210 : decode cL_refuses 210 = .ok (.if_icmp .ne 327, 3) := by decide +kernel
theorem dL_refuses_213 : decode cL_refuses 213 = .ok (.aload_n 0, 1) := by decide +kernel
theorem dL_refuses_214 : decode cL_refuses 214 = .ok (.iconst 1, 1) := by decide +kernel
theorem dL_refuses_215 : decode cL_refuses 215 = .ok (.iload_n 3, 1) := by decide +kernel
theorem dL_refuses_216 : decode cL_refuses 216 = .ok (.bipush 51, 2) := by decide +kernel
theorem dL_refuses_218 : decode cL_refuses 218 = .ok (.iload_n 2, 1) := by decide +kernel
theorem dL_refuses_219 : decode cL_refuses 219 = .ok (.iadd, 1) := by decide +kernel
theorem dL_refuses_220 : decode cL_refuses 220 = .ok (.iconst 1, 1) := by decide +kernel
theorem dL_refuses_221 : decode cL_refuses 221 = .ok (.invokestatic 92, 3) := by decide +kernel
theorem dL_refuses_224 : decode cL_refuses 224 = .ok (.ldc 18, 2) := by decide +kernel
theorem dL_refuses_226 : decode cL_refuses 226 = .ok (.if_icmp .ne 311, 3) := by decide +kernel
theorem dL_refuses_229 : decode cL_refuses 229 = .ok (.aload_n 0, 1) := by decide +kernel
theorem dL_refuses_230 : decode cL_refuses 230 = .ok (.iconst 0, 1) := by decide +kernel
theorem dL_refuses_231 : decode cL_refuses 231 = .ok (.iload 4, 2) := by decide +kernel
theorem dL_refuses_233 : decode cL_refuses 233 = .ok (.bipush (-51), 2) := by decide +kernel
theorem dL_refuses_235 : decode cL_refuses 235 = .ok (.iload_n 2, 1) := by decide +kernel
theorem dL_refuses_236 : decode cL_refuses 236 = .ok (.isub, 1) := by decide +kernel
theorem dL_refuses_237 : decode cL_refuses 237 = .ok (.iconst 1, 1) := by decide +kernel
theorem dL_refuses_238 : decode cL_refuses 238 = .ok (.invokestatic 92, 3) := by decide +kernel
theorem dL_refuses_241 : decode cL_refuses 241 = .ok (.ldc 18, 2) := by decide +kernel
theorem dL_refuses_243 : decode cL_refuses 243 = .ok (.if_icmp .ne 294, 3) := by decide +kernel
theorem dL_refuses_246 : decode cL_refuses 246 = .ok (.aload_n 0, 1) := by decide +kernel
theorem dL_refuses_247 : decode cL_refuses 247 = .ok (.iconst 1, 1) := by decide +kernel
theorem dL_refuses_248 : decode cL_refuses 248 = .ok (.iload_n 3, 1) := by decide +kernel
theorem dL_refuses_249 : decode cL_refuses 249 = .ok (.iconst 5, 1) := by decide +kernel
theorem dL_refuses_250 : decode cL_refuses 250 = .ok (.iconst 0, 1) := by decide +kernel
theorem dL_refuses_251 : decode cL_refuses 251 = .ok (.invokestatic 92, 3) := by decide +kernel
theorem dL_refuses_254 : decode cL_refuses 254 = .ok (.ldc 18, 2) := by decide +kernel
theorem dL_refuses_256 : decode cL_refuses 256 = .ok (.if_icmp .ne 281, 3) := by decide +kernel
theorem dL_refuses_259 : decode cL_refuses 259 = .ok (.aload_n 0, 1) := by decide +kernel
theorem dL_refuses_260 : decode cL_refuses 260 = .ok (.iconst 1, 1) := by decide +kernel
theorem dL_refuses_261 : decode cL_refuses 261 = .ok (.iload_n 3, 1) := by decide +kernel
theorem dL_refuses_262 : decode cL_refuses 262 = .ok (.iconst 5, 1) := by decide +kernel
theorem dL_refuses_263 : decode cL_refuses 263 = .ok (.iconst 3, 1) := by decide +kernel
theorem dL_refuses_264 : decode cL_refuses 264 = .ok (.iload_n 2, 1) := by decide +kernel
theorem dL_refuses_265 : decode cL_refuses 265 = .ok (.iadd, 1) := by decide +kernel
theorem dL_refuses_266 : decode cL_refuses 266 = .ok (.invokestatic 92, 3) := by decide +kernel
theorem dL_refuses_269 : decode cL_refuses 269 = .ok (.ldc 18, 2) := by decide +kernel
theorem dL_refuses_271 : decode cL_refuses 271 = .ok (.if_icmp .ne 266, 3) := by decide +kernel
theorem dL_refuses_274 : decode cL_refuses 274 = .ok (.aload_n 0, 1) := by decide +kernel
theorem dL_refuses_275 : decode cL_refuses 275 = .ok (.iconst 1, 1) := by decide +kernel
theorem dL_refuses_276 : decode cL_refuses 276 = .ok (.iload_n 3, 1) := by decide +kernel
theorem dL_refuses_277 : decode cL_refuses 277 = .ok (.iconst 5, 1) := by decide +kernel
theorem dL_refuses_278 : decode cL_refuses 278 = .ok (.iconst 1, 1) := by decide +kernel
theorem dL_refuses_279 : decode cL_refuses 279 = .ok (.invokestatic 92, 3) := by decide +kernel
theorem dL_refuses_282 : decode cL_refuses 282 = .ok (.ldc 15, 2) := by decide +kernel
theorem dL_refuses_284 : decode cL_refuses 284 = .ok (.if_icmp .ne 253, 3) := by decide +kernel
theorem dL_refuses_287 : decode cL_refuses 287 = .ok (.aload_n 0, 1) := by decide +kernel
theorem dL_refuses_288 : decode cL_refuses 288 = .ok (.iconst 0, 1) := by decide +kernel
theorem dL_refuses_289 : decode cL_refuses 289 = .ok (.iload 4, 2) := by decide +kernel
theorem dL_refuses_291 : decode cL_refuses 291 = .ok (.iconst 5, 1) := by decide +kernel
theorem dL_refuses_292 : decode cL_refuses 292 = .ok (.iconst 1, 1) := by decide +kernel
theorem dL_refuses_293 : decode cL_refuses 293 = .ok (.invokestatic 92, 3) := by decide +kernel
theorem dL_refuses_296 : decode cL_refuses 296 = .ok (.ldc 15, 2) := by decide +kernel
theorem dL_refuses_298 : decode cL_refuses 298 = .ok (.if_icmp .ne 239, 3) := by decide +kernel
theorem dL_refuses_301 : decode cL_refuses 301 = .ok (.aload_n 0, 1) := by decide +kernel
theorem dL_refuses_302 : decode cL_refuses 302 = .ok (.iload 5, 2) := by decide +kernel
theorem dL_refuses_304 : decode cL_refuses 304 = .ok (.bipush 99, 2) := by decide +kernel
theorem dL_refuses_306 : decode cL_refuses 306 = .ok (.invokestatic 96, 3) := by decide +kernel
theorem dL_refuses_309 : decode cL_refuses 309 = .ok (.ldc 15, 2) := by decide +kernel
theorem dL_refuses_311 : decode cL_refuses 311 = .ok (.if_icmp .ne 226, 3) := by decide +kernel
theorem dL_refuses_314 : decode cL_refuses 314 = .ok (.aload_n 0, 1) := by decide +kernel
theorem dL_refuses_315 : decode cL_refuses 315 = .ok (.iload 5, 2) := by decide +kernel
theorem dL_refuses_317 : decode cL_refuses 317 = .ok (.iconst 1, 1) := by decide +kernel
theorem dL_refuses_318 : decode cL_refuses 318 = .ok (.invokestatic 100, 3) := by decide +kernel
theorem dL_refuses_321 : decode cL_refuses 321 = .ok (.ldc 15, 2) := by decide +kernel
theorem dL_refuses_323 : decode cL_refuses 323 = .ok (.if_icmp .ne 214, 3) := by decide +kernel
theorem dL_refuses_326 : decode cL_refuses 326 = .ok (.aload_n 0, 1) := by decide +kernel
theorem dL_refuses_327 : decode cL_refuses 327 = .ok (.iload 5, 2) := by decide +kernel
theorem dL_refuses_329 : decode cL_refuses 329 = .ok (.invokestatic 103, 3) := by decide +kernel
theorem dL_refuses_332 : decode cL_refuses 332 = .ok (.ldc 15, 2) := by decide +kernel
theorem dL_refuses_334 : decode cL_refuses 334 = .ok (.if_icmp .ne 203, 3) := by decide +kernel
theorem dL_refuses_337 : decode cL_refuses 337 = .ok (.aload_n 0, 1) := by decide +kernel
theorem dL_refuses_338 : decode cL_refuses 338 = .ok (.iload_n 3, 1) := by decide +kernel
theorem dL_refuses_339 : decode cL_refuses 339 = .ok (.invokestatic 106, 3) := by decide +kernel
theorem dL_refuses_342 : decode cL_refuses 342 = .ok (.ldc 15, 2) := by decide +kernel
theorem dL_refuses_344 : decode cL_refuses 344 = .ok (.if_icmp .ne 193, 3) := by decide +kernel
theorem dL_refuses_347 : decode cL_refuses 347 = .ok (.aload_n 0, 1) := by decide +kernel
theorem dL_refuses_348 : decode cL_refuses 348 = .ok (.iload_n 3, 1) := by decide +kernel
theorem dL_refuses_349 : decode cL_refuses 349 = .ok (.invokestatic 108, 3) := by decide +kernel
theorem dL_refuses_352 : decode cL_refuses 352 = .ok (.ldc 15, 2) := by decide +kernel
theorem dL_refuses_354 : decode cL_refuses 354 = .ok (.if_icmp .ne 183, 3) := by decide +kernel
theorem dL_refuses_357 : decode cL_refuses 357 = .ok (.aload_n 0, 1) := by decide +kernel
theorem dL_refuses_358 : decode cL_refuses 358 = .ok (.iload 5, 2) := by decide +kernel
theorem dL_refuses_360 : decode cL_refuses 360 = .ok (.invokestatic 111, 3) := by decide +kernel
theorem dL_refuses_363 : decode cL_refuses 363 = .ok (.ldc 15, 2) := by decide +kernel
theorem dL_refuses_365 : decode cL_refuses 365 = .ok (.if_icmp .ne 172, 3) := by decide +kernel
theorem dL_refuses_368 : decode cL_refuses 368 = .ok (.aload_n 0, 1) := by decide +kernel
theorem dL_refuses_369 : decode cL_refuses 369 = .ok (.iload_n 3, 1) := by decide +kernel
theorem dL_refuses_370 : decode cL_refuses 370 = .ok (.invokestatic 114, 3) := by decide +kernel
theorem dL_refuses_373 : decode cL_refuses 373 = .ok (.ldc2_w 58, 3) := by decide +kernel
theorem dL_refuses_376 : decode cL_refuses 376 = .ok (.lcmp, 1) := by decide +kernel
theorem dL_refuses_377 : decode cL_refuses 377 = .ok (.ifCond .ne 160, 3) := by decide +kernel
theorem dL_refuses_380 : decode cL_refuses 380 = .ok (.aload_n 0, 1) := by decide +kernel
theorem dL_refuses_381 : decode cL_refuses 381 = .ok (.iload_n 3, 1) := by decide +kernel
theorem dL_refuses_382 : decode cL_refuses 382 = .ok (.invokestatic 118, 3) := by decide +kernel
theorem dL_refuses_385 : decode cL_refuses 385 = .ok (.ldc2_w 58, 3) := by decide +kernel
theorem dL_refuses_388 : decode cL_refuses 388 = .ok (.lcmp, 1) := by decide +kernel
theorem dL_refuses_389 : decode cL_refuses 389 = .ok (.ifCond .ne 148, 3) := by decide +kernel
theorem dL_refuses_392 : decode cL_refuses 392 = .ok (.aload_n 0, 1) := by decide +kernel
theorem dL_refuses_393 : decode cL_refuses 393 = .ok (.iload 5, 2) := by decide +kernel
theorem dL_refuses_395 : decode cL_refuses 395 = .ok (.invokestatic 121, 3) := by decide +kernel
theorem dL_refuses_398 : decode cL_refuses 398 = .ok (.ldc2_w 58, 3) := by decide +kernel
theorem dL_refuses_401 : decode cL_refuses 401 = .ok (.lcmp, 1) := by decide +kernel
theorem dL_refuses_402 : decode cL_refuses 402 = .ok (.ifCond .ne 135, 3) := by decide +kernel
theorem dL_refuses_405 : decode cL_refuses 405 = .ok (.aload_n 0, 1) := by decide +kernel
theorem dL_refuses_406 : decode cL_refuses 406 = .ok (.iload 5, 2) := by decide +kernel
theorem dL_refuses_408 : decode cL_refuses 408 = .ok (.invokestatic 124, 3) := by decide +kernel
theorem dL_refuses_411 : decode cL_refuses 411 = .ok (.ldc2_w 58, 3) := by decide +kernel
theorem dL_refuses_414 : decode cL_refuses 414 = .ok (.lcmp, 1) := by decide +kernel
theorem dL_refuses_415 : decode cL_refuses 415 = .ok (.ifCond .ne 122, 3) := by decide +kernel
theorem dL_refuses_418 : decode cL_refuses 418 = .ok (.aload_n 0, 1) := by decide +kernel
theorem dL_refuses_419 : decode cL_refuses 419 = .ok (.iload_n 3, 1) := by decide +kernel
theorem dL_refuses_420 : decode cL_refuses 420 = .ok (.invokestatic 127, 3) := by decide +kernel
theorem dL_refuses_423 : decode cL_refuses 423 = .ok (.ldc 15, 2) := by decide +kernel
theorem dL_refuses_425 : decode cL_refuses 425 = .ok (.if_icmp .ne 112, 3) := by decide +kernel
theorem dL_refuses_428 : decode cL_refuses 428 = .ok (.aload_n 0, 1) := by decide +kernel
theorem dL_refuses_429 : decode cL_refuses 429 = .ok (.iload_n 3, 1) := by decide +kernel
theorem dL_refuses_430 : decode cL_refuses 430 = .ok (.iconst (-1), 1) := by decide +kernel
theorem dL_refuses_431 : decode cL_refuses 431 = .ok (.invokestatic 129, 3) := by decide +kernel
theorem dL_refuses_434 : decode cL_refuses 434 = .ok (.ldc 15, 2) := by decide +kernel
theorem dL_refuses_436 : decode cL_refuses 436 = .ok (.if_icmp .ne 101, 3) := by decide +kernel
theorem dL_refuses_439 : decode cL_refuses 439 = .ok (.aload_n 0, 1) := by decide +kernel
theorem dL_refuses_440 : decode cL_refuses 440 = .ok (.iload 6, 2) := by decide +kernel
theorem dL_refuses_442 : decode cL_refuses 442 = .ok (.iconst (-1), 1) := by decide +kernel
theorem dL_refuses_443 : decode cL_refuses 443 = .ok (.iload_n 2, 1) := by decide +kernel
theorem dL_refuses_444 : decode cL_refuses 444 = .ok (.isub, 1) := by decide +kernel
theorem dL_refuses_445 : decode cL_refuses 445 = .ok (.invokestatic 129, 3) := by decide +kernel
theorem dL_refuses_448 : decode cL_refuses 448 = .ok (.ldc 18, 2) := by decide +kernel
theorem dL_refuses_450 : decode cL_refuses 450 = .ok (.if_icmp .ne 87, 3) := by decide +kernel
theorem dL_refuses_453 : decode cL_refuses 453 = .ok (.aload_n 0, 1) := by decide +kernel
theorem dL_refuses_454 : decode cL_refuses 454 = .ok (.iload 6, 2) := by decide +kernel
theorem dL_refuses_456 : decode cL_refuses 456 = .ok (.sipush 201, 3) := by decide +kernel
theorem dL_refuses_459 : decode cL_refuses 459 = .ok (.iload_n 2, 1) := by decide +kernel
theorem dL_refuses_460 : decode cL_refuses 460 = .ok (.iadd, 1) := by decide +kernel
theorem dL_refuses_461 : decode cL_refuses 461 = .ok (.invokestatic 129, 3) := by decide +kernel
theorem dL_refuses_464 : decode cL_refuses 464 = .ok (.ldc 18, 2) := by decide +kernel
theorem dL_refuses_466 : decode cL_refuses 466 = .ok (.if_icmp .ne 71, 3) := by decide +kernel
theorem dL_refuses_469 : decode cL_refuses 469 = .ok (.aload_n 1, 1) := by decide +kernel
theorem dL_refuses_470 : decode cL_refuses 470 = .ok (.iconst 2, 1) := by decide +kernel
theorem dL_refuses_471 : decode cL_refuses 471 = .ok (.iaload, 1) := by decide +kernel
theorem dL_refuses_472 : decode cL_refuses 472 = .ok (.bipush 10, 2) := by decide +kernel
theorem dL_refuses_474 : decode cL_refuses 474 = .ok (.if_icmp .lt 17, 3) := by decide +kernel
theorem dL_refuses_477 : decode cL_refuses 477 = .ok (.aload_n 0, 1) := by decide +kernel
theorem dL_refuses_478 : decode cL_refuses 478 = .ok (.iconst 1, 1) := by decide +kernel
theorem dL_refuses_479 : decode cL_refuses 479 = .ok (.iload 6, 2) := by decide +kernel
theorem dL_refuses_481 : decode cL_refuses 481 = .ok (.iconst 5, 1) := by decide +kernel
theorem dL_refuses_482 : decode cL_refuses 482 = .ok (.iconst 1, 1) := by decide +kernel
theorem dL_refuses_483 : decode cL_refuses 483 = .ok (.invokestatic 92, 3) := by decide +kernel
theorem dL_refuses_486 : decode cL_refuses 486 = .ok (.ldc 21, 2) := by decide +kernel
theorem dL_refuses_488 : decode cL_refuses 488 = .ok (.if_icmp .ne 49, 3) := by decide +kernel
theorem dL_refuses_491 : decode cL_refuses 491 = .ok (.aload_n 1, 1) := by decide +kernel
theorem dL_refuses_492 : decode cL_refuses 492 = .ok (.iconst 2, 1) := by decide +kernel
theorem dL_refuses_493 : decode cL_refuses 493 = .ok (.iaload, 1) := by decide +kernel
theorem dL_refuses_494 : decode cL_refuses 494 = .ok (.ifCond .eq 39, 3) := by decide +kernel
theorem dL_refuses_497 : decode cL_refuses 497 = .ok (.aload_n 0, 1) := by decide +kernel
theorem dL_refuses_498 : decode cL_refuses 498 = .ok (.iload_n 2, 1) := by decide +kernel
theorem dL_refuses_499 : decode cL_refuses 499 = .ok (.aload_n 1, 1) := by decide +kernel
theorem dL_refuses_500 : decode cL_refuses 500 = .ok (.iconst 2, 1) := by decide +kernel
theorem dL_refuses_501 : decode cL_refuses 501 = .ok (.iaload, 1) := by decide +kernel
theorem dL_refuses_502 : decode cL_refuses 502 = .ok (.irem, 1) := by decide +kernel
theorem dL_refuses_503 : decode cL_refuses 503 = .ok (.bipush 51, 2) := by decide +kernel
theorem dL_refuses_505 : decode cL_refuses 505 = .ok (.iload_n 2, 1) := by decide +kernel
theorem dL_refuses_506 : decode cL_refuses 506 = .ok (.iadd, 1) := by decide +kernel
theorem dL_refuses_507 : decode cL_refuses 507 = .ok (.invokestatic 96, 3) := by decide +kernel
theorem dL_refuses_510 : decode cL_refuses 510 = .ok (.ldc 18, 2) := by decide +kernel
theorem dL_refuses_512 : decode cL_refuses 512 = .ok (.if_icmp .ne 25, 3) := by decide +kernel
theorem dL_refuses_515 : decode cL_refuses 515 = .ok (.aload_n 0, 1) := by decide +kernel
theorem dL_refuses_516 : decode cL_refuses 516 = .ok (.iload_n 2, 1) := by decide +kernel
theorem dL_refuses_517 : decode cL_refuses 517 = .ok (.aload_n 1, 1) := by decide +kernel
theorem dL_refuses_518 : decode cL_refuses 518 = .ok (.iconst 2, 1) := by decide +kernel
theorem dL_refuses_519 : decode cL_refuses 519 = .ok (.iaload, 1) := by decide +kernel
theorem dL_refuses_520 : decode cL_refuses 520 = .ok (.irem, 1) := by decide +kernel
theorem dL_refuses_521 : decode cL_refuses 521 = .ok (.bipush (-51), 2) := by decide +kernel
theorem dL_refuses_523 : decode cL_refuses 523 = .ok (.iload_n 2, 1) := by decide +kernel
theorem dL_refuses_524 : decode cL_refuses 524 = .ok (.isub, 1) := by decide +kernel
theorem dL_refuses_525 : decode cL_refuses 525 = .ok (.invokestatic 96, 3) := by decide +kernel
theorem dL_refuses_528 : decode cL_refuses 528 = .ok (.ldc 18, 2) := by decide +kernel
theorem dL_refuses_530 : decode cL_refuses 530 = .ok (.if_icmp .ne 7, 3) := by decide +kernel
theorem dL_refuses_533 : decode cL_refuses 533 = .ok (.iconst 1, 1) := by decide +kernel
theorem dL_refuses_534 : decode cL_refuses 534 = .ok (.goto 4, 3) := by decide +kernel
theorem dL_refuses_537 : decode cL_refuses 537 = .ok (.iconst 0, 1) := by decide +kernel
theorem dL_refuses_538 : decode cL_refuses 538 = .ok (.istore 7, 2) := by decide +kernel
theorem dL_refuses_540 : decode cL_refuses 540 = .ok (.iload 7, 2) := by decide +kernel
theorem dL_refuses_542 : decode cL_refuses 542 = .ok (.ifCond .eq 66, 3) := by decide +kernel
theorem dL_refuses_545 : decode cL_refuses 545 = .ok (.aload_n 0, 1) := by decide +kernel
theorem dL_refuses_546 : decode cL_refuses 546 = .ok (.iload 6, 2) := by decide +kernel
theorem dL_refuses_548 : decode cL_refuses 548 = .ok (.invokestatic 108, 3) := by decide +kernel
theorem dL_refuses_551 : decode cL_refuses 551 = .ok (.iconst 1, 1) := by decide +kernel
theorem dL_refuses_552 : decode cL_refuses 552 = .ok (.if_icmp .eq 52, 3) := by decide +kernel
theorem dL_refuses_555 : decode cL_refuses 555 = .ok (.aload_n 0, 1) := by decide +kernel
theorem dL_refuses_556 : decode cL_refuses 556 = .ok (.iload 6, 2) := by decide +kernel
theorem dL_refuses_558 : decode cL_refuses 558 = .ok (.invokestatic 114, 3) := by decide +kernel
theorem dL_refuses_561 : decode cL_refuses 561 = .ok (.ldc2_w 60, 3) := by decide +kernel
theorem dL_refuses_564 : decode cL_refuses 564 = .ok (.lcmp, 1) := by decide +kernel
theorem dL_refuses_565 : decode cL_refuses 565 = .ok (.ifCond .ne 43, 3) := by decide +kernel
theorem dL_refuses_568 : decode cL_refuses 568 = .ok (.aload_n 0, 1) := by decide +kernel
theorem dL_refuses_569 : decode cL_refuses 569 = .ok (.iload 6, 2) := by decide +kernel
theorem dL_refuses_571 : decode cL_refuses 571 = .ok (.invokestatic 118, 3) := by decide +kernel
theorem dL_refuses_574 : decode cL_refuses 574 = .ok (.ldc2_w 60, 3) := by decide +kernel
theorem dL_refuses_577 : decode cL_refuses 577 = .ok (.lcmp, 1) := by decide +kernel
theorem dL_refuses_578 : decode cL_refuses 578 = .ok (.ifCond .ne 30, 3) := by decide +kernel
theorem dL_refuses_581 : decode cL_refuses 581 = .ok (.aload_n 0, 1) := by decide +kernel
theorem dL_refuses_582 : decode cL_refuses 582 = .ok (.iload 6, 2) := by decide +kernel
theorem dL_refuses_584 : decode cL_refuses 584 = .ok (.invokestatic 127, 3) := by decide +kernel
theorem dL_refuses_587 : decode cL_refuses 587 = .ok (.ldc 21, 2) := by decide +kernel
theorem dL_refuses_589 : decode cL_refuses 589 = .ok (.if_icmp .ne 19, 3) := by decide +kernel
theorem dL_refuses_592 : decode cL_refuses 592 = .ok (.aload_n 0, 1) := by decide +kernel
theorem dL_refuses_593 : decode cL_refuses 593 = .ok (.iload 6, 2) := by decide +kernel
theorem dL_refuses_595 : decode cL_refuses 595 = .ok (.iconst 5, 1) := by decide +kernel
theorem dL_refuses_596 : decode cL_refuses 596 = .ok (.invokestatic 129, 3) := by decide +kernel
theorem dL_refuses_599 : decode cL_refuses 599 = .ok (.ldc 21, 2) := by decide +kernel
theorem dL_refuses_601 : decode cL_refuses 601 = .ok (.if_icmp .ne 7, 3) := by decide +kernel
theorem dL_refuses_604 : decode cL_refuses 604 = .ok (.iconst 1, 1) := by decide +kernel
theorem dL_refuses_605 : decode cL_refuses 605 = .ok (.goto 4, 3) := by decide +kernel
theorem dL_refuses_608 : decode cL_refuses 608 = .ok (.iconst 0, 1) := by decide +kernel
theorem dL_refuses_609 : decode cL_refuses 609 = .ok (.ireturn, 1) := by decide +kernel
set_option maxRecDepth 20000 in
theorem ggL_act_L_lines : GoodIn wsL_act wsL_lines := goodIn_ca (goodIn_ca (goodIn_ca (goodIn_r _ [4, 5, 6, 7, 8, 9, 10, 11, 12, 13, 14, 15, 16, 17, 18, 19, 20, 21, 22, 23, 24, 25, 26, 27, 28, 29, 30, 31, 32, 33, 34, 35, 36, 37, 38, 39, 40, 41, 42, 43, 44, 45, 46, 47, 48, 49, 50, 51, 52, 53, 54, 55, 56, 57, 58, 59, 60, 61, 62, 63, 64, 65, 66, 67, 68, 69, 70, 71, 72, 73, 74, 75, 76, 264, 265, 266, 267, 268, 269, 270, 271, 272, 273, 274, 275, 276] (by decide +kernel) (by decide +kernel)) (goodIn_sub (fun _ h => List.mem_cons_of_mem _ (List.mem_append_left _ (List.mem_append_left _ (List.mem_append_right _ h)))) (by decide +kernel))) (goodIn_sub (fun _ h => List.mem_cons_of_mem _ (List.mem_append_left _ (List.mem_append_right _ h))) (by decide +kernel))) (goodIn_sub (fun _ h => List.mem_cons_of_mem _ (List.mem_append_right _ h)) (by decide +kernel))
set_option maxRecDepth 20000 in
theorem gL_act_L_lines : GoodIn wsL_act (va_wsS RL 79 yL_lines wsL_lines) := goodIn_app (goodIn_of _ (by decide +kernel)) ggL_act_L_lines
set_option maxRecDepth 20000 in
theorem ggL_act_L_breaks : GoodIn wsL_act wsL_breaks := goodIn_ca (goodIn_r _ [79, 5, 8, 80, 81, 82, 14, 83, 25, 26, 20, 84, 85, 86, 30, 87, 37, 88, 89, 90, 91, 49, 50, 51, 52, 53, 54, 55, 56, 57, 58, 42, 43, 59, 60, 61, 62, 63, 64, 65, 66, 67, 68, 69, 70, 48, 71, 72, 73, 74, 75, 76, 264, 265, 266, 267, 268, 269, 270, 271, 272, 273, 274, 275, 276] (by decide +kernel) (by decide +kernel)) (goodIn_sub (fun _ h => List.mem_cons_of_mem _ (List.mem_append_right _ h)) (by decide +kernel))
set_option maxRecDepth 20000 in
theorem gL_act_L_breaks : GoodIn wsL_act (va_wsS RL 85 yL_breaks wsL_breaks) := goodIn_app (goodIn_of _ (by decide +kernel)) ggL_act_L_breaks
set_option maxRecDepth 20000 in
theorem ggL_act_L_adds : GoodIn wsL_act wsL_adds := goodIn_ca (goodIn_ca (goodIn_ca (goodIn_r _ [94, 6, 5, 7, 9, 8, 10, 95, 96, 97, 14, 98, 16, 17, 25, 26, 18, 19, 20, 99, 100, 101, 102, 103, 84, 85, 86, 30, 87, 37, 27, 28, 29, 31, 32, 104, 105, 106, 107, 108, 109, 110, 111, 112, 113, 114, 115, 116, 117, 118, 264, 265, 266, 267, 268, 269, 270, 271, 272, 273, 274, 275, 276, 277, 278, 279, 280, 281, 282, 283] (by decide +kernel) (by decide +kernel)) (goodIn_sub (fun _ h => List.mem_cons_of_mem _ (List.mem_append_left _ (List.mem_append_left _ (List.mem_append_right _ h)))) (by decide +kernel))) (goodIn_sub (fun _ h => List.mem_cons_of_mem _ (List.mem_append_right _ h)) (by decide +kernel))) (goodIn_sub (fun _ h => List.mem_cons_of_mem _ (List.mem_append_left _ (List.mem_append_right _ h))) (by decide +kernel))
set_option maxRecDepth 20000 in
theorem gL_act_L_adds : GoodIn wsL_act (va_wsS RL 92 yL_adds wsL_adds) := goodIn_app (goodIn_of _ (by decide +kernel)) ggL_act_L_adds
set_option maxRecDepth 20000 in
theorem ggL_act_L_reads : GoodIn wsL_act wsL_reads := goodIn_ca (goodIn_ca (goodIn_r _ [121, 5, 6, 8, 9, 122, 123, 124, 14, 125, 99, 126, 127, 128, 129, 25, 26, 130, 131, 132, 107, 133, 109, 100, 101, 102, 103, 16, 17, 264, 265, 266, 267, 277, 278, 279, 280, 281, 282, 283] (by decide +kernel) (by decide +kernel)) (goodIn_sub (fun _ h => List.mem_cons_of_mem _ (List.mem_append_right _ h)) (by decide +kernel))) (goodIn_sub (fun _ h => List.mem_cons_of_mem _ (List.mem_append_left _ (List.mem_append_left _ (List.mem_append_right _ h)))) (by decide +kernel))
set_option maxRecDepth 20000 in
theorem gL_act_L_reads : GoodIn wsL_act (va_wsS RL 96 yL_reads wsL_reads) := goodIn_app (goodIn_of _ (by decide +kernel)) ggL_act_L_reads
set_option maxRecDepth 20000 in
theorem ggL_act_L_uses : GoodIn wsL_act wsL_uses := goodIn_ca (goodIn_r _ [136, 5, 8, 137, 138, 139, 14, 140, 99, 126, 127, 128, 129, 25, 26, 130, 131, 132, 107, 133, 109, 264, 265, 266, 267, 277, 278, 279, 280, 281, 282, 283] (by decide +kernel) (by decide +kernel)) (goodIn_sub (fun _ h => List.mem_cons_of_mem _ (List.mem_append_right _ h)) (by decide +kernel))
set_option maxRecDepth 20000 in
theorem gL_act_L_uses : GoodIn wsL_act (va_wsS RL 100 yL_uses wsL_uses) := goodIn_app (goodIn_of _ (by decide +kernel)) ggL_act_L_uses
set_option maxRecDepth 20000 in
theorem ggL_act_L_cleans : GoodIn wsL_act wsL_cleans := goodIn_ca (goodIn_ca (goodIn_ca (goodIn_r _ [143, 5, 6, 7, 8, 9, 10, 144, 145, 146, 14, 147, 16, 17, 20, 21, 22, 23, 24, 25, 26, 27, 28, 29, 30, 31, 32, 148, 149, 150, 151, 18, 19, 152, 153, 154, 155, 156, 157, 158, 159, 160, 161, 162, 163, 164, 165, 166, 167, 168, 169, 170, 171, 107, 172, 118, 173, 174, 175, 176, 115, 114, 177, 178, 179, 180, 181, 182, 183, 184, 185, 186, 187, 188, 189, 190, 191, 192, 193, 194, 195, 196, 197, 58, 198, 199, 200, 201, 202, 99, 203, 204, 205, 206, 207, 208, 209, 210, 211, 212, 213, 214, 215, 216, 217, 218, 219, 220, 221, 222, 223, 224, 225, 226, 227, 228, 229, 230, 231, 232, 233, 234, 235, 236, 237, 238, 239, 240, 241, 242, 243, 244, 245, 246, 247, 248, 249, 250, 65, 251, 252, 253, 254, 255, 256, 257, 258, 259, 260, 261, 262, 263, 264, 265, 266, 267, 268, 269, 270, 271, 272, 273, 274, 275, 276, 284, 285, 286, 277, 278, 279, 280, 281, 282, 283, 287, 288, 289, 290, 291, 292, 293] (by decide +kernel) (by decide +kernel)) (goodIn_sub (fun _ h => List.mem_cons_of_mem _ (List.mem_append_left _ (List.mem_append_left _ (List.mem_append_right _ h)))) (by decide +kernel))) (goodIn_sub (fun _ h => List.mem_cons_of_mem _ (List.mem_append_right _ h)) (by decide +kernel))) (goodIn_sub (fun _ h => List.mem_cons_of_mem _ (List.mem_append_left _ (List.mem_append_right _ h))) (by decide +kernel))
set_option maxRecDepth 20000 in
theorem gL_act_L_cleans : GoodIn wsL_act (va_wsS RL 129 yL_cleans wsL_cleans) := goodIn_app (goodIn_of _ (by decide +kernel)) ggL_act_L_cleans
theorem dL_act_0 : decode cL_act 0 = .ok (.iload_n 3, 1) := by decide +kernel
theorem dL_act_1 : decode cL_act 1 = .ok (.bipush 16, 2) := by decide +kernel
theorem dL_act_3 : decode cL_act 3 = .ok (.idiv, 1) := by decide +kernel
theorem dL_act_4 : decode cL_act 4 = .ok (.istore 5, 2) := by decide +kernel
theorem dL_act_6 : decode cL_act 6 = .ok (.iload 5, 2) := by decide +kernel
theorem dL_act_8 : decode cL_act 8 = .ok (.aload_n 1, 1) := by decide +kernel
theorem dL_act_9 : decode cL_act 9 = .ok (.iconst 0, 1) := by decide +kernel
theorem dL_act_10 : decode cL_act 10 = .ok (.iaload, 1) := by decide +kernel
theorem dL_act_11 : decode cL_act 11 = .ok (.irem, 1) := by decide +kernel
theorem dL_act_12 : decode cL_act 12 = .ok (.istore 6, 2) := by decide +kernel
theorem dL_act_14 : decode cL_act 14 = .ok (.iload 5, 2) := by decide +kernel
theorem dL_act_16 : decode cL_act 16 = .ok (.iconst 5, 1) := by decide +kernel
theorem dL_act_17 : decode cL_act 17 = .ok (.idiv, 1) := by decide +kernel
theorem dL_act_18 : decode cL_act 18 = .ok (.aload_n 1, 1) := by decide +kernel
theorem dL_act_19 : decode cL_act 19 = .ok (.iconst 0, 1) := by decide +kernel
theorem dL_act_20 : decode cL_act 20 = .ok (.iaload, 1) := by decide +kernel
theorem dL_act_21 : decode cL_act 21 = .ok (.irem, 1) := by decide +kernel
theorem dL_act_22 : decode cL_act 22 = .ok (.istore 7, 2) := by decide +kernel
theorem dL_act_24 : decode cL_act 24 = .ok (.iload 5, 2) := by decide +kernel
theorem dL_act_26 : decode cL_act 26 = .ok (.bipush 45, 2) := by decide +kernel
theorem dL_act_28 : decode cL_act 28 = .ok (.idiv, 1) := by decide +kernel
theorem dL_act_29 : decode cL_act 29 = .ok (.iload 5, 2) := by decide +kernel
theorem dL_act_31 : decode cL_act 31 = .ok (.iconst 2, 1) := by decide +kernel
theorem dL_act_32 : decode cL_act 32 = .ok (.irem, 1) := by decide +kernel
theorem dL_act_33 : decode cL_act 33 = .ok (.ifCond .ne 8, 3) := by decide +kernel
theorem dL_act_36 : decode cL_act 36 = .ok (.bipush 9, 2) := by decide +kernel
theorem dL_act_38 : decode cL_act 38 = .ok (.goto 5, 3) := by decide +kernel
theorem dL_act_41 : decode cL_act 41 = .ok (.bipush 101, 2) := by decide +kernel
theorem dL_act_43 : decode cL_act 43 = .ok (.irem, 1) := by decide +kernel
theorem dL_act_44 : decode cL_act 44 = .ok (.iload 5, 2) := by decide +kernel
theorem dL_act_46 : decode cL_act 46 = .ok (.iconst 2, 1) := by decide +kernel
theorem dL_act_47 : decode cL_act 47 = .ok (.irem, 1) := by decide +kernel
theorem dL_act_48 : decode cL_act 48 = .ok (.ifCond .ne 7, 3) := by decide +kernel
theorem dL_act_51 : decode cL_act 51 = .ok (.iconst 4, 1) := by decide +kernel
theorem dL_act_52 : decode cL_act 52 = .ok (.goto 5, 3) := by decide +kernel
theorem dL_act_55 : decode cL_act 55 = .ok (.bipush 50, 2) := by decide +kernel
theorem dL_act_57 : decode cL_act 57 = .ok (.isub, 1) := by decide +kernel
theorem dL_act_58 : decode cL_act 58 = .ok (.istore 8, 2) := by decide +kernel
theorem dL_act_60 : decode cL_act 60 = .ok (.iload_n 3, 1) := by decide +kernel
theorem dL_act_61 : decode cL_act 61 = .ok (.bipush 16, 2) := by decide +kernel
theorem dL_act_63 : decode cL_act 63 = .ok (.irem, 1) := by decide +kernel
theorem dL_act_64 : decode cL_act 64 = .ok (.tableswitch 317 0 14 #[76, 76, 76, 76, 114, 114, 150, 150, 150, 191, 191, 207, 207, 281, 281], 76) := by decide +kernel
theorem dL_act_140 : decode cL_act 140 = .ok (.aload_n 0, 1) := by decide +kernel
theorem dL_act_141 : decode cL_act 141 = .ok (.iload 4, 2) := by decide +kernel
theorem dL_act_143 : decode cL_act 143 = .ok (.ifCond .eq 8, 3) := by decide +kernel
theorem dL_act_146 : decode cL_act 146 = .ok (.iload 7, 2) := by decide +kernel
theorem dL_act_148 : decode cL_act 148 = .ok (.goto 5, 3) := by decide +kernel
theorem dL_act_151 : decode cL_act 151 = .ok (.iload 6, 2) := by decide +kernel
theorem dL_act_153 : decode cL_act 153 = .ok (.iload 4, 2) := by decide +kernel
theorem dL_act_155 : decode cL_act 155 = .ok (.ifCond .eq 8, 3) := by decide +kernel
theorem dL_act_158 : decode cL_act 158 = .ok (.iload 6, 2) := by decide +kernel
theorem dL_act_160 : decode cL_act 160 = .ok (.goto 5, 3) := by decide +kernel
theorem dL_act_163 : decode cL_act 163 = .ok (.iload 7, 2) := by decide +kernel
theorem dL_act_165 : decode cL_act 165 = .ok (.iconst 1, 1) := by decide +kernel
theorem dL_act_166 : decode cL_act 166 = .ok (.iload 5, 2) := by decide +kernel
theorem dL_act_168 : decode cL_act 168 = .ok (.bipush 25, 2) := by decide +kernel
theorem dL_act_170 : decode cL_act 170 = .ok (.idiv, 1) := by decide +kernel
theorem dL_act_171 : decode cL_act 171 = .ok (.iconst 2, 1) := by decide +kernel
theorem dL_act_172 : decode cL_act 172 = .ok (.irem, 1) := by decide +kernel
theorem dL_act_173 : decode cL_act 173 = .ok (.iadd, 1) := by decide +kernel
theorem dL_act_174 : decode cL_act 174 = .ok (.invokestatic 79, 3) := by decide +kernel
theorem dL_act_177 : decode cL_act 177 = .ok (.ireturn, 1) := by decide +kernel
theorem dL_act_178 : decode cL_act 178 = .ok (.aload_n 0, 1) := by decide +kernel
theorem dL_act_179 : decode cL_act 179 = .ok (.aload_n 1, 1) := by decide +kernel
theorem dL_act_180 : decode cL_act 180 = .ok (.iconst 1, 1) := by decide +kernel
theorem dL_act_181 : decode cL_act 181 = .ok (.iaload, 1) := by decide +kernel
theorem dL_act_182 : decode cL_act 182 = .ok (.ifCond .ne 7, 3) := by decide +kernel
theorem dL_act_185 : decode cL_act 185 = .ok (.iconst 0, 1) := by decide +kernel
theorem dL_act_186 : decode cL_act 186 = .ok (.goto 9, 3) := by decide +kernel
theorem dL_act_189 : decode cL_act 189 = .ok (.iload 5, 2) := by decide +kernel
theorem dL_act_191 : decode cL_act 191 = .ok (.aload_n 1, 1) := by decide +kernel
theorem dL_act_192 : decode cL_act 192 = .ok (.iconst 1, 1) := by decide +kernel
theorem dL_act_193 : decode cL_act 193 = .ok (.iaload, 1) := by decide +kernel
theorem dL_act_194 : decode cL_act 194 = .ok (.irem, 1) := by decide +kernel
theorem dL_act_195 : decode cL_act 195 = .ok (.iload 5, 2) := by decide +kernel
theorem dL_act_197 : decode cL_act 197 = .ok (.bipush 8, 2) := by decide +kernel
theorem dL_act_199 : decode cL_act 199 = .ok (.idiv, 1) := by decide +kernel
theorem dL_act_200 : decode cL_act 200 = .ok (.iconst 3, 1) := by decide +kernel
theorem dL_act_201 : decode cL_act 201 = .ok (.irem, 1) := by decide +kernel
theorem dL_act_202 : decode cL_act 202 = .ok (.ifCond .le 7, 3) := by decide +kernel
theorem dL_act_205 : decode cL_act 205 = .ok (.iconst 1, 1) := by decide +kernel
theorem dL_act_206 : decode cL_act 206 = .ok (.goto 4, 3) := by decide +kernel
theorem dL_act_209 : decode cL_act 209 = .ok (.iconst 0, 1) := by decide +kernel
theorem dL_act_210 : decode cL_act 210 = .ok (.invokestatic 85, 3) := by decide +kernel
theorem dL_act_213 : decode cL_act 213 = .ok (.ireturn, 1) := by decide +kernel
theorem dL_act_214 : decode cL_act 214 = .ok (.aload_n 0, 1) := by decide +kernel
theorem dL_act_215 : decode cL_act 215 = .ok (.iconst 0, 1) := by decide +kernel
theorem dL_act_216 : decode cL_act 216 = .ok (.aload_n 1, 1) := by decide +kernel
theorem dL_act_217 : decode cL_act 217 = .ok (.iconst 1, 1) := by decide +kernel
theorem dL_act_218 : decode cL_act 218 = .ok (.iaload, 1) := by decide +kernel
theorem dL_act_219 : decode cL_act 219 = .ok (.ifCond .ne 7, 3) := by decide +kernel
theorem dL_act_222 : decode cL_act 222 = .ok (.iconst 0, 1) := by decide +kernel
theorem dL_act_223 : decode cL_act 223 = .ok (.goto 9, 3) := by decide +kernel
theorem dL_act_226 : decode cL_act 226 = .ok (.iload 5, 2) := by decide +kernel
theorem dL_act_228 : decode cL_act 228 = .ok (.aload_n 1, 1) := by decide +kernel
theorem dL_act_229 : decode cL_act 229 = .ok (.iconst 1, 1) := by decide +kernel
theorem dL_act_230 : decode cL_act 230 = .ok (.iaload, 1) := by decide +kernel
theorem dL_act_231 : decode cL_act 231 = .ok (.irem, 1) := by decide +kernel
theorem dL_act_232 : decode cL_act 232 = .ok (.iload 4, 2) := by decide +kernel
theorem dL_act_234 : decode cL_act 234 = .ok (.ifCond .eq 9, 3) := by decide +kernel
theorem dL_act_237 : decode cL_act 237 = .ok (.iload 8, 2) := by decide +kernel
theorem dL_act_239 : decode cL_act 239 = .ok (.ineg, 1) := by decide +kernel
