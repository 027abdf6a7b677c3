theorem dL_cuts_150 : decode cL_cuts 150 = .ok (.invokevirtual 61, 3) := by decide +kernel
theorem dL_cuts_153 : decode cL_cuts 153 = .ok (.iconst 2, 1) := by decide +kernel
theorem dL_cuts_154 : decode cL_cuts 154 = .ok (.if_icmp .ne 49, 3) := by decide +kernel
theorem dL_cuts_157 : decode cL_cuts 157 = .ok (.aload_n 0, 1) := by decide +kernel
theorem dL_cuts_158 : decode cL_cuts 158 = .ok (.iconst 2, 1) := by decide +kernel
theorem dL_cuts_159 : decode cL_cuts 159 = .ok (.iconst 0, 1) := by decide +kernel
theorem dL_cuts_160 : decode cL_cuts 160 = .ok (.iconst 4, 1) := by decide +kernel
theorem dL_cuts_161 : decode cL_cuts 161 = .ok (.invokevirtual 34, 3) := by decide +kernel
theorem dL_cuts_164 : decode cL_cuts 164 = .ok (.ifCond .ne 39, 3) := by decide +kernel
theorem dL_cuts_167 : decode cL_cuts 167 = .ok (.aload_n 0, 1) := by decide +kernel
theorem dL_cuts_168 : decode cL_cuts 168 = .ok (.iconst 2, 1) := by decide +kernel
theorem dL_cuts_169 : decode cL_cuts 169 = .ok (.iconst 0, 1) := by decide +kernel
theorem dL_cuts_170 : decode cL_cuts 170 = .ok (.iconst 0, 1) := by decide +kernel
theorem dL_cuts_171 : decode cL_cuts 171 = .ok (.iconst 5, 1) := by decide +kernel
theorem dL_cuts_172 : decode cL_cuts 172 = .ok (.bipush 110, 2) := by decide +kernel
theorem dL_cuts_174 : decode cL_cuts 174 = .ok (.invokestatic 100, 3) := by decide +kernel
theorem dL_cuts_177 : decode cL_cuts 177 = .ok (.ifCond .eq 26, 3) := by decide +kernel
theorem dL_cuts_180 : decode cL_cuts 180 = .ok (.aload_n 0, 1) := by decide +kernel
theorem dL_cuts_181 : decode cL_cuts 181 = .ok (.iconst 0, 1) := by decide +kernel
theorem dL_cuts_182 : decode cL_cuts 182 = .ok (.invokevirtual 55, 3) := by decide +kernel
theorem dL_cuts_185 : decode cL_cuts 185 = .ok (.ifCond .ne 18, 3) := by decide +kernel
theorem dL_cuts_188 : decode cL_cuts 188 = .ok (.aload_n 0, 1) := by decide +kernel
theorem dL_cuts_189 : decode cL_cuts 189 = .ok (.iconst 1, 1) := by decide +kernel
theorem dL_cuts_190 : decode cL_cuts 190 = .ok (.invokevirtual 55, 3) := by decide +kernel
theorem dL_cuts_193 : decode cL_cuts 193 = .ok (.ifCond .ne 10, 3) := by decide +kernel
theorem dL_cuts_196 : decode cL_cuts 196 = .ok (.aload_n 0, 1) := by decide +kernel
theorem dL_cuts_197 : decode cL_cuts 197 = .ok (.invokestatic 104, 3) := by decide +kernel
theorem dL_cuts_200 : decode cL_cuts 200 = .ok (.ifCond .ne 5, 3) := by decide +kernel
theorem dL_cuts_203 : decode cL_cuts 203 = .ok (.iconst 0, 1) := by decide +kernel
theorem dL_cuts_204 : decode cL_cuts 204 = .ok (.ireturn, 1) := by decide +kernel
theorem dL_cuts_205 : decode cL_cuts 205 = .ok (.aload_n 0, 1) := by decide +kernel
theorem dL_cuts_206 : decode cL_cuts 206 = .ok (.iconst 1, 1) := by decide +kernel
theorem dL_cuts_207 : decode cL_cuts 207 = .ok (.iconst 4, 1) := by decide +kernel
theorem dL_cuts_208 : decode cL_cuts 208 = .ok (.iconst 0, 1) := by decide +kernel
theorem dL_cuts_209 : decode cL_cuts 209 = .ok (.iconst 0, 1) := by decide +kernel
theorem dL_cuts_210 : decode cL_cuts 210 = .ok (.invokestatic 89, 3) := by decide +kernel
theorem dL_cuts_213 : decode cL_cuts 213 = .ok (.ifCond .ne 222, 3) := by decide +kernel
theorem dL_cuts_216 : decode cL_cuts 216 = .ok (.aload_n 0, 1) := by decide +kernel
theorem dL_cuts_217 : decode cL_cuts 217 = .ok (.iconst 1, 1) := by decide +kernel
theorem dL_cuts_218 : decode cL_cuts 218 = .ok (.bipush 20, 2) := by decide +kernel
theorem dL_cuts_220 : decode cL_cuts 220 = .ok (.bipush 25, 2) := by decide +kernel
theorem dL_cuts_222 : decode cL_cuts 222 = .ok (.invokevirtual 15, 3) := by decide +kernel
theorem dL_cuts_225 : decode cL_cuts 225 = .ok (.ifCond .ne 210, 3) := by decide +kernel
theorem dL_cuts_228 : decode cL_cuts 228 = .ok (.aload_n 0, 1) := by decide +kernel
theorem dL_cuts_229 : decode cL_cuts 229 = .ok (.iconst 2, 1) := by decide +kernel
theorem dL_cuts_230 : decode cL_cuts 230 = .ok (.iconst 0, 1) := by decide +kernel
theorem dL_cuts_231 : decode cL_cuts 231 = .ok (.iconst 0, 1) := by decide +kernel
theorem dL_cuts_232 : decode cL_cuts 232 = .ok (.invokevirtual 15, 3) := by decide +kernel
theorem dL_cuts_235 : decode cL_cuts 235 = .ok (.iconst 5, 1) := by decide +kernel
theorem dL_cuts_236 : decode cL_cuts 236 = .ok (.if_icmp .ne 199, 3) := by decide +kernel
theorem dL_cuts_239 : decode cL_cuts 239 = .ok (.aload_n 0, 1) := by decide +kernel
theorem dL_cuts_240 : decode cL_cuts 240 = .ok (.iconst 2, 1) := by decide +kernel
theorem dL_cuts_241 : decode cL_cuts 241 = .ok (.iconst 0, 1) := by decide +kernel
theorem dL_cuts_242 : decode cL_cuts 242 = .ok (.iconst 0, 1) := by decide +kernel
theorem dL_cuts_243 : decode cL_cuts 243 = .ok (.invokevirtual 23, 3) := by decide +kernel
theorem dL_cuts_246 : decode cL_cuts 246 = .ok (.iconst 3, 1) := by decide +kernel
theorem dL_cuts_247 : decode cL_cuts 247 = .ok (.if_icmp .ne 188, 3) := by decide +kernel
theorem dL_cuts_250 : decode cL_cuts 250 = .ok (.aload_n 0, 1) := by decide +kernel
theorem dL_cuts_251 : decode cL_cuts 251 = .ok (.iconst 2, 1) := by decide +kernel
theorem dL_cuts_252 : decode cL_cuts 252 = .ok (.iconst 1, 1) := by decide +kernel
theorem dL_cuts_253 : decode cL_cuts 253 = .ok (.iconst 0, 1) := by decide +kernel
theorem dL_cuts_254 : decode cL_cuts 254 = .ok (.invokevirtual 23, 3) := by decide +kernel
theorem dL_cuts_257 : decode cL_cuts 257 = .ok (.bipush 10, 2) := by decide +kernel
theorem dL_cuts_259 : decode cL_cuts 259 = .ok (.if_icmp .ne 176, 3) := by decide +kernel
theorem dL_cuts_262 : decode cL_cuts 262 = .ok (.aload_n 0, 1) := by decide +kernel
theorem dL_cuts_263 : decode cL_cuts 263 = .ok (.iconst 2, 1) := by decide +kernel
theorem dL_cuts_264 : decode cL_cuts 264 = .ok (.iconst 0, 1) := by decide +kernel
theorem dL_cuts_265 : decode cL_cuts 265 = .ok (.invokevirtual 19, 3) := by decide +kernel
theorem dL_cuts_268 : decode cL_cuts 268 = .ok (.bipush 6, 2) := by decide +kernel
theorem dL_cuts_270 : decode cL_cuts 270 = .ok (.if_icmp .ne 165, 3) := by decide +kernel
theorem dL_cuts_273 : decode cL_cuts 273 = .ok (.aload_n 0, 1) := by decide +kernel
theorem dL_cuts_274 : decode cL_cuts 274 = .ok (.iconst 1, 1) := by decide +kernel
theorem dL_cuts_275 : decode cL_cuts 275 = .ok (.invokevirtual 30, 3) := by decide +kernel
theorem dL_cuts_278 : decode cL_cuts 278 = .ok (.iconst 3, 1) := by decide +kernel
theorem dL_cuts_279 : decode cL_cuts 279 = .ok (.if_icmp .ne 156, 3) := by decide +kernel
theorem dL_cuts_282 : decode cL_cuts 282 = .ok (.aload_n 0, 1) := by decide +kernel
theorem dL_cuts_283 : decode cL_cuts 283 = .ok (.iconst 1, 1) := by decide +kernel
theorem dL_cuts_284 : decode cL_cuts 284 = .ok (.iconst 5, 1) := by decide +kernel
theorem dL_cuts_285 : decode cL_cuts 285 = .ok (.iconst (-1), 1) := by decide +kernel
theorem dL_cuts_286 : decode cL_cuts 286 = .ok (.iconst 0, 1) := by decide +kernel
theorem dL_cuts_287 : decode cL_cuts 287 = .ok (.iconst 0, 1) := by decide +kernel
theorem dL_cuts_288 : decode cL_cuts 288 = .ok (.invokestatic 100, 3) := by decide +kernel
theorem dL_cuts_291 : decode cL_cuts 291 = .ok (.ifCond .eq 144, 3) := by decide +kernel
theorem dL_cuts_294 : decode cL_cuts 294 = .ok (.aload_n 0, 1) := by decide +kernel
theorem dL_cuts_295 : decode cL_cuts 295 = .ok (.iconst 1, 1) := by decide +kernel
theorem dL_cuts_296 : decode cL_cuts 296 = .ok (.invokevirtual 58, 3) := by decide +kernel
theorem dL_cuts_299 : decode cL_cuts 299 = .ok (.bipush 16, 2) := by decide +kernel
theorem dL_cuts_301 : decode cL_cuts 301 = .ok (.if_icmp .ne 134, 3) := by decide +kernel
theorem dL_cuts_304 : decode cL_cuts 304 = .ok (.aload_n 0, 1) := by decide +kernel
theorem dL_cuts_305 : decode cL_cuts 305 = .ok (.iconst 2, 1) := by decide +kernel
theorem dL_cuts_306 : decode cL_cuts 306 = .ok (.iconst 0, 1) := by decide +kernel
theorem dL_cuts_307 : decode cL_cuts 307 = .ok (.bipush 16, 2) := by decide +kernel
theorem dL_cuts_309 : decode cL_cuts 309 = .ok (.iconst 0, 1) := by decide +kernel
theorem dL_cuts_310 : decode cL_cuts 310 = .ok (.bipush 110, 2) := by decide +kernel
theorem dL_cuts_312 : decode cL_cuts 312 = .ok (.invokestatic 100, 3) := by decide +kernel
theorem dL_cuts_315 : decode cL_cuts 315 = .ok (.ifCond .eq 120, 3) := by decide +kernel
theorem dL_cuts_318 : decode cL_cuts 318 = .ok (.aload_n 0, 1) := by decide +kernel
theorem dL_cuts_319 : decode cL_cuts 319 = .ok (.iconst 2, 1) := by decide +kernel
theorem dL_cuts_320 : decode cL_cuts 320 = .ok (.iconst 1, 1) := by decide +kernel
theorem dL_cuts_321 : decode cL_cuts 321 = .ok (.invokevirtual 43, 3) := by decide +kernel
theorem dL_cuts_324 : decode cL_cuts 324 = .ok (.ifCond .ne 111, 3) := by decide +kernel
theorem dL_cuts_327 : decode cL_cuts 327 = .ok (.aload_n 0, 1) := by decide +kernel
theorem dL_cuts_328 : decode cL_cuts 328 = .ok (.iconst 1, 1) := by decide +kernel
theorem dL_cuts_329 : decode cL_cuts 329 = .ok (.invokevirtual 30, 3) := by decide +kernel
theorem dL_cuts_332 : decode cL_cuts 332 = .ok (.iconst 4, 1) := by decide +kernel
theorem dL_cuts_333 : decode cL_cuts 333 = .ok (.if_icmp .ne 102, 3) := by decide +kernel
theorem dL_cuts_336 : decode cL_cuts 336 = .ok (.aload_n 0, 1) := by decide +kernel
theorem dL_cuts_337 : decode cL_cuts 337 = .ok (.iconst 1, 1) := by decide +kernel
theorem dL_cuts_338 : decode cL_cuts 338 = .ok (.bipush 10, 2) := by decide +kernel
theorem dL_cuts_340 : decode cL_cuts 340 = .ok (.bipush (-6), 2) := by decide +kernel
theorem dL_cuts_342 : decode cL_cuts 342 = .ok (.iconst 0, 1) := by decide +kernel
theorem dL_cuts_343 : decode cL_cuts 343 = .ok (.iconst 0, 1) := by decide +kernel
theorem dL_cuts_344 : decode cL_cuts 344 = .ok (.invokestatic 100, 3) := by decide +kernel
theorem dL_cuts_347 : decode cL_cuts 347 = .ok (.ifCond .eq 88, 3) := by decide +kernel
theorem dL_cuts_350 : decode cL_cuts 350 = .ok (.aload_n 0, 1) := by decide +kernel
theorem dL_cuts_351 : decode cL_cuts 351 = .ok (.iconst 1, 1) := by decide +kernel
theorem dL_cuts_352 : decode cL_cuts 352 = .ok (.invokevirtual 58, 3) := by decide +kernel
theorem dL_cuts_355 : decode cL_cuts 355 = .ok (.bipush 36, 2) := by decide +kernel
theorem dL_cuts_357 : decode cL_cuts 357 = .ok (.if_icmp .ne 78, 3) := by decide +kernel
theorem dL_cuts_360 : decode cL_cuts 360 = .ok (.aload_n 0, 1) := by decide +kernel
theorem dL_cuts_361 : decode cL_cuts 361 = .ok (.iconst 2, 1) := by decide +kernel
theorem dL_cuts_362 : decode cL_cuts 362 = .ok (.iconst 1, 1) := by decide +kernel
theorem dL_cuts_363 : decode cL_cuts 363 = .ok (.invokevirtual 37, 3) := by decide +kernel
theorem dL_cuts_366 : decode cL_cuts 366 = .ok (.bipush 36, 2) := by decide +kernel
theorem dL_cuts_368 : decode cL_cuts 368 = .ok (.if_icmp .ne 67, 3) := by decide +kernel
theorem dL_cuts_371 : decode cL_cuts 371 = .ok (.aload_n 0, 1) := by decide +kernel
theorem dL_cuts_372 : decode cL_cuts 372 = .ok (.iconst 1, 1) := by decide +kernel
theorem dL_cuts_373 : decode cL_cuts 373 = .ok (.iconst 0, 1) := by decide +kernel
theorem dL_cuts_374 : decode cL_cuts 374 = .ok (.iconst 0, 1) := by decide +kernel
theorem dL_cuts_375 : decode cL_cuts 375 = .ok (.invokevirtual 15, 3) := by decide +kernel
theorem dL_cuts_378 : decode cL_cuts 378 = .ok (.bipush 20, 2) := by decide +kernel
theorem dL_cuts_380 : decode cL_cuts 380 = .ok (.if_icmp .ne 55, 3) := by decide +kernel
theorem dL_cuts_383 : decode cL_cuts 383 = .ok (.aload_n 0, 1) := by decide +kernel
theorem dL_cuts_384 : decode cL_cuts 384 = .ok (.iconst 1, 1) := by decide +kernel
theorem dL_cuts_385 : decode cL_cuts 385 = .ok (.bipush 7, 2) := by decide +kernel
theorem dL_cuts_387 : decode cL_cuts 387 = .ok (.invokevirtual 19, 3) := by decide +kernel
theorem dL_cuts_390 : decode cL_cuts 390 = .ok (.ifCond .ne 45, 3) := by decide +kernel
theorem dL_cuts_393 : decode cL_cuts 393 = .ok (.aload_n 0, 1) := by decide +kernel
theorem dL_cuts_394 : decode cL_cuts 394 = .ok (.iconst 1, 1) := by decide +kernel
theorem dL_cuts_395 : decode cL_cuts 395 = .ok (.invokevirtual 30, 3) := by decide +kernel
theorem dL_cuts_398 : decode cL_cuts 398 = .ok (.iconst 5, 1) := by decide +kernel
theorem dL_cuts_399 : decode cL_cuts 399 = .ok (.if_icmp .ne 36, 3) := by decide +kernel
theorem dL_cuts_402 : decode cL_cuts 402 = .ok (.aload_n 0, 1) := by decide +kernel
theorem dL_cuts_403 : decode cL_cuts 403 = .ok (.iconst 1, 1) := by decide +kernel
theorem dL_cuts_404 : decode cL_cuts 404 = .ok (.bipush 6, 2) := by decide +kernel
theorem dL_cuts_406 : decode cL_cuts 406 = .ok (.bipush (-6), 2) := by decide +kernel
theorem dL_cuts_408 : decode cL_cuts 408 = .ok (.iconst 4, 1) := by decide +kernel
theorem dL_cuts_409 : decode cL_cuts 409 = .ok (.iconst 0, 1) := by decide +kernel
theorem dL_cuts_410 : decode cL_cuts 410 = .ok (.invokestatic 100, 3) := by decide +kernel
theorem dL_cuts_413 : decode cL_cuts 413 = .ok (.ifCond .eq 22, 3) := by decide +kernel
theorem dL_cuts_416 : decode cL_cuts 416 = .ok (.aload_n 0, 1) := by decide +kernel
theorem dL_cuts_417 : decode cL_cuts 417 = .ok (.iconst 1, 1) := by decide +kernel
theorem dL_cuts_418 : decode cL_cuts 418 = .ok (.invokevirtual 61, 3) := by decide +kernel
theorem dL_cuts_421 : decode cL_cuts 421 = .ok (.iconst 1, 1) := by decide +kernel
theorem dL_cuts_422 : decode cL_cuts 422 = .ok (.if_icmp .ne 13, 3) := by decide +kernel
theorem dL_cuts_425 : decode cL_cuts 425 = .ok (.aload_n 0, 1) := by decide +kernel
theorem dL_cuts_426 : decode cL_cuts 426 = .ok (.iconst 2, 1) := by decide +kernel
theorem dL_cuts_427 : decode cL_cuts 427 = .ok (.iconst 0, 1) := by decide +kernel
theorem dL_cuts_428 : decode cL_cuts 428 = .ok (.invokevirtual 37, 3) := by decide +kernel
theorem dL_cuts_431 : decode cL_cuts 431 = .ok (.iconst 4, 1) := by decide +kernel
theorem dL_cuts_432 : decode cL_cuts 432 = .ok (.if_icmp .eq 5, 3) := by decide +kernel
theorem dL_cuts_435 : decode cL_cuts 435 = .ok (.iconst 0, 1) := by decide +kernel
theorem dL_cuts_436 : decode cL_cuts 436 = .ok (.ireturn, 1) := by decide +kernel
theorem dL_cuts_437 : decode cL_cuts 437 = .ok (.aload_n 0, 1) := by decide +kernel
theorem dL_cuts_438 : decode cL_cuts 438 = .ok (.iconst 2, 1) := by decide +kernel
theorem dL_cuts_439 : decode cL_cuts 439 = .ok (.iconst 0, 1) := by decide +kernel
theorem dL_cuts_440 : decode cL_cuts 440 = .ok (.bipush 30, 2) := by decide +kernel
theorem dL_cuts_442 : decode cL_cuts 442 = .ok (.invokevirtual 23, 3) := by decide +kernel
theorem dL_cuts_445 : decode cL_cuts 445 = .ok (.ifCond .ne 72, 3) := by decide +kernel
theorem dL_cuts_448 : decode cL_cuts 448 = .ok (.aload_n 0, 1) := by decide +kernel
theorem dL_cuts_449 : decode cL_cuts 449 = .ok (.iconst 2, 1) := by decide +kernel
theorem dL_cuts_450 : decode cL_cuts 450 = .ok (.iconst 1, 1) := by decide +kernel
theorem dL_cuts_451 : decode cL_cuts 451 = .ok (.bipush 30, 2) := by decide +kernel
theorem dL_cuts_453 : decode cL_cuts 453 = .ok (.invokevirtual 23, 3) := by decide +kernel
theorem dL_cuts_456 : decode cL_cuts 456 = .ok (.ifCond .ne 61, 3) := by decide +kernel
theorem dL_cuts_459 : decode cL_cuts 459 = .ok (.aload_n 0, 1) := by decide +kernel
theorem dL_cuts_460 : decode cL_cuts 460 = .ok (.iconst 1, 1) := by decide +kernel
theorem dL_cuts_461 : decode cL_cuts 461 = .ok (.invokevirtual 30, 3) := by decide +kernel
theorem dL_cuts_464 : decode cL_cuts 464 = .ok (.bipush 6, 2) := by decide +kernel
theorem dL_cuts_466 : decode cL_cuts 466 = .ok (.if_icmp .ne 51, 3) := by decide +kernel
theorem dL_cuts_469 : decode cL_cuts 469 = .ok (.aload_n 0, 1) := by decide +kernel
theorem dL_cuts_470 : decode cL_cuts 470 = .ok (.iconst 2, 1) := by decide +kernel
theorem dL_cuts_471 : decode cL_cuts 471 = .ok (.bipush (-6), 2) := by decide +kernel
theorem dL_cuts_473 : decode cL_cuts 473 = .ok (.bipush 6, 2) := by decide +kernel
theorem dL_cuts_475 : decode cL_cuts 475 = .ok (.bipush 16, 2) := by decide +kernel
theorem dL_cuts_477 : decode cL_cuts 477 = .ok (.sipush 398, 3) := by decide +kernel
theorem dL_cuts_480 : decode cL_cuts 480 = .ok (.invokestatic 100, 3) := by decide +kernel
theorem dL_cuts_483 : decode cL_cuts 483 = .ok (.ifCond .eq 34, 3) := by decide +kernel
theorem dL_cuts_486 : decode cL_cuts 486 = .ok (.aload_n 0, 1) := by decide +kernel
theorem dL_cuts_487 : decode cL_cuts 487 = .ok (.iconst 0, 1) := by decide +kernel
theorem dL_cuts_488 : decode cL_cuts 488 = .ok (.invokevirtual 52, 3) := by decide +kernel
theorem dL_cuts_491 : decode cL_cuts 491 = .ok (.bipush 16, 2) := by decide +kernel
theorem dL_cuts_493 : decode cL_cuts 493 = .ok (.if_icmp .ne 24, 3) := by decide +kernel
theorem dL_cuts_496 : decode cL_cuts 496 = .ok (.aload_n 0, 1) := by decide +kernel
theorem dL_cuts_497 : decode cL_cuts 497 = .ok (.iconst 1, 1) := by decide +kernel
theorem dL_cuts_498 : decode cL_cuts 498 = .ok (.invokevirtual 52, 3) := by decide +kernel
theorem dL_cuts_501 : decode cL_cuts 501 = .ok (.bipush 34, 2) := by decide +kernel
theorem dL_cuts_503 : decode cL_cuts 503 = .ok (.if_icmp .ne 14, 3) := by decide +kernel
theorem dL_cuts_506 : decode cL_cuts 506 = .ok (.aload_n 0, 1) := by decide +kernel
theorem dL_cuts_507 : decode cL_cuts 507 = .ok (.invokestatic 104, 3) := by decide +kernel
theorem dL_cuts_510 : decode cL_cuts 510 = .ok (.ifCond .eq 7, 3) := by decide +kernel
theorem dL_cuts_513 : decode cL_cuts 513 = .ok (.iconst 1, 1) := by decide +kernel
theorem dL_cuts_514 : decode cL_cuts 514 = .ok (.goto 4, 3) := by decide +kernel
theorem dL_cuts_517 : decode cL_cuts 517 = .ok (.iconst 0, 1) := by decide +kernel
theorem dL_cuts_518 : decode cL_cuts 518 = .ok (.ireturn, 1) := by decide +kernel
theorem dL_bests_0 : decode cL_bests 0 = .ok (.new 8, 3) := by decide +kernel
theorem dL_bests_3 : decode cL_bests 3 = .ok (.dup, 1) := by decide +kernel
theorem dL_bests_4 : decode cL_bests 4 = .ok (.invokespecial 99, 3) := by decide +kernel
theorem dL_bests_7 : decode cL_bests 7 = .ok (.astore_n 0, 1) := by decide +kernel
theorem dL_bests_8 : decode cL_bests 8 = .ok (.aload_n 0, 1) := by decide +kernel
theorem dL_bests_9 : decode cL_bests 9 = .ok (.iconst 0, 1) := by decide +kernel
theorem dL_bests_10 : decode cL_bests 10 = .ok (.iconst 4, 1) := by decide +kernel
theorem dL_bests_11 : decode cL_bests 11 = .ok (.iconst 0, 1) := by decide +kernel
theorem dL_bests_12 : decode cL_bests 12 = .ok (.invokevirtual 15, 3) := by decide +kernel
theorem dL_bests_15 : decode cL_bests 15 = .ok (.ifCond .ne 213, 3) := by decide +kernel
theorem dL_bests_18 : decode cL_bests 18 = .ok (.aload_n 0, 1) := by decide +kernel
theorem dL_bests_19 : decode cL_bests 19 = .ok (.iconst 1, 1) := by decide +kernel
theorem dL_bests_20 : decode cL_bests 20 = .ok (.invokevirtual 73, 3) := by decide +kernel
theorem dL_bests_23 : decode cL_bests 23 = .ok (.bipush 40, 2) := by decide +kernel
theorem dL_bests_25 : decode cL_bests 25 = .ok (.if_icmp .ne 203, 3) := by decide +kernel
theorem dL_bests_28 : decode cL_bests 28 = .ok (.aload_n 0, 1) := by decide +kernel
theorem dL_bests_29 : decode cL_bests 29 = .ok (.iconst 1, 1) := by decide +kernel
theorem dL_bests_30 : decode cL_bests 30 = .ok (.invokevirtual 79, 3) := by decide +kernel
theorem dL_bests_33 : decode cL_bests 33 = .ok (.iconst 4, 1) := by decide +kernel
theorem dL_bests_34 : decode cL_bests 34 = .ok (.if_icmp .ne 194, 3) := by decide +kernel
theorem dL_bests_37 : decode cL_bests 37 = .ok (.aload_n 0, 1) := by decide +kernel
theorem dL_bests_38 : decode cL_bests 38 = .ok (.iconst 2, 1) := by decide +kernel
theorem dL_bests_39 : decode cL_bests 39 = .ok (.invokevirtual 73, 3) := by decide +kernel
theorem dL_bests_42 : decode cL_bests 42 = .ok (.bipush 88, 2) := by decide +kernel
theorem dL_bests_44 : decode cL_bests 44 = .ok (.if_icmp .ne 184, 3) := by decide +kernel
theorem dL_bests_47 : decode cL_bests 47 = .ok (.aload_n 0, 1) := by decide +kernel
theorem dL_bests_48 : decode cL_bests 48 = .ok (.iconst 2, 1) := by decide +kernel
theorem dL_bests_49 : decode cL_bests 49 = .ok (.invokevirtual 76, 3) := by decide +kernel
theorem dL_bests_52 : decode cL_bests 52 = .ok (.bipush 88, 2) := by decide +kernel
theorem dL_bests_54 : decode cL_bests 54 = .ok (.if_icmp .ne 174, 3) := by decide +kernel
theorem dL_bests_57 : decode cL_bests 57 = .ok (.aload_n 0, 1) := by decide +kernel
theorem dL_bests_58 : decode cL_bests 58 = .ok (.iconst 2, 1) := by decide +kernel
theorem dL_bests_59 : decode cL_bests 59 = .ok (.invokevirtual 79, 3) := by decide +kernel
theorem dL_bests_62 : decode cL_bests 62 = .ok (.ifCond .ne 166, 3) := by decide +kernel
theorem dL_bests_65 : decode cL_bests 65 = .ok (.aload_n 0, 1) := by decide +kernel
theorem dL_bests_66 : decode cL_bests 66 = .ok (.iconst 3, 1) := by decide +kernel
theorem dL_bests_67 : decode cL_bests 67 = .ok (.invokevirtual 73, 3) := by decide +kernel
theorem dL_bests_70 : decode cL_bests 70 = .ok (.sipush 144, 3) := by decide +kernel
theorem dL_bests_73 : decode cL_bests 73 = .ok (.if_icmp .ne 155, 3) := by decide +kernel
theorem dL_bests_76 : decode cL_bests 76 = .ok (.aload_n 0, 1) := by decide +kernel
theorem dL_bests_77 : decode cL_bests 77 = .ok (.iconst 3, 1) := by decide +kernel
theorem dL_bests_78 : decode cL_bests 78 = .ok (.invokevirtual 79, 3) := by decide +kernel
theorem dL_bests_81 : decode cL_bests 81 = .ok (.ifCond .ne 147, 3) := by decide +kernel
theorem dL_bests_84 : decode cL_bests 84 = .ok (.aload_n 0, 1) := by decide +kernel
theorem dL_bests_85 : decode cL_bests 85 = .ok (.iconst 0, 1) := by decide +kernel
theorem dL_bests_86 : decode cL_bests 86 = .ok (.iconst 4, 1) := by decide +kernel
theorem dL_bests_87 : decode cL_bests 87 = .ok (.invokevirtual 19, 3) := by decide +kernel
theorem dL_bests_90 : decode cL_bests 90 = .ok (.ifCond .ne 138, 3) := by decide +kernel
theorem dL_bests_93 : decode cL_bests 93 = .ok (.aload_n 0, 1) := by decide +kernel
theorem dL_bests_94 : decode cL_bests 94 = .ok (.iconst 3, 1) := by decide +kernel
theorem dL_bests_95 : decode cL_bests 95 = .ok (.invokevirtual 73, 3) := by decide +kernel
theorem dL_bests_98 : decode cL_bests 98 = .ok (.bipush 120, 2) := by decide +kernel
theorem dL_bests_100 : decode cL_bests 100 = .ok (.if_icmp .ne 128, 3) := by decide +kernel
theorem dL_bests_103 : decode cL_bests 103 = .ok (.aload_n 0, 1) := by decide +kernel
theorem dL_bests_104 : decode cL_bests 104 = .ok (.iconst 3, 1) := by decide +kernel
theorem dL_bests_105 : decode cL_bests 105 = .ok (.invokevirtual 79, 3) := by decide +kernel
theorem dL_bests_108 : decode cL_bests 108 = .ok (.iconst 4, 1) := by decide +kernel
theorem dL_bests_109 : decode cL_bests 109 = .ok (.if_icmp .ne 119, 3) := by decide +kernel
theorem dL_bests_112 : decode cL_bests 112 = .ok (.aload_n 0, 1) := by decide +kernel
theorem dL_bests_113 : decode cL_bests 113 = .ok (.iconst 0, 1) := by decide +kernel
theorem dL_bests_114 : decode cL_bests 114 = .ok (.bipush 20, 2) := by decide +kernel
theorem dL_bests_116 : decode cL_bests 116 = .ok (.invokevirtual 19, 3) := by decide +kernel
theorem dL_bests_119 : decode cL_bests 119 = .ok (.iconst 4, 1) := by decide +kernel
theorem dL_bests_120 : decode cL_bests 120 = .ok (.if_icmp .ne 108, 3) := by decide +kernel
theorem dL_bests_123 : decode cL_bests 123 = .ok (.aload_n 0, 1) := by decide +kernel
theorem dL_bests_124 : decode cL_bests 124 = .ok (.iconst 3, 1) := by decide +kernel
theorem dL_bests_125 : decode cL_bests 125 = .ok (.invokevirtual 76, 3) := by decide +kernel
theorem dL_bests_128 : decode cL_bests 128 = .ok (.sipush 144, 3) := by decide +kernel
theorem dL_bests_131 : decode cL_bests 131 = .ok (.if_icmp .ne 97, 3) := by decide +kernel
theorem dL_bests_134 : decode cL_bests 134 = .ok (.aload_n 0, 1) := by decide +kernel
theorem dL_bests_135 : decode cL_bests 135 = .ok (.iconst 3, 1) := by decide +kernel
theorem dL_bests_136 : decode cL_bests 136 = .ok (.invokevirtual 79, 3) := by decide +kernel
theorem dL_bests_139 : decode cL_bests 139 = .ok (.ifCond .ne 89, 3) := by decide +kernel
theorem dL_bests_142 : decode cL_bests 142 = .ok (.aload_n 0, 1) := by decide +kernel
theorem dL_bests_143 : decode cL_bests 143 = .ok (.iconst 0, 1) := by decide +kernel
theorem dL_bests_144 : decode cL_bests 144 = .ok (.iconst 5, 1) := by decide +kernel
theorem dL_bests_145 : decode cL_bests 145 = .ok (.invokevirtual 19, 3) := by decide +kernel
theorem dL_bests_148 : decode cL_bests 148 = .ok (.bipush 20, 2) := by decide +kernel
theorem dL_bests_150 : decode cL_bests 150 = .ok (.if_icmp .ne 78, 3) := by decide +kernel
theorem dL_bests_153 : decode cL_bests 153 = .ok (.aload_n 0, 1) := by decide +kernel
theorem dL_bests_154 : decode cL_bests 154 = .ok (.iconst 2, 1) := by decide +kernel
theorem dL_bests_155 : decode cL_bests 155 = .ok (.invokevirtual 73, 3) := by decide +kernel
theorem dL_bests_158 : decode cL_bests 158 = .ok (.bipush 88, 2) := by decide +kernel
theorem dL_bests_160 : decode cL_bests 160 = .ok (.if_icmp .ne 68, 3) := by decide +kernel
theorem dL_bests_163 : decode cL_bests 163 = .ok (.aload_n 0, 1) := by decide +kernel
theorem dL_bests_164 : decode cL_bests 164 = .ok (.iconst 0, 1) := by decide +kernel
theorem dL_bests_165 : decode cL_bests 165 = .ok (.iconst 0, 1) := by decide +kernel
theorem dL_bests_166 : decode cL_bests 166 = .ok (.invokevirtual 19, 3) := by decide +kernel
theorem dL_bests_169 : decode cL_bests 169 = .ok (.iconst 5, 1) := by decide +kernel
theorem dL_bests_170 : decode cL_bests 170 = .ok (.if_icmp .ne 58, 3) := by decide +kernel
theorem dL_bests_173 : decode cL_bests 173 = .ok (.aload_n 0, 1) := by decide +kernel
theorem dL_bests_174 : decode cL_bests 174 = .ok (.iconst 2, 1) := by decide +kernel
theorem dL_bests_175 : decode cL_bests 175 = .ok (.invokevirtual 73, 3) := by decide +kernel
theorem dL_bests_178 : decode cL_bests 178 = .ok (.bipush 88, 2) := by decide +kernel
theorem dL_bests_180 : decode cL_bests 180 = .ok (.if_icmp .ne 48, 3) := by decide +kernel
theorem dL_bests_183 : decode cL_bests 183 = .ok (.aload_n 0, 1) := by decide +kernel
theorem dL_bests_184 : decode cL_bests 184 = .ok (.iconst 0, 1) := by decide +kernel
theorem dL_bests_185 : decode cL_bests 185 = .ok (.iconst 3, 1) := by decide +kernel
theorem dL_bests_186 : decode cL_bests 186 = .ok (.bipush 10, 2) := by decide +kernel
theorem dL_bests_188 : decode cL_bests 188 = .ok (.iconst 0, 1) := by decide +kernel
theorem dL_bests_189 : decode cL_bests 189 = .ok (.invokestatic 89, 3) := by decide +kernel
theorem dL_bests_192 : decode cL_bests 192 = .ok (.ifCond .ne 36, 3) := by decide +kernel
theorem dL_bests_195 : decode cL_bests 195 = .ok (.aload_n 0, 1) := by decide +kernel
theorem dL_bests_196 : decode cL_bests 196 = .ok (.iconst 2, 1) := by decide +kernel
theorem dL_bests_197 : decode cL_bests 197 = .ok (.invokevirtual 73, 3) := by decide +kernel
theorem dL_bests_200 : decode cL_bests 200 = .ok (.bipush 80, 2) := by decide +kernel
theorem dL_bests_202 : decode cL_bests 202 = .ok (.if_icmp .ne 26, 3) := by decide +kernel
theorem dL_bests_205 : decode cL_bests 205 = .ok (.aload_n 0, 1) := by decide +kernel
theorem dL_bests_206 : decode cL_bests 206 = .ok (.iconst 2, 1) := by decide +kernel
theorem dL_bests_207 : decode cL_bests 207 = .ok (.invokevirtual 79, 3) := by decide +kernel
theorem dL_bests_210 : decode cL_bests 210 = .ok (.iconst 4, 1) := by decide +kernel
theorem dL_bests_211 : decode cL_bests 211 = .ok (.if_icmp .ne 17, 3) := by decide +kernel
theorem dL_bests_214 : decode cL_bests 214 = .ok (.aload_n 0, 1) := by decide +kernel
theorem dL_bests_215 : decode cL_bests 215 = .ok (.invokevirtual 84, 3) := by decide +kernel
theorem dL_bests_218 : decode cL_bests 218 = .ok (.ifCond .ne 10, 3) := by decide +kernel
theorem dL_bests_221 : decode cL_bests 221 = .ok (.aload_n 0, 1) := by decide +kernel
theorem dL_bests_222 : decode cL_bests 222 = .ok (.invokestatic 104, 3) := by decide +kernel
theorem dL_bests_225 : decode cL_bests 225 = .ok (.ifCond .ne 5, 3) := by decide +kernel
theorem dL_bests_228 : decode cL_bests 228 = .ok (.iconst 0, 1) := by decide +kernel
theorem dL_bests_229 : decode cL_bests 229 = .ok (.ireturn, 1) := by decide +kernel
theorem dL_bests_230 : decode cL_bests 230 = .ok (.aload_n 0, 1) := by decide +kernel
theorem dL_bests_231 : decode cL_bests 231 = .ok (.iconst 0, 1) := by decide +kernel
theorem dL_bests_232 : decode cL_bests 232 = .ok (.iconst 0, 1) := by decide +kernel
theorem dL_bests_233 : decode cL_bests 233 = .ok (.iconst 4, 1) := by decide +kernel
theorem dL_bests_234 : decode cL_bests 234 = .ok (.bipush 95, 2) := by decide +kernel
theorem dL_bests_236 : decode cL_bests 236 = .ok (.invokevirtual 26, 3) := by decide +kernel
theorem dL_bests_239 : decode cL_bests 239 = .ok (.bipush 40, 2) := by decide +kernel
theorem dL_bests_241 : decode cL_bests 241 = .ok (.if_icmp .ne 115, 3) := by decide +kernel
theorem dL_bests_244 : decode cL_bests 244 = .ok (.aload_n 0, 1) := by decide +kernel
theorem dL_bests_245 : decode cL_bests 245 = .ok (.iconst 0, 1) := by decide +kernel
theorem dL_bests_246 : decode cL_bests 246 = .ok (.iconst 1, 1) := by decide +kernel
theorem dL_bests_247 : decode cL_bests 247 = .ok (.iconst 4, 1) := by decide +kernel
theorem dL_bests_248 : decode cL_bests 248 = .ok (.iconst 3, 1) := by decide +kernel
theorem dL_bests_249 : decode cL_bests 249 = .ok (.invokevirtual 26, 3) := by decide +kernel
theorem dL_bests_252 : decode cL_bests 252 = .ok (.bipush 40, 2) := by decide +kernel
theorem dL_bests_254 : decode cL_bests 254 = .ok (.if_icmp .ne 102, 3) := by decide +kernel
theorem dL_bests_257 : decode cL_bests 257 = .ok (.aload_n 0, 1) := by decide +kernel
theorem dL_bests_258 : decode cL_bests 258 = .ok (.iconst 0, 1) := by decide +kernel
theorem dL_bests_259 : decode cL_bests 259 = .ok (.iconst 4, 1) := by decide +kernel
theorem dL_bests_260 : decode cL_bests 260 = .ok (.invokevirtual 70, 3) := by decide +kernel
theorem dL_bests_263 : decode cL_bests 263 = .ok (.bipush 95, 2) := by decide +kernel
theorem dL_bests_265 : decode cL_bests 265 = .ok (.if_icmp .ne 91, 3) := by decide +kernel
theorem dL_bests_268 : decode cL_bests 268 = .ok (.aload_n 0, 1) := by decide +kernel
theorem dL_bests_269 : decode cL_bests 269 = .ok (.iconst 0, 1) := by decide +kernel
theorem dL_bests_270 : decode cL_bests 270 = .ok (.iconst 3, 1) := by decide +kernel
theorem dL_bests_271 : decode cL_bests 271 = .ok (.invokevirtual 70, 3) := by decide +kernel
theorem dL_bests_274 : decode cL_bests 274 = .ok (.bipush 30, 2) := by decide +kernel
theorem dL_bests_276 : decode cL_bests 276 = .ok (.if_icmp .ne 80, 3) := by decide +kernel
theorem dL_bests_279 : decode cL_bests 279 = .ok (.aload_n 0, 1) := by decide +kernel
theorem dL_bests_280 : decode cL_bests 280 = .ok (.iconst 0, 1) := by decide +kernel
theorem dL_bests_281 : decode cL_bests 281 = .ok (.bipush 8, 2) := by decide +kernel
theorem dL_bests_283 : decode cL_bests 283 = .ok (.invokevirtual 70, 3) := by decide +kernel
theorem dL_bests_286 : decode cL_bests 286 = .ok (.bipush 125, 2) := by decide +kernel
theorem dL_bests_288 : decode cL_bests 288 = .ok (.if_icmp .ne 68, 3) := by decide +kernel
theorem dL_bests_291 : decode cL_bests 291 = .ok (.aload_n 0, 1) := by decide +kernel
theorem dL_bests_292 : decode cL_bests 292 = .ok (.iconst 0, 1) := by decide +kernel
theorem dL_bests_293 : decode cL_bests 293 = .ok (.bipush 16, 2) := by decide +kernel
theorem dL_bests_295 : decode cL_bests 295 = .ok (.invokevirtual 70, 3) := by decide +kernel
theorem dL_bests_298 : decode cL_bests 298 = .ok (.sipush 175, 3) := by decide +kernel
theorem dL_bests_301 : decode cL_bests 301 = .ok (.if_icmp .ne 55, 3) := by decide +kernel
theorem dL_bests_304 : decode cL_bests 304 = .ok (.aload_n 0, 1) := by decide +kernel
theorem dL_bests_305 : decode cL_bests 305 = .ok (.iconst 0, 1) := by decide +kernel
theorem dL_bests_306 : decode cL_bests 306 = .ok (.iconst 1, 1) := by decide +kernel
theorem dL_bests_307 : decode cL_bests 307 = .ok (.bipush 8, 2) := by decide +kernel
theorem dL_bests_309 : decode cL_bests 309 = .ok (.sipush 200, 3) := by decide +kernel
theorem dL_bests_312 : decode cL_bests 312 = .ok (.invokevirtual 26, 3) := by decide +kernel
theorem dL_bests_315 : decode cL_bests 315 = .ok (.bipush 80, 2) := by decide +kernel
theorem dL_bests_317 : decode cL_bests 317 = .ok (.if_icmp .ne 39, 3) := by decide +kernel
theorem dL_bests_320 : decode cL_bests 320 = .ok (.aload_n 0, 1) := by decide +kernel
theorem dL_bests_321 : decode cL_bests 321 = .ok (.iconst 0, 1) := by decide +kernel
theorem dL_bests_322 : decode cL_bests 322 = .ok (.bipush 8, 2) := by decide +kernel
theorem dL_bests_324 : decode cL_bests 324 = .ok (.invokevirtual 70, 3) := by decide +kernel
theorem dL_bests_327 : decode cL_bests 327 = .ok (.sipush 200, 3) := by decide +kernel
theorem dL_bests_330 : decode cL_bests 330 = .ok (.if_icmp .ne 26, 3) := by decide +kernel
theorem dL_bests_333 : decode cL_bests 333 = .ok (.aload_n 0, 1) := by decide +kernel
theorem dL_bests_334 : decode cL_bests 334 = .ok (.iconst 0, 1) := by decide +kernel
theorem dL_bests_335 : decode cL_bests 335 = .ok (.bipush 12, 2) := by decide +kernel
theorem dL_bests_337 : decode cL_bests 337 = .ok (.invokevirtual 70, 3) := by decide +kernel
theorem dL_bests_340 : decode cL_bests 340 = .ok (.sipush 295, 3) := by decide +kernel
theorem dL_bests_343 : decode cL_bests 343 = .ok (.if_icmp .ne 13, 3) := by decide +kernel
theorem dL_bests_346 : decode cL_bests 346 = .ok (.aload_n 0, 1) := by decide +kernel
theorem dL_bests_347 : decode cL_bests 347 = .ok (.iconst 1, 1) := by decide +kernel
theorem dL_bests_348 : decode cL_bests 348 = .ok (.invokevirtual 73, 3) := by decide +kernel
theorem dL_bests_351 : decode cL_bests 351 = .ok (.bipush 95, 2) := by decide +kernel
theorem dL_bests_353 : decode cL_bests 353 = .ok (.if_icmp .eq 5, 3) := by decide +kernel
theorem dL_bests_356 : decode cL_bests 356 = .ok (.iconst 0, 1) := by decide +kernel
theorem dL_bests_357 : decode cL_bests 357 = .ok (.ireturn, 1) := by decide +kernel
theorem dL_bests_358 : decode cL_bests 358 = .ok (.iconst 0, 1) := by decide +kernel
theorem dL_bests_359 : decode cL_bests 359 = .ok (.istore_n 1, 1) := by decide +kernel
theorem dL_bests_360 : decode cL_bests 360 = .ok (.iload_n 1, 1) := by decide +kernel
theorem dL_bests_361 : decode cL_bests 361 = .ok (.bipush 8, 2) := by decide +kernel
theorem dL_bests_363 : decode cL_bests 363 = .ok (.if_icmp .ge 27, 3) := by decide +kernel
theorem dL_bests_366 : decode cL_bests 366 = .ok (.aload_n 0, 1) := by decide +kernel
theorem dL_bests_367 : decode cL_bests 367 = .ok (.bipush 24, 2) := by decide +kernel
theorem dL_bests_369 : decode cL_bests 369 = .ok (.invokevirtual 30, 3) := by decide +kernel
theorem dL_bests_372 : decode cL_bests 372 = .ok (.bipush 24, 2) := by decide +kernel
theorem dL_bests_374 : decode cL_bests 374 = .ok (.iload_n 1, 1) := by decide +kernel
theorem dL_bests_375 : decode cL_bests 375 = .ok (.imul, 1) := by decide +kernel
theorem dL_bests_376 : decode cL_bests 376 = .ok (.bipush 24, 2) := by decide +kernel
theorem dL_bests_378 : decode cL_bests 378 = .ok (.iadd, 1) := by decide +kernel
theorem dL_bests_379 : decode cL_bests 379 = .ok (.if_icmp .eq 5, 3) := by decide +kernel
theorem dL_bests_382 : decode cL_bests 382 = .ok (.iconst 0, 1) := by decide +kernel
theorem dL_bests_383 : decode cL_bests 383 = .ok (.ireturn, 1) := by decide +kernel
theorem dL_bests_384 : decode cL_bests 384 = .ok (.iinc 1 1, 3) := by decide +kernel
theorem dL_bests_387 : decode cL_bests 387 = .ok (.goto (-27), 3) := by decide +kernel
theorem dL_bests_390 : decode cL_bests 390 = .ok (.aload_n 0, 1) := by decide +kernel
theorem dL_bests_391 : decode cL_bests 391 = .ok (.iconst 4, 1) := by decide +kernel
theorem dL_bests_392 : decode cL_bests 392 = .ok (.bipush 9, 2) := by decide +kernel
theorem dL_bests_394 : decode cL_bests 394 = .ok (.iconst 0, 1) := by decide +kernel
theorem dL_bests_395 : decode cL_bests 395 = .ok (.iconst 0, 1) := by decide +kernel
theorem dL_bests_396 : decode cL_bests 396 = .ok (.iconst 0, 1) := by decide +kernel
theorem dL_bests_397 : decode cL_bests 397 = .ok (.invokestatic 95, 3) := by decide +kernel
theorem dL_bests_400 : decode cL_bests 400 = .ok (.sipush (-8003), 3) := by decide +kernel
theorem dL_bests_403 : decode cL_bests 403 = .ok (.if_icmp .ne 124, 3) := by decide +kernel
theorem dL_bests_406 : decode cL_bests 406 = .ok (.aload_n 0, 1) := by decide +kernel
theorem dL_bests_407 : decode cL_bests 407 = .ok (.bipush 8, 2) := by decide +kernel
theorem dL_bests_409 : decode cL_bests 409 = .ok (.invokevirtual 30, 3) := by decide +kernel
theorem dL_bests_412 : decode cL_bests 412 = .ok (.sipush 200, 3) := by decide +kernel
theorem dL_bests_415 : decode cL_bests 415 = .ok (.if_icmp .ne 112, 3) := by decide +kernel
theorem dL_bests_418 : decode cL_bests 418 = .ok (.aload_n 0, 1) := by decide +kernel
theorem dL_bests_419 : decode cL_bests 419 = .ok (.iconst 4, 1) := by decide +kernel
theorem dL_bests_420 : decode cL_bests 420 = .ok (.iconst 1, 1) := by decide +kernel
theorem dL_bests_421 : decode cL_bests 421 = .ok (.iconst 0, 1) := by decide +kernel
theorem dL_bests_422 : decode cL_bests 422 = .ok (.iconst 0, 1) := by decide +kernel
theorem dL_bests_423 : decode cL_bests 423 = .ok (.iconst 0, 1) := by decide +kernel
theorem dL_bests_424 : decode cL_bests 424 = .ok (.invokestatic 95, 3) := by decide +kernel
theorem dL_bests_427 : decode cL_bests 427 = .ok (.sipush (-8003), 3) := by decide +kernel
theorem dL_bests_430 : decode cL_bests 430 = .ok (.if_icmp .ne 97, 3) := by decide +kernel
theorem dL_bests_433 : decode cL_bests 433 = .ok (.aload_n 0, 1) := by decide +kernel
theorem dL_bests_434 : decode cL_bests 434 = .ok (.iconst 0, 1) := by decide +kernel
theorem dL_bests_435 : decode cL_bests 435 = .ok (.invokevirtual 58, 3) := by decide +kernel
theorem dL_bests_438 : decode cL_bests 438 = .ok (.sipush 797, 3) := by decide +kernel
theorem dL_bests_441 : decode cL_bests 441 = .ok (.if_icmp .ne 86, 3) := by decide +kernel
theorem dL_bests_444 : decode cL_bests 444 = .ok (.aload_n 0, 1) := by decide +kernel
theorem dL_bests_445 : decode cL_bests 445 = .ok (.iconst 0, 1) := by decide +kernel
theorem dL_bests_446 : decode cL_bests 446 = .ok (.invokevirtual 40, 3) := by decide +kernel
theorem dL_bests_449 : decode cL_bests 449 = .ok (.iconst 3, 1) := by decide +kernel
theorem dL_bests_450 : decode cL_bests 450 = .ok (.if_icmp .ne 77, 3) := by decide +kernel
theorem dL_bests_453 : decode cL_bests 453 = .ok (.aload_n 0, 1) := by decide +kernel
theorem dL_bests_454 : decode cL_bests 454 = .ok (.iconst 1, 1) := by decide +kernel
theorem dL_bests_455 : decode cL_bests 455 = .ok (.invokevirtual 49, 3) := by decide +kernel
theorem dL_bests_458 : decode cL_bests 458 = .ok (.sipush 800, 3) := by decide +kernel
theorem dL_bests_461 : decode cL_bests 461 = .ok (.if_icmp .ne 66, 3) := by decide +kernel
theorem dL_bests_464 : decode cL_bests 464 = .ok (.aload_n 0, 1) := by decide +kernel
theorem dL_bests_465 : decode cL_bests 465 = .ok (.iconst 0, 1) := by decide +kernel
theorem dL_bests_466 : decode cL_bests 466 = .ok (.invokevirtual 49, 3) := by decide +kernel
theorem dL_bests_469 : decode cL_bests 469 = .ok (.ifCond .ne 58, 3) := by decide +kernel
theorem dL_bests_472 : decode cL_bests 472 = .ok (.aload_n 0, 1) := by decide +kernel
theorem dL_bests_473 : decode cL_bests 473 = .ok (.iconst 1, 1) := by decide +kernel
theorem dL_bests_474 : decode cL_bests 474 = .ok (.invokevirtual 55, 3) := by decide +kernel
theorem dL_bests_477 : decode cL_bests 477 = .ok (.aload_n 0, 1) := by decide +kernel
theorem dL_bests_478 : decode cL_bests 478 = .ok (.iconst 0, 1) := by decide +kernel
theorem dL_bests_479 : decode cL_bests 479 = .ok (.iconst 1, 1) := by decide +kernel
theorem dL_bests_480 : decode cL_bests 480 = .ok (.invokevirtual 37, 3) := by decide +kernel
theorem dL_bests_483 : decode cL_bests 483 = .ok (.aload_n 0, 1) := by decide +kernel
theorem dL_bests_484 : decode cL_bests 484 = .ok (.iconst 1, 1) := by decide +kernel
theorem dL_bests_485 : decode cL_bests 485 = .ok (.iconst 1, 1) := by decide +kernel
theorem dL_bests_486 : decode cL_bests 486 = .ok (.invokevirtual 37, 3) := by decide +kernel
theorem dL_bests_489 : decode cL_bests 489 = .ok (.iadd, 1) := by decide +kernel
theorem dL_bests_490 : decode cL_bests 490 = .ok (.aload_n 0, 1) := by decide +kernel
theorem dL_bests_491 : decode cL_bests 491 = .ok (.iconst 2, 1) := by decide +kernel
theorem dL_bests_492 : decode cL_bests 492 = .ok (.iconst 1, 1) := by decide +kernel
theorem dL_bests_493 : decode cL_bests 493 = .ok (.invokevirtual 37, 3) := by decide +kernel
theorem dL_bests_496 : decode cL_bests 496 = .ok (.iadd, 1) := by decide +kernel
theorem dL_bests_497 : decode cL_bests 497 = .ok (.aload_n 0, 1) := by decide +kernel
theorem dL_bests_498 : decode cL_bests 498 = .ok (.iconst 2, 1) := by decide +kernel
theorem dL_bests_499 : decode cL_bests 499 = .ok (.iconst 1, 1) := by decide +kernel
theorem dL_bests_500 : decode cL_bests 500 = .ok (.invokevirtual 43, 3) := by decide +kernel
theorem dL_bests_503 : decode cL_bests 503 = .ok (.iadd, 1) := by decide +kernel
theorem dL_bests_504 : decode cL_bests 504 = .ok (.if_icmp .ne 23, 3) := by decide +kernel
theorem dL_bests_507 : decode cL_bests 507 = .ok (.aload_n 0, 1) := by decide +kernel
theorem dL_bests_508 : decode cL_bests 508 = .ok (.bipush 6, 2) := by decide +kernel
theorem dL_bests_510 : decode cL_bests 510 = .ok (.invokevirtual 73, 3) := by decide +kernel
theorem dL_bests_513 : decode cL_bests 513 = .ok (.ifCond .le 14, 3) := by decide +kernel
theorem dL_bests_516 : decode cL_bests 516 = .ok (.aload_n 0, 1) := by decide +kernel
theorem dL_bests_517 : decode cL_bests 517 = .ok (.invokestatic 104, 3) := by decide +kernel
theorem dL_bests_520 : decode cL_bests 520 = .ok (.ifCond .eq 7, 3) := by decide +kernel
theorem dL_bests_523 : decode cL_bests 523 = .ok (.iconst 1, 1) := by decide +kernel
theorem dL_bests_524 : decode cL_bests 524 = .ok (.goto 4, 3) := by decide +kernel
theorem dL_bests_527 : decode cL_bests 527 = .ok (.iconst 0, 1) := by decide +kernel
theorem dL_bests_528 : decode cL_bests 528 = .ok (.ireturn, 1) := by decide +kernel
theorem dL_law_0 : decode cL_law 0 = .ok (.invokestatic 108, 3) := by decide +kernel
theorem dL_law_3 : decode cL_law 3 = .ok (.ifCond .eq 15, 3) := by decide +kernel
theorem dL_law_6 : decode cL_law 6 = .ok (.invokestatic 112, 3) := by decide +kernel
theorem dL_law_9 : decode cL_law 9 = .ok (.ifCond .eq 9, 3) := by decide +kernel
theorem dL_law_12 : decode cL_law 12 = .ok (.invokestatic 115, 3) := by decide +kernel
theorem dL_law_15 : decode cL_law 15 = .ok (.ifCond .ne 5, 3) := by decide +kernel
theorem dL_law_18 : decode cL_law 18 = .ok (.iconst 0, 1) := by decide +kernel
theorem dL_law_19 : decode cL_law 19 = .ok (.ireturn, 1) := by decide +kernel
theorem dL_law_20 : decode cL_law 20 = .ok (.new 8, 3) := by decide +kernel
theorem dL_law_23 : decode cL_law 23 = .ok (.dup, 1) := by decide +kernel
theorem dL_law_24 : decode cL_law 24 = .ok (.invokespecial 99, 3) := by decide +kernel
theorem dL_law_27 : decode cL_law 27 = .ok (.astore_n 1, 1) := by decide +kernel
theorem dL_law_28 : decode cL_law 28 = .ok (.iconst 0, 1) := by decide +kernel
theorem dL_law_29 : decode cL_law 29 = .ok (.istore_n 2, 1) := by decide +kernel
theorem dL_law_30 : decode cL_law 30 = .ok (.iload_n 2, 1) := by decide +kernel
theorem dL_law_31 : decode cL_law 31 = .ok (.bipush 24, 2) := by decide +kernel
theorem dL_law_33 : decode cL_law 33 = .ok (.if_icmp .ge 163, 3) := by decide +kernel
theorem dL_law_36 : decode cL_law 36 = .ok (.aload_n 0, 1) := by decide +kernel
theorem dL_law_37 : decode cL_law 37 = .ok (.arraylength, 1) := by decide +kernel
theorem dL_law_38 : decode cL_law 38 = .ok (.ifCond .ne 10, 3) := by decide +kernel
theorem dL_law_41 : decode cL_law 41 = .ok (.bipush 19, 2) := by decide +kernel
theorem dL_law_43 : decode cL_law 43 = .ok (.iload_n 2, 1) := by decide +kernel
theorem dL_law_44 : decode cL_law 44 = .ok (.imul, 1) := by decide +kernel
theorem dL_law_45 : decode cL_law 45 = .ok (.goto 12, 3) := by decide +kernel
theorem dL_law_48 : decode cL_law 48 = .ok (.aload_n 0, 1) := by decide +kernel
theorem dL_law_49 : decode cL_law 49 = .ok (.iload_n 2, 1) := by decide +kernel
theorem dL_law_50 : decode cL_law 50 = .ok (.aload_n 0, 1) := by decide +kernel
theorem dL_law_51 : decode cL_law 51 = .ok (.arraylength, 1) := by decide +kernel
theorem dL_law_52 : decode cL_law 52 = .ok (.irem, 1) := by decide +kernel
theorem dL_law_53 : decode cL_law 53 = .ok (.iaload, 1) := by decide +kernel
theorem dL_law_54 : decode cL_law 54 = .ok (.bipush 8, 2) := by decide +kernel
theorem dL_law_56 : decode cL_law 56 = .ok (.iushr, 1) := by decide +kernel
theorem dL_law_57 : decode cL_law 57 = .ok (.istore_n 3, 1) := by decide +kernel
theorem dL_law_58 : decode cL_law 58 = .ok (.aload_n 1, 1) := by decide +kernel
theorem dL_law_59 : decode cL_law 59 = .ok (.iload_n 3, 1) := by decide +kernel
theorem dL_law_60 : decode cL_law 60 = .ok (.iconst 3, 1) := by decide +kernel
theorem dL_law_61 : decode cL_law 61 = .ok (.irem, 1) := by decide +kernel
theorem dL_law_62 : decode cL_law 62 = .ok (.iload_n 3, 1) := by decide +kernel
theorem dL_law_63 : decode cL_law 63 = .ok (.iconst 3, 1) := by decide +kernel
theorem dL_law_64 : decode cL_law 64 = .ok (.idiv, 1) := by decide +kernel
theorem dL_law_65 : decode cL_law 65 = .ok (.bipush 51, 2) := by decide +kernel
theorem dL_law_67 : decode cL_law 67 = .ok (.irem, 1) := by decide +kernel
theorem dL_law_68 : decode cL_law 68 = .ok (.iload_n 3, 1) := by decide +kernel
theorem dL_law_69 : decode cL_law 69 = .ok (.bipush 101, 2) := by decide +kernel
theorem dL_law_71 : decode cL_law 71 = .ok (.irem, 1) := by decide +kernel
theorem dL_law_72 : decode cL_law 72 = .ok (.invokevirtual 15, 3) := by decide +kernel
theorem dL_law_75 : decode cL_law 75 = .ok (.ifCond .lt 65, 3) := by decide +kernel
theorem dL_law_78 : decode cL_law 78 = .ok (.aload_n 1, 1) := by decide +kernel
theorem dL_law_79 : decode cL_law 79 = .ok (.iload_n 3, 1) := by decide +kernel
theorem dL_law_80 : decode cL_law 80 = .ok (.iconst 3, 1) := by decide +kernel
theorem dL_law_81 : decode cL_law 81 = .ok (.irem, 1) := by decide +kernel
theorem dL_law_82 : decode cL_law 82 = .ok (.iload_n 3, 1) := by decide +kernel
theorem dL_law_83 : decode cL_law 83 = .ok (.iconst 2, 1) := by decide +kernel
theorem dL_law_84 : decode cL_law 84 = .ok (.idiv, 1) := by decide +kernel
theorem dL_law_85 : decode cL_law 85 = .ok (.iconst 2, 1) := by decide +kernel
theorem dL_law_86 : decode cL_law 86 = .ok (.irem, 1) := by decide +kernel
theorem dL_law_87 : decode cL_law 87 = .ok (.iload_n 3, 1) := by decide +kernel
theorem dL_law_88 : decode cL_law 88 = .ok (.bipush 31, 2) := by decide +kernel
theorem dL_law_90 : decode cL_law 90 = .ok (.irem, 1) := by decide +kernel
theorem dL_law_91 : decode cL_law 91 = .ok (.invokevirtual 23, 3) := by decide +kernel
theorem dL_law_94 : decode cL_law 94 = .ok (.ifCond .lt 46, 3) := by decide +kernel
theorem dL_law_97 : decode cL_law 97 = .ok (.aload_n 1, 1) := by decide +kernel
theorem dL_law_98 : decode cL_law 98 = .ok (.iload_n 3, 1) := by decide +kernel
theorem dL_law_99 : decode cL_law 99 = .ok (.iconst 5, 1) := by decide +kernel
theorem dL_law_100 : decode cL_law 100 = .ok (.idiv, 1) := by decide +kernel
theorem dL_law_101 : decode cL_law 101 = .ok (.iconst 3, 1) := by decide +kernel
theorem dL_law_102 : decode cL_law 102 = .ok (.irem, 1) := by decide +kernel
theorem dL_law_103 : decode cL_law 103 = .ok (.iload_n 3, 1) := by decide +kernel
theorem dL_law_104 : decode cL_law 104 = .ok (.bipush 21, 2) := by decide +kernel
theorem dL_law_106 : decode cL_law 106 = .ok (.irem, 1) := by decide +kernel
theorem dL_law_107 : decode cL_law 107 = .ok (.invokevirtual 19, 3) := by decide +kernel
theorem dL_law_110 : decode cL_law 110 = .ok (.ifCond .lt 30, 3) := by decide +kernel
theorem dL_law_113 : decode cL_law 113 = .ok (.aload_n 1, 1) := by decide +kernel
theorem dL_law_114 : decode cL_law 114 = .ok (.iconst 1, 1) := by decide +kernel
theorem dL_law_115 : decode cL_law 115 = .ok (.iload_n 3, 1) := by decide +kernel
theorem dL_law_116 : decode cL_law 116 = .ok (.iconst 4, 1) := by decide +kernel
theorem dL_law_117 : decode cL_law 117 = .ok (.irem, 1) := by decide +kernel
theorem dL_law_118 : decode cL_law 118 = .ok (.iadd, 1) := by decide +kernel
theorem dL_law_119 : decode cL_law 119 = .ok (.invokevirtual 30, 3) := by decide +kernel
theorem dL_law_122 : decode cL_law 122 = .ok (.iload_n 2, 1) := by decide +kernel
theorem dL_law_123 : decode cL_law 123 = .ok (.if_icmp .le 17, 3) := by decide +kernel
theorem dL_law_126 : decode cL_law 126 = .ok (.iload_n 2, 1) := by decide +kernel
theorem dL_law_127 : decode cL_law 127 = .ok (.bipush 6, 2) := by decide +kernel
theorem dL_law_129 : decode cL_law 129 = .ok (.irem, 1) := by decide +kernel
theorem dL_law_130 : decode cL_law 130 = .ok (.ifCond .ne 12, 3) := by decide +kernel
theorem dL_law_133 : decode cL_law 133 = .ok (.aload_n 1, 1) := by decide +kernel
theorem dL_law_134 : decode cL_law 134 = .ok (.invokestatic 104, 3) := by decide +kernel
theorem dL_law_137 : decode cL_law 137 = .ok (.ifCond .ne 5, 3) := by decide +kernel
theorem dL_law_140 : decode cL_law 140 = .ok (.iconst 0, 1) := by decide +kernel
theorem dL_law_141 : decode cL_law 141 = .ok (.ireturn, 1) := by decide +kernel
theorem dL_law_142 : decode cL_law 142 = .ok (.iconst 0, 1) := by decide +kernel
theorem dL_law_143 : decode cL_law 143 = .ok (.istore 4, 2) := by decide +kernel
theorem dL_law_145 : decode cL_law 145 = .ok (.iload 4, 2) := by decide +kernel
theorem dL_law_147 : decode cL_law 147 = .ok (.iconst 3, 1) := by decide +kernel
theorem dL_law_148 : decode cL_law 148 = .ok (.if_icmp .ge 42, 3) := by decide +kernel
theorem dL_law_151 : decode cL_law 151 = .ok (.aload_n 1, 1) := by decide +kernel
theorem dL_law_152 : decode cL_law 152 = .ok (.iload 4, 2) := by decide +kernel
theorem dL_law_154 : decode cL_law 154 = .ok (.invokevirtual 40, 3) := by decide +kernel
theorem dL_law_157 : decode cL_law 157 = .ok (.ifCond .lt 25, 3) := by decide +kernel
theorem dL_law_160 : decode cL_law 160 = .ok (.aload_n 1, 1) := by decide +kernel
theorem dL_law_161 : decode cL_law 161 = .ok (.iload 4, 2) := by decide +kernel
theorem dL_law_163 : decode cL_law 163 = .ok (.invokevirtual 40, 3) := by decide +kernel
theorem dL_law_166 : decode cL_law 166 = .ok (.bipush 100, 2) := by decide +kernel
theorem dL_law_168 : decode cL_law 168 = .ok (.if_icmp .gt 14, 3) := by decide +kernel
theorem dL_law_171 : decode cL_law 171 = .ok (.aload_n 1, 1) := by decide +kernel
theorem dL_law_172 : decode cL_law 172 = .ok (.iload 4, 2) := by decide +kernel
theorem dL_law_174 : decode cL_law 174 = .ok (.invokevirtual 64, 3) := by decide +kernel
theorem dL_law_177 : decode cL_law 177 = .ok (.bipush 16, 2) := by decide +kernel
theorem dL_law_179 : decode cL_law 179 = .ok (.if_icmp .le 5, 3) := by decide +kernel
theorem dL_law_182 : decode cL_law 182 = .ok (.iconst 0, 1) := by decide +kernel
theorem dL_law_183 : decode cL_law 183 = .ok (.ireturn, 1) := by decide +kernel
theorem dL_law_184 : decode cL_law 184 = .ok (.iinc 4 1, 3) := by decide +kernel
theorem dL_law_187 : decode cL_law 187 = .ok (.goto (-42), 3) := by decide +kernel
theorem dL_law_190 : decode cL_law 190 = .ok (.iinc 2 1, 3) := by decide +kernel
theorem dL_law_193 : decode cL_law 193 = .ok (.goto (-163), 3) := by decide +kernel
theorem dL_law_196 : decode cL_law 196 = .ok (.iconst 1, 1) := by decide +kernel
theorem dL_law_197 : decode cL_law 197 = .ok (.ireturn, 1) := by decide +kernel
