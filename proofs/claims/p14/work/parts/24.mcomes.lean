theorem k_31 : Cond.selects RX7 yX7_canAsk yX7_canAsk ∈ tb := mt 31 (by decide +kernel) rfl
theorem k_37 : Cond.selects RX7 yX7_begins yX7_begins ∈ tb := mt 37 (by decide +kernel) rfl
theorem k_42 : Cond.selects RX7 yX7_valued yX7_valued ∈ tb := mt 42 (by decide +kernel) rfl
theorem k_43 : Cond.selects RX7 yX7_puts yX7_puts ∈ tb := mt 43 (by decide +kernel) rfl
theorem k_753 : Cond.fieldLink RX7 31 "TwiceOnceModel" "count" "[I" ∈ tb := mt 753 (by decide +kernel) rfl
theorem k_1020 : Cond.methodLink RX7 220 yX7_canAsk ∈ tb := mt 1020 (by decide +kernel) rfl
theorem k_1022 : Cond.instanceMethod yX7_canAsk ∈ tb := mt 1022 (by decide +kernel) rfl
set_option maxRecDepth 20000 in
theorem k_1023 : Cond.code yX7_canAsk cX7_canAsk 3 (some .boolean) ∈ tb := mt 1023 rfl rfl
theorem k_1052 : Cond.methodLink RX7 265 yX7_begins ∈ tb := mt 1052 (by decide +kernel) rfl
theorem k_1054 : Cond.instanceMethod yX7_begins ∈ tb := mt 1054 (by decide +kernel) rfl
set_option maxRecDepth 20000 in
theorem k_1055 : Cond.code yX7_begins cX7_begins 8 (some .boolean) ∈ tb := mt 1055 rfl rfl
theorem k_1072 : Cond.methodLink RX7 262 yX7_valued ∈ tb := mt 1072 (by decide +kernel) rfl
theorem k_1074 : Cond.instanceMethod yX7_valued ∈ tb := mt 1074 (by decide +kernel) rfl
set_option maxRecDepth 20000 in
theorem k_1075 : Cond.code yX7_valued cX7_valued 4 (some .int) ∈ tb := mt 1075 rfl rfl
theorem k_1076 : Cond.methodLink RX7 268 yX7_puts ∈ tb := mt 1076 (by decide +kernel) rfl
theorem k_1078 : Cond.instanceMethod yX7_puts ∈ tb := mt 1078 (by decide +kernel) rfl
set_option maxRecDepth 20000 in
theorem k_1079 : Cond.code yX7_puts cX7_puts 3 none ∈ tb := mt 1079 rfl rfl
theorem dX7_comes_189 : decode cX7_comes 189 = .ok (.aload_n 0, 1) := by decide +kernel
theorem dX7_comes_190 : decode cX7_comes 190 = .ok (.getfield 58, 3) := by decide +kernel
theorem dX7_comes_193 : decode cX7_comes 193 = .ok (.iload 8, 2) := by decide +kernel
theorem dX7_comes_195 : decode cX7_comes 195 = .ok (.iload 5, 2) := by decide +kernel
theorem dX7_comes_197 : decode cX7_comes 197 = .ok (.iastore, 1) := by decide +kernel
theorem dX7_comes_198 : decode cX7_comes 198 = .ok (.aload_n 0, 1) := by decide +kernel
theorem dX7_comes_199 : decode cX7_comes 199 = .ok (.getfield 61, 3) := by decide +kernel
theorem dX7_comes_202 : decode cX7_comes 202 = .ok (.iload 8, 2) := by decide +kernel
theorem dX7_comes_204 : decode cX7_comes 204 = .ok (.aload_n 0, 1) := by decide +kernel
theorem dX7_comes_205 : decode cX7_comes 205 = .ok (.getfield 16, 3) := by decide +kernel
theorem dX7_comes_208 : decode cX7_comes 208 = .ok (.iload 4, 2) := by decide +kernel
theorem dX7_comes_210 : decode cX7_comes 210 = .ok (.iaload, 1) := by decide +kernel
theorem dX7_comes_211 : decode cX7_comes 211 = .ok (.iastore, 1) := by decide +kernel
theorem dX7_comes_212 : decode cX7_comes 212 = .ok (.aload_n 0, 1) := by decide +kernel
theorem dX7_comes_213 : decode cX7_comes 213 = .ok (.getfield 64, 3) := by decide +kernel
theorem dX7_comes_216 : decode cX7_comes 216 = .ok (.iload 8, 2) := by decide +kernel
theorem dX7_comes_218 : decode cX7_comes 218 = .ok (.iload 6, 2) := by decide +kernel
theorem dX7_comes_220 : decode cX7_comes 220 = .ok (.iastore, 1) := by decide +kernel
theorem dX7_comes_221 : decode cX7_comes 221 = .ok (.aload_n 0, 1) := by decide +kernel
theorem dX7_comes_222 : decode cX7_comes 222 = .ok (.getfield 119, 3) := by decide +kernel
theorem dX7_comes_225 : decode cX7_comes 225 = .ok (.iload_n 1, 1) := by decide +kernel
theorem dX7_comes_226 : decode cX7_comes 226 = .ok (.dup2, 1) := by decide +kernel
theorem dX7_comes_227 : decode cX7_comes 227 = .ok (.iaload, 1) := by decide +kernel
theorem dX7_comes_228 : decode cX7_comes 228 = .ok (.iconst 1, 1) := by decide +kernel
theorem dX7_comes_229 : decode cX7_comes 229 = .ok (.iadd, 1) := by decide +kernel
theorem dX7_comes_230 : decode cX7_comes 230 = .ok (.iastore, 1) := by decide +kernel
theorem dX7_comes_231 : decode cX7_comes 231 = .ok (.iload 5, 2) := by decide +kernel
theorem dX7_comes_233 : decode cX7_comes 233 = .ok (.tableswitch 303 0 6 #[43, 70, 94, 133, 192, 208, 289], 43) := by decide +kernel
theorem dX7_comes_536 : decode cX7_comes 536 = .ok (.aload_n 0, 1) := by decide +kernel
theorem dX7_comes_537 : decode cX7_comes 537 = .ok (.getfield 119, 3) := by decide +kernel
theorem dX7_comes_540 : decode cX7_comes 540 = .ok (.iload_n 1, 1) := by decide +kernel
theorem dX7_comes_541 : decode cX7_comes 541 = .ok (.dup2, 1) := by decide +kernel
theorem dX7_comes_542 : decode cX7_comes 542 = .ok (.iaload, 1) := by decide +kernel
theorem dX7_comes_543 : decode cX7_comes 543 = .ok (.aload_n 0, 1) := by decide +kernel
theorem dX7_comes_544 : decode cX7_comes 544 = .ok (.getfield 28, 3) := by decide +kernel
theorem dX7_comes_547 : decode cX7_comes 547 = .ok (.iload 7, 2) := by decide +kernel
theorem dX7_comes_549 : decode cX7_comes 549 = .ok (.iaload, 1) := by decide +kernel
theorem dX7_comes_550 : decode cX7_comes 550 = .ok (.iload 6, 2) := by decide +kernel
theorem dX7_comes_552 : decode cX7_comes 552 = .ok (.if_icmp .ne 7, 3) := by decide +kernel
theorem dX7_comes_559 : decode cX7_comes 559 = .ok (.iconst 1, 1) := by decide +kernel
theorem dX7_comes_560 : decode cX7_comes 560 = .ok (.iadd, 1) := by decide +kernel
theorem dX7_comes_561 : decode cX7_comes 561 = .ok (.iastore, 1) := by decide +kernel
theorem dX7_comes_562 : decode cX7_comes 562 = .ok (.return_, 1) := by decide +kernel
theorem dX7_comes_555 : decode cX7_comes 555 = .ok (.iconst 0, 1) := by decide +kernel
theorem dX7_comes_556 : decode cX7_comes 556 = .ok (.goto 4, 3) := by decide +kernel
theorem dX7_comes_276 : decode cX7_comes 276 = .ok (.aload_n 0, 1) := by decide +kernel
theorem dX7_comes_277 : decode cX7_comes 277 = .ok (.getfield 28, 3) := by decide +kernel
theorem dX7_comes_280 : decode cX7_comes 280 = .ok (.iload 7, 2) := by decide +kernel
theorem dX7_comes_282 : decode cX7_comes 282 = .ok (.iload 10, 2) := by decide +kernel
theorem dX7_comes_284 : decode cX7_comes 284 = .ok (.ifCond .eq 8, 3) := by decide +kernel
theorem dX7_comes_292 : decode cX7_comes 292 = .ok (.aload_n 0, 1) := by decide +kernel
theorem dX7_comes_293 : decode cX7_comes 293 = .ok (.getfield 28, 3) := by decide +kernel
theorem dX7_comes_296 : decode cX7_comes 296 = .ok (.iload 7, 2) := by decide +kernel
theorem dX7_comes_298 : decode cX7_comes 298 = .ok (.iaload, 1) := by decide +kernel
theorem dX7_comes_299 : decode cX7_comes 299 = .ok (.iastore, 1) := by decide +kernel
theorem dX7_comes_300 : decode cX7_comes 300 = .ok (.goto 262, 3) := by decide +kernel
theorem dX7_comes_287 : decode cX7_comes 287 = .ok (.iload 6, 2) := by decide +kernel
theorem dX7_comes_289 : decode cX7_comes 289 = .ok (.goto 10, 3) := by decide +kernel
theorem dX7_comes_303 : decode cX7_comes 303 = .ok (.aload_n 0, 1) := by decide +kernel
theorem dX7_comes_304 : decode cX7_comes 304 = .ok (.getfield 28, 3) := by decide +kernel
theorem dX7_comes_307 : decode cX7_comes 307 = .ok (.iload 7, 2) := by decide +kernel
theorem dX7_comes_309 : decode cX7_comes 309 = .ok (.aload_n 0, 1) := by decide +kernel
theorem dX7_comes_310 : decode cX7_comes 310 = .ok (.getfield 28, 3) := by decide +kernel
theorem dX7_comes_313 : decode cX7_comes 313 = .ok (.iload 7, 2) := by decide +kernel
theorem dX7_comes_315 : decode cX7_comes 315 = .ok (.iaload, 1) := by decide +kernel
theorem dX7_comes_316 : decode cX7_comes 316 = .ok (.iload 6, 2) := by decide +kernel
theorem dX7_comes_318 : decode cX7_comes 318 = .ok (.iadd, 1) := by decide +kernel
theorem dX7_comes_319 : decode cX7_comes 319 = .ok (.sipush 1000, 3) := by decide +kernel
theorem dX7_comes_322 : decode cX7_comes 322 = .ok (.irem, 1) := by decide +kernel
theorem dX7_comes_323 : decode cX7_comes 323 = .ok (.iastore, 1) := by decide +kernel
theorem dX7_comes_324 : decode cX7_comes 324 = .ok (.goto 238, 3) := by decide +kernel
theorem dX7_comes_327 : decode cX7_comes 327 = .ok (.aload_n 0, 1) := by decide +kernel
theorem dX7_comes_328 : decode cX7_comes 328 = .ok (.getfield 28, 3) := by decide +kernel
theorem dX7_comes_331 : decode cX7_comes 331 = .ok (.iload 7, 2) := by decide +kernel
theorem dX7_comes_333 : decode cX7_comes 333 = .ok (.iload 10, 2) := by decide +kernel
theorem dX7_comes_335 : decode cX7_comes 335 = .ok (.ifCond .eq 20, 3) := by decide +kernel
theorem dX7_comes_355 : decode cX7_comes 355 = .ok (.aload_n 0, 1) := by decide +kernel
theorem dX7_comes_356 : decode cX7_comes 356 = .ok (.getfield 28, 3) := by decide +kernel
theorem dX7_comes_359 : decode cX7_comes 359 = .ok (.iload 7, 2) := by decide +kernel
theorem dX7_comes_361 : decode cX7_comes 361 = .ok (.iaload, 1) := by decide +kernel
theorem dX7_comes_362 : decode cX7_comes 362 = .ok (.iastore, 1) := by decide +kernel
theorem dX7_comes_363 : decode cX7_comes 363 = .ok (.goto 199, 3) := by decide +kernel
theorem dX7_comes_338 : decode cX7_comes 338 = .ok (.iload 6, 2) := by decide +kernel
theorem dX7_comes_340 : decode cX7_comes 340 = .ok (.aload_n 0, 1) := by decide +kernel
theorem dX7_comes_341 : decode cX7_comes 341 = .ok (.getfield 28, 3) := by decide +kernel
theorem dX7_comes_344 : decode cX7_comes 344 = .ok (.iload 7, 2) := by decide +kernel
theorem dX7_comes_346 : decode cX7_comes 346 = .ok (.iaload, 1) := by decide +kernel
theorem dX7_comes_347 : decode cX7_comes 347 = .ok (.if_icmp .le 8, 3) := by decide +kernel
theorem dX7_comes_350 : decode cX7_comes 350 = .ok (.iload 6, 2) := by decide +kernel
theorem dX7_comes_352 : decode cX7_comes 352 = .ok (.goto 10, 3) := by decide +kernel
theorem dX7_comes_366 : decode cX7_comes 366 = .ok (.aload_n 0, 1) := by decide +kernel
theorem dX7_comes_367 : decode cX7_comes 367 = .ok (.getfield 31, 3) := by decide +kernel
theorem dX7_comes_370 : decode cX7_comes 370 = .ok (.aload_n 0, 1) := by decide +kernel
theorem dX7_comes_371 : decode cX7_comes 371 = .ok (.iload_n 2, 1) := by decide +kernel
theorem dX7_comes_372 : decode cX7_comes 372 = .ok (.invokevirtual 232, 3) := by decide +kernel
theorem dX7_comes_375 : decode cX7_comes 375 = .ok (.aload_n 0, 1) := by decide +kernel
theorem dX7_comes_376 : decode cX7_comes 376 = .ok (.getfield 31, 3) := by decide +kernel
theorem dX7_comes_379 : decode cX7_comes 379 = .ok (.aload_n 0, 1) := by decide +kernel
theorem dX7_comes_380 : decode cX7_comes 380 = .ok (.iload_n 2, 1) := by decide +kernel
theorem dX7_comes_381 : decode cX7_comes 381 = .ok (.invokevirtual 232, 3) := by decide +kernel
theorem dX7_comes_384 : decode cX7_comes 384 = .ok (.iaload, 1) := by decide +kernel
theorem dX7_comes_385 : decode cX7_comes 385 = .ok (.iconst 1, 1) := by decide +kernel
theorem dX7_comes_386 : decode cX7_comes 386 = .ok (.iadd, 1) := by decide +kernel
theorem dX7_comes_387 : decode cX7_comes 387 = .ok (.sipush 1000, 3) := by decide +kernel
theorem dX7_comes_390 : decode cX7_comes 390 = .ok (.irem, 1) := by decide +kernel
theorem dX7_comes_391 : decode cX7_comes 391 = .ok (.iastore, 1) := by decide +kernel
theorem dX7_comes_392 : decode cX7_comes 392 = .ok (.aload_n 0, 1) := by decide +kernel
theorem dX7_comes_393 : decode cX7_comes 393 = .ok (.getfield 28, 3) := by decide +kernel
theorem dX7_comes_396 : decode cX7_comes 396 = .ok (.iload 7, 2) := by decide +kernel
theorem dX7_comes_398 : decode cX7_comes 398 = .ok (.aload_n 0, 1) := by decide +kernel
theorem dX7_comes_399 : decode cX7_comes 399 = .ok (.getfield 31, 3) := by decide +kernel
theorem dX7_comes_402 : decode cX7_comes 402 = .ok (.aload_n 0, 1) := by decide +kernel
theorem dX7_comes_403 : decode cX7_comes 403 = .ok (.iload_n 2, 1) := by decide +kernel
theorem dX7_comes_404 : decode cX7_comes 404 = .ok (.invokevirtual 232, 3) := by decide +kernel
theorem dX7_comes_407 : decode cX7_comes 407 = .ok (.iaload, 1) := by decide +kernel
theorem dX7_comes_408 : decode cX7_comes 408 = .ok (.iastore, 1) := by decide +kernel
theorem dX7_comes_409 : decode cX7_comes 409 = .ok (.aload_n 0, 1) := by decide +kernel
theorem dX7_comes_410 : decode cX7_comes 410 = .ok (.getfield 122, 3) := by decide +kernel
theorem dX7_comes_413 : decode cX7_comes 413 = .ok (.iload_n 1, 1) := by decide +kernel
theorem dX7_comes_414 : decode cX7_comes 414 = .ok (.aload_n 0, 1) := by decide +kernel
theorem dX7_comes_415 : decode cX7_comes 415 = .ok (.getfield 28, 3) := by decide +kernel
theorem dX7_comes_418 : decode cX7_comes 418 = .ok (.iload 7, 2) := by decide +kernel
theorem dX7_comes_420 : decode cX7_comes 420 = .ok (.iaload, 1) := by decide +kernel
theorem dX7_comes_421 : decode cX7_comes 421 = .ok (.iastore, 1) := by decide +kernel
theorem dX7_comes_422 : decode cX7_comes 422 = .ok (.goto 140, 3) := by decide +kernel
theorem dX7_comes_425 : decode cX7_comes 425 = .ok (.aload_n 0, 1) := by decide +kernel
theorem dX7_comes_426 : decode cX7_comes 426 = .ok (.getfield 122, 3) := by decide +kernel
theorem dX7_comes_429 : decode cX7_comes 429 = .ok (.iload_n 1, 1) := by decide +kernel
theorem dX7_comes_430 : decode cX7_comes 430 = .ok (.aload_n 0, 1) := by decide +kernel
theorem dX7_comes_431 : decode cX7_comes 431 = .ok (.getfield 28, 3) := by decide +kernel
theorem dX7_comes_434 : decode cX7_comes 434 = .ok (.iload 7, 2) := by decide +kernel
theorem dX7_comes_436 : decode cX7_comes 436 = .ok (.iaload, 1) := by decide +kernel
theorem dX7_comes_437 : decode cX7_comes 437 = .ok (.iastore, 1) := by decide +kernel
theorem dX7_comes_438 : decode cX7_comes 438 = .ok (.goto 124, 3) := by decide +kernel
theorem dX7_comes_441 : decode cX7_comes 441 = .ok (.aload_n 0, 1) := by decide +kernel
theorem dX7_comes_442 : decode cX7_comes 442 = .ok (.iload_n 2, 1) := by decide +kernel
theorem dX7_comes_443 : decode cX7_comes 443 = .ok (.iconst 2, 1) := by decide +kernel
theorem dX7_comes_444 : decode cX7_comes 444 = .ok (.invokevirtual 216, 3) := by decide +kernel
theorem dX7_comes_447 : decode cX7_comes 447 = .ok (.ifCond .eq 31, 3) := by decide +kernel
theorem dX7_comes_450 : decode cX7_comes 450 = .ok (.aload_n 0, 1) := by decide +kernel
theorem dX7_comes_451 : decode cX7_comes 451 = .ok (.getfield 116, 3) := by decide +kernel
theorem dX7_comes_454 : decode cX7_comes 454 = .ok (.iload_n 1, 1) := by decide +kernel
theorem dX7_comes_455 : decode cX7_comes 455 = .ok (.iaload, 1) := by decide +kernel
theorem dX7_comes_456 : decode cX7_comes 456 = .ok (.ifCond .eq 22, 3) := by decide +kernel
theorem dX7_comes_478 : decode cX7_comes 478 = .ok (.iconst 0, 1) := by decide +kernel
theorem dX7_comes_479 : decode cX7_comes 479 = .ok (.istore 11, 2) := by decide +kernel
theorem dX7_comes_481 : decode cX7_comes 481 = .ok (.aload_n 0, 1) := by decide +kernel
theorem dX7_comes_482 : decode cX7_comes 482 = .ok (.iload_n 2, 1) := by decide +kernel
theorem dX7_comes_483 : decode cX7_comes 483 = .ok (.iload 4, 2) := by decide +kernel
theorem dX7_comes_485 : decode cX7_comes 485 = .ok (.invokevirtual 220, 3) := by decide +kernel
theorem dX7_comes_488 : decode cX7_comes 488 = .ok (.ifCond .eq 74, 3) := by decide +kernel
theorem dX7_comes_491 : decode cX7_comes 491 = .ok (.aload_n 0, 1) := by decide +kernel
theorem dX7_comes_492 : decode cX7_comes 492 = .ok (.aload_n 0, 1) := by decide +kernel
theorem dX7_comes_493 : decode cX7_comes 493 = .ok (.getfield 16, 3) := by decide +kernel
theorem dX7_comes_496 : decode cX7_comes 496 = .ok (.iload 4, 2) := by decide +kernel
theorem dX7_comes_498 : decode cX7_comes 498 = .ok (.iaload, 1) := by decide +kernel
theorem dX7_comes_499 : decode cX7_comes 499 = .ok (.iload 6, 2) := by decide +kernel
theorem dX7_comes_501 : decode cX7_comes 501 = .ok (.iload 11, 2) := by decide +kernel
theorem dX7_comes_503 : decode cX7_comes 503 = .ok (.invokevirtual 265, 3) := by decide +kernel
theorem dX7_comes_506 : decode cX7_comes 506 = .ok (.ifCond .eq 56, 3) := by decide +kernel
theorem dX7_comes_509 : decode cX7_comes 509 = .ok (.aload_n 0, 1) := by decide +kernel
theorem dX7_comes_510 : decode cX7_comes 510 = .ok (.getfield 122, 3) := by decide +kernel
theorem dX7_comes_513 : decode cX7_comes 513 = .ok (.iload_n 1, 1) := by decide +kernel
theorem dX7_comes_514 : decode cX7_comes 514 = .ok (.aload_n 0, 1) := by decide +kernel
theorem dX7_comes_515 : decode cX7_comes 515 = .ok (.getfield 246, 3) := by decide +kernel
theorem dX7_comes_518 : decode cX7_comes 518 = .ok (.iastore, 1) := by decide +kernel
theorem dX7_comes_519 : decode cX7_comes 519 = .ok (.goto 43, 3) := by decide +kernel
theorem dX7_comes_459 : decode cX7_comes 459 = .ok (.aload_n 0, 1) := by decide +kernel
theorem dX7_comes_460 : decode cX7_comes 460 = .ok (.getfield 116, 3) := by decide +kernel
theorem dX7_comes_463 : decode cX7_comes 463 = .ok (.iload_n 1, 1) := by decide +kernel
theorem dX7_comes_464 : decode cX7_comes 464 = .ok (.iaload, 1) := by decide +kernel
theorem dX7_comes_465 : decode cX7_comes 465 = .ok (.bipush 7, 2) := by decide +kernel
theorem dX7_comes_467 : decode cX7_comes 467 = .ok (.iload_n 3, 1) := by decide +kernel
theorem dX7_comes_468 : decode cX7_comes 468 = .ok (.imul, 1) := by decide +kernel
theorem dX7_comes_469 : decode cX7_comes 469 = .ok (.iadd, 1) := by decide +kernel
theorem dX7_comes_470 : decode cX7_comes 470 = .ok (.bipush 99, 2) := by decide +kernel
theorem dX7_comes_472 : decode cX7_comes 472 = .ok (.irem, 1) := by decide +kernel
theorem dX7_comes_473 : decode cX7_comes 473 = .ok (.iconst 1, 1) := by decide +kernel
theorem dX7_comes_474 : decode cX7_comes 474 = .ok (.iadd, 1) := by decide +kernel
theorem dX7_comes_475 : decode cX7_comes 475 = .ok (.goto 4, 3) := by decide +kernel
theorem dX7_comes_522 : decode cX7_comes 522 = .ok (.iload 10, 2) := by decide +kernel
theorem dX7_comes_524 : decode cX7_comes 524 = .ok (.ifCond .eq 38, 3) := by decide +kernel
theorem dX7_comes_527 : decode cX7_comes 527 = .ok (.aload_n 0, 1) := by decide +kernel
theorem dX7_comes_528 : decode cX7_comes 528 = .ok (.iload 6, 2) := by decide +kernel
theorem dX7_comes_530 : decode cX7_comes 530 = .ok (.invokevirtual 268, 3) := by decide +kernel
theorem dX7_comes_533 : decode cX7_comes 533 = .ok (.goto 29, 3) := by decide +kernel
theorem dX7_comes_159 : decode cX7_comes 159 = .ok (.iload 9, 2) := by decide +kernel
theorem dX7_comes_161 : decode cX7_comes 161 = .ok (.ifCond .eq 21, 3) := by decide +kernel
theorem dX7_comes_182 : decode cX7_comes 182 = .ok (.iconst 1, 1) := by decide +kernel
theorem dX7_comes_183 : decode cX7_comes 183 = .ok (.goto 4, 3) := by decide +kernel
theorem dX7_comes_187 : decode cX7_comes 187 = .ok (.istore 10, 2) := by decide +kernel
theorem dX7_comes_164 : decode cX7_comes 164 = .ok (.iload 5, 2) := by decide +kernel
theorem dX7_comes_166 : decode cX7_comes 166 = .ok (.ifCond .eq 20, 3) := by decide +kernel
theorem dX7_comes_186 : decode cX7_comes 186 = .ok (.iconst 0, 1) := by decide +kernel
theorem dX7_comes_169 : decode cX7_comes 169 = .ok (.iload 5, 2) := by decide +kernel
theorem dX7_comes_171 : decode cX7_comes 171 = .ok (.iconst 2, 1) := by decide +kernel
theorem dX7_comes_172 : decode cX7_comes 172 = .ok (.if_icmp .eq 14, 3) := by decide +kernel
theorem dX7_comes_175 : decode cX7_comes 175 = .ok (.iload 5, 2) := by decide +kernel
theorem dX7_comes_177 : decode cX7_comes 177 = .ok (.bipush 6, 2) := by decide +kernel
theorem dX7_comes_179 : decode cX7_comes 179 = .ok (.if_icmp .eq 7, 3) := by decide +kernel
theorem dX7_comes_81 : decode cX7_comes 81 = .ok (.bipush 8, 2) := by decide +kernel
theorem dX7_comes_83 : decode cX7_comes 83 = .ok (.aload_n 0, 1) := by decide +kernel
theorem dX7_comes_84 : decode cX7_comes 84 = .ok (.iload_n 2, 1) := by decide +kernel
theorem dX7_comes_85 : decode cX7_comes 85 = .ok (.invokevirtual 232, 3) := by decide +kernel
theorem dX7_comes_88 : decode cX7_comes 88 = .ok (.imul, 1) := by decide +kernel
theorem dX7_comes_89 : decode cX7_comes 89 = .ok (.iload_n 3, 1) := by decide +kernel
theorem dX7_comes_90 : decode cX7_comes 90 = .ok (.iadd, 1) := by decide +kernel
theorem dX7_comes_91 : decode cX7_comes 91 = .ok (.istore 8, 2) := by decide +kernel
theorem dX7_comes_93 : decode cX7_comes 93 = .ok (.aload_n 0, 1) := by decide +kernel
theorem dX7_comes_94 : decode cX7_comes 94 = .ok (.iload_n 2, 1) := by decide +kernel
theorem dX7_comes_95 : decode cX7_comes 95 = .ok (.iconst 3, 1) := by decide +kernel
theorem dX7_comes_96 : decode cX7_comes 96 = .ok (.invokevirtual 216, 3) := by decide +kernel
theorem dX7_comes_99 : decode cX7_comes 99 = .ok (.ifCond .eq 57, 3) := by decide +kernel
theorem dX7_comes_102 : decode cX7_comes 102 = .ok (.aload_n 0, 1) := by decide +kernel
theorem dX7_comes_103 : decode cX7_comes 103 = .ok (.getfield 125, 3) := by decide +kernel
theorem dX7_comes_106 : decode cX7_comes 106 = .ok (.iload_n 1, 1) := by decide +kernel
theorem dX7_comes_107 : decode cX7_comes 107 = .ok (.baload, 1) := by decide +kernel
theorem dX7_comes_108 : decode cX7_comes 108 = .ok (.ifCond .eq 48, 3) := by decide +kernel
theorem dX7_comes_156 : decode cX7_comes 156 = .ok (.iconst 0, 1) := by decide +kernel
theorem dX7_comes_157 : decode cX7_comes 157 = .ok (.istore 9, 2) := by decide +kernel
theorem dX7_comes_111 : decode cX7_comes 111 = .ok (.aload_n 0, 1) := by decide +kernel
theorem dX7_comes_112 : decode cX7_comes 112 = .ok (.getfield 131, 3) := by decide +kernel
theorem dX7_comes_115 : decode cX7_comes 115 = .ok (.iload 4, 2) := by decide +kernel
theorem dX7_comes_117 : decode cX7_comes 117 = .ok (.iaload, 1) := by decide +kernel
theorem dX7_comes_118 : decode cX7_comes 118 = .ok (.iload 5, 2) := by decide +kernel
theorem dX7_comes_120 : decode cX7_comes 120 = .ok (.if_icmp .ne 36, 3) := by decide +kernel
theorem dX7_comes_123 : decode cX7_comes 123 = .ok (.aload_n 0, 1) := by decide +kernel
theorem dX7_comes_124 : decode cX7_comes 124 = .ok (.getfield 134, 3) := by decide +kernel
theorem dX7_comes_127 : decode cX7_comes 127 = .ok (.iload 4, 2) := by decide +kernel
theorem dX7_comes_129 : decode cX7_comes 129 = .ok (.iaload, 1) := by decide +kernel
theorem dX7_comes_130 : decode cX7_comes 130 = .ok (.aload_n 0, 1) := by decide +kernel
theorem dX7_comes_131 : decode cX7_comes 131 = .ok (.getfield 16, 3) := by decide +kernel
theorem dX7_comes_134 : decode cX7_comes 134 = .ok (.iload 4, 2) := by decide +kernel
theorem dX7_comes_136 : decode cX7_comes 136 = .ok (.iaload, 1) := by decide +kernel
theorem dX7_comes_137 : decode cX7_comes 137 = .ok (.if_icmp .ne 19, 3) := by decide +kernel
theorem dX7_comes_140 : decode cX7_comes 140 = .ok (.aload_n 0, 1) := by decide +kernel
theorem dX7_comes_141 : decode cX7_comes 141 = .ok (.getfield 137, 3) := by decide +kernel
theorem dX7_comes_144 : decode cX7_comes 144 = .ok (.iload 4, 2) := by decide +kernel
theorem dX7_comes_146 : decode cX7_comes 146 = .ok (.iaload, 1) := by decide +kernel
theorem dX7_comes_147 : decode cX7_comes 147 = .ok (.iload 6, 2) := by decide +kernel
theorem dX7_comes_149 : decode cX7_comes 149 = .ok (.if_icmp .ne 7, 3) := by decide +kernel
theorem dX7_comes_152 : decode cX7_comes 152 = .ok (.iconst 1, 1) := by decide +kernel
theorem dX7_comes_153 : decode cX7_comes 153 = .ok (.goto 4, 3) := by decide +kernel
theorem dX7_comes_0 : decode cX7_comes 0 = .ok (.aload_n 0, 1) := by decide +kernel
theorem dX7_comes_1 : decode cX7_comes 1 = .ok (.getfield 249, 3) := by decide +kernel
theorem dX7_comes_4 : decode cX7_comes 4 = .ok (.iconst 1, 1) := by decide +kernel
theorem dX7_comes_5 : decode cX7_comes 5 = .ok (.isub, 1) := by decide +kernel
theorem dX7_comes_6 : decode cX7_comes 6 = .ok (.istore_n 1, 1) := by decide +kernel
theorem dX7_comes_7 : decode cX7_comes 7 = .ok (.aload_n 0, 1) := by decide +kernel
theorem dX7_comes_8 : decode cX7_comes 8 = .ok (.getfield 110, 3) := by decide +kernel
theorem dX7_comes_11 : decode cX7_comes 11 = .ok (.iload_n 1, 1) := by decide +kernel
theorem dX7_comes_12 : decode cX7_comes 12 = .ok (.iaload, 1) := by decide +kernel
theorem dX7_comes_13 : decode cX7_comes 13 = .ok (.istore_n 2, 1) := by decide +kernel
theorem dX7_comes_14 : decode cX7_comes 14 = .ok (.aload_n 0, 1) := by decide +kernel
theorem dX7_comes_15 : decode cX7_comes 15 = .ok (.getfield 119, 3) := by decide +kernel
theorem dX7_comes_18 : decode cX7_comes 18 = .ok (.iload_n 1, 1) := by decide +kernel
theorem dX7_comes_19 : decode cX7_comes 19 = .ok (.iaload, 1) := by decide +kernel
theorem dX7_comes_20 : decode cX7_comes 20 = .ok (.istore_n 3, 1) := by decide +kernel
theorem dX7_comes_21 : decode cX7_comes 21 = .ok (.bipush 8, 2) := by decide +kernel
theorem dX7_comes_23 : decode cX7_comes 23 = .ok (.iload_n 2, 1) := by decide +kernel
theorem dX7_comes_24 : decode cX7_comes 24 = .ok (.imul, 1) := by decide +kernel
theorem dX7_comes_25 : decode cX7_comes 25 = .ok (.iload_n 3, 1) := by decide +kernel
theorem dX7_comes_26 : decode cX7_comes 26 = .ok (.iadd, 1) := by decide +kernel
theorem dX7_comes_27 : decode cX7_comes 27 = .ok (.istore 4, 2) := by decide +kernel
theorem dX7_comes_29 : decode cX7_comes 29 = .ok (.aload_n 0, 1) := by decide +kernel
theorem dX7_comes_30 : decode cX7_comes 30 = .ok (.getfield 13, 3) := by decide +kernel
theorem dX7_comes_33 : decode cX7_comes 33 = .ok (.iload 4, 2) := by decide +kernel
theorem dX7_comes_35 : decode cX7_comes 35 = .ok (.iaload, 1) := by decide +kernel
theorem dX7_comes_36 : decode cX7_comes 36 = .ok (.istore 5, 2) := by decide +kernel
theorem dX7_comes_38 : decode cX7_comes 38 = .ok (.aload_n 0, 1) := by decide +kernel
theorem dX7_comes_39 : decode cX7_comes 39 = .ok (.iload 4, 2) := by decide +kernel
theorem dX7_comes_41 : decode cX7_comes 41 = .ok (.iload_n 1, 1) := by decide +kernel
theorem dX7_comes_42 : decode cX7_comes 42 = .ok (.invokevirtual 262, 3) := by decide +kernel
theorem dX7_comes_45 : decode cX7_comes 45 = .ok (.istore 6, 2) := by decide +kernel
theorem dX7_comes_47 : decode cX7_comes 47 = .ok (.iconst 4, 1) := by decide +kernel
theorem dX7_comes_48 : decode cX7_comes 48 = .ok (.aload_n 0, 1) := by decide +kernel
theorem dX7_comes_49 : decode cX7_comes 49 = .ok (.iload_n 2, 1) := by decide +kernel
theorem dX7_comes_50 : decode cX7_comes 50 = .ok (.invokevirtual 232, 3) := by decide +kernel
theorem dX7_comes_53 : decode cX7_comes 53 = .ok (.imul, 1) := by decide +kernel
theorem dX7_comes_54 : decode cX7_comes 54 = .ok (.iload 5, 2) := by decide +kernel
theorem dX7_comes_56 : decode cX7_comes 56 = .ok (.iconst 5, 1) := by decide +kernel
theorem dX7_comes_57 : decode cX7_comes 57 = .ok (.if_icmp .eq 10, 3) := by decide +kernel
theorem dX7_comes_67 : decode cX7_comes 67 = .ok (.iconst 0, 1) := by decide +kernel
theorem dX7_comes_68 : decode cX7_comes 68 = .ok (.goto 10, 3) := by decide +kernel
theorem dX7_comes_78 : decode cX7_comes 78 = .ok (.iadd, 1) := by decide +kernel
theorem dX7_comes_79 : decode cX7_comes 79 = .ok (.istore 7, 2) := by decide +kernel
theorem dX7_comes_60 : decode cX7_comes 60 = .ok (.iload 5, 2) := by decide +kernel
theorem dX7_comes_62 : decode cX7_comes 62 = .ok (.bipush 6, 2) := by decide +kernel
theorem dX7_comes_64 : decode cX7_comes 64 = .ok (.if_icmp .ne 7, 3) := by decide +kernel
theorem dX7_comes_71 : decode cX7_comes 71 = .ok (.aload_n 0, 1) := by decide +kernel
theorem dX7_comes_72 : decode cX7_comes 72 = .ok (.getfield 16, 3) := by decide +kernel
theorem dX7_comes_75 : decode cX7_comes 75 = .ok (.iload 4, 2) := by decide +kernel
theorem dX7_comes_77 : decode cX7_comes 77 = .ok (.iaload, 1) := by decide +kernel
abbrev md_m_comes : Nat → Nat → Bool := mdf [(8, 22), (8, 49), (8, 51), (8, 52), (40, 99), (50, 99), (51, 99), (54, 99), (55, 99), (56, 99), (58, 99)]
theorem mdle_m_comes_m_begins {r k : Nat} (h : md_m_comes r k = false) : md_m_begins r k = false := mdf_le (by decide +kernel) h
theorem mdle_m_comes_m_puts {r k : Nat} (h : md_m_comes r k = false) : md_m_puts r k = false := mdf_le (by decide +kernel) h
set_option maxHeartbeats 4000000 in
set_option maxRecDepth 100000 in
theorem lt_m_comes_c (l : Launch) (D : va_G) (cI cZ cS cR : ClassId) (N0 : NT) (g : GS) (h : Nat) (dd : Int32) (t0 : Int32) (w : Int32) (fa : Nat) (fta : Nat) (r_h : g.1 h = 8) (r_fa : g.1 fa = 51) (n_fa : g.2.2.1 fa = 7) (r_fta : g.1 fta = 55) (n_fta : g.2.2.1 fta = 7) (kdd : g.2.1 h 49 = .int dd) (kt0 : g.2.1 h 52 = .int t0) (kw : g.2.1 h 21 = .int w) (kfa : g.2.1 h 43 = .ref fa) (kft : g.2.1 h 46 = .ref fta) (l_dd : 1 ≤ dd.toInt) (u_dd : dd.toInt ≤ 6) (l_t0 : 0 ≤ t0.toInt) (u_t0 : t0.toInt ≤ 1200) (l_w : 0 ≤ w.toInt) (u_w : w.toInt ≤ 1) (hw0 : w.toInt = 0 ∨ t0.toInt ≤ 1199) (hD : DP g fa dd.toInt) (hat : ∀ f : Int32, f.toInt = dd.toInt - 1 → (g.2.2.2.1 fta f.toNatClampNeg).toInt ≤ 7) (hw : PX 48 2 3 71 72 g h) {p : Program} {e : Env} {s : State} {m : MethodId} {args : Array Value} {below : List Frame} {meth : Method} {c : Code} (hB : Tz p s m meth c args cX7_comes 12 RX7 D cI cZ cS cR N0) (hr : meth.sig.returnType = none)    : ∀ (g1 : GS) (f : Int32) (sv : Int32) (pp : Int32) (at1 : Int32) (wo : Int32) (v : Int32) (c1 : Int32) (kn1 : Int32) (do1 : Int32)  (H : Heap) (locs : List Loc) (ls : Array Slot), Tv D cI cZ cS cR N0 s.heap H locs g1 → Inv g1 → Ex g g1 → Sm md_m_comes g g1 → 0 ≤ f.toInt → f.toInt ≤ 5 → 0 ≤ sv.toInt → sv.toInt ≤ 5 → 0 ≤ pp.toInt → pp.toInt ≤ 7 → 0 ≤ at1.toInt → at1.toInt ≤ 47 → 0 ≤ v.toInt → v.toInt ≤ 999 → 0 ≤ c1.toInt → c1.toInt ≤ 47 → 0 ≤ kn1.toInt → kn1.toInt ≤ 95 → 0 ≤ do1.toInt → do1.toInt ≤ 1 → g1.2.1 h 49 = .int dd → g1.2.1 h 52 = .int t0 → g1.2.2.2.1 fta f.toNatClampNeg = pp → (DP g1 fa dd.toInt) → (f.toInt = dd.toInt - 1 ∧ f.toInt ≤ sv.toInt) → lv_has ls 12 [(0, .ref h), (1, .int f), (2, .int sv), (3, .int pp), (4, .int at1), (5, .int wo), (6, .int v), (7, .int c1), (8, .int kn1), (10, .int do1)] → W p l e (rmx 4 0 0) s m args below meth c H locs 0 0 (MQ below (tQ D cI cZ cS cR N0 (fun v g' => ∃ (d2 : Int32) (t2 : Int32), v = none ∧ Inv g' ∧ Ex g g' ∧ Sm md_m_comes g g' ∧ (g'.2.1 h 49 = .int d2) ∧ (g'.2.1 h 52 = .int t2) ∧ (0 ≤ d2.toInt ∧ d2.toInt ≤ 6 ∧ d2.toInt ≤ dd.toInt + 1) ∧ (0 ≤ t2.toInt ∧ t2.toInt ≤ 1200 ∧ (w.toInt = 0 ∨ t2.toInt ≤ t0.toInt + 1)) ∧ (DP g' fa d2.toInt))) args s 0 0 (fun q => N0.1 ≤ q)) (F0 m 189 ls []) := by
  have hx := hB.1
  have hb := hB.2.1
  intro g1 f sv pp at1 wo v c1 kn1 do1 H locs ls hT hI hE hM l_f u_f l_sv u_sv l_pp u_pp l_at1 u_at1 l_v u_v l_c1 u_c1 l_kn1 u_kn1 l_do1 u_do1 kp0 kp1 kc0 hD hfs hl
  have r_1 : g1.1 h = 8 := Ex.r hE r_h (by decide)
  have r_2 : g1.1 fa = 51 := Ex.r hE r_fa (by decide)
  have n_3 : g1.2.2.1 fa = 7 := Ex.n hE r_fa (by decide) n_fa
  have r_4 : g1.1 fta = 55 := Ex.r hE r_fta (by decide)
  have n_5 : g1.2.2.1 fta = 7 := Ex.n hE r_fta (by decide) n_fta
  refine lv_aload_n hx hb dX7_comes_189 rfl (lv_at hl 0 rfl) ?_
  obtain ⟨v_6, e_v_6, r_v_6, n_v_6⟩ := f_8_17 hI r_1
  refine t_get (ci := 7) (v := .ref v_6) hB hT (ro_ci r_1 rfl) rfl 17 (by decide) k_762 e_v_6 dX7_comes_190 ?_
  refine lv_iload hx hb dX7_comes_193 (lv_at hl 8 rfl) ?_
  refine lv_iload hx hb dX7_comes_195 (lv_at hl 5 rfl) ?_
  have i_7 : vp_in kn1 96 := (i_in (n := 96) rfl (by omega) (by omega))
  refine t_iast hB hT (ro_in r_v_6 (by decide)) n_v_6 i_7 dX7_comes_197 (fun H locs hT => ?_)
  have hI : Inv (sC g1 v_6 kn1.toNatClampNeg wo) := hI.sC (ck r_v_6 trivial)
  have hM : Sm md_m_comes g (sC g1 v_6 kn1.toNatClampNeg wo) := hM.tr hE (Sm_sC (by rw [r_v_6]; rfl))
  have hE : Ex g (sC g1 v_6 kn1.toNatClampNeg wo) := hE
  have hD : DP (sC g1 v_6 kn1.toNatClampNeg wo) fa dd.toInt := hD.sC (ro_ne r_2 r_v_6 (by decide))
  refine lv_aload_n hx hb dX7_comes_198 rfl (lv_at hl 0 rfl) ?_
  obtain ⟨v_8, e_v_8, r_v_8, n_v_8⟩ := f_8_18 hI r_1
  refine t_get (ci := 7) (v := .ref v_8) hB hT (ro_ci r_1 rfl) rfl 18 (by decide) k_763 e_v_8 dX7_comes_199 ?_
  refine lv_iload hx hb dX7_comes_202 (lv_at hl 8 rfl) ?_
  refine lv_aload_n hx hb dX7_comes_204 rfl (lv_at hl 0 rfl) ?_
  obtain ⟨v_9, e_v_9, r_v_9, n_v_9⟩ := f_8_3 hI r_1
  refine t_get (ci := 7) (v := .ref v_9) hB hT (ro_ci r_1 rfl) rfl 3 (by decide) k_748 e_v_9 dX7_comes_205 ?_
  refine lv_iload hx hb dX7_comes_208 (lv_at hl 4 rfl) ?_
  have i_u_10 : vp_in at1 48 := (i_in (n := 48) rfl (by omega) (by omega))
  refine t_iald hB hT (ro_in r_v_9 (by decide)) n_v_9 i_u_10 rfl dX7_comes_210 ?_
  have c_u_10 := hI.c r_v_9 n_v_9 (i_cl i_u_10)
  refine lv_topi (fun u_10 e_u_10 => ?_)
  obtain ⟨l_u_10, u_u_10⟩ := c_u_10
  rw [← e_u_10] at l_u_10 u_u_10
  have i_11 : vp_in kn1 96 := (i_in (n := 96) rfl (by omega) (by omega))
  refine t_iast hB hT (ro_in r_v_8 (by decide)) n_v_8 i_11 dX7_comes_211 (fun H locs hT => ?_)
  have hI : Inv (sC (sC g1 v_6 kn1.toNatClampNeg wo) v_8 kn1.toNatClampNeg u_10) := hI.sC (ck r_v_8 trivial)
  have hM : Sm md_m_comes g (sC (sC g1 v_6 kn1.toNatClampNeg wo) v_8 kn1.toNatClampNeg u_10) := hM.tr hE (Sm_sC (by rw [r_v_8]; rfl))
  have hE : Ex g (sC (sC g1 v_6 kn1.toNatClampNeg wo) v_8 kn1.toNatClampNeg u_10) := hE
  have hD : DP (sC (sC g1 v_6 kn1.toNatClampNeg wo) v_8 kn1.toNatClampNeg u_10) fa dd.toInt := hD.sC (ro_ne r_2 r_v_8 (by decide))
  refine lv_aload_n hx hb dX7_comes_212 rfl (lv_at hl 0 rfl) ?_
  obtain ⟨v_12, e_v_12, r_v_12, n_v_12⟩ := f_8_19 hI r_1
  refine t_get (ci := 7) (v := .ref v_12) hB hT (ro_ci r_1 rfl) rfl 19 (by decide) k_764 e_v_12 dX7_comes_213 ?_
  refine lv_iload hx hb dX7_comes_216 (lv_at hl 8 rfl) ?_
  refine lv_iload hx hb dX7_comes_218 (lv_at hl 6 rfl) ?_
  have i_13 : vp_in kn1 96 := (i_in (n := 96) rfl (by omega) (by omega))
  refine t_iast hB hT (ro_in r_v_12 (by decide)) n_v_12 i_13 dX7_comes_220 (fun H locs hT => ?_)
  have hI : Inv (sC (sC (sC g1 v_6 kn1.toNatClampNeg wo) v_8 kn1.toNatClampNeg u_10) v_12 kn1.toNatClampNeg v) := hI.sC (ck r_v_12 trivial)
  have hM : Sm md_m_comes g (sC (sC (sC g1 v_6 kn1.toNatClampNeg wo) v_8 kn1.toNatClampNeg u_10) v_12 kn1.toNatClampNeg v) := hM.tr hE (Sm_sC (by rw [r_v_12]; rfl))
  have hE : Ex g (sC (sC (sC g1 v_6 kn1.toNatClampNeg wo) v_8 kn1.toNatClampNeg u_10) v_12 kn1.toNatClampNeg v) := hE
  have hD : DP (sC (sC (sC g1 v_6 kn1.toNatClampNeg wo) v_8 kn1.toNatClampNeg u_10) v_12 kn1.toNatClampNeg v) fa dd.toInt := hD.sC (ro_ne r_2 r_v_12 (by decide))
  refine lv_aload_n hx hb dX7_comes_221 rfl (lv_at hl 0 rfl) ?_
  refine t_get (ci := 7) (v := .ref fta) hB hT (ro_ci r_1 rfl) rfl 46 (by decide) k_791 (Sm.v hM r_h (by decide) rfl kft) dX7_comes_222 ?_
  refine lv_iload_n hx hb dX7_comes_225 rfl (lv_at hl 1 rfl) ?_
  refine lv_dup2_11 hx hb dX7_comes_226 rfl rfl ?_
  have i_u_14 : vp_in f 7 := (i_in (n := 7) rfl (by omega) (by omega))
  refine t_iald (v := pp) hB hT (ro_in r_4 (by decide)) n_5 i_u_14 (sC_a (sC_a (sC_a kc0 (ro_ne r_4 r_v_6 (by decide))) (ro_ne r_4 r_v_8 (by decide))) (ro_ne r_4 r_v_12 (by decide))) dX7_comes_227 ?_
  refine lv_iconst (v := 1) hx hb dX7_comes_228 (by decide) ?_
  refine lv_iadd hx hb dX7_comes_229 ?_
  refine lv_topi (fun z_15 ez_15 => ?_)
  have e_z_15 : z_15.toInt = pp.toInt + 1 := i_add ez_15 rfl (by decide) (by omega) (by omega)
  have i_16 : vp_in f 7 := (i_in (n := 7) rfl (by omega) (by omega))
  refine t_iast hB hT (ro_in r_4 (by decide)) n_5 i_16 dX7_comes_230 (fun H locs hT => ?_)
  have hI : Inv (sC (sC (sC (sC g1 v_6 kn1.toNatClampNeg wo) v_8 kn1.toNatClampNeg u_10) v_12 kn1.toNatClampNeg v) fta f.toNatClampNeg z_15) := hI.sC (ck r_4 ⟨by omega, by omega⟩)
  have hM : Sm md_m_comes g (sC (sC (sC (sC g1 v_6 kn1.toNatClampNeg wo) v_8 kn1.toNatClampNeg u_10) v_12 kn1.toNatClampNeg v) fta f.toNatClampNeg z_15) := hM.tr hE (Sm_sC (by rw [r_4]; rfl))
  have hE : Ex g (sC (sC (sC (sC g1 v_6 kn1.toNatClampNeg wo) v_8 kn1.toNatClampNeg u_10) v_12 kn1.toNatClampNeg v) fta f.toNatClampNeg z_15) := hE
  have hD : DP (sC (sC (sC (sC g1 v_6 kn1.toNatClampNeg wo) v_8 kn1.toNatClampNeg u_10) v_12 kn1.toNatClampNeg v) fta f.toNatClampNeg z_15) fa dd.toInt := hD.sC (ro_ne r_2 r_4 (by decide))
  refine lv_iload hx hb dX7_comes_231 (lv_at hl 5 rfl) ?_
  by_cases ht_17 : (wo < 0 ∨ 6 < wo)
  · refine lv_tableOut (tgt := 536) hx hb dX7_comes_233 (sw_out ht_17) (by decide) ?_
    refine lv_aload_n hx hb dX7_comes_536 rfl (lv_at hl 0 rfl) ?_
    refine t_get (ci := 7) (v := .ref fta) hB hT (ro_ci r_1 rfl) rfl 46 (by decide) k_791 (Sm.v hM r_h (by decide) rfl kft) dX7_comes_537 ?_
    refine lv_iload_n hx hb dX7_comes_540 rfl (lv_at hl 1 rfl) ?_
    refine lv_dup2_11 hx hb dX7_comes_541 rfl rfl ?_
    have i_u_19 : vp_in f 7 := (i_in (n := 7) rfl (by omega) (by omega))
    refine t_iald (v := z_15) hB hT (ro_in r_4 (by decide)) n_5 i_u_19 sC_eq dX7_comes_542 ?_
    refine lv_aload_n hx hb dX7_comes_543 rfl (lv_at hl 0 rfl) ?_
    obtain ⟨v_20, e_v_20, r_v_20, n_v_20⟩ := f_8_7 hI r_1
    refine t_get (ci := 7) (v := .ref v_20) hB hT (ro_ci r_1 rfl) rfl 7 (by decide) k_752 e_v_20 dX7_comes_544 ?_
    refine lv_iload hx hb dX7_comes_547 (lv_at hl 7 rfl) ?_
    have i_u_21 : vp_in c1 48 := (i_in (n := 48) rfl (by omega) (by omega))
    refine t_iald hB hT (ro_in r_v_20 (by decide)) n_v_20 i_u_21 rfl dX7_comes_549 ?_
    have c_u_21 := hI.c r_v_20 n_v_20 (i_cl i_u_21)
    refine lv_topi (fun u_21 e_u_21 => ?_)
    obtain ⟨l_u_21, u_u_21⟩ := c_u_21
    rw [← e_u_21] at l_u_21 u_u_21
    refine lv_iload hx hb dX7_comes_550 (lv_at hl 6 rfl) ?_
    refine lv_icmp_ne (tgt := 559) hx hb dX7_comes_552 (by decide) (fun c_22 => ?_) (fun c_22 => ?_)
    · have c_22' : u_21.toInt ≠ v.toInt := i_ne c_22 rfl rfl
      refine lv_iconst (v := 1) hx hb dX7_comes_559 (by decide) ?_
      refine lv_iadd hx hb dX7_comes_560 ?_
      refine lv_topi (fun z_23 ez_23 => ?_)
      have e_z_23 : z_23.toInt = z_15.toInt + 1 := i_add ez_23 rfl (by decide) (by omega) (by omega)
      have i_24 : vp_in f 7 := (i_in (n := 7) rfl (by omega) (by omega))
      refine t_iast hB hT (ro_in r_4 (by decide)) n_5 i_24 dX7_comes_561 (fun H locs hT => ?_)
      have hI : Inv (sC (sC (sC (sC (sC g1 v_6 kn1.toNatClampNeg wo) v_8 kn1.toNatClampNeg u_10) v_12 kn1.toNatClampNeg v) fta f.toNatClampNeg z_15) fta f.toNatClampNeg z_23) := hI.sC (ck r_4 ⟨by omega, by omega⟩)
      have hM : Sm md_m_comes g (sC (sC (sC (sC (sC g1 v_6 kn1.toNatClampNeg wo) v_8 kn1.toNatClampNeg u_10) v_12 kn1.toNatClampNeg v) fta f.toNatClampNeg z_15) fta f.toNatClampNeg z_23) := hM.tr hE (Sm_sC (by rw [r_4]; rfl))
      have hE : Ex g (sC (sC (sC (sC (sC g1 v_6 kn1.toNatClampNeg wo) v_8 kn1.toNatClampNeg u_10) v_12 kn1.toNatClampNeg v) fta f.toNatClampNeg z_15) fta f.toNatClampNeg z_23) := hE
      have hD : DP (sC (sC (sC (sC (sC g1 v_6 kn1.toNatClampNeg wo) v_8 kn1.toNatClampNeg u_10) v_12 kn1.toNatClampNeg v) fta f.toNatClampNeg z_15) fta f.toNatClampNeg z_23) fa dd.toInt := hD.sC (ro_ne r_2 r_4 (by decide))
      exact t_vret hB hr hT (Nat.le_of_ble_eq_true rfl) (Nat.le_of_ble_eq_true rfl) dX7_comes_562 ⟨dd, t0, rfl, hI, hE, hM, kp0, kp1, (by omega), (by omega), (hD.cast (by omega))⟩
    · have c_22' : u_21.toInt = v.toInt := i_eq c_22 rfl rfl
      refine lv_iconst (v := 0) hx hb dX7_comes_555 (by decide) ?_
      refine lv_goto (tgt := 560) hx hb dX7_comes_556 (by decide) ?_
      refine lv_iadd hx hb dX7_comes_560 ?_
      refine lv_topi (fun z_25 ez_25 => ?_)
      have e_z_25 : z_25.toInt = z_15.toInt + 0 := i_add ez_25 rfl (by decide) (by omega) (by omega)
      have i_26 : vp_in f 7 := (i_in (n := 7) rfl (by omega) (by omega))
      refine t_iast hB hT (ro_in r_4 (by decide)) n_5 i_26 dX7_comes_561 (fun H locs hT => ?_)
      have hI : Inv (sC (sC (sC (sC (sC g1 v_6 kn1.toNatClampNeg wo) v_8 kn1.toNatClampNeg u_10) v_12 kn1.toNatClampNeg v) fta f.toNatClampNeg z_15) fta f.toNatClampNeg z_25) := hI.sC (ck r_4 ⟨by omega, by omega⟩)
      have hM : Sm md_m_comes g (sC (sC (sC (sC (sC g1 v_6 kn1.toNatClampNeg wo) v_8 kn1.toNatClampNeg u_10) v_12 kn1.toNatClampNeg v) fta f.toNatClampNeg z_15) fta f.toNatClampNeg z_25) := hM.tr hE (Sm_sC (by rw [r_4]; rfl))
      have hE : Ex g (sC (sC (sC (sC (sC g1 v_6 kn1.toNatClampNeg wo) v_8 kn1.toNatClampNeg u_10) v_12 kn1.toNatClampNeg v) fta f.toNatClampNeg z_15) fta f.toNatClampNeg z_25) := hE
      have hD : DP (sC (sC (sC (sC (sC g1 v_6 kn1.toNatClampNeg wo) v_8 kn1.toNatClampNeg u_10) v_12 kn1.toNatClampNeg v) fta f.toNatClampNeg z_15) fta f.toNatClampNeg z_25) fa dd.toInt := hD.sC (ro_ne r_2 r_4 (by decide))
      exact t_vret hB hr hT (Nat.le_of_ble_eq_true rfl) (Nat.le_of_ble_eq_true rfl) dX7_comes_562 ⟨dd, t0, rfl, hI, hE, hM, kp0, kp1, (by omega), (by omega), (hD.cast (by omega))⟩
  · obtain ⟨j_18, hj_18, ej_18⟩ := sw_in (n := 7) rfl ht_17
    rcases (show j_18 = 0 ∨ j_18 = 1 ∨ j_18 = 2 ∨ j_18 = 3 ∨ j_18 = 4 ∨ j_18 = 5 ∨ j_18 = 6 by omega) with rfl | rfl | rfl | rfl | rfl | rfl | rfl
    · refine x_ev (y := 0) ej_18 ?_
      refine lv_tableIn (off := 43) (tgt := 276) hx hb dX7_comes_233 (by decide) (by decide) rfl (by decide) ?_
      refine lv_aload_n hx hb dX7_comes_276 rfl (lv_at hl 0 rfl) ?_
      obtain ⟨v_27, e_v_27, r_v_27, n_v_27⟩ := f_8_7 hI r_1
      refine t_get (ci := 7) (v := .ref v_27) hB hT (ro_ci r_1 rfl) rfl 7 (by decide) k_752 e_v_27 dX7_comes_277 ?_
      refine lv_iload hx hb dX7_comes_280 (lv_at hl 7 rfl) ?_
      refine lv_iload hx hb dX7_comes_282 (lv_at hl 9 rfl) ?_
      refine lv_if_eq (tgt := 292) hx hb dX7_comes_284 (by decide) (fun c_28 => ?_) (fun c_28 => ?_)
      · have c_28' : do1.toInt = 0 := i_eq c_28 rfl (by decide)
        refine lv_aload_n hx hb dX7_comes_292 rfl (lv_at hl 0 rfl) ?_
        refine t_get (ci := 7) (v := .ref v_27) hB hT (ro_ci r_1 rfl) rfl 7 (by decide) k_752 e_v_27 dX7_comes_293 ?_
        refine lv_iload hx hb dX7_comes_296 (lv_at hl 7 rfl) ?_
        have i_u_29 : vp_in c1 48 := (i_in (n := 48) rfl (by omega) (by omega))
        refine t_iald hB hT (ro_in r_v_27 (by decide)) n_v_27 i_u_29 rfl dX7_comes_298 ?_
        have c_u_29 := hI.c r_v_27 n_v_27 (i_cl i_u_29)
        refine lv_topi (fun u_29 e_u_29 => ?_)
        obtain ⟨l_u_29, u_u_29⟩ := c_u_29
        rw [← e_u_29] at l_u_29 u_u_29
        have i_30 : vp_in c1 48 := (i_in (n := 48) rfl (by omega) (by omega))
        refine t_iast hB hT (ro_in r_v_27 (by decide)) n_v_27 i_30 dX7_comes_299 (fun H locs hT => ?_)
        have hI : Inv (sC (sC (sC (sC (sC g1 v_6 kn1.toNatClampNeg wo) v_8 kn1.toNatClampNeg u_10) v_12 kn1.toNatClampNeg v) fta f.toNatClampNeg z_15) v_27 c1.toNatClampNeg u_29) := hI.sC (ck r_v_27 ⟨by omega, by omega⟩)
        have hM : Sm md_m_comes g (sC (sC (sC (sC (sC g1 v_6 kn1.toNatClampNeg wo) v_8 kn1.toNatClampNeg u_10) v_12 kn1.toNatClampNeg v) fta f.toNatClampNeg z_15) v_27 c1.toNatClampNeg u_29) := hM.tr hE (Sm_sC (by rw [r_v_27]; rfl))
        have hE : Ex g (sC (sC (sC (sC (sC g1 v_6 kn1.toNatClampNeg wo) v_8 kn1.toNatClampNeg u_10) v_12 kn1.toNatClampNeg v) fta f.toNatClampNeg z_15) v_27 c1.toNatClampNeg u_29) := hE
        have hD : DP (sC (sC (sC (sC (sC g1 v_6 kn1.toNatClampNeg wo) v_8 kn1.toNatClampNeg u_10) v_12 kn1.toNatClampNeg v) fta f.toNatClampNeg z_15) v_27 c1.toNatClampNeg u_29) fa dd.toInt := hD.sC (ro_ne r_2 r_v_27 (by decide))
        refine lv_goto (tgt := 562) hx hb dX7_comes_300 (by decide) ?_
        exact t_vret hB hr hT (Nat.le_of_ble_eq_true rfl) (Nat.le_of_ble_eq_true rfl) dX7_comes_562 ⟨dd, t0, rfl, hI, hE, hM, kp0, kp1, (by omega), (by omega), (hD.cast (by omega))⟩
      · have c_28' : do1.toInt ≠ 0 := i_ne c_28 rfl (by decide)
        refine lv_iload hx hb dX7_comes_287 (lv_at hl 6 rfl) ?_
        refine lv_goto (tgt := 299) hx hb dX7_comes_289 (by decide) ?_
        have i_31 : vp_in c1 48 := (i_in (n := 48) rfl (by omega) (by omega))
        refine t_iast hB hT (ro_in r_v_27 (by decide)) n_v_27 i_31 dX7_comes_299 (fun H locs hT => ?_)
        have hI : Inv (sC (sC (sC (sC (sC g1 v_6 kn1.toNatClampNeg wo) v_8 kn1.toNatClampNeg u_10) v_12 kn1.toNatClampNeg v) fta f.toNatClampNeg z_15) v_27 c1.toNatClampNeg v) := hI.sC (ck r_v_27 ⟨by omega, by omega⟩)
        have hM : Sm md_m_comes g (sC (sC (sC (sC (sC g1 v_6 kn1.toNatClampNeg wo) v_8 kn1.toNatClampNeg u_10) v_12 kn1.toNatClampNeg v) fta f.toNatClampNeg z_15) v_27 c1.toNatClampNeg v) := hM.tr hE (Sm_sC (by rw [r_v_27]; rfl))
        have hE : Ex g (sC (sC (sC (sC (sC g1 v_6 kn1.toNatClampNeg wo) v_8 kn1.toNatClampNeg u_10) v_12 kn1.toNatClampNeg v) fta f.toNatClampNeg z_15) v_27 c1.toNatClampNeg v) := hE
        have hD : DP (sC (sC (sC (sC (sC g1 v_6 kn1.toNatClampNeg wo) v_8 kn1.toNatClampNeg u_10) v_12 kn1.toNatClampNeg v) fta f.toNatClampNeg z_15) v_27 c1.toNatClampNeg v) fa dd.toInt := hD.sC (ro_ne r_2 r_v_27 (by decide))
        refine lv_goto (tgt := 562) hx hb dX7_comes_300 (by decide) ?_
        exact t_vret hB hr hT (Nat.le_of_ble_eq_true rfl) (Nat.le_of_ble_eq_true rfl) dX7_comes_562 ⟨dd, t0, rfl, hI, hE, hM, kp0, kp1, (by omega), (by omega), (hD.cast (by omega))⟩
    · refine x_ev (y := 1) ej_18 ?_
      refine lv_tableIn (off := 70) (tgt := 303) hx hb dX7_comes_233 (by decide) (by decide) rfl (by decide) ?_
      refine lv_aload_n hx hb dX7_comes_303 rfl (lv_at hl 0 rfl) ?_
      obtain ⟨v_32, e_v_32, r_v_32, n_v_32⟩ := f_8_7 hI r_1
      refine t_get (ci := 7) (v := .ref v_32) hB hT (ro_ci r_1 rfl) rfl 7 (by decide) k_752 e_v_32 dX7_comes_304 ?_
      refine lv_iload hx hb dX7_comes_307 (lv_at hl 7 rfl) ?_
      refine lv_aload_n hx hb dX7_comes_309 rfl (lv_at hl 0 rfl) ?_
      refine t_get (ci := 7) (v := .ref v_32) hB hT (ro_ci r_1 rfl) rfl 7 (by decide) k_752 e_v_32 dX7_comes_310 ?_
      refine lv_iload hx hb dX7_comes_313 (lv_at hl 7 rfl) ?_
      have i_u_33 : vp_in c1 48 := (i_in (n := 48) rfl (by omega) (by omega))
      refine t_iald hB hT (ro_in r_v_32 (by decide)) n_v_32 i_u_33 rfl dX7_comes_315 ?_
      have c_u_33 := hI.c r_v_32 n_v_32 (i_cl i_u_33)
      refine lv_topi (fun u_33 e_u_33 => ?_)
      obtain ⟨l_u_33, u_u_33⟩ := c_u_33
      rw [← e_u_33] at l_u_33 u_u_33
      refine lv_iload hx hb dX7_comes_316 (lv_at hl 6 rfl) ?_
      refine lv_iadd hx hb dX7_comes_318 ?_
      refine lv_topi (fun z_34 ez_34 => ?_)
      have e_z_34 : z_34.toInt = u_33.toInt + v.toInt := i_add ez_34 rfl rfl (by omega) (by omega)
      refine lv_sipush (v := 1000) hx hb dX7_comes_319 (by decide) ?_
      refine lv_irem hx hb dX7_comes_322 (by decide) ?_
      refine lv_topi (fun z_35 ez_35 => ?_)
      have e_z_35 := i_rem (a := z_34.toInt) (b := 1000) ez_35 rfl (by decide) (by omega) (by omega)
      have i_36 : vp_in c1 48 := (i_in (n := 48) rfl (by omega) (by omega))
      refine t_iast hB hT (ro_in r_v_32 (by decide)) n_v_32 i_36 dX7_comes_323 (fun H locs hT => ?_)
      have hI : Inv (sC (sC (sC (sC (sC g1 v_6 kn1.toNatClampNeg wo) v_8 kn1.toNatClampNeg u_10) v_12 kn1.toNatClampNeg v) fta f.toNatClampNeg z_15) v_32 c1.toNatClampNeg z_35) := hI.sC (ck r_v_32 ⟨by omega, by omega⟩)
      have hM : Sm md_m_comes g (sC (sC (sC (sC (sC g1 v_6 kn1.toNatClampNeg wo) v_8 kn1.toNatClampNeg u_10) v_12 kn1.toNatClampNeg v) fta f.toNatClampNeg z_15) v_32 c1.toNatClampNeg z_35) := hM.tr hE (Sm_sC (by rw [r_v_32]; rfl))
      have hE : Ex g (sC (sC (sC (sC (sC g1 v_6 kn1.toNatClampNeg wo) v_8 kn1.toNatClampNeg u_10) v_12 kn1.toNatClampNeg v) fta f.toNatClampNeg z_15) v_32 c1.toNatClampNeg z_35) := hE
      have hD : DP (sC (sC (sC (sC (sC g1 v_6 kn1.toNatClampNeg wo) v_8 kn1.toNatClampNeg u_10) v_12 kn1.toNatClampNeg v) fta f.toNatClampNeg z_15) v_32 c1.toNatClampNeg z_35) fa dd.toInt := hD.sC (ro_ne r_2 r_v_32 (by decide))
      refine lv_goto (tgt := 562) hx hb dX7_comes_324 (by decide) ?_
      exact t_vret hB hr hT (Nat.le_of_ble_eq_true rfl) (Nat.le_of_ble_eq_true rfl) dX7_comes_562 ⟨dd, t0, rfl, hI, hE, hM, kp0, kp1, (by omega), (by omega), (hD.cast (by omega))⟩
    · refine x_ev (y := 2) ej_18 ?_
      refine lv_tableIn (off := 94) (tgt := 327) hx hb dX7_comes_233 (by decide) (by decide) rfl (by decide) ?_
      refine lv_aload_n hx hb dX7_comes_327 rfl (lv_at hl 0 rfl) ?_
      obtain ⟨v_37, e_v_37, r_v_37, n_v_37⟩ := f_8_7 hI r_1
      refine t_get (ci := 7) (v := .ref v_37) hB hT (ro_ci r_1 rfl) rfl 7 (by decide) k_752 e_v_37 dX7_comes_328 ?_
      refine lv_iload hx hb dX7_comes_331 (lv_at hl 7 rfl) ?_
      refine lv_iload hx hb dX7_comes_333 (lv_at hl 9 rfl) ?_
      refine lv_if_eq (tgt := 355) hx hb dX7_comes_335 (by decide) (fun c_38 => ?_) (fun c_38 => ?_)
      · have c_38' : do1.toInt = 0 := i_eq c_38 rfl (by decide)
        refine lv_aload_n hx hb dX7_comes_355 rfl (lv_at hl 0 rfl) ?_
        refine t_get (ci := 7) (v := .ref v_37) hB hT (ro_ci r_1 rfl) rfl 7 (by decide) k_752 e_v_37 dX7_comes_356 ?_
        refine lv_iload hx hb dX7_comes_359 (lv_at hl 7 rfl) ?_
        have i_u_39 : vp_in c1 48 := (i_in (n := 48) rfl (by omega) (by omega))
        refine t_iald hB hT (ro_in r_v_37 (by decide)) n_v_37 i_u_39 rfl dX7_comes_361 ?_
        have c_u_39 := hI.c r_v_37 n_v_37 (i_cl i_u_39)
        refine lv_topi (fun u_39 e_u_39 => ?_)
        obtain ⟨l_u_39, u_u_39⟩ := c_u_39
        rw [← e_u_39] at l_u_39 u_u_39
        have i_40 : vp_in c1 48 := (i_in (n := 48) rfl (by omega) (by omega))
        refine t_iast hB hT (ro_in r_v_37 (by decide)) n_v_37 i_40 dX7_comes_362 (fun H locs hT => ?_)
        have hI : Inv (sC (sC (sC (sC (sC g1 v_6 kn1.toNatClampNeg wo) v_8 kn1.toNatClampNeg u_10) v_12 kn1.toNatClampNeg v) fta f.toNatClampNeg z_15) v_37 c1.toNatClampNeg u_39) := hI.sC (ck r_v_37 ⟨by omega, by omega⟩)
        have hM : Sm md_m_comes g (sC (sC (sC (sC (sC g1 v_6 kn1.toNatClampNeg wo) v_8 kn1.toNatClampNeg u_10) v_12 kn1.toNatClampNeg v) fta f.toNatClampNeg z_15) v_37 c1.toNatClampNeg u_39) := hM.tr hE (Sm_sC (by rw [r_v_37]; rfl))
        have hE : Ex g (sC (sC (sC (sC (sC g1 v_6 kn1.toNatClampNeg wo) v_8 kn1.toNatClampNeg u_10) v_12 kn1.toNatClampNeg v) fta f.toNatClampNeg z_15) v_37 c1.toNatClampNeg u_39) := hE
        have hD : DP (sC (sC (sC (sC (sC g1 v_6 kn1.toNatClampNeg wo) v_8 kn1.toNatClampNeg u_10) v_12 kn1.toNatClampNeg v) fta f.toNatClampNeg z_15) v_37 c1.toNatClampNeg u_39) fa dd.toInt := hD.sC (ro_ne r_2 r_v_37 (by decide))
        refine lv_goto (tgt := 562) hx hb dX7_comes_363 (by decide) ?_
        exact t_vret hB hr hT (Nat.le_of_ble_eq_true rfl) (Nat.le_of_ble_eq_true rfl) dX7_comes_562 ⟨dd, t0, rfl, hI, hE, hM, kp0, kp1, (by omega), (by omega), (hD.cast (by omega))⟩
      · have c_38' : do1.toInt ≠ 0 := i_ne c_38 rfl (by decide)
        refine lv_iload hx hb dX7_comes_338 (lv_at hl 6 rfl) ?_
        refine lv_aload_n hx hb dX7_comes_340 rfl (lv_at hl 0 rfl) ?_
        refine t_get (ci := 7) (v := .ref v_37) hB hT (ro_ci r_1 rfl) rfl 7 (by decide) k_752 e_v_37 dX7_comes_341 ?_
        refine lv_iload hx hb dX7_comes_344 (lv_at hl 7 rfl) ?_
        have i_u_41 : vp_in c1 48 := (i_in (n := 48) rfl (by omega) (by omega))
        refine t_iald hB hT (ro_in r_v_37 (by decide)) n_v_37 i_u_41 rfl dX7_comes_346 ?_
        have c_u_41 := hI.c r_v_37 n_v_37 (i_cl i_u_41)
        refine lv_topi (fun u_41 e_u_41 => ?_)
        obtain ⟨l_u_41, u_u_41⟩ := c_u_41
        rw [← e_u_41] at l_u_41 u_u_41
        refine lv_icmp_le (tgt := 355) hx hb dX7_comes_347 (by decide) (fun c_42 => ?_) (fun c_42 => ?_)
        · have c_42' : v.toInt ≤ u_41.toInt := i_le c_42 rfl rfl
          refine lv_aload_n hx hb dX7_comes_355 rfl (lv_at hl 0 rfl) ?_
          refine t_get (ci := 7) (v := .ref v_37) hB hT (ro_ci r_1 rfl) rfl 7 (by decide) k_752 e_v_37 dX7_comes_356 ?_
          refine lv_iload hx hb dX7_comes_359 (lv_at hl 7 rfl) ?_
          have i_u_43 : vp_in c1 48 := (i_in (n := 48) rfl (by omega) (by omega))
          refine t_iald (v := u_41) hB hT (ro_in r_v_37 (by decide)) n_v_37 i_u_43 e_u_41.symm dX7_comes_361 ?_
          have i_44 : vp_in c1 48 := (i_in (n := 48) rfl (by omega) (by omega))
          refine t_iast hB hT (ro_in r_v_37 (by decide)) n_v_37 i_44 dX7_comes_362 (fun H locs hT => ?_)
          have hI : Inv (sC (sC (sC (sC (sC g1 v_6 kn1.toNatClampNeg wo) v_8 kn1.toNatClampNeg u_10) v_12 kn1.toNatClampNeg v) fta f.toNatClampNeg z_15) v_37 c1.toNatClampNeg u_41) := hI.sC (ck r_v_37 ⟨by omega, by omega⟩)
          have hM : Sm md_m_comes g (sC (sC (sC (sC (sC g1 v_6 kn1.toNatClampNeg wo) v_8 kn1.toNatClampNeg u_10) v_12 kn1.toNatClampNeg v) fta f.toNatClampNeg z_15) v_37 c1.toNatClampNeg u_41) := hM.tr hE (Sm_sC (by rw [r_v_37]; rfl))
          have hE : Ex g (sC (sC (sC (sC (sC g1 v_6 kn1.toNatClampNeg wo) v_8 kn1.toNatClampNeg u_10) v_12 kn1.toNatClampNeg v) fta f.toNatClampNeg z_15) v_37 c1.toNatClampNeg u_41) := hE
          have hD : DP (sC (sC (sC (sC (sC g1 v_6 kn1.toNatClampNeg wo) v_8 kn1.toNatClampNeg u_10) v_12 kn1.toNatClampNeg v) fta f.toNatClampNeg z_15) v_37 c1.toNatClampNeg u_41) fa dd.toInt := hD.sC (ro_ne r_2 r_v_37 (by decide))
          refine lv_goto (tgt := 562) hx hb dX7_comes_363 (by decide) ?_
          exact t_vret hB hr hT (Nat.le_of_ble_eq_true rfl) (Nat.le_of_ble_eq_true rfl) dX7_comes_562 ⟨dd, t0, rfl, hI, hE, hM, kp0, kp1, (by omega), (by omega), (hD.cast (by omega))⟩
        · have c_42' : u_41.toInt < v.toInt := i_nle c_42 rfl rfl
          refine lv_iload hx hb dX7_comes_350 (lv_at hl 6 rfl) ?_
          refine lv_goto (tgt := 362) hx hb dX7_comes_352 (by decide) ?_
          have i_45 : vp_in c1 48 := (i_in (n := 48) rfl (by omega) (by omega))
          refine t_iast hB hT (ro_in r_v_37 (by decide)) n_v_37 i_45 dX7_comes_362 (fun H locs hT => ?_)
          have hI : Inv (sC (sC (sC (sC (sC g1 v_6 kn1.toNatClampNeg wo) v_8 kn1.toNatClampNeg u_10) v_12 kn1.toNatClampNeg v) fta f.toNatClampNeg z_15) v_37 c1.toNatClampNeg v) := hI.sC (ck r_v_37 ⟨by omega, by omega⟩)
          have hM : Sm md_m_comes g (sC (sC (sC (sC (sC g1 v_6 kn1.toNatClampNeg wo) v_8 kn1.toNatClampNeg u_10) v_12 kn1.toNatClampNeg v) fta f.toNatClampNeg z_15) v_37 c1.toNatClampNeg v) := hM.tr hE (Sm_sC (by rw [r_v_37]; rfl))
          have hE : Ex g (sC (sC (sC (sC (sC g1 v_6 kn1.toNatClampNeg wo) v_8 kn1.toNatClampNeg u_10) v_12 kn1.toNatClampNeg v) fta f.toNatClampNeg z_15) v_37 c1.toNatClampNeg v) := hE
          have hD : DP (sC (sC (sC (sC (sC g1 v_6 kn1.toNatClampNeg wo) v_8 kn1.toNatClampNeg u_10) v_12 kn1.toNatClampNeg v) fta f.toNatClampNeg z_15) v_37 c1.toNatClampNeg v) fa dd.toInt := hD.sC (ro_ne r_2 r_v_37 (by decide))
          refine lv_goto (tgt := 562) hx hb dX7_comes_363 (by decide) ?_
          exact t_vret hB hr hT (Nat.le_of_ble_eq_true rfl) (Nat.le_of_ble_eq_true rfl) dX7_comes_562 ⟨dd, t0, rfl, hI, hE, hM, kp0, kp1, (by omega), (by omega), (hD.cast (by omega))⟩
    · refine x_ev (y := 3) ej_18 ?_
      refine lv_tableIn (off := 133) (tgt := 366) hx hb dX7_comes_233 (by decide) (by decide) rfl (by decide) ?_
      refine lv_aload_n hx hb dX7_comes_366 rfl (lv_at hl 0 rfl) ?_
      obtain ⟨v_46, e_v_46, r_v_46, n_v_46⟩ := f_8_8 hI r_1
      refine t_get (ci := 7) (v := .ref v_46) hB hT (ro_ci r_1 rfl) rfl 8 (by decide) k_753 e_v_46 dX7_comes_367 ?_
      refine lv_aload_n hx hb dX7_comes_370 rfl (lv_at hl 0 rfl) ?_
      refine lv_iload_n hx hb dX7_comes_371 rfl (lv_at hl 2 rfl) ?_
      refine t_callV (n := 1) (As := [.int sv]) (rest := [.ref v_46]) (ci := 7) hB hT hl.1 (m_base l D cI cZ cS cR N0 (sC (sC (sC (sC g1 v_6 kn1.toNatClampNeg wo) v_8 kn1.toNatClampNeg u_10) v_12 kn1.toNatClampNeg v) fta f.toNatClampNeg z_15) hI h sv w r_1 (Sm.v hM r_h (by decide) rfl kw) (by omega) (by omega) (by omega) (by omega)) (ro_ci r_1 rfl) rfl k_1043 k_65 k_1040 k_1042 k_34 (by decide +kernel) ⟨(Nat.le_of_ble_eq_true rfl), (Nat.le_of_ble_eq_true rfl)⟩ rfl (Nat.le_of_ble_eq_true rfl) ⟨(Nat.le_of_ble_eq_true rfl), (Nat.le_of_ble_eq_true rfl)⟩ dX7_comes_372 (fun v g_47 H locs hp hT => ?_)
      obtain ⟨r_48, rfl, eg, f_49, f_50⟩ := hp
      rw [eg] at hT
      clear eg
      refine W.eq (g2 := F0 m 375 ls [.int r_48, .ref v_46]) rfl ?_
      refine lv_aload_n hx hb dX7_comes_375 rfl (lv_at hl 0 rfl) ?_
      refine t_get (ci := 7) (v := .ref v_46) hB hT (ro_ci r_1 rfl) rfl 8 (by decide) k_753 e_v_46 dX7_comes_376 ?_
      refine lv_aload_n hx hb dX7_comes_379 rfl (lv_at hl 0 rfl) ?_
      refine lv_iload_n hx hb dX7_comes_380 rfl (lv_at hl 2 rfl) ?_
      refine t_callV (n := 1) (As := [.int sv]) (rest := [.ref v_46, .int r_48, .ref v_46]) (ci := 7) hB hT hl.1 (m_base l D cI cZ cS cR N0 (sC (sC (sC (sC g1 v_6 kn1.toNatClampNeg wo) v_8 kn1.toNatClampNeg u_10) v_12 kn1.toNatClampNeg v) fta f.toNatClampNeg z_15) hI h sv w r_1 (Sm.v hM r_h (by decide) rfl kw) (by omega) (by omega) (by omega) (by omega)) (ro_ci r_1 rfl) rfl k_1043 k_65 k_1040 k_1042 k_34 (by decide +kernel) ⟨(Nat.le_of_ble_eq_true rfl), (Nat.le_of_ble_eq_true rfl)⟩ rfl (Nat.le_of_ble_eq_true rfl) ⟨(Nat.le_of_ble_eq_true rfl), (Nat.le_of_ble_eq_true rfl)⟩ dX7_comes_381 (fun v g_53 H locs hp hT => ?_)
      obtain ⟨r_54, rfl, eg, f_55, f_56⟩ := hp
      rw [eg] at hT
      clear eg
      refine W.eq (g2 := F0 m 384 ls [.int r_54, .ref v_46, .int r_48, .ref v_46]) rfl ?_
      have q_r_54 : r_54 = r_48 := f_55.trans f_49.symm
      refine W.eq (g2 := F0 m 384 ls [.int r_48, .ref v_46, .int r_48, .ref v_46]) (by rw [q_r_54]) ?_
      have i_u_59 : vp_in r_48 12 := (i_in (n := 12) rfl (by omega) (by omega))
      refine t_iald hB hT (ro_in r_v_46 (by decide)) n_v_46 i_u_59 rfl dX7_comes_384 ?_
      have c_u_59 := hI.c r_v_46 n_v_46 (i_cl i_u_59)
      refine lv_topi (fun u_59 e_u_59 => ?_)
      obtain ⟨l_u_59, u_u_59⟩ := c_u_59
      rw [← e_u_59] at l_u_59 u_u_59
      refine lv_iconst (v := 1) hx hb dX7_comes_385 (by decide) ?_
      refine lv_iadd hx hb dX7_comes_386 ?_
      refine lv_topi (fun z_60 ez_60 => ?_)
      have e_z_60 : z_60.toInt = u_59.toInt + 1 := i_add ez_60 rfl (by decide) (by omega) (by omega)
      refine lv_sipush (v := 1000) hx hb dX7_comes_387 (by decide) ?_
      refine lv_irem hx hb dX7_comes_390 (by decide) ?_
      refine lv_topi (fun z_61 ez_61 => ?_)
      have e_z_61 := i_rem (a := z_60.toInt) (b := 1000) ez_61 rfl (by decide) (by omega) (by omega)
      have i_62 : vp_in r_48 12 := (i_in (n := 12) rfl (by omega) (by omega))
      refine t_iast hB hT (ro_in r_v_46 (by decide)) n_v_46 i_62 dX7_comes_391 (fun H locs hT => ?_)
      have hI : Inv (sC (sC (sC (sC (sC g1 v_6 kn1.toNatClampNeg wo) v_8 kn1.toNatClampNeg u_10) v_12 kn1.toNatClampNeg v) fta f.toNatClampNeg z_15) v_46 r_48.toNatClampNeg z_61) := hI.sC (ck r_v_46 ⟨by omega, by omega⟩)
      have hM : Sm md_m_comes g (sC (sC (sC (sC (sC g1 v_6 kn1.toNatClampNeg wo) v_8 kn1.toNatClampNeg u_10) v_12 kn1.toNatClampNeg v) fta f.toNatClampNeg z_15) v_46 r_48.toNatClampNeg z_61) := hM.tr hE (Sm_sC (by rw [r_v_46]; rfl))
      have hE : Ex g (sC (sC (sC (sC (sC g1 v_6 kn1.toNatClampNeg wo) v_8 kn1.toNatClampNeg u_10) v_12 kn1.toNatClampNeg v) fta f.toNatClampNeg z_15) v_46 r_48.toNatClampNeg z_61) := hE
      have hD : DP (sC (sC (sC (sC (sC g1 v_6 kn1.toNatClampNeg wo) v_8 kn1.toNatClampNeg u_10) v_12 kn1.toNatClampNeg v) fta f.toNatClampNeg z_15) v_46 r_48.toNatClampNeg z_61) fa dd.toInt := hD.sC (ro_ne r_2 r_v_46 (by decide))
      refine lv_aload_n hx hb dX7_comes_392 rfl (lv_at hl 0 rfl) ?_
      obtain ⟨v_63, e_v_63, r_v_63, n_v_63⟩ := f_8_7 hI r_1
      refine t_get (ci := 7) (v := .ref v_63) hB hT (ro_ci r_1 rfl) rfl 7 (by decide) k_752 e_v_63 dX7_comes_393 ?_
      refine lv_iload hx hb dX7_comes_396 (lv_at hl 7 rfl) ?_
      refine lv_aload_n hx hb dX7_comes_398 rfl (lv_at hl 0 rfl) ?_
      refine t_get (ci := 7) (v := .ref v_46) hB hT (ro_ci r_1 rfl) rfl 8 (by decide) k_753 e_v_46 dX7_comes_399 ?_
      refine lv_aload_n hx hb dX7_comes_402 rfl (lv_at hl 0 rfl) ?_
      refine lv_iload_n hx hb dX7_comes_403 rfl (lv_at hl 2 rfl) ?_
      refine t_callV (n := 1) (As := [.int sv]) (rest := [.ref v_46, .int c1, .ref v_63]) (ci := 7) hB hT hl.1 (m_base l D cI cZ cS cR N0 (sC (sC (sC (sC (sC g1 v_6 kn1.toNatClampNeg wo) v_8 kn1.toNatClampNeg u_10) v_12 kn1.toNatClampNeg v) fta f.toNatClampNeg z_15) v_46 r_48.toNatClampNeg z_61) hI h sv w r_1 (Sm.v hM r_h (by decide) rfl kw) (by omega) (by omega) (by omega) (by omega)) (ro_ci r_1 rfl) rfl k_1043 k_65 k_1040 k_1042 k_34 (by decide +kernel) ⟨(Nat.le_of_ble_eq_true rfl), (Nat.le_of_ble_eq_true rfl)⟩ rfl (Nat.le_of_ble_eq_true rfl) ⟨(Nat.le_of_ble_eq_true rfl), (Nat.le_of_ble_eq_true rfl)⟩ dX7_comes_404 (fun v g_64 H locs hp hT => ?_)
      obtain ⟨r_65, rfl, eg, f_66, f_67⟩ := hp
      rw [eg] at hT
      clear eg
      refine W.eq (g2 := F0 m 407 ls [.int r_65, .ref v_46, .int c1, .ref v_63]) rfl ?_
      have q_r_65 : r_65 = r_48 := f_66.trans f_49.symm
      refine W.eq (g2 := F0 m 407 ls [.int r_48, .ref v_46, .int c1, .ref v_63]) (by rw [q_r_65]) ?_
      have i_u_70 : vp_in r_48 12 := (i_in (n := 12) rfl (by omega) (by omega))
      refine t_iald (v := z_61) hB hT (ro_in r_v_46 (by decide)) n_v_46 i_u_70 sC_eq dX7_comes_407 ?_
      have i_71 : vp_in c1 48 := (i_in (n := 48) rfl (by omega) (by omega))
      refine t_iast hB hT (ro_in r_v_63 (by decide)) n_v_63 i_71 dX7_comes_408 (fun H locs hT => ?_)
      have hI : Inv (sC (sC (sC (sC (sC (sC g1 v_6 kn1.toNatClampNeg wo) v_8 kn1.toNatClampNeg u_10) v_12 kn1.toNatClampNeg v) fta f.toNatClampNeg z_15) v_46 r_48.toNatClampNeg z_61) v_63 c1.toNatClampNeg z_61) := hI.sC (ck r_v_63 ⟨by omega, by omega⟩)
      have hM : Sm md_m_comes g (sC (sC (sC (sC (sC (sC g1 v_6 kn1.toNatClampNeg wo) v_8 kn1.toNatClampNeg u_10) v_12 kn1.toNatClampNeg v) fta f.toNatClampNeg z_15) v_46 r_48.toNatClampNeg z_61) v_63 c1.toNatClampNeg z_61) := hM.tr hE (Sm_sC (by rw [r_v_63]; rfl))
      have hE : Ex g (sC (sC (sC (sC (sC (sC g1 v_6 kn1.toNatClampNeg wo) v_8 kn1.toNatClampNeg u_10) v_12 kn1.toNatClampNeg v) fta f.toNatClampNeg z_15) v_46 r_48.toNatClampNeg z_61) v_63 c1.toNatClampNeg z_61) := hE
      have hD : DP (sC (sC (sC (sC (sC (sC g1 v_6 kn1.toNatClampNeg wo) v_8 kn1.toNatClampNeg u_10) v_12 kn1.toNatClampNeg v) fta f.toNatClampNeg z_15) v_46 r_48.toNatClampNeg z_61) v_63 c1.toNatClampNeg z_61) fa dd.toInt := hD.sC (ro_ne r_2 r_v_63 (by decide))
      refine lv_aload_n hx hb dX7_comes_409 rfl (lv_at hl 0 rfl) ?_
      obtain ⟨v_72, e_v_72, r_v_72, n_v_72⟩ := f_8_47 hI r_1
      refine t_get (ci := 7) (v := .ref v_72) hB hT (ro_ci r_1 rfl) rfl 47 (by decide) k_792 e_v_72 dX7_comes_410 ?_
      refine lv_iload_n hx hb dX7_comes_413 rfl (lv_at hl 1 rfl) ?_
      refine lv_aload_n hx hb dX7_comes_414 rfl (lv_at hl 0 rfl) ?_
      refine t_get (ci := 7) (v := .ref v_63) hB hT (ro_ci r_1 rfl) rfl 7 (by decide) k_752 e_v_63 dX7_comes_415 ?_
      refine lv_iload hx hb dX7_comes_418 (lv_at hl 7 rfl) ?_
      have i_u_73 : vp_in c1 48 := (i_in (n := 48) rfl (by omega) (by omega))
      refine t_iald (v := z_61) hB hT (ro_in r_v_63 (by decide)) n_v_63 i_u_73 sC_eq dX7_comes_420 ?_
      have i_74 : vp_in f 7 := (i_in (n := 7) rfl (by omega) (by omega))
      refine t_iast hB hT (ro_in r_v_72 (by decide)) n_v_72 i_74 dX7_comes_421 (fun H locs hT => ?_)
      have hI : Inv (sC (sC (sC (sC (sC (sC (sC g1 v_6 kn1.toNatClampNeg wo) v_8 kn1.toNatClampNeg u_10) v_12 kn1.toNatClampNeg v) fta f.toNatClampNeg z_15) v_46 r_48.toNatClampNeg z_61) v_63 c1.toNatClampNeg z_61) v_72 f.toNatClampNeg z_61) := hI.sC (ck r_v_72 ⟨by omega, by omega⟩)
      have hM : Sm md_m_comes g (sC (sC (sC (sC (sC (sC (sC g1 v_6 kn1.toNatClampNeg wo) v_8 kn1.toNatClampNeg u_10) v_12 kn1.toNatClampNeg v) fta f.toNatClampNeg z_15) v_46 r_48.toNatClampNeg z_61) v_63 c1.toNatClampNeg z_61) v_72 f.toNatClampNeg z_61) := hM.tr hE (Sm_sC (by rw [r_v_72]; rfl))
      have hE : Ex g (sC (sC (sC (sC (sC (sC (sC g1 v_6 kn1.toNatClampNeg wo) v_8 kn1.toNatClampNeg u_10) v_12 kn1.toNatClampNeg v) fta f.toNatClampNeg z_15) v_46 r_48.toNatClampNeg z_61) v_63 c1.toNatClampNeg z_61) v_72 f.toNatClampNeg z_61) := hE
      have hD : DP (sC (sC (sC (sC (sC (sC (sC g1 v_6 kn1.toNatClampNeg wo) v_8 kn1.toNatClampNeg u_10) v_12 kn1.toNatClampNeg v) fta f.toNatClampNeg z_15) v_46 r_48.toNatClampNeg z_61) v_63 c1.toNatClampNeg z_61) v_72 f.toNatClampNeg z_61) fa dd.toInt := hD.sC (ro_ne r_2 r_v_72 (by decide))
      refine lv_goto (tgt := 562) hx hb dX7_comes_422 (by decide) ?_
      exact t_vret hB hr hT (Nat.le_of_ble_eq_true rfl) (Nat.le_of_ble_eq_true rfl) dX7_comes_562 ⟨dd, t0, rfl, hI, hE, hM, kp0, kp1, (by omega), (by omega), (hD.cast (by omega))⟩
    · refine x_ev (y := 4) ej_18 ?_
      refine lv_tableIn (off := 192) (tgt := 425) hx hb dX7_comes_233 (by decide) (by decide) rfl (by decide) ?_
      refine lv_aload_n hx hb dX7_comes_425 rfl (lv_at hl 0 rfl) ?_
      obtain ⟨v_75, e_v_75, r_v_75, n_v_75⟩ := f_8_47 hI r_1
      refine t_get (ci := 7) (v := .ref v_75) hB hT (ro_ci r_1 rfl) rfl 47 (by decide) k_792 e_v_75 dX7_comes_426 ?_
      refine lv_iload_n hx hb dX7_comes_429 rfl (lv_at hl 1 rfl) ?_
      refine lv_aload_n hx hb dX7_comes_430 rfl (lv_at hl 0 rfl) ?_
      obtain ⟨v_76, e_v_76, r_v_76, n_v_76⟩ := f_8_7 hI r_1
      refine t_get (ci := 7) (v := .ref v_76) hB hT (ro_ci r_1 rfl) rfl 7 (by decide) k_752 e_v_76 dX7_comes_431 ?_
      refine lv_iload hx hb dX7_comes_434 (lv_at hl 7 rfl) ?_
      have i_u_77 : vp_in c1 48 := (i_in (n := 48) rfl (by omega) (by omega))
      refine t_iald hB hT (ro_in r_v_76 (by decide)) n_v_76 i_u_77 rfl dX7_comes_436 ?_
      have c_u_77 := hI.c r_v_76 n_v_76 (i_cl i_u_77)
      refine lv_topi (fun u_77 e_u_77 => ?_)
      obtain ⟨l_u_77, u_u_77⟩ := c_u_77
      rw [← e_u_77] at l_u_77 u_u_77
      have i_78 : vp_in f 7 := (i_in (n := 7) rfl (by omega) (by omega))
      refine t_iast hB hT (ro_in r_v_75 (by decide)) n_v_75 i_78 dX7_comes_437 (fun H locs hT => ?_)
      have hI : Inv (sC (sC (sC (sC (sC g1 v_6 kn1.toNatClampNeg wo) v_8 kn1.toNatClampNeg u_10) v_12 kn1.toNatClampNeg v) fta f.toNatClampNeg z_15) v_75 f.toNatClampNeg u_77) := hI.sC (ck r_v_75 ⟨by omega, by omega⟩)
      have hM : Sm md_m_comes g (sC (sC (sC (sC (sC g1 v_6 kn1.toNatClampNeg wo) v_8 kn1.toNatClampNeg u_10) v_12 kn1.toNatClampNeg v) fta f.toNatClampNeg z_15) v_75 f.toNatClampNeg u_77) := hM.tr hE (Sm_sC (by rw [r_v_75]; rfl))
      have hE : Ex g (sC (sC (sC (sC (sC g1 v_6 kn1.toNatClampNeg wo) v_8 kn1.toNatClampNeg u_10) v_12 kn1.toNatClampNeg v) fta f.toNatClampNeg z_15) v_75 f.toNatClampNeg u_77) := hE
      have hD : DP (sC (sC (sC (sC (sC g1 v_6 kn1.toNatClampNeg wo) v_8 kn1.toNatClampNeg u_10) v_12 kn1.toNatClampNeg v) fta f.toNatClampNeg z_15) v_75 f.toNatClampNeg u_77) fa dd.toInt := hD.sC (ro_ne r_2 r_v_75 (by decide))
      refine lv_goto (tgt := 562) hx hb dX7_comes_438 (by decide) ?_
      exact t_vret hB hr hT (Nat.le_of_ble_eq_true rfl) (Nat.le_of_ble_eq_true rfl) dX7_comes_562 ⟨dd, t0, rfl, hI, hE, hM, kp0, kp1, (by omega), (by omega), (hD.cast (by omega))⟩
    · refine x_ev (y := 5) ej_18 ?_
      refine lv_tableIn (off := 208) (tgt := 441) hx hb dX7_comes_233 (by decide) (by decide) rfl (by decide) ?_
      refine lv_aload_n hx hb dX7_comes_441 rfl (lv_at hl 0 rfl) ?_
      refine lv_iload_n hx hb dX7_comes_442 rfl (lv_at hl 2 rfl) ?_
      refine lv_iconst (v := 2) hx hb dX7_comes_443 (by decide) ?_
      refine t_callV (n := 2) (As := [.int sv, .int 2]) (rest := []) (ci := 7) hB hT hl.1 (m_has l D cI cZ cS cR N0 (sC (sC (sC (sC g1 v_6 kn1.toNatClampNeg wo) v_8 kn1.toNatClampNeg u_10) v_12 kn1.toNatClampNeg v) fta f.toNatClampNeg z_15) hI h sv 2 r_1 (by have q0 : (2 : Int32).toInt = 2 := (by decide); omega) (by have q0 : (2 : Int32).toInt = 2 := (by decide); omega)) (ro_ci r_1 rfl) rfl k_999 k_65 k_996 k_998 k_28 (by decide +kernel) ⟨(Nat.le_of_ble_eq_true rfl), (Nat.le_of_ble_eq_true rfl)⟩ rfl (Nat.le_of_ble_eq_true rfl) ⟨(Nat.le_of_ble_eq_true rfl), (Nat.le_of_ble_eq_true rfl)⟩ dX7_comes_444 (fun v g_79 H locs hp hT => ?_)
      obtain ⟨r_80, rfl, eg, f_81⟩ := hp
      rw [eg] at hT
      clear eg
      refine W.eq (g2 := F0 m 447 ls [.int r_80]) rfl ?_
      have qc_84 : (2 : Int32).toInt = 2 := (by decide)
      rcases f_81 with rfl | rfl
      · refine W.eq (g2 := F0 m 447 ls [.int 1]) rfl ?_
        refine lv_if_eq (tgt := 478) hx hb dX7_comes_447 (by decide) (fun c_ => absurd c_ (by decide)) (fun c_ => ?_)
        refine lv_aload_n hx hb dX7_comes_450 rfl (lv_at hl 0 rfl) ?_
        obtain ⟨v_85, e_v_85, r_v_85, n_v_85⟩ := f_8_45 hI r_1
        refine t_get (ci := 7) (v := .ref v_85) hB hT (ro_ci r_1 rfl) rfl 45 (by decide) k_790 e_v_85 dX7_comes_451 ?_
        refine lv_iload_n hx hb dX7_comes_454 rfl (lv_at hl 1 rfl) ?_
        have i_u_86 : vp_in f 7 := (i_in (n := 7) rfl (by omega) (by omega))
        refine t_iald hB hT (ro_in r_v_85 (by decide)) n_v_85 i_u_86 rfl dX7_comes_455 ?_
        refine lv_topi (fun u_86 e_u_86 => ?_)
        refine lv_if_eq (tgt := 478) hx hb dX7_comes_456 (by decide) (fun c_87 => ?_) (fun c_87 => ?_)
        · have c_87' : u_86.toInt = 0 := i_eq c_87 rfl (by decide)
          refine lv_iconst (v := 0) hx hb dX7_comes_478 (by decide) ?_
          refine lv_istore (lv' := [(11, .int 0), (0, .ref h), (1, .int f), (2, .int sv), (3, .int pp), (4, .int at1), (5, .int wo), (6, .int v), (7, .int c1), (8, .int kn1), (10, .int do1)]) hx hb dX7_comes_479 hl (by decide) rfl (fun ls hl => ?_)
          refine lv_aload_n hx hb dX7_comes_481 rfl (lv_at hl 1 rfl) ?_
          refine lv_iload_n hx hb dX7_comes_482 rfl (lv_at hl 3 rfl) ?_
          refine lv_iload hx hb dX7_comes_483 (lv_at hl 5 rfl) ?_
          refine t_callV (n := 2) (As := [.int sv, .int at1]) (rest := []) (ci := 7) hB hT hl.1 (m_canAsk l D cI cZ cS cR N0 (sC (sC (sC (sC g1 v_6 kn1.toNatClampNeg wo) v_8 kn1.toNatClampNeg u_10) v_12 kn1.toNatClampNeg v) fta f.toNatClampNeg z_15) hI h sv at1 v_9 u_10 r_1 r_v_9 n_v_9 e_v_9 (by omega) (by omega) (sC_a (sC_a (sC_a e_u_10.symm (ro_ne r_v_9 r_v_8 (by decide))) (ro_ne r_v_9 r_v_12 (by decide))) (ro_ne r_v_9 r_4 (by decide)))) (ro_ci r_1 rfl) rfl k_1023 k_65 k_1020 k_1022 k_31 (by decide +kernel) ⟨(Nat.le_of_ble_eq_true rfl), (Nat.le_of_ble_eq_true rfl)⟩ rfl (Nat.le_of_ble_eq_true rfl) ⟨(Nat.le_of_ble_eq_true rfl), (Nat.le_of_ble_eq_true rfl)⟩ dX7_comes_485 (fun v g_88 H locs hp hT => ?_)
          obtain ⟨r_89, rfl, eg, f_90⟩ := hp
          rw [eg] at hT
          clear eg
          refine W.eq (g2 := F0 m 488 ls [.int r_89]) rfl ?_
          rcases f_90 with ⟨rfl, hw_93⟩ | rfl
          · refine W.eq (g2 := F0 m 488 ls [.int 1]) rfl ?_
            refine lv_if_eq (tgt := 562) hx hb dX7_comes_488 (by decide) (fun c_ => absurd c_ (by decide)) (fun c_ => ?_)
            refine lv_aload_n hx hb dX7_comes_491 rfl (lv_at hl 1 rfl) ?_
            refine lv_aload_n hx hb dX7_comes_492 rfl (lv_at hl 1 rfl) ?_
            refine t_get (ci := 7) (v := .ref v_9) hB hT (ro_ci r_1 rfl) rfl 3 (by decide) k_748 e_v_9 dX7_comes_493 ?_
            refine lv_iload hx hb dX7_comes_496 (lv_at hl 5 rfl) ?_
            have i_u_94 : vp_in at1 48 := (i_in (n := 48) rfl (by omega) (by omega))
            refine t_iald (v := u_10) hB hT (ro_in r_v_9 (by decide)) n_v_9 i_u_94 (sC_a (sC_a (sC_a e_u_10.symm (ro_ne r_v_9 r_v_8 (by decide))) (ro_ne r_v_9 r_v_12 (by decide))) (ro_ne r_v_9 r_4 (by decide))) dX7_comes_498 ?_
            refine lv_iload hx hb dX7_comes_499 (lv_at hl 7 rfl) ?_
            refine lv_iload hx hb dX7_comes_501 (lv_at hl 0 rfl) ?_
            refine t_callV (n := 3) (As := [.int u_10, .int v, .int 0]) (rest := []) (ci := 7) hB hT hl.1 (m_begins l D cI cZ cS cR N0 (sC (sC (sC (sC g1 v_6 kn1.toNatClampNeg wo) v_8 kn1.toNatClampNeg u_10) v_12 kn1.toNatClampNeg v) fta f.toNatClampNeg z_15) hI h u_10 v 0 dd fa r_1 r_2 n_3 kp0 (Sm.v hM r_h (by decide) rfl kfa) (by have q0 : (0 : Int32).toInt = 0 := (by decide); omega) (by have q0 : (0 : Int32).toInt = 0 := (by decide); omega) (by have q0 : (0 : Int32).toInt = 0 := (by decide); omega) (by have q0 : (0 : Int32).toInt = 0 := (by decide); omega) (by have q0 : (0 : Int32).toInt = 0 := (by decide); omega) (by have q0 : (0 : Int32).toInt = 0 := (by decide); omega) (by have q0 : (0 : Int32).toInt = 0 := (by decide); omega) hD) (ro_ci r_1 rfl) rfl k_1055 k_65 k_1052 k_1054 k_37 (by decide +kernel) ⟨(Nat.le_of_ble_eq_true rfl), (Nat.le_of_ble_eq_true rfl)⟩ rfl (Nat.le_of_ble_eq_true rfl) ⟨(Nat.le_of_ble_eq_true rfl), (Nat.le_of_ble_eq_true rfl)⟩ dX7_comes_503 (fun v g_95 H locs hp hT => ?_)
            obtain ⟨r_96, d2_97, rfl, hI, x_102, m_101, f_98, f_99, f_100⟩ := hp
            have hM : Sm md_m_comes g g_95 := hM.tr hE (m_101.mo (fun r k h => mdle_m_comes_m_begins h))
            have hE : Ex g g_95 := hE.tr x_102
            have r_103 : g_95.1 h = 8 := (Ex.r x_102 r_1 (by decide))
            have r_104 : g_95.1 fa = 51 := (Ex.r x_102 r_2 (by decide))
            have r_105 : g_95.1 fta = 55 := (Ex.r x_102 r_4 (by decide))
            have r_106 : g_95.1 v_6 = 50 := (Ex.r x_102 r_v_6 (by decide))
            have r_107 : g_95.1 v_8 = 50 := (Ex.r x_102 r_v_8 (by decide))
            have r_108 : g_95.1 v_9 = 72 := (Ex.r x_102 r_v_9 (by decide))
            have r_109 : g_95.1 v_12 = 50 := (Ex.r x_102 r_v_12 (by decide))
            have r_110 : g_95.1 v_85 = 50 := (Ex.r x_102 r_v_85 (by decide))
            have n_111 : g_95.2.2.1 fa = 7 := (Ex.n x_102 r_2 (by decide) n_3)
            have n_112 : g_95.2.2.1 fta = 7 := (Ex.n x_102 r_4 (by decide) n_5)
            have n_113 : g_95.2.2.1 v_6 = 96 := (Ex.n x_102 r_v_6 (by decide) n_v_6)
            have n_114 : g_95.2.2.1 v_8 = 96 := (Ex.n x_102 r_v_8 (by decide) n_v_8)
            have n_115 : g_95.2.2.1 v_9 = 48 := (Ex.n x_102 r_v_9 (by decide) n_v_9)
            have n_116 : g_95.2.2.1 v_12 = 96 := (Ex.n x_102 r_v_12 (by decide) n_v_12)
            have n_117 : g_95.2.2.1 v_85 = 7 := (Ex.n x_102 r_v_85 (by decide) n_v_85)
            have kn_118 : g_95.2.1 h 52 = .int t0 := (Sm.v m_101 r_1 (by decide) rfl kp1)
            have kn_119 : g_95.2.1 h 21 = .int w := (Sm.v m_101 r_1 (by decide) rfl (Sm.v hM r_h (by decide) rfl kw))
            have kn_120 : g_95.2.1 h 43 = .ref fa := (Sm.v m_101 r_1 (by decide) rfl (Sm.v hM r_h (by decide) rfl kfa))
            have kn_121 : g_95.2.1 h 46 = .ref fta := (Sm.v m_101 r_1 (by decide) rfl (Sm.v hM r_h (by decide) rfl kft))
            have kn_122 : g_95.2.1 h 17 = .ref v_6 := (Sm.v m_101 r_1 (by decide) rfl e_v_6)
            have kn_123 : g_95.2.1 h 18 = .ref v_8 := (Sm.v m_101 r_1 (by decide) rfl e_v_8)
            have kn_124 : g_95.2.1 h 3 = .ref v_9 := (Sm.v m_101 r_1 (by decide) rfl e_v_9)
            have kn_125 : g_95.2.1 h 19 = .ref v_12 := (Sm.v m_101 r_1 (by decide) rfl e_v_12)
            have kn_126 : g_95.2.1 h 45 = .ref v_85 := (Sm.v m_101 r_1 (by decide) rfl e_v_85)
            have kn_127 : g_95.2.2.2.1 v_9 at1.toNatClampNeg = u_10 := (Sm.c m_101 r_v_9 (by decide) rfl (sC_a (sC_a (sC_a e_u_10.symm (ro_ne r_v_9 r_v_8 (by decide))) (ro_ne r_v_9 r_v_12 (by decide))) (ro_ne r_v_9 r_4 (by decide))))
            refine W.eq (g2 := F0 m 506 ls [.int r_96]) rfl ?_
            have hD := f_100
            have qc_128 : (0 : Int32).toInt = 0 := (by decide)
            rcases f_98 with ⟨rfl, hw_129⟩ | ⟨rfl, hw_130⟩
            · refine W.eq (g2 := F0 m 506 ls [.int 1]) rfl ?_
              refine lv_if_eq (tgt := 562) hx hb dX7_comes_506 (by decide) (fun c_ => absurd c_ (by decide)) (fun c_ => ?_)
              refine lv_aload_n hx hb dX7_comes_509 rfl (lv_at hl 1 rfl) ?_
              obtain ⟨v_131, e_v_131, r_v_131, n_v_131⟩ := f_8_47 hI r_103
              refine t_get (ci := 7) (v := .ref v_131) hB hT (ro_ci r_103 rfl) rfl 47 (by decide) k_792 e_v_131 dX7_comes_510 ?_
              refine lv_iload_n hx hb dX7_comes_513 rfl (lv_at hl 2 rfl) ?_
              refine lv_aload_n hx hb dX7_comes_514 rfl (lv_at hl 1 rfl) ?_
              obtain ⟨v_132, e_v_132, l_v_132, u_v_132⟩ := f_8_51 hI r_103
              refine t_get (ci := 7) (v := .int v_132) hB hT (ro_ci r_103 rfl) rfl 51 (by decide) k_796 e_v_132 dX7_comes_515 ?_
              have i_133 : vp_in f 7 := (i_in (n := 7) rfl (by omega) (by omega))
              refine t_iast hB hT (ro_in r_v_131 (by decide)) n_v_131 i_133 dX7_comes_518 (fun H locs hT => ?_)
              have hI : Inv (sC g_95 v_131 f.toNatClampNeg v_132) := hI.sC (ck r_v_131 ⟨by omega, by omega⟩)
              have hM : Sm md_m_comes g (sC g_95 v_131 f.toNatClampNeg v_132) := hM.tr hE (Sm_sC (by rw [r_v_131]; rfl))
              have hE : Ex g (sC g_95 v_131 f.toNatClampNeg v_132) := hE
              have hD : DP (sC g_95 v_131 f.toNatClampNeg v_132) fa d2_97.toInt := hD.sC (ro_ne r_104 r_v_131 (by decide))
              refine lv_goto (tgt := 562) hx hb dX7_comes_519 (by decide) ?_
              exact t_vret hB hr hT (Nat.le_of_ble_eq_true rfl) (Nat.le_of_ble_eq_true rfl) dX7_comes_562 ⟨d2_97, t0, rfl, hI, hE, hM, f_99, kn_118, (by omega), (by omega), (hD.cast (by omega))⟩
            · refine W.eq (g2 := F0 m 506 ls [.int 0]) rfl ?_
              refine lv_if_eq (tgt := 562) hx hb dX7_comes_506 (by decide) (fun c_ => ?_) (fun c_ => absurd (by decide) c_)
              exact t_vret hB hr hT (Nat.le_of_ble_eq_true rfl) (Nat.le_of_ble_eq_true rfl) dX7_comes_562 ⟨d2_97, t0, rfl, hI, hE, hM, f_99, kn_118, (by omega), (by omega), (hD.cast (by omega))⟩
          · refine W.eq (g2 := F0 m 488 ls [.int 0]) rfl ?_
            refine lv_if_eq (tgt := 562) hx hb dX7_comes_488 (by decide) (fun c_ => ?_) (fun c_ => absurd (by decide) c_)
            exact t_vret hB hr hT (Nat.le_of_ble_eq_true rfl) (Nat.le_of_ble_eq_true rfl) dX7_comes_562 ⟨dd, t0, rfl, hI, hE, hM, kp0, kp1, (by omega), (by omega), (hD.cast (by omega))⟩
        · have c_87' : u_86.toInt ≠ 0 := i_ne c_87 rfl (by decide)
          refine lv_aload_n hx hb dX7_comes_459 rfl (lv_at hl 0 rfl) ?_
          refine t_get (ci := 7) (v := .ref v_85) hB hT (ro_ci r_1 rfl) rfl 45 (by decide) k_790 e_v_85 dX7_comes_460 ?_
          refine lv_iload_n hx hb dX7_comes_463 rfl (lv_at hl 1 rfl) ?_
          have i_u_134 : vp_in f 7 := (i_in (n := 7) rfl (by omega) (by omega))
          refine t_iald (v := u_86) hB hT (ro_in r_v_85 (by decide)) n_v_85 i_u_134 e_u_86.symm dX7_comes_464 ?_
          refine lv_bipush (v := 7) hx hb dX7_comes_465 (by decide) ?_
          refine lv_iload_n hx hb dX7_comes_467 rfl (lv_at hl 3 rfl) ?_
          refine lv_imul hx hb dX7_comes_468 ?_
          refine lv_topi (fun z_135 ez_135 => ?_)
          have e_z_135 : z_135.toInt = 7 * pp.toInt := i_mul ez_135 (by decide) rfl (by omega) (by omega)
          refine lv_iadd hx hb dX7_comes_469 ?_
          refine lv_topi (fun z_136 ez_136 => ?_)
          refine lv_bipush (v := 99) hx hb dX7_comes_470 (by decide) ?_
          refine lv_irem hx hb dX7_comes_472 (by decide) ?_
          refine lv_topi (fun z_137 ez_137 => ?_)
          refine lv_iconst (v := 1) hx hb dX7_comes_473 (by decide) ?_
          refine lv_iadd hx hb dX7_comes_474 ?_
          refine lv_topi (fun z_138 ez_138 => ?_)
          refine lv_goto (tgt := 479) hx hb dX7_comes_475 (by decide) ?_
          refine lv_istore (lv' := [(11, .int z_138), (0, .ref h), (1, .int f), (2, .int sv), (3, .int pp), (4, .int at1), (5, .int wo), (6, .int v), (7, .int c1), (8, .int kn1), (10, .int do1)]) hx hb dX7_comes_479 hl (by decide) rfl (fun ls hl => ?_)
          refine lv_aload_n hx hb dX7_comes_481 rfl (lv_at hl 1 rfl) ?_
          refine lv_iload_n hx hb dX7_comes_482 rfl (lv_at hl 3 rfl) ?_
          refine lv_iload hx hb dX7_comes_483 (lv_at hl 5 rfl) ?_
          refine t_callV (n := 2) (As := [.int sv, .int at1]) (rest := []) (ci := 7) hB hT hl.1 (m_canAsk l D cI cZ cS cR N0 (sC (sC (sC (sC g1 v_6 kn1.toNatClampNeg wo) v_8 kn1.toNatClampNeg u_10) v_12 kn1.toNatClampNeg v) fta f.toNatClampNeg z_15) hI h sv at1 v_9 u_10 r_1 r_v_9 n_v_9 e_v_9 (by omega) (by omega) (sC_a (sC_a (sC_a e_u_10.symm (ro_ne r_v_9 r_v_8 (by decide))) (ro_ne r_v_9 r_v_12 (by decide))) (ro_ne r_v_9 r_4 (by decide)))) (ro_ci r_1 rfl) rfl k_1023 k_65 k_1020 k_1022 k_31 (by decide +kernel) ⟨(Nat.le_of_ble_eq_true rfl), (Nat.le_of_ble_eq_true rfl)⟩ rfl (Nat.le_of_ble_eq_true rfl) ⟨(Nat.le_of_ble_eq_true rfl), (Nat.le_of_ble_eq_true rfl)⟩ dX7_comes_485 (fun v g_139 H locs hp hT => ?_)
          obtain ⟨r_140, rfl, eg, f_141⟩ := hp
          rw [eg] at hT
          clear eg
          refine W.eq (g2 := F0 m 488 ls [.int r_140]) rfl ?_
          rcases f_141 with ⟨rfl, hw_144⟩ | rfl
          · refine W.eq (g2 := F0 m 488 ls [.int 1]) rfl ?_
            refine lv_if_eq (tgt := 562) hx hb dX7_comes_488 (by decide) (fun c_ => absurd c_ (by decide)) (fun c_ => ?_)
            refine lv_aload_n hx hb dX7_comes_491 rfl (lv_at hl 1 rfl) ?_
            refine lv_aload_n hx hb dX7_comes_492 rfl (lv_at hl 1 rfl) ?_
            refine t_get (ci := 7) (v := .ref v_9) hB hT (ro_ci r_1 rfl) rfl 3 (by decide) k_748 e_v_9 dX7_comes_493 ?_
            refine lv_iload hx hb dX7_comes_496 (lv_at hl 5 rfl) ?_
            have i_u_145 : vp_in at1 48 := (i_in (n := 48) rfl (by omega) (by omega))
            refine t_iald (v := u_10) hB hT (ro_in r_v_9 (by decide)) n_v_9 i_u_145 (sC_a (sC_a (sC_a e_u_10.symm (ro_ne r_v_9 r_v_8 (by decide))) (ro_ne r_v_9 r_v_12 (by decide))) (ro_ne r_v_9 r_4 (by decide))) dX7_comes_498 ?_
            refine lv_iload hx hb dX7_comes_499 (lv_at hl 7 rfl) ?_
            refine lv_iload hx hb dX7_comes_501 (lv_at hl 0 rfl) ?_
            refine t_callV (n := 3) (As := [.int u_10, .int v, .int z_138]) (rest := []) (ci := 7) hB hT hl.1 (m_begins l D cI cZ cS cR N0 (sC (sC (sC (sC g1 v_6 kn1.toNatClampNeg wo) v_8 kn1.toNatClampNeg u_10) v_12 kn1.toNatClampNeg v) fta f.toNatClampNeg z_15) hI h u_10 v z_138 dd fa r_1 r_2 n_3 kp0 (Sm.v hM r_h (by decide) rfl kfa) (by omega) (by omega) (by omega) (by omega) (by omega) (by omega) (by omega) hD) (ro_ci r_1 rfl) rfl k_1055 k_65 k_1052 k_1054 k_37 (by decide +kernel) ⟨(Nat.le_of_ble_eq_true rfl), (Nat.le_of_ble_eq_true rfl)⟩ rfl (Nat.le_of_ble_eq_true rfl) ⟨(Nat.le_of_ble_eq_true rfl), (Nat.le_of_ble_eq_true rfl)⟩ dX7_comes_503 (fun v g_146 H locs hp hT => ?_)
            obtain ⟨r_147, d2_148, rfl, hI, x_153, m_152, f_149, f_150, f_151⟩ := hp
            have hM : Sm md_m_comes g g_146 := hM.tr hE (m_152.mo (fun r k h => mdle_m_comes_m_begins h))
            have hE : Ex g g_146 := hE.tr x_153
            have r_154 : g_146.1 h = 8 := (Ex.r x_153 r_1 (by decide))
            have r_155 : g_146.1 fa = 51 := (Ex.r x_153 r_2 (by decide))
            have r_156 : g_146.1 fta = 55 := (Ex.r x_153 r_4 (by decide))
            have r_157 : g_146.1 v_6 = 50 := (Ex.r x_153 r_v_6 (by decide))
            have r_158 : g_146.1 v_8 = 50 := (Ex.r x_153 r_v_8 (by decide))
            have r_159 : g_146.1 v_9 = 72 := (Ex.r x_153 r_v_9 (by decide))
            have r_160 : g_146.1 v_12 = 50 := (Ex.r x_153 r_v_12 (by decide))
            have r_161 : g_146.1 v_85 = 50 := (Ex.r x_153 r_v_85 (by decide))
            have n_162 : g_146.2.2.1 fa = 7 := (Ex.n x_153 r_2 (by decide) n_3)
            have n_163 : g_146.2.2.1 fta = 7 := (Ex.n x_153 r_4 (by decide) n_5)
            have n_164 : g_146.2.2.1 v_6 = 96 := (Ex.n x_153 r_v_6 (by decide) n_v_6)
            have n_165 : g_146.2.2.1 v_8 = 96 := (Ex.n x_153 r_v_8 (by decide) n_v_8)
            have n_166 : g_146.2.2.1 v_9 = 48 := (Ex.n x_153 r_v_9 (by decide) n_v_9)
            have n_167 : g_146.2.2.1 v_12 = 96 := (Ex.n x_153 r_v_12 (by decide) n_v_12)
            have n_168 : g_146.2.2.1 v_85 = 7 := (Ex.n x_153 r_v_85 (by decide) n_v_85)
            have kn_169 : g_146.2.1 h 52 = .int t0 := (Sm.v m_152 r_1 (by decide) rfl kp1)
            have kn_170 : g_146.2.1 h 21 = .int w := (Sm.v m_152 r_1 (by decide) rfl (Sm.v hM r_h (by decide) rfl kw))
            have kn_171 : g_146.2.1 h 43 = .ref fa := (Sm.v m_152 r_1 (by decide) rfl (Sm.v hM r_h (by decide) rfl kfa))
            have kn_172 : g_146.2.1 h 46 = .ref fta := (Sm.v m_152 r_1 (by decide) rfl (Sm.v hM r_h (by decide) rfl kft))
            have kn_173 : g_146.2.1 h 17 = .ref v_6 := (Sm.v m_152 r_1 (by decide) rfl e_v_6)
            have kn_174 : g_146.2.1 h 18 = .ref v_8 := (Sm.v m_152 r_1 (by decide) rfl e_v_8)
            have kn_175 : g_146.2.1 h 3 = .ref v_9 := (Sm.v m_152 r_1 (by decide) rfl e_v_9)
            have kn_176 : g_146.2.1 h 19 = .ref v_12 := (Sm.v m_152 r_1 (by decide) rfl e_v_12)
            have kn_177 : g_146.2.1 h 45 = .ref v_85 := (Sm.v m_152 r_1 (by decide) rfl e_v_85)
            have kn_178 : g_146.2.2.2.1 v_9 at1.toNatClampNeg = u_10 := (Sm.c m_152 r_v_9 (by decide) rfl (sC_a (sC_a (sC_a e_u_10.symm (ro_ne r_v_9 r_v_8 (by decide))) (ro_ne r_v_9 r_v_12 (by decide))) (ro_ne r_v_9 r_4 (by decide))))
            refine W.eq (g2 := F0 m 506 ls [.int r_147]) rfl ?_
            have hD := f_151
            rcases f_149 with ⟨rfl, hw_179⟩ | ⟨rfl, hw_180⟩
            · refine W.eq (g2 := F0 m 506 ls [.int 1]) rfl ?_
              refine lv_if_eq (tgt := 562) hx hb dX7_comes_506 (by decide) (fun c_ => absurd c_ (by decide)) (fun c_ => ?_)
              refine lv_aload_n hx hb dX7_comes_509 rfl (lv_at hl 1 rfl) ?_
              obtain ⟨v_181, e_v_181, r_v_181, n_v_181⟩ := f_8_47 hI r_154
              refine t_get (ci := 7) (v := .ref v_181) hB hT (ro_ci r_154 rfl) rfl 47 (by decide) k_792 e_v_181 dX7_comes_510 ?_
              refine lv_iload_n hx hb dX7_comes_513 rfl (lv_at hl 2 rfl) ?_
              refine lv_aload_n hx hb dX7_comes_514 rfl (lv_at hl 1 rfl) ?_
              obtain ⟨v_182, e_v_182, l_v_182, u_v_182⟩ := f_8_51 hI r_154
              refine t_get (ci := 7) (v := .int v_182) hB hT (ro_ci r_154 rfl) rfl 51 (by decide) k_796 e_v_182 dX7_comes_515 ?_
              have i_183 : vp_in f 7 := (i_in (n := 7) rfl (by omega) (by omega))
              refine t_iast hB hT (ro_in r_v_181 (by decide)) n_v_181 i_183 dX7_comes_518 (fun H locs hT => ?_)
              have hI : Inv (sC g_146 v_181 f.toNatClampNeg v_182) := hI.sC (ck r_v_181 ⟨by omega, by omega⟩)
              have hM : Sm md_m_comes g (sC g_146 v_181 f.toNatClampNeg v_182) := hM.tr hE (Sm_sC (by rw [r_v_181]; rfl))
              have hE : Ex g (sC g_146 v_181 f.toNatClampNeg v_182) := hE
              have hD : DP (sC g_146 v_181 f.toNatClampNeg v_182) fa d2_148.toInt := hD.sC (ro_ne r_155 r_v_181 (by decide))
              refine lv_goto (tgt := 562) hx hb dX7_comes_519 (by decide) ?_
              exact t_vret hB hr hT (Nat.le_of_ble_eq_true rfl) (Nat.le_of_ble_eq_true rfl) dX7_comes_562 ⟨d2_148, t0, rfl, hI, hE, hM, f_150, kn_169, (by omega), (by omega), (hD.cast (by omega))⟩
            · refine W.eq (g2 := F0 m 506 ls [.int 0]) rfl ?_
              refine lv_if_eq (tgt := 562) hx hb dX7_comes_506 (by decide) (fun c_ => ?_) (fun c_ => absurd (by decide) c_)
              exact t_vret hB hr hT (Nat.le_of_ble_eq_true rfl) (Nat.le_of_ble_eq_true rfl) dX7_comes_562 ⟨d2_148, t0, rfl, hI, hE, hM, f_150, kn_169, (by omega), (by omega), (hD.cast (by omega))⟩
          · refine W.eq (g2 := F0 m 488 ls [.int 0]) rfl ?_
            refine lv_if_eq (tgt := 562) hx hb dX7_comes_488 (by decide) (fun c_ => ?_) (fun c_ => absurd (by decide) c_)
            exact t_vret hB hr hT (Nat.le_of_ble_eq_true rfl) (Nat.le_of_ble_eq_true rfl) dX7_comes_562 ⟨dd, t0, rfl, hI, hE, hM, kp0, kp1, (by omega), (by omega), (hD.cast (by omega))⟩
      · refine W.eq (g2 := F0 m 447 ls [.int 0]) rfl ?_
        refine lv_if_eq (tgt := 478) hx hb dX7_comes_447 (by decide) (fun c_ => ?_) (fun c_ => absurd (by decide) c_)
        refine lv_iconst (v := 0) hx hb dX7_comes_478 (by decide) ?_
        refine lv_istore (lv' := [(11, .int 0), (0, .ref h), (1, .int f), (2, .int sv), (3, .int pp), (4, .int at1), (5, .int wo), (6, .int v), (7, .int c1), (8, .int kn1), (10, .int do1)]) hx hb dX7_comes_479 hl (by decide) rfl (fun ls hl => ?_)
        refine lv_aload_n hx hb dX7_comes_481 rfl (lv_at hl 1 rfl) ?_
        refine lv_iload_n hx hb dX7_comes_482 rfl (lv_at hl 3 rfl) ?_
        refine lv_iload hx hb dX7_comes_483 (lv_at hl 5 rfl) ?_
        refine t_callV (n := 2) (As := [.int sv, .int at1]) (rest := []) (ci := 7) hB hT hl.1 (m_canAsk l D cI cZ cS cR N0 (sC (sC (sC (sC g1 v_6 kn1.toNatClampNeg wo) v_8 kn1.toNatClampNeg u_10) v_12 kn1.toNatClampNeg v) fta f.toNatClampNeg z_15) hI h sv at1 v_9 u_10 r_1 r_v_9 n_v_9 e_v_9 (by omega) (by omega) (sC_a (sC_a (sC_a e_u_10.symm (ro_ne r_v_9 r_v_8 (by decide))) (ro_ne r_v_9 r_v_12 (by decide))) (ro_ne r_v_9 r_4 (by decide)))) (ro_ci r_1 rfl) rfl k_1023 k_65 k_1020 k_1022 k_31 (by decide +kernel) ⟨(Nat.le_of_ble_eq_true rfl), (Nat.le_of_ble_eq_true rfl)⟩ rfl (Nat.le_of_ble_eq_true rfl) ⟨(Nat.le_of_ble_eq_true rfl), (Nat.le_of_ble_eq_true rfl)⟩ dX7_comes_485 (fun v g_184 H locs hp hT => ?_)
        obtain ⟨r_185, rfl, eg, f_186⟩ := hp
        rw [eg] at hT
        clear eg
        refine W.eq (g2 := F0 m 488 ls [.int r_185]) rfl ?_
        rcases f_186 with ⟨rfl, hw_189⟩ | rfl
        · refine W.eq (g2 := F0 m 488 ls [.int 1]) rfl ?_
          refine lv_if_eq (tgt := 562) hx hb dX7_comes_488 (by decide) (fun c_ => absurd c_ (by decide)) (fun c_ => ?_)
          refine lv_aload_n hx hb dX7_comes_491 rfl (lv_at hl 1 rfl) ?_
          refine lv_aload_n hx hb dX7_comes_492 rfl (lv_at hl 1 rfl) ?_
          refine t_get (ci := 7) (v := .ref v_9) hB hT (ro_ci r_1 rfl) rfl 3 (by decide) k_748 e_v_9 dX7_comes_493 ?_
          refine lv_iload hx hb dX7_comes_496 (lv_at hl 5 rfl) ?_
          have i_u_190 : vp_in at1 48 := (i_in (n := 48) rfl (by omega) (by omega))
          refine t_iald (v := u_10) hB hT (ro_in r_v_9 (by decide)) n_v_9 i_u_190 (sC_a (sC_a (sC_a e_u_10.symm (ro_ne r_v_9 r_v_8 (by decide))) (ro_ne r_v_9 r_v_12 (by decide))) (ro_ne r_v_9 r_4 (by decide))) dX7_comes_498 ?_
          refine lv_iload hx hb dX7_comes_499 (lv_at hl 7 rfl) ?_
          refine lv_iload hx hb dX7_comes_501 (lv_at hl 0 rfl) ?_
          refine t_callV (n := 3) (As := [.int u_10, .int v, .int 0]) (rest := []) (ci := 7) hB hT hl.1 (m_begins l D cI cZ cS cR N0 (sC (sC (sC (sC g1 v_6 kn1.toNatClampNeg wo) v_8 kn1.toNatClampNeg u_10) v_12 kn1.toNatClampNeg v) fta f.toNatClampNeg z_15) hI h u_10 v 0 dd fa r_1 r_2 n_3 kp0 (Sm.v hM r_h (by decide) rfl kfa) (by have q0 : (0 : Int32).toInt = 0 := (by decide); omega) (by have q0 : (0 : Int32).toInt = 0 := (by decide); omega) (by have q0 : (0 : Int32).toInt = 0 := (by decide); omega) (by have q0 : (0 : Int32).toInt = 0 := (by decide); omega) (by have q0 : (0 : Int32).toInt = 0 := (by decide); omega) (by have q0 : (0 : Int32).toInt = 0 := (by decide); omega) (by have q0 : (0 : Int32).toInt = 0 := (by decide); omega) hD) (ro_ci r_1 rfl) rfl k_1055 k_65 k_1052 k_1054 k_37 (by decide +kernel) ⟨(Nat.le_of_ble_eq_true rfl), (Nat.le_of_ble_eq_true rfl)⟩ rfl (Nat.le_of_ble_eq_true rfl) ⟨(Nat.le_of_ble_eq_true rfl), (Nat.le_of_ble_eq_true rfl)⟩ dX7_comes_503 (fun v g_191 H locs hp hT => ?_)
          obtain ⟨r_192, d2_193, rfl, hI, x_198, m_197, f_194, f_195, f_196⟩ := hp
          have hM : Sm md_m_comes g g_191 := hM.tr hE (m_197.mo (fun r k h => mdle_m_comes_m_begins h))
          have hE : Ex g g_191 := hE.tr x_198
          have r_199 : g_191.1 h = 8 := (Ex.r x_198 r_1 (by decide))
          have r_200 : g_191.1 fa = 51 := (Ex.r x_198 r_2 (by decide))
          have r_201 : g_191.1 fta = 55 := (Ex.r x_198 r_4 (by decide))
          have r_202 : g_191.1 v_6 = 50 := (Ex.r x_198 r_v_6 (by decide))
          have r_203 : g_191.1 v_8 = 50 := (Ex.r x_198 r_v_8 (by decide))
          have r_204 : g_191.1 v_9 = 72 := (Ex.r x_198 r_v_9 (by decide))
          have r_205 : g_191.1 v_12 = 50 := (Ex.r x_198 r_v_12 (by decide))
          have n_206 : g_191.2.2.1 fa = 7 := (Ex.n x_198 r_2 (by decide) n_3)
          have n_207 : g_191.2.2.1 fta = 7 := (Ex.n x_198 r_4 (by decide) n_5)
          have n_208 : g_191.2.2.1 v_6 = 96 := (Ex.n x_198 r_v_6 (by decide) n_v_6)
          have n_209 : g_191.2.2.1 v_8 = 96 := (Ex.n x_198 r_v_8 (by decide) n_v_8)
          have n_210 : g_191.2.2.1 v_9 = 48 := (Ex.n x_198 r_v_9 (by decide) n_v_9)
          have n_211 : g_191.2.2.1 v_12 = 96 := (Ex.n x_198 r_v_12 (by decide) n_v_12)
          have kn_212 : g_191.2.1 h 52 = .int t0 := (Sm.v m_197 r_1 (by decide) rfl kp1)
          have kn_213 : g_191.2.1 h 21 = .int w := (Sm.v m_197 r_1 (by decide) rfl (Sm.v hM r_h (by decide) rfl kw))
          have kn_214 : g_191.2.1 h 43 = .ref fa := (Sm.v m_197 r_1 (by decide) rfl (Sm.v hM r_h (by decide) rfl kfa))
          have kn_215 : g_191.2.1 h 46 = .ref fta := (Sm.v m_197 r_1 (by decide) rfl (Sm.v hM r_h (by decide) rfl kft))
          have kn_216 : g_191.2.1 h 17 = .ref v_6 := (Sm.v m_197 r_1 (by decide) rfl e_v_6)
          have kn_217 : g_191.2.1 h 18 = .ref v_8 := (Sm.v m_197 r_1 (by decide) rfl e_v_8)
          have kn_218 : g_191.2.1 h 3 = .ref v_9 := (Sm.v m_197 r_1 (by decide) rfl e_v_9)
          have kn_219 : g_191.2.1 h 19 = .ref v_12 := (Sm.v m_197 r_1 (by decide) rfl e_v_12)
          have kn_220 : g_191.2.2.2.1 v_9 at1.toNatClampNeg = u_10 := (Sm.c m_197 r_v_9 (by decide) rfl (sC_a (sC_a (sC_a e_u_10.symm (ro_ne r_v_9 r_v_8 (by decide))) (ro_ne r_v_9 r_v_12 (by decide))) (ro_ne r_v_9 r_4 (by decide))))
          refine W.eq (g2 := F0 m 506 ls [.int r_192]) rfl ?_
          have hD := f_196
          have qc_221 : (0 : Int32).toInt = 0 := (by decide)
          rcases f_194 with ⟨rfl, hw_222⟩ | ⟨rfl, hw_223⟩
          · refine W.eq (g2 := F0 m 506 ls [.int 1]) rfl ?_
            refine lv_if_eq (tgt := 562) hx hb dX7_comes_506 (by decide) (fun c_ => absurd c_ (by decide)) (fun c_ => ?_)
            refine lv_aload_n hx hb dX7_comes_509 rfl (lv_at hl 1 rfl) ?_
            obtain ⟨v_224, e_v_224, r_v_224, n_v_224⟩ := f_8_47 hI r_199
            refine t_get (ci := 7) (v := .ref v_224) hB hT (ro_ci r_199 rfl) rfl 47 (by decide) k_792 e_v_224 dX7_comes_510 ?_
            refine lv_iload_n hx hb dX7_comes_513 rfl (lv_at hl 2 rfl) ?_
            refine lv_aload_n hx hb dX7_comes_514 rfl (lv_at hl 1 rfl) ?_
            obtain ⟨v_225, e_v_225, l_v_225, u_v_225⟩ := f_8_51 hI r_199
            refine t_get (ci := 7) (v := .int v_225) hB hT (ro_ci r_199 rfl) rfl 51 (by decide) k_796 e_v_225 dX7_comes_515 ?_
            have i_226 : vp_in f 7 := (i_in (n := 7) rfl (by omega) (by omega))
            refine t_iast hB hT (ro_in r_v_224 (by decide)) n_v_224 i_226 dX7_comes_518 (fun H locs hT => ?_)
            have hI : Inv (sC g_191 v_224 f.toNatClampNeg v_225) := hI.sC (ck r_v_224 ⟨by omega, by omega⟩)
            have hM : Sm md_m_comes g (sC g_191 v_224 f.toNatClampNeg v_225) := hM.tr hE (Sm_sC (by rw [r_v_224]; rfl))
            have hE : Ex g (sC g_191 v_224 f.toNatClampNeg v_225) := hE
            have hD : DP (sC g_191 v_224 f.toNatClampNeg v_225) fa d2_193.toInt := hD.sC (ro_ne r_200 r_v_224 (by decide))
            refine lv_goto (tgt := 562) hx hb dX7_comes_519 (by decide) ?_
            exact t_vret hB hr hT (Nat.le_of_ble_eq_true rfl) (Nat.le_of_ble_eq_true rfl) dX7_comes_562 ⟨d2_193, t0, rfl, hI, hE, hM, f_195, kn_212, (by omega), (by omega), (hD.cast (by omega))⟩
          · refine W.eq (g2 := F0 m 506 ls [.int 0]) rfl ?_
            refine lv_if_eq (tgt := 562) hx hb dX7_comes_506 (by decide) (fun c_ => ?_) (fun c_ => absurd (by decide) c_)
            exact t_vret hB hr hT (Nat.le_of_ble_eq_true rfl) (Nat.le_of_ble_eq_true rfl) dX7_comes_562 ⟨d2_193, t0, rfl, hI, hE, hM, f_195, kn_212, (by omega), (by omega), (hD.cast (by omega))⟩
        · refine W.eq (g2 := F0 m 488 ls [.int 0]) rfl ?_
          refine lv_if_eq (tgt := 562) hx hb dX7_comes_488 (by decide) (fun c_ => ?_) (fun c_ => absurd (by decide) c_)
          exact t_vret hB hr hT (Nat.le_of_ble_eq_true rfl) (Nat.le_of_ble_eq_true rfl) dX7_comes_562 ⟨dd, t0, rfl, hI, hE, hM, kp0, kp1, (by omega), (by omega), (hD.cast (by omega))⟩
    · refine x_ev (y := 6) ej_18 ?_
      refine lv_tableIn (off := 289) (tgt := 522) hx hb dX7_comes_233 (by decide) (by decide) rfl (by decide) ?_
      refine lv_iload hx hb dX7_comes_522 (lv_at hl 9 rfl) ?_
      refine lv_if_eq (tgt := 562) hx hb dX7_comes_524 (by decide) (fun c_227 => ?_) (fun c_227 => ?_)
      · have c_227' : do1.toInt = 0 := i_eq c_227 rfl (by decide)
        exact t_vret hB hr hT (Nat.le_of_ble_eq_true rfl) (Nat.le_of_ble_eq_true rfl) dX7_comes_562 ⟨dd, t0, rfl, hI, hE, hM, kp0, kp1, (by omega), (by omega), (hD.cast (by omega))⟩
      · have c_227' : do1.toInt ≠ 0 := i_ne c_227 rfl (by decide)
        refine lv_aload_n hx hb dX7_comes_527 rfl (lv_at hl 0 rfl) ?_
        refine lv_iload hx hb dX7_comes_528 (lv_at hl 6 rfl) ?_
        refine t_callV (n := 1) (As := [.int v]) (rest := []) (ci := 7) hB hT hl.1 (m_puts l D cI cZ cS cR N0 (sC (sC (sC (sC g1 v_6 kn1.toNatClampNeg wo) v_8 kn1.toNatClampNeg u_10) v_12 kn1.toNatClampNeg v) fta f.toNatClampNeg z_15) hI h v t0 w r_1 kp1 (Sm.v hM r_h (by decide) rfl kw) (by omega) (by omega) (by omega) (by omega) (by omega) (by omega) (by omega)) (ro_ci r_1 rfl) rfl k_1079 k_65 k_1076 k_1078 k_43 (by decide +kernel) ⟨(Nat.le_of_ble_eq_true rfl), (Nat.le_of_ble_eq_true rfl)⟩ rfl (Nat.le_of_ble_eq_true rfl) ⟨(Nat.le_of_ble_eq_true rfl), (Nat.le_of_ble_eq_true rfl)⟩ dX7_comes_530 (fun v g_228 H locs hp hT => ?_)
        obtain ⟨t2_229, rfl, hI, x_233, m_232, f_230, f_231⟩ := hp
        have hD : DP g_228 fa dd.toInt := hD.sm m_232 r_2 (by decide) rfl
        have hM : Sm md_m_comes g g_228 := hM.tr hE (m_232.mo (fun r k h => mdle_m_comes_m_puts h))
        have hE : Ex g g_228 := hE.tr x_233
        have r_234 : g_228.1 h = 8 := (Ex.r x_233 r_1 (by decide))
        have r_235 : g_228.1 fa = 51 := (Ex.r x_233 r_2 (by decide))
        have r_236 : g_228.1 fta = 55 := (Ex.r x_233 r_4 (by decide))
        have r_237 : g_228.1 v_6 = 50 := (Ex.r x_233 r_v_6 (by decide))
        have r_238 : g_228.1 v_8 = 50 := (Ex.r x_233 r_v_8 (by decide))
        have r_239 : g_228.1 v_9 = 72 := (Ex.r x_233 r_v_9 (by decide))
        have r_240 : g_228.1 v_12 = 50 := (Ex.r x_233 r_v_12 (by decide))
        have n_241 : g_228.2.2.1 fa = 7 := (Ex.n x_233 r_2 (by decide) n_3)
        have n_242 : g_228.2.2.1 fta = 7 := (Ex.n x_233 r_4 (by decide) n_5)
        have n_243 : g_228.2.2.1 v_6 = 96 := (Ex.n x_233 r_v_6 (by decide) n_v_6)
        have n_244 : g_228.2.2.1 v_8 = 96 := (Ex.n x_233 r_v_8 (by decide) n_v_8)
        have n_245 : g_228.2.2.1 v_9 = 48 := (Ex.n x_233 r_v_9 (by decide) n_v_9)
        have n_246 : g_228.2.2.1 v_12 = 96 := (Ex.n x_233 r_v_12 (by decide) n_v_12)
        have kn_247 : g_228.2.1 h 49 = .int dd := (Sm.v m_232 r_1 (by decide) rfl kp0)
        have kn_248 : g_228.2.1 h 21 = .int w := (Sm.v m_232 r_1 (by decide) rfl (Sm.v hM r_h (by decide) rfl kw))
        have kn_249 : g_228.2.1 h 43 = .ref fa := (Sm.v m_232 r_1 (by decide) rfl (Sm.v hM r_h (by decide) rfl kfa))
        have kn_250 : g_228.2.1 h 46 = .ref fta := (Sm.v m_232 r_1 (by decide) rfl (Sm.v hM r_h (by decide) rfl kft))
        have kn_251 : g_228.2.1 h 17 = .ref v_6 := (Sm.v m_232 r_1 (by decide) rfl e_v_6)
        have kn_252 : g_228.2.1 h 18 = .ref v_8 := (Sm.v m_232 r_1 (by decide) rfl e_v_8)
        have kn_253 : g_228.2.1 h 3 = .ref v_9 := (Sm.v m_232 r_1 (by decide) rfl e_v_9)
        have kn_254 : g_228.2.1 h 19 = .ref v_12 := (Sm.v m_232 r_1 (by decide) rfl e_v_12)
        have kn_255 : g_228.2.2.2.1 v_9 at1.toNatClampNeg = u_10 := (Sm.c m_232 r_v_9 (by decide) rfl (sC_a (sC_a (sC_a e_u_10.symm (ro_ne r_v_9 r_v_8 (by decide))) (ro_ne r_v_9 r_v_12 (by decide))) (ro_ne r_v_9 r_4 (by decide))))
        have kn_256 : g_228.2.2.2.1 fta f.toNatClampNeg = z_15 := (Sm.c m_232 r_4 (by decide) rfl sC_eq)
        refine W.eq (g2 := F0 m 533 ls []) rfl ?_
        refine lv_goto (tgt := 562) hx hb dX7_comes_533 (by decide) ?_
        exact t_vret hB hr hT (Nat.le_of_ble_eq_true rfl) (Nat.le_of_ble_eq_true rfl) dX7_comes_562 ⟨dd, t2_229, rfl, hI, hE, hM, kn_247, f_230, (by omega), (by omega), (hD.cast (by omega))⟩
set_option maxHeartbeats 4000000 in
set_option maxRecDepth 100000 in
theorem lt_m_comes_b (l : Launch) (D : va_G) (cI cZ cS cR : ClassId) (N0 : NT) (g : GS) (h : Nat) (dd : Int32) (t0 : Int32) (w : Int32) (fa : Nat) (fta : Nat) (r_h : g.1 h = 8) (r_fa : g.1 fa = 51) (n_fa : g.2.2.1 fa = 7) (r_fta : g.1 fta = 55) (n_fta : g.2.2.1 fta = 7) (kdd : g.2.1 h 49 = .int dd) (kt0 : g.2.1 h 52 = .int t0) (kw : g.2.1 h 21 = .int w) (kfa : g.2.1 h 43 = .ref fa) (kft : g.2.1 h 46 = .ref fta) (l_dd : 1 ≤ dd.toInt) (u_dd : dd.toInt ≤ 6) (l_t0 : 0 ≤ t0.toInt) (u_t0 : t0.toInt ≤ 1200) (l_w : 0 ≤ w.toInt) (u_w : w.toInt ≤ 1) (hw0 : w.toInt = 0 ∨ t0.toInt ≤ 1199) (hD : DP g fa dd.toInt) (hat : ∀ f : Int32, f.toInt = dd.toInt - 1 → (g.2.2.2.1 fta f.toNatClampNeg).toInt ≤ 7) (hw : PX 48 2 3 71 72 g h) {p : Program} {e : Env} {s : State} {m : MethodId} {args : Array Value} {below : List Frame} {meth : Method} {c : Code} (hB : Tz p s m meth c args cX7_comes 12 RX7 D cI cZ cS cR N0) (hr : meth.sig.returnType = none)    : ∀ (g1 : GS) (f : Int32) (sv : Int32) (pp : Int32) (at1 : Int32) (wo : Int32) (v : Int32) (c1 : Int32) (kn1 : Int32) (ag : Int32)  (H : Heap) (locs : List Loc) (ls : Array Slot), Tv D cI cZ cS cR N0 s.heap H locs g1 → Inv g1 → Ex g g1 → Sm md_m_comes g g1 → 0 ≤ f.toInt → f.toInt ≤ 5 → 0 ≤ sv.toInt → sv.toInt ≤ 5 → 0 ≤ pp.toInt → pp.toInt ≤ 7 → 0 ≤ at1.toInt → at1.toInt ≤ 47 → 0 ≤ v.toInt → v.toInt ≤ 999 → 0 ≤ c1.toInt → c1.toInt ≤ 47 → 0 ≤ kn1.toInt → kn1.toInt ≤ 95 → 0 ≤ ag.toInt → ag.toInt ≤ 1 → g1.2.1 h 49 = .int dd → g1.2.1 h 52 = .int t0 → g1.2.2.2.1 fta f.toNatClampNeg = pp → (DP g1 fa dd.toInt) → (f.toInt = dd.toInt - 1 ∧ f.toInt ≤ sv.toInt) → lv_has ls 12 [(0, .ref h), (1, .int f), (2, .int sv), (3, .int pp), (4, .int at1), (5, .int wo), (6, .int v), (7, .int c1), (8, .int kn1), (9, .int ag)] → W p l e (rmx 4 0 0) s m args below meth c H locs 0 0 (MQ below (tQ D cI cZ cS cR N0 (fun v g' => ∃ (d2 : Int32) (t2 : Int32), v = none ∧ Inv g' ∧ Ex g g' ∧ Sm md_m_comes g g' ∧ (g'.2.1 h 49 = .int d2) ∧ (g'.2.1 h 52 = .int t2) ∧ (0 ≤ d2.toInt ∧ d2.toInt ≤ 6 ∧ d2.toInt ≤ dd.toInt + 1) ∧ (0 ≤ t2.toInt ∧ t2.toInt ≤ 1200 ∧ (w.toInt = 0 ∨ t2.toInt ≤ t0.toInt + 1)) ∧ (DP g' fa d2.toInt))) args s 0 0 (fun q => N0.1 ≤ q)) (F0 m 159 ls []) := by
  have hx := hB.1
  have hb := hB.2.1
  intro g1 f sv pp at1 wo v c1 kn1 ag H locs ls hT hI hE hM l_f u_f l_sv u_sv l_pp u_pp l_at1 u_at1 l_v u_v l_c1 u_c1 l_kn1 u_kn1 l_ag u_ag kp0 kp1 kc0 hD hfs hl
  have r_1 : g1.1 h = 8 := Ex.r hE r_h (by decide)
  have r_2 : g1.1 fa = 51 := Ex.r hE r_fa (by decide)
  have n_3 : g1.2.2.1 fa = 7 := Ex.n hE r_fa (by decide) n_fa
  have r_4 : g1.1 fta = 55 := Ex.r hE r_fta (by decide)
  have n_5 : g1.2.2.1 fta = 7 := Ex.n hE r_fta (by decide) n_fta
  refine lv_iload hx hb dX7_comes_159 (lv_at hl 9 rfl) ?_
  refine lv_if_eq (tgt := 182) hx hb dX7_comes_161 (by decide) (fun c_6 => ?_) (fun c_6 => ?_)
  · have c_6' : ag.toInt = 0 := i_eq c_6 rfl (by decide)
    refine lv_iconst (v := 1) hx hb dX7_comes_182 (by decide) ?_
    refine lv_goto (tgt := 187) hx hb dX7_comes_183 (by decide) ?_
    refine lv_istore (lv' := [(10, .int 1), (0, .ref h), (1, .int f), (2, .int sv), (3, .int pp), (4, .int at1), (5, .int wo), (6, .int v), (7, .int c1), (8, .int kn1), (9, .int ag)]) hx hb dX7_comes_187 hl (by decide) rfl (fun ls hl => ?_)
    exact lt_m_comes_c l D cI cZ cS cR N0 g h dd t0 w fa fta r_h r_fa n_fa r_fta n_fta kdd kt0 kw kfa kft l_dd u_dd l_t0 u_t0 l_w u_w hw0 hD hat hw hB hr   g1 f sv pp at1 wo v c1 kn1 (1 : Int32) H locs ls hT hI hE hM (by omega) (by omega) (by omega) (by omega) (by omega) (by omega) (by omega) (by omega) (by omega) (by omega) (by omega) (by omega) (by omega) (by omega) (by decide) (by decide) kp0 kp1 kc0 hD (by omega) (lv_sub hl [1, 2, 3, 4, 5, 6, 7, 8, 9, 0] rfl)
  · have c_6' : ag.toInt ≠ 0 := i_ne c_6 rfl (by decide)
    refine lv_iload hx hb dX7_comes_164 (lv_at hl 5 rfl) ?_
    refine lv_if_eq (tgt := 186) hx hb dX7_comes_166 (by decide) (fun c_7 => ?_) (fun c_7 => ?_)
    · have c_7' : wo.toInt = 0 := i_eq c_7 rfl (by decide)
      refine lv_iconst (v := 0) hx hb dX7_comes_186 (by decide) ?_
      refine lv_istore (lv' := [(10, .int 0), (0, .ref h), (1, .int f), (2, .int sv), (3, .int pp), (4, .int at1), (5, .int wo), (6, .int v), (7, .int c1), (8, .int kn1), (9, .int ag)]) hx hb dX7_comes_187 hl (by decide) rfl (fun ls hl => ?_)
      exact lt_m_comes_c l D cI cZ cS cR N0 g h dd t0 w fa fta r_h r_fa n_fa r_fta n_fta kdd kt0 kw kfa kft l_dd u_dd l_t0 u_t0 l_w u_w hw0 hD hat hw hB hr   g1 f sv pp at1 wo v c1 kn1 (0 : Int32) H locs ls hT hI hE hM (by omega) (by omega) (by omega) (by omega) (by omega) (by omega) (by omega) (by omega) (by omega) (by omega) (by omega) (by omega) (by omega) (by omega) (by decide) (by decide) kp0 kp1 kc0 hD (by omega) (lv_sub hl [1, 2, 3, 4, 5, 6, 7, 8, 9, 0] rfl)
    · have c_7' : wo.toInt ≠ 0 := i_ne c_7 rfl (by decide)
      refine lv_iload hx hb dX7_comes_169 (lv_at hl 5 rfl) ?_
      refine lv_iconst (v := 2) hx hb dX7_comes_171 (by decide) ?_
      refine lv_icmp_eq (tgt := 186) hx hb dX7_comes_172 (by decide) (fun c_8 => ?_) (fun c_8 => ?_)
      · have c_8' : wo.toInt = 2 := i_eq c_8 rfl (by decide)
        refine lv_iconst (v := 0) hx hb dX7_comes_186 (by decide) ?_
        refine lv_istore (lv' := [(10, .int 0), (0, .ref h), (1, .int f), (2, .int sv), (3, .int pp), (4, .int at1), (5, .int wo), (6, .int v), (7, .int c1), (8, .int kn1), (9, .int ag)]) hx hb dX7_comes_187 hl (by decide) rfl (fun ls hl => ?_)
        exact lt_m_comes_c l D cI cZ cS cR N0 g h dd t0 w fa fta r_h r_fa n_fa r_fta n_fta kdd kt0 kw kfa kft l_dd u_dd l_t0 u_t0 l_w u_w hw0 hD hat hw hB hr   g1 f sv pp at1 wo v c1 kn1 (0 : Int32) H locs ls hT hI hE hM (by omega) (by omega) (by omega) (by omega) (by omega) (by omega) (by omega) (by omega) (by omega) (by omega) (by omega) (by omega) (by omega) (by omega) (by decide) (by decide) kp0 kp1 kc0 hD (by omega) (lv_sub hl [1, 2, 3, 4, 5, 6, 7, 8, 9, 0] rfl)
      · have c_8' : wo.toInt ≠ 2 := i_ne c_8 rfl (by decide)
        refine lv_iload hx hb dX7_comes_175 (lv_at hl 5 rfl) ?_
        refine lv_bipush (v := 6) hx hb dX7_comes_177 (by decide) ?_
        refine lv_icmp_eq (tgt := 186) hx hb dX7_comes_179 (by decide) (fun c_9 => ?_) (fun c_9 => ?_)
        · have c_9' : wo.toInt = 6 := i_eq c_9 rfl (by decide)
          refine lv_iconst (v := 0) hx hb dX7_comes_186 (by decide) ?_
          refine lv_istore (lv' := [(10, .int 0), (0, .ref h), (1, .int f), (2, .int sv), (3, .int pp), (4, .int at1), (5, .int wo), (6, .int v), (7, .int c1), (8, .int kn1), (9, .int ag)]) hx hb dX7_comes_187 hl (by decide) rfl (fun ls hl => ?_)
          exact lt_m_comes_c l D cI cZ cS cR N0 g h dd t0 w fa fta r_h r_fa n_fa r_fta n_fta kdd kt0 kw kfa kft l_dd u_dd l_t0 u_t0 l_w u_w hw0 hD hat hw hB hr   g1 f sv pp at1 wo v c1 kn1 (0 : Int32) H locs ls hT hI hE hM (by omega) (by omega) (by omega) (by omega) (by omega) (by omega) (by omega) (by omega) (by omega) (by omega) (by omega) (by omega) (by omega) (by omega) (by decide) (by decide) kp0 kp1 kc0 hD (by omega) (lv_sub hl [1, 2, 3, 4, 5, 6, 7, 8, 9, 0] rfl)
        · have c_9' : wo.toInt ≠ 6 := i_ne c_9 rfl (by decide)
          refine lv_iconst (v := 1) hx hb dX7_comes_182 (by decide) ?_
          refine lv_goto (tgt := 187) hx hb dX7_comes_183 (by decide) ?_
          refine lv_istore (lv' := [(10, .int 1), (0, .ref h), (1, .int f), (2, .int sv), (3, .int pp), (4, .int at1), (5, .int wo), (6, .int v), (7, .int c1), (8, .int kn1), (9, .int ag)]) hx hb dX7_comes_187 hl (by decide) rfl (fun ls hl => ?_)
          exact lt_m_comes_c l D cI cZ cS cR N0 g h dd t0 w fa fta r_h r_fa n_fa r_fta n_fta kdd kt0 kw kfa kft l_dd u_dd l_t0 u_t0 l_w u_w hw0 hD hat hw hB hr   g1 f sv pp at1 wo v c1 kn1 (1 : Int32) H locs ls hT hI hE hM (by omega) (by omega) (by omega) (by omega) (by omega) (by omega) (by omega) (by omega) (by omega) (by omega) (by omega) (by omega) (by omega) (by omega) (by decide) (by decide) kp0 kp1 kc0 hD (by omega) (lv_sub hl [1, 2, 3, 4, 5, 6, 7, 8, 9, 0] rfl)
set_option maxHeartbeats 4000000 in
set_option maxRecDepth 100000 in
theorem lt_m_comes_a (l : Launch) (D : va_G) (cI cZ cS cR : ClassId) (N0 : NT) (g : GS) (h : Nat) (dd : Int32) (t0 : Int32) (w : Int32) (fa : Nat) (fta : Nat) (r_h : g.1 h = 8) (r_fa : g.1 fa = 51) (n_fa : g.2.2.1 fa = 7) (r_fta : g.1 fta = 55) (n_fta : g.2.2.1 fta = 7) (kdd : g.2.1 h 49 = .int dd) (kt0 : g.2.1 h 52 = .int t0) (kw : g.2.1 h 21 = .int w) (kfa : g.2.1 h 43 = .ref fa) (kft : g.2.1 h 46 = .ref fta) (l_dd : 1 ≤ dd.toInt) (u_dd : dd.toInt ≤ 6) (l_t0 : 0 ≤ t0.toInt) (u_t0 : t0.toInt ≤ 1200) (l_w : 0 ≤ w.toInt) (u_w : w.toInt ≤ 1) (hw0 : w.toInt = 0 ∨ t0.toInt ≤ 1199) (hD : DP g fa dd.toInt) (hat : ∀ f : Int32, f.toInt = dd.toInt - 1 → (g.2.2.2.1 fta f.toNatClampNeg).toInt ≤ 7) (hw : PX 48 2 3 71 72 g h) {p : Program} {e : Env} {s : State} {m : MethodId} {args : Array Value} {below : List Frame} {meth : Method} {c : Code} (hB : Tz p s m meth c args cX7_comes 12 RX7 D cI cZ cS cR N0) (hr : meth.sig.returnType = none)    : ∀ (g1 : GS) (f : Int32) (sv : Int32) (pp : Int32) (at1 : Int32) (wo : Int32) (v : Int32) (c1 : Int32)  (H : Heap) (locs : List Loc) (ls : Array Slot), Tv D cI cZ cS cR N0 s.heap H locs g1 → Inv g1 → Ex g g1 → Sm md_m_comes g g1 → 0 ≤ f.toInt → f.toInt ≤ 5 → 0 ≤ sv.toInt → sv.toInt ≤ 5 → 0 ≤ pp.toInt → pp.toInt ≤ 7 → 0 ≤ at1.toInt → at1.toInt ≤ 47 → 0 ≤ v.toInt → v.toInt ≤ 999 → 0 ≤ c1.toInt → c1.toInt ≤ 47 → g1.2.1 h 49 = .int dd → g1.2.1 h 52 = .int t0 → g1.2.2.2.1 fta f.toNatClampNeg = pp → (DP g1 fa dd.toInt) → (f.toInt = dd.toInt - 1 ∧ f.toInt ≤ sv.toInt) → lv_has ls 12 [(0, .ref h), (1, .int f), (2, .int sv), (3, .int pp), (4, .int at1), (5, .int wo), (6, .int v), (7, .int c1)] → W p l e (rmx 4 0 0) s m args below meth c H locs 0 0 (MQ below (tQ D cI cZ cS cR N0 (fun v g' => ∃ (d2 : Int32) (t2 : Int32), v = none ∧ Inv g' ∧ Ex g g' ∧ Sm md_m_comes g g' ∧ (g'.2.1 h 49 = .int d2) ∧ (g'.2.1 h 52 = .int t2) ∧ (0 ≤ d2.toInt ∧ d2.toInt ≤ 6 ∧ d2.toInt ≤ dd.toInt + 1) ∧ (0 ≤ t2.toInt ∧ t2.toInt ≤ 1200 ∧ (w.toInt = 0 ∨ t2.toInt ≤ t0.toInt + 1)) ∧ (DP g' fa d2.toInt))) args s 0 0 (fun q => N0.1 ≤ q)) (F0 m 81 ls []) := by
  have hx := hB.1
  have hb := hB.2.1
  intro g1 f sv pp at1 wo v c1 H locs ls hT hI hE hM l_f u_f l_sv u_sv l_pp u_pp l_at1 u_at1 l_v u_v l_c1 u_c1 kp0 kp1 kc0 hD hfs hl
  have r_1 : g1.1 h = 8 := Ex.r hE r_h (by decide)
  have r_2 : g1.1 fa = 51 := Ex.r hE r_fa (by decide)
  have n_3 : g1.2.2.1 fa = 7 := Ex.n hE r_fa (by decide) n_fa
  have r_4 : g1.1 fta = 55 := Ex.r hE r_fta (by decide)
  have n_5 : g1.2.2.1 fta = 7 := Ex.n hE r_fta (by decide) n_fta
  refine lv_bipush (v := 8) hx hb dX7_comes_81 (by decide) ?_
  refine lv_aload_n hx hb dX7_comes_83 rfl (lv_at hl 0 rfl) ?_
  refine lv_iload_n hx hb dX7_comes_84 rfl (lv_at hl 2 rfl) ?_
  refine t_callV (n := 1) (As := [.int sv]) (rest := [.int 8]) (ci := 7) hB hT hl.1 (m_base l D cI cZ cS cR N0 g1 hI h sv w r_1 (Sm.v hM r_h (by decide) rfl kw) (by omega) (by omega) (by omega) (by omega)) (ro_ci r_1 rfl) rfl k_1043 k_65 k_1040 k_1042 k_34 (by decide +kernel) ⟨(Nat.le_of_ble_eq_true rfl), (Nat.le_of_ble_eq_true rfl)⟩ rfl (Nat.le_of_ble_eq_true rfl) ⟨(Nat.le_of_ble_eq_true rfl), (Nat.le_of_ble_eq_true rfl)⟩ dX7_comes_85 (fun v g_6 H locs hp hT => ?_)
  obtain ⟨r_7, rfl, eg, f_8, f_9⟩ := hp
  rw [eg] at hT
  clear eg
  refine W.eq (g2 := F0 m 88 ls [.int r_7, .int 8]) rfl ?_
  refine lv_imul hx hb dX7_comes_88 ?_
  refine lv_topi (fun z_12 ez_12 => ?_)
  have e_z_12 : z_12.toInt = 8 * r_7.toInt := i_mul ez_12 (by decide) rfl (by omega) (by omega)
  refine lv_iload_n hx hb dX7_comes_89 rfl (lv_at hl 3 rfl) ?_
  refine lv_iadd hx hb dX7_comes_90 ?_
  refine lv_topi (fun z_13 ez_13 => ?_)
  have e_z_13 : z_13.toInt = z_12.toInt + pp.toInt := i_add ez_13 rfl rfl (by omega) (by omega)
  refine lv_istore (lv' := [(8, .int z_13), (0, .ref h), (1, .int f), (2, .int sv), (3, .int pp), (4, .int at1), (5, .int wo), (6, .int v), (7, .int c1)]) hx hb dX7_comes_91 hl (by decide) rfl (fun ls hl => ?_)
  refine lv_aload_n hx hb dX7_comes_93 rfl (lv_at hl 1 rfl) ?_
  refine lv_iload_n hx hb dX7_comes_94 rfl (lv_at hl 3 rfl) ?_
  refine lv_iconst (v := 3) hx hb dX7_comes_95 (by decide) ?_
  refine t_callV (n := 2) (As := [.int sv, .int 3]) (rest := []) (ci := 7) hB hT hl.1 (m_has l D cI cZ cS cR N0 g1 hI h sv 3 r_1 (by have q0 : (3 : Int32).toInt = 3 := (by decide); omega) (by have q0 : (3 : Int32).toInt = 3 := (by decide); omega)) (ro_ci r_1 rfl) rfl k_999 k_65 k_996 k_998 k_28 (by decide +kernel) ⟨(Nat.le_of_ble_eq_true rfl), (Nat.le_of_ble_eq_true rfl)⟩ rfl (Nat.le_of_ble_eq_true rfl) ⟨(Nat.le_of_ble_eq_true rfl), (Nat.le_of_ble_eq_true rfl)⟩ dX7_comes_96 (fun v g_14 H locs hp hT => ?_)
  obtain ⟨r_15, rfl, eg, f_16⟩ := hp
  rw [eg] at hT
  clear eg
  refine W.eq (g2 := F0 m 99 ls [.int r_15]) rfl ?_
  have qc_19 : (3 : Int32).toInt = 3 := (by decide)
  rcases f_16 with rfl | rfl
  · refine W.eq (g2 := F0 m 99 ls [.int 1]) rfl ?_
    refine lv_if_eq (tgt := 156) hx hb dX7_comes_99 (by decide) (fun c_ => absurd c_ (by decide)) (fun c_ => ?_)
    refine lv_aload_n hx hb dX7_comes_102 rfl (lv_at hl 1 rfl) ?_
    obtain ⟨v_20, e_v_20, r_v_20, n_v_20⟩ := f_8_48 hI r_1
    refine t_get (ci := 7) (v := .ref v_20) hB hT (ro_ci r_1 rfl) rfl 48 (by decide) k_793 e_v_20 dX7_comes_103 ?_
    refine lv_iload_n hx hb dX7_comes_106 rfl (lv_at hl 2 rfl) ?_
    have i_u_21 : vp_in f 7 := (i_in (n := 7) rfl (by omega) (by omega))
    refine t_zald hB hT r_v_20 n_v_20 i_u_21 rfl dX7_comes_107 ?_
    refine lv_topi (fun u_21 e_u_21 => ?_)
    refine lv_if_eq (tgt := 156) hx hb dX7_comes_108 (by decide) (fun c_22 => ?_) (fun c_22 => ?_)
    · have c_22' : u_21.toInt = 0 := i_eq c_22 rfl (by decide)
      refine lv_iconst (v := 0) hx hb dX7_comes_156 (by decide) ?_
      refine lv_istore (lv' := [(9, .int 0), (8, .int z_13), (0, .ref h), (1, .int f), (2, .int sv), (3, .int pp), (4, .int at1), (5, .int wo), (6, .int v), (7, .int c1)]) hx hb dX7_comes_157 hl (by decide) rfl (fun ls hl => ?_)
      exact lt_m_comes_b l D cI cZ cS cR N0 g h dd t0 w fa fta r_h r_fa n_fa r_fta n_fta kdd kt0 kw kfa kft l_dd u_dd l_t0 u_t0 l_w u_w hw0 hD hat hw hB hr   g1 f sv pp at1 wo v c1 z_13 (0 : Int32) H locs ls hT hI hE hM (by omega) (by omega) (by omega) (by omega) (by omega) (by omega) (by omega) (by omega) (by omega) (by omega) (by omega) (by omega) (by omega) (by omega) (by decide) (by decide) kp0 kp1 kc0 hD (by omega) (lv_sub hl [2, 3, 4, 5, 6, 7, 8, 9, 1, 0] rfl)
    · have c_22' : u_21.toInt ≠ 0 := i_ne c_22 rfl (by decide)
      refine lv_aload_n hx hb dX7_comes_111 rfl (lv_at hl 1 rfl) ?_
      obtain ⟨v_23, e_v_23, r_v_23, n_v_23⟩ := f_8_54 hI r_1
      refine t_get (ci := 7) (v := .ref v_23) hB hT (ro_ci r_1 rfl) rfl 54 (by decide) k_799 e_v_23 dX7_comes_112 ?_
      refine lv_iload hx hb dX7_comes_115 (lv_at hl 5 rfl) ?_
      have i_u_24 : vp_in at1 48 := (i_in (n := 48) rfl (by omega) (by omega))
      refine t_iald hB hT (ro_in r_v_23 (by decide)) n_v_23 i_u_24 rfl dX7_comes_117 ?_
      refine lv_topi (fun u_24 e_u_24 => ?_)
      refine lv_iload hx hb dX7_comes_118 (lv_at hl 6 rfl) ?_
      refine lv_icmp_ne (tgt := 156) hx hb dX7_comes_120 (by decide) (fun c_25 => ?_) (fun c_25 => ?_)
      · have c_25' : u_24.toInt ≠ wo.toInt := i_ne c_25 rfl rfl
        refine lv_iconst (v := 0) hx hb dX7_comes_156 (by decide) ?_
        refine lv_istore (lv' := [(9, .int 0), (8, .int z_13), (0, .ref h), (1, .int f), (2, .int sv), (3, .int pp), (4, .int at1), (5, .int wo), (6, .int v), (7, .int c1)]) hx hb dX7_comes_157 hl (by decide) rfl (fun ls hl => ?_)
        exact lt_m_comes_b l D cI cZ cS cR N0 g h dd t0 w fa fta r_h r_fa n_fa r_fta n_fta kdd kt0 kw kfa kft l_dd u_dd l_t0 u_t0 l_w u_w hw0 hD hat hw hB hr   g1 f sv pp at1 wo v c1 z_13 (0 : Int32) H locs ls hT hI hE hM (by omega) (by omega) (by omega) (by omega) (by omega) (by omega) (by omega) (by omega) (by omega) (by omega) (by omega) (by omega) (by omega) (by omega) (by decide) (by decide) kp0 kp1 kc0 hD (by omega) (lv_sub hl [2, 3, 4, 5, 6, 7, 8, 9, 1, 0] rfl)
      · have c_25' : u_24.toInt = wo.toInt := i_eq c_25 rfl rfl
        refine lv_aload_n hx hb dX7_comes_123 rfl (lv_at hl 1 rfl) ?_
        obtain ⟨v_26, e_v_26, r_v_26, n_v_26⟩ := f_8_55 hI r_1
        refine t_get (ci := 7) (v := .ref v_26) hB hT (ro_ci r_1 rfl) rfl 55 (by decide) k_800 e_v_26 dX7_comes_124 ?_
        refine lv_iload hx hb dX7_comes_127 (lv_at hl 5 rfl) ?_
        have i_u_27 : vp_in at1 48 := (i_in (n := 48) rfl (by omega) (by omega))
        refine t_iald hB hT (ro_in r_v_26 (by decide)) n_v_26 i_u_27 rfl dX7_comes_129 ?_
        refine lv_topi (fun u_27 e_u_27 => ?_)
        refine lv_aload_n hx hb dX7_comes_130 rfl (lv_at hl 1 rfl) ?_
        obtain ⟨v_28, e_v_28, r_v_28, n_v_28⟩ := f_8_3 hI r_1
        refine t_get (ci := 7) (v := .ref v_28) hB hT (ro_ci r_1 rfl) rfl 3 (by decide) k_748 e_v_28 dX7_comes_131 ?_
        refine lv_iload hx hb dX7_comes_134 (lv_at hl 5 rfl) ?_
        have i_u_29 : vp_in at1 48 := (i_in (n := 48) rfl (by omega) (by omega))
        refine t_iald hB hT (ro_in r_v_28 (by decide)) n_v_28 i_u_29 rfl dX7_comes_136 ?_
        have c_u_29 := hI.c r_v_28 n_v_28 (i_cl i_u_29)
        refine lv_topi (fun u_29 e_u_29 => ?_)
        obtain ⟨l_u_29, u_u_29⟩ := c_u_29
        rw [← e_u_29] at l_u_29 u_u_29
        refine lv_icmp_ne (tgt := 156) hx hb dX7_comes_137 (by decide) (fun c_30 => ?_) (fun c_30 => ?_)
        · have c_30' : u_27.toInt ≠ u_29.toInt := i_ne c_30 rfl rfl
          refine lv_iconst (v := 0) hx hb dX7_comes_156 (by decide) ?_
          refine lv_istore (lv' := [(9, .int 0), (8, .int z_13), (0, .ref h), (1, .int f), (2, .int sv), (3, .int pp), (4, .int at1), (5, .int wo), (6, .int v), (7, .int c1)]) hx hb dX7_comes_157 hl (by decide) rfl (fun ls hl => ?_)
          exact lt_m_comes_b l D cI cZ cS cR N0 g h dd t0 w fa fta r_h r_fa n_fa r_fta n_fta kdd kt0 kw kfa kft l_dd u_dd l_t0 u_t0 l_w u_w hw0 hD hat hw hB hr   g1 f sv pp at1 wo v c1 z_13 (0 : Int32) H locs ls hT hI hE hM (by omega) (by omega) (by omega) (by omega) (by omega) (by omega) (by omega) (by omega) (by omega) (by omega) (by omega) (by omega) (by omega) (by omega) (by decide) (by decide) kp0 kp1 kc0 hD (by omega) (lv_sub hl [2, 3, 4, 5, 6, 7, 8, 9, 1, 0] rfl)
        · have c_30' : u_27.toInt = u_29.toInt := i_eq c_30 rfl rfl
          refine lv_aload_n hx hb dX7_comes_140 rfl (lv_at hl 1 rfl) ?_
          obtain ⟨v_31, e_v_31, r_v_31, n_v_31⟩ := f_8_56 hI r_1
          refine t_get (ci := 7) (v := .ref v_31) hB hT (ro_ci r_1 rfl) rfl 56 (by decide) k_801 e_v_31 dX7_comes_141 ?_
          refine lv_iload hx hb dX7_comes_144 (lv_at hl 5 rfl) ?_
          have i_u_32 : vp_in at1 48 := (i_in (n := 48) rfl (by omega) (by omega))
          refine t_iald hB hT (ro_in r_v_31 (by decide)) n_v_31 i_u_32 rfl dX7_comes_146 ?_
          refine lv_topi (fun u_32 e_u_32 => ?_)
          refine lv_iload hx hb dX7_comes_147 (lv_at hl 7 rfl) ?_
          refine lv_icmp_ne (tgt := 156) hx hb dX7_comes_149 (by decide) (fun c_33 => ?_) (fun c_33 => ?_)
          · have c_33' : u_32.toInt ≠ v.toInt := i_ne c_33 rfl rfl
            refine lv_iconst (v := 0) hx hb dX7_comes_156 (by decide) ?_
            refine lv_istore (lv' := [(9, .int 0), (8, .int z_13), (0, .ref h), (1, .int f), (2, .int sv), (3, .int pp), (4, .int at1), (5, .int wo), (6, .int v), (7, .int c1)]) hx hb dX7_comes_157 hl (by decide) rfl (fun ls hl => ?_)
            exact lt_m_comes_b l D cI cZ cS cR N0 g h dd t0 w fa fta r_h r_fa n_fa r_fta n_fta kdd kt0 kw kfa kft l_dd u_dd l_t0 u_t0 l_w u_w hw0 hD hat hw hB hr   g1 f sv pp at1 wo v c1 z_13 (0 : Int32) H locs ls hT hI hE hM (by omega) (by omega) (by omega) (by omega) (by omega) (by omega) (by omega) (by omega) (by omega) (by omega) (by omega) (by omega) (by omega) (by omega) (by decide) (by decide) kp0 kp1 kc0 hD (by omega) (lv_sub hl [2, 3, 4, 5, 6, 7, 8, 9, 1, 0] rfl)
          · have c_33' : u_32.toInt = v.toInt := i_eq c_33 rfl rfl
            refine lv_iconst (v := 1) hx hb dX7_comes_152 (by decide) ?_
            refine lv_goto (tgt := 157) hx hb dX7_comes_153 (by decide) ?_
            refine lv_istore (lv' := [(9, .int 1), (8, .int z_13), (0, .ref h), (1, .int f), (2, .int sv), (3, .int pp), (4, .int at1), (5, .int wo), (6, .int v), (7, .int c1)]) hx hb dX7_comes_157 hl (by decide) rfl (fun ls hl => ?_)
            exact lt_m_comes_b l D cI cZ cS cR N0 g h dd t0 w fa fta r_h r_fa n_fa r_fta n_fta kdd kt0 kw kfa kft l_dd u_dd l_t0 u_t0 l_w u_w hw0 hD hat hw hB hr   g1 f sv pp at1 wo v c1 z_13 (1 : Int32) H locs ls hT hI hE hM (by omega) (by omega) (by omega) (by omega) (by omega) (by omega) (by omega) (by omega) (by omega) (by omega) (by omega) (by omega) (by omega) (by omega) (by decide) (by decide) kp0 kp1 kc0 hD (by omega) (lv_sub hl [2, 3, 4, 5, 6, 7, 8, 9, 1, 0] rfl)
  · refine W.eq (g2 := F0 m 99 ls [.int 0]) rfl ?_
    refine lv_if_eq (tgt := 156) hx hb dX7_comes_99 (by decide) (fun c_ => ?_) (fun c_ => absurd (by decide) c_)
    refine lv_iconst (v := 0) hx hb dX7_comes_156 (by decide) ?_
    refine lv_istore (lv' := [(9, .int 0), (8, .int z_13), (0, .ref h), (1, .int f), (2, .int sv), (3, .int pp), (4, .int at1), (5, .int wo), (6, .int v), (7, .int c1)]) hx hb dX7_comes_157 hl (by decide) rfl (fun ls hl => ?_)
    exact lt_m_comes_b l D cI cZ cS cR N0 g h dd t0 w fa fta r_h r_fa n_fa r_fta n_fta kdd kt0 kw kfa kft l_dd u_dd l_t0 u_t0 l_w u_w hw0 hD hat hw hB hr   g1 f sv pp at1 wo v c1 z_13 (0 : Int32) H locs ls hT hI hE hM (by omega) (by omega) (by omega) (by omega) (by omega) (by omega) (by omega) (by omega) (by omega) (by omega) (by omega) (by omega) (by omega) (by omega) (by decide) (by decide) kp0 kp1 kc0 hD (by omega) (lv_sub hl [2, 3, 4, 5, 6, 7, 8, 9, 1, 0] rfl)
set_option maxHeartbeats 4000000 in
set_option maxRecDepth 100000 in
theorem m_comes (l : Launch) (D : va_G) (cI cZ cS cR : ClassId) (N0 : NT) (g : GS) (hI : Inv g) (h : Nat) (dd : Int32) (t0 : Int32) (w : Int32) (fa : Nat) (fta : Nat) (r_h : g.1 h = 8) (r_fa : g.1 fa = 51) (n_fa : g.2.2.1 fa = 7) (r_fta : g.1 fta = 55) (n_fta : g.2.2.1 fta = 7) (kdd : g.2.1 h 49 = .int dd) (kt0 : g.2.1 h 52 = .int t0) (kw : g.2.1 h 21 = .int w) (kfa : g.2.1 h 43 = .ref fa) (kft : g.2.1 h 46 = .ref fta) (l_dd : 1 ≤ dd.toInt) (u_dd : dd.toInt ≤ 6) (l_t0 : 0 ≤ t0.toInt) (u_t0 : t0.toInt ≤ 1200) (l_w : 0 ≤ w.toInt) (u_w : w.toInt ≤ 1) (hw0 : w.toInt = 0 ∨ t0.toInt ≤ 1199) (hD : DP g fa dd.toInt) (hat : ∀ f : Int32, f.toInt = dd.toInt - 1 → (g.2.2.2.1 fta f.toNatClampNeg).toInt ≤ 7) (hw : PX 48 2 3 71 72 g h) : Ty l D cI cZ cS cR N0 yX7_comes cX7_comes 12 none 4 0 0 [.ref h] g (fun v g' => ∃ (d2 : Int32) (t2 : Int32), v = none ∧ Inv g' ∧ Ex g g' ∧ Sm md_m_comes g g' ∧ (g'.2.1 h 49 = .int d2) ∧ (g'.2.1 h 52 = .int t2) ∧ (0 ≤ d2.toInt ∧ d2.toInt ≤ 6 ∧ d2.toInt ≤ dd.toInt + 1) ∧ (0 ≤ t2.toInt ∧ t2.toInt ≤ 1200 ∧ (w.toInt = 0 ∨ t2.toInt ≤ t0.toInt + 1)) ∧ (DP g' fa d2.toInt)) := by
  refine t_enter (by decide) (Nat.le_of_ble_eq_true rfl) ?_
  intro p e s m args below meth c ls H locs hB hr hin hl hT
  have hx := hB.1
  have hb := hB.2.1
  have hl : lv_has ls 12 [(0, .ref h)] := hl
  have hE : Ex g g := Ex.rf
  have hM : Sm md_m_comes g g := Sm.rf
  refine lv_aload_n hx hb dX7_comes_0 rfl (lv_at hl 0 rfl) ?_
  refine t_get (ci := 7) (v := .int dd) hB hT (ro_ci r_h rfl) rfl 49 (by decide) k_794 kdd dX7_comes_1 ?_
  refine lv_iconst (v := 1) hx hb dX7_comes_4 (by decide) ?_
  refine lv_isub hx hb dX7_comes_5 ?_
  refine lv_topi (fun z_1 ez_1 => ?_)
  have e_z_1 : z_1.toInt = dd.toInt - 1 := i_sub ez_1 rfl (by decide) (by omega) (by omega)
  refine lv_istore_n (lv' := [(1, .int z_1), (0, .ref h)]) hx hb dX7_comes_6 rfl hl (by decide) rfl (fun ls hl => ?_)
  refine lv_aload_n hx hb dX7_comes_7 rfl (lv_at hl 1 rfl) ?_
  refine t_get (ci := 7) (v := .ref fa) hB hT (ro_ci r_h rfl) rfl 43 (by decide) k_788 kfa dX7_comes_8 ?_
  refine lv_iload_n hx hb dX7_comes_11 rfl (lv_at hl 0 rfl) ?_
  have i_u_2 : vp_in z_1 7 := (i_in (n := 7) rfl (by omega) (by omega))
  refine t_iald hB hT (ro_in r_fa (by decide)) n_fa i_u_2 rfl dX7_comes_12 ?_
  have c_u_2 := hI.c r_fa n_fa (i_cl i_u_2)
  refine lv_topi (fun u_2 e_u_2 => ?_)
  obtain ⟨l_u_2, u_u_2⟩ := c_u_2
  rw [← e_u_2] at l_u_2 u_u_2
  have hsf := hD.at (f := z_1) (by omega) (by omega) e_u_2.symm
  refine lv_istore_n (lv' := [(2, .int u_2), (1, .int z_1), (0, .ref h)]) hx hb dX7_comes_13 rfl hl (by decide) rfl (fun ls hl => ?_)
  refine lv_aload_n hx hb dX7_comes_14 rfl (lv_at hl 2 rfl) ?_
  refine t_get (ci := 7) (v := .ref fta) hB hT (ro_ci r_h rfl) rfl 46 (by decide) k_791 kft dX7_comes_15 ?_
  refine lv_iload_n hx hb dX7_comes_18 rfl (lv_at hl 1 rfl) ?_
  have i_u_3 : vp_in z_1 7 := (i_in (n := 7) rfl (by omega) (by omega))
  refine t_iald hB hT (ro_in r_fta (by decide)) n_fta i_u_3 rfl dX7_comes_19 ?_
  have c_u_3 := hI.c r_fta n_fta (i_cl i_u_3)
  refine lv_topi (fun u_3 e_u_3 => ?_)
  obtain ⟨l_u_3, u_u_3⟩ := c_u_3
  rw [← e_u_3] at l_u_3 u_u_3
  have hat1 := hat z_1 (by omega)
  rw [e_u_3.symm] at hat1
  refine lv_istore_n (lv' := [(3, .int u_3), (2, .int u_2), (1, .int z_1), (0, .ref h)]) hx hb dX7_comes_20 rfl hl (by decide) rfl (fun ls hl => ?_)
  refine lv_bipush (v := 8) hx hb dX7_comes_21 (by decide) ?_
  refine lv_iload_n hx hb dX7_comes_23 rfl (lv_at hl 1 rfl) ?_
  refine lv_imul hx hb dX7_comes_24 ?_
  refine lv_topi (fun z_4 ez_4 => ?_)
  have e_z_4 : z_4.toInt = 8 * u_2.toInt := i_mul ez_4 (by decide) rfl (by omega) (by omega)
  refine lv_iload_n hx hb dX7_comes_25 rfl (lv_at hl 0 rfl) ?_
  refine lv_iadd hx hb dX7_comes_26 ?_
  refine lv_topi (fun z_5 ez_5 => ?_)
  have e_z_5 : z_5.toInt = z_4.toInt + u_3.toInt := i_add ez_5 rfl rfl (by omega) (by omega)
  refine lv_istore (lv' := [(4, .int z_5), (3, .int u_3), (2, .int u_2), (1, .int z_1), (0, .ref h)]) hx hb dX7_comes_27 hl (by decide) rfl (fun ls hl => ?_)
  refine lv_aload_n hx hb dX7_comes_29 rfl (lv_at hl 4 rfl) ?_
  obtain ⟨v_6, e_v_6, r_v_6, n_v_6⟩ := f_8_2 hI r_h
  refine t_get (ci := 7) (v := .ref v_6) hB hT (ro_ci r_h rfl) rfl 2 (by decide) k_747 e_v_6 dX7_comes_30 ?_
  refine lv_iload hx hb dX7_comes_33 (lv_at hl 0 rfl) ?_
  have i_u_7 : vp_in z_5 48 := (i_in (n := 48) rfl (by omega) (by omega))
  refine t_iald hB hT (ro_in r_v_6 (by decide)) n_v_6 i_u_7 rfl dX7_comes_35 ?_
  refine lv_topi (fun u_7 e_u_7 => ?_)
  refine lv_istore (lv' := [(5, .int u_7), (4, .int z_5), (3, .int u_3), (2, .int u_2), (1, .int z_1), (0, .ref h)]) hx hb dX7_comes_36 hl (by decide) rfl (fun ls hl => ?_)
  refine lv_aload_n hx hb dX7_comes_38 rfl (lv_at hl 5 rfl) ?_
  refine lv_iload hx hb dX7_comes_39 (lv_at hl 1 rfl) ?_
  refine lv_iload_n hx hb dX7_comes_41 rfl (lv_at hl 4 rfl) ?_
  refine t_callV (n := 2) (As := [.int z_5, .int z_1]) (rest := []) (ci := 7) hB hT hl.1 (m_valued l D cI cZ cS cR N0 g hI h z_5 z_1 r_h (by omega) (by omega) (by omega) (by omega)) (ro_ci r_h rfl) rfl k_1075 k_65 k_1072 k_1074 k_42 (by decide +kernel) ⟨(Nat.le_of_ble_eq_true rfl), (Nat.le_of_ble_eq_true rfl)⟩ rfl (Nat.le_of_ble_eq_true rfl) ⟨(Nat.le_of_ble_eq_true rfl), (Nat.le_of_ble_eq_true rfl)⟩ dX7_comes_42 (fun v g_8 H locs hp hT => ?_)
  obtain ⟨r_9, rfl, eg, f_10⟩ := hp
  rw [eg] at hT
  clear eg
  refine W.eq (g2 := F0 m 45 ls [.int r_9]) rfl ?_
  refine lv_istore (lv' := [(6, .int r_9), (5, .int u_7), (4, .int z_5), (3, .int u_3), (2, .int u_2), (1, .int z_1), (0, .ref h)]) hx hb dX7_comes_45 hl (by decide) rfl (fun ls hl => ?_)
  refine lv_iconst (v := 4) hx hb dX7_comes_47 (by decide) ?_
  refine lv_aload_n hx hb dX7_comes_48 rfl (lv_at hl 6 rfl) ?_
  refine lv_iload_n hx hb dX7_comes_49 rfl (lv_at hl 4 rfl) ?_
  refine t_callV (n := 1) (As := [.int u_2]) (rest := [.int 4]) (ci := 7) hB hT hl.1 (m_base l D cI cZ cS cR N0 g hI h u_2 w r_h kw (by omega) (by omega) (by omega) (by omega)) (ro_ci r_h rfl) rfl k_1043 k_65 k_1040 k_1042 k_34 (by decide +kernel) ⟨(Nat.le_of_ble_eq_true rfl), (Nat.le_of_ble_eq_true rfl)⟩ rfl (Nat.le_of_ble_eq_true rfl) ⟨(Nat.le_of_ble_eq_true rfl), (Nat.le_of_ble_eq_true rfl)⟩ dX7_comes_50 (fun v g_13 H locs hp hT => ?_)
  obtain ⟨r_14, rfl, eg, f_15, f_16⟩ := hp
  rw [eg] at hT
  clear eg
  refine W.eq (g2 := F0 m 53 ls [.int r_14, .int 4]) rfl ?_
  refine lv_imul hx hb dX7_comes_53 ?_
  refine lv_topi (fun z_19 ez_19 => ?_)
  have e_z_19 : z_19.toInt = 4 * r_14.toInt := i_mul ez_19 (by decide) rfl (by omega) (by omega)
  refine lv_iload hx hb dX7_comes_54 (lv_at hl 1 rfl) ?_
  refine lv_iconst (v := 5) hx hb dX7_comes_56 (by decide) ?_
  refine lv_icmp_eq (tgt := 67) hx hb dX7_comes_57 (by decide) (fun c_20 => ?_) (fun c_20 => ?_)
  · have c_20' : u_7.toInt = 5 := i_eq c_20 rfl (by decide)
    refine lv_iconst (v := 0) hx hb dX7_comes_67 (by decide) ?_
    refine lv_goto (tgt := 78) hx hb dX7_comes_68 (by decide) ?_
    refine lv_iadd hx hb dX7_comes_78 ?_
    refine lv_topi (fun z_21 ez_21 => ?_)
    have e_z_21 : z_21.toInt = z_19.toInt + 0 := i_add ez_21 rfl (by decide) (by omega) (by omega)
    refine lv_istore (lv' := [(7, .int z_21), (6, .int r_9), (5, .int u_7), (4, .int z_5), (3, .int u_3), (2, .int u_2), (1, .int z_1), (0, .ref h)]) hx hb dX7_comes_79 hl (by decide) rfl (fun ls hl => ?_)
    exact lt_m_comes_a l D cI cZ cS cR N0 g h dd t0 w fa fta r_h r_fa n_fa r_fta n_fta kdd kt0 kw kfa kft l_dd u_dd l_t0 u_t0 l_w u_w hw0 hD hat hw hB hr   g z_1 u_2 u_3 z_5 u_7 r_9 z_21 H locs ls hT hI hE hM (by omega) (by omega) (by omega) (by omega) (by omega) (by omega) (by omega) (by omega) (by omega) (by omega) (by omega) (by omega) kdd kt0 e_u_3.symm hD (by omega) (lv_sub hl [7, 6, 5, 4, 3, 2, 1, 0] rfl)
  · have c_20' : u_7.toInt ≠ 5 := i_ne c_20 rfl (by decide)
    refine lv_iload hx hb dX7_comes_60 (lv_at hl 1 rfl) ?_
    refine lv_bipush (v := 6) hx hb dX7_comes_62 (by decide) ?_
    refine lv_icmp_ne (tgt := 71) hx hb dX7_comes_64 (by decide) (fun c_22 => ?_) (fun c_22 => ?_)
    · have c_22' : u_7.toInt ≠ 6 := i_ne c_22 rfl (by decide)
      refine lv_aload_n hx hb dX7_comes_71 rfl (lv_at hl 6 rfl) ?_
      obtain ⟨v_23, e_v_23, r_v_23, n_v_23⟩ := f_8_3 hI r_h
      refine t_get (ci := 7) (v := .ref v_23) hB hT (ro_ci r_h rfl) rfl 3 (by decide) k_748 e_v_23 dX7_comes_72 ?_
      refine lv_iload hx hb dX7_comes_75 (lv_at hl 2 rfl) ?_
      have i_u_24 : vp_in z_5 48 := (i_in (n := 48) rfl (by omega) (by omega))
      refine t_iald hB hT (ro_in r_v_23 (by decide)) n_v_23 i_u_24 rfl dX7_comes_77 ?_
      have c_u_24 := hI.c r_v_23 n_v_23 (i_cl i_u_24)
      refine lv_topi (fun u_24 e_u_24 => ?_)
      obtain ⟨l_u_24, u_u_24⟩ := c_u_24
      rw [← e_u_24] at l_u_24 u_u_24
      have hwp := PLu (PX.use hw e_v_6 e_v_23 z_5.toNatClampNeg (i_cl (i_in (n := 48) rfl (by omega) (by omega)))) e_u_24.symm e_u_7.symm
      refine lv_iadd hx hb dX7_comes_78 ?_
      refine lv_topi (fun z_25 ez_25 => ?_)
      have e_z_25 : z_25.toInt = z_19.toInt + u_24.toInt := i_add ez_25 rfl rfl (by omega) (by omega)
      refine lv_istore (lv' := [(7, .int z_25), (6, .int r_9), (5, .int u_7), (4, .int z_5), (3, .int u_3), (2, .int u_2), (1, .int z_1), (0, .ref h)]) hx hb dX7_comes_79 hl (by decide) rfl (fun ls hl => ?_)
      exact lt_m_comes_a l D cI cZ cS cR N0 g h dd t0 w fa fta r_h r_fa n_fa r_fta n_fta kdd kt0 kw kfa kft l_dd u_dd l_t0 u_t0 l_w u_w hw0 hD hat hw hB hr   g z_1 u_2 u_3 z_5 u_7 r_9 z_25 H locs ls hT hI hE hM (by omega) (by omega) (by omega) (by omega) (by omega) (by omega) (by omega) (by omega) (by omega) (by omega) (by omega) (by omega) kdd kt0 e_u_3.symm hD (by omega) (lv_sub hl [7, 6, 5, 4, 3, 2, 1, 0] rfl)
    · have c_22' : u_7.toInt = 6 := i_eq c_22 rfl (by decide)
      refine lv_iconst (v := 0) hx hb dX7_comes_67 (by decide) ?_
      refine lv_goto (tgt := 78) hx hb dX7_comes_68 (by decide) ?_
      refine lv_iadd hx hb dX7_comes_78 ?_
      refine lv_topi (fun z_26 ez_26 => ?_)
      have e_z_26 : z_26.toInt = z_19.toInt + 0 := i_add ez_26 rfl (by decide) (by omega) (by omega)
      refine lv_istore (lv' := [(7, .int z_26), (6, .int r_9), (5, .int u_7), (4, .int z_5), (3, .int u_3), (2, .int u_2), (1, .int z_1), (0, .ref h)]) hx hb dX7_comes_79 hl (by decide) rfl (fun ls hl => ?_)
      exact lt_m_comes_a l D cI cZ cS cR N0 g h dd t0 w fa fta r_h r_fa n_fa r_fta n_fta kdd kt0 kw kfa kft l_dd u_dd l_t0 u_t0 l_w u_w hw0 hD hat hw hB hr   g z_1 u_2 u_3 z_5 u_7 r_9 z_26 H locs ls hT hI hE hM (by omega) (by omega) (by omega) (by omega) (by omega) (by omega) (by omega) (by omega) (by omega) (by omega) (by omega) (by omega) kdd kt0 e_u_3.symm hD (by omega) (lv_sub hl [7, 6, 5, 4, 3, 2, 1, 0] rfl)
