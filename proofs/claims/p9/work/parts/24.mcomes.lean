theorem k_31 : Cond.selects RX7 yX7_canAsk yX7_canAsk ∈ tb := mt 31 (by decide +kernel) rfl
theorem k_37 : Cond.selects RX7 yX7_begins yX7_begins ∈ tb := mt 37 (by decide +kernel) rfl
theorem k_42 : Cond.selects RX7 yX7_valued yX7_valued ∈ tb := mt 42 (by decide +kernel) rfl
theorem k_43 : Cond.selects RX7 yX7_puts yX7_puts ∈ tb := mt 43 (by decide +kernel) rfl
theorem k_753 : Cond.fieldLink RX7 31 "TwiceOnceModel" "count" "[I" ∈ tb := mt 753 (by decide +kernel) rfl
theorem k_1020 : Cond.methodLink RX7 220 yX7_canAsk ∈ tb := mt 1020 (by decide +kernel) rfl
theorem k_1022 : Cond.instanceMethod yX7_canAsk ∈ tb := mt 1022 (by decide +kernel) rfl
set_option maxRecDepth 20000 in
theorem k_1023 : Cond.code yX7_canAsk cX7_canAsk 3 (some .boolean) ∈ tb := mt 1023 rfl rfl
theorem k_1052 : Cond.methodLink RX7 265 yX7_begins ∈ tb := mt 1052 (by decide +kernel) rfl
theorem k_1054 : Cond.instanceMethod yX7_begins ∈ tb := mt 1054 (by decide +kernel) rfl
set_option maxRecDepth 20000 in
theorem k_1055 : Cond.code yX7_begins cX7_begins 8 (some .boolean) ∈ tb := mt 1055 rfl rfl
theorem k_1072 : Cond.methodLink RX7 262 yX7_valued ∈ tb := mt 1072 (by decide +kernel) rfl
theorem k_1074 : Cond.instanceMethod yX7_valued ∈ tb := mt 1074 (by decide +kernel) rfl
set_option maxRecDepth 20000 in
theorem k_1075 : Cond.code yX7_valued cX7_valued 4 (some .int) ∈ tb := mt 1075 rfl rfl
theorem k_1076 : Cond.methodLink RX7 268 yX7_puts ∈ tb := mt 1076 (by decide +kernel) rfl
theorem k_1078 : Cond.instanceMethod yX7_puts ∈ tb := mt 1078 (by decide +kernel) rfl
set_option maxRecDepth 20000 in
theorem k_1079 : Cond.code yX7_puts cX7_puts 3 none ∈ tb := mt 1079 rfl rfl
theorem dX7_comes_189 : decode cX7_comes 189 = .ok (.aload_n 0, 1) := by decide +kernel
theorem dX7_comes_190 : decode cX7_comes 190 = .ok (.getfield 58, 3) := by decide +kernel
theorem dX7_comes_193 : decode cX7_comes 193 = .ok (.iload 8, 2) := by decide +kernel
theorem dX7_comes_195 : decode cX7_comes 195 = .ok (.iload 5, 2) := by decide +kernel
theorem dX7_comes_197 : decode cX7_comes 197 = .ok (.iastore, 1) := by decide +kernel
theorem dX7_comes_198 : decode cX7_comes 198 = .ok (.aload_n 0, 1) := by decide +kernel
theorem dX7_comes_199 : decode cX7_comes 199 = .ok (.getfield 61, 3) := by decide +kernel
theorem dX7_comes_202 : decode cX7_comes 202 = .ok (.iload 8, 2) := by decide +kernel
theorem dX7_comes_204 : decode cX7_comes 204 = .ok (.aload_n 0, 1) := by decide +kernel
theorem dX7_comes_205 : decode cX7_comes 205 = .ok (.getfield 16, 3) := by decide +kernel
theorem dX7_comes_208 : decode cX7_comes 208 = .ok (.iload 4, 2) := by decide +kernel
theorem dX7_comes_210 : decode cX7_comes 210 = .ok (.iaload, 1) := by decide +kernel
theorem dX7_comes_211 : decode cX7_comes 211 = .ok (.iastore, 1) := by decide +kernel
theorem dX7_comes_212 : decode cX7_comes 212 = .ok (.aload_n 0, 1) := by decide +kernel
theorem dX7_comes_213 : decode cX7_comes 213 = .ok (.getfield 64, 3) := by decide +kernel
theorem dX7_comes_216 : decode cX7_comes 216 = .ok (.iload 8, 2) := by decide +kernel
theorem dX7_comes_218 : decode cX7_comes 218 = .ok (.iload 6, 2) := by decide +kernel
theorem dX7_comes_220 : decode cX7_comes 220 = .ok (.iastore, 1) := by decide +kernel
theorem dX7_comes_221 : decode cX7_comes 221 = .ok (.aload_n 0, 1) := by decide +kernel
theorem dX7_comes_222 : decode cX7_comes 222 = .ok (.getfield 119, 3) := by decide +kernel
theorem dX7_comes_225 : decode cX7_comes 225 = .ok (.iload_n 1, 1) := by decide +kernel
theorem dX7_comes_226 : decode cX7_comes 226 = .ok (.dup2, 1) := by decide +kernel
theorem dX7_comes_227 : decode cX7_comes 227 = .ok (.iaload, 1) := by decide +kernel
theorem dX7_comes_228 : decode cX7_comes 228 = .ok (.iconst 1, 1) := by decide +kernel
theorem dX7_comes_229 : decode cX7_comes 229 = .ok (.iadd, 1) := by decide +kernel
theorem dX7_comes_230 : decode cX7_comes 230 = .ok (.iastore, 1) := by decide +kernel
theorem dX7_comes_231 : decode cX7_comes 231 = .ok (.iload 5, 2) := by decide +kernel
theorem dX7_comes_233 : decode cX7_comes 233 = .ok (.tableswitch 303 0 6 #[43, 70, 94, 133, 192, 208, 289], 43) := by decide +kernel
theorem dX7_comes_536 : decode cX7_comes 536 = .ok (.aload_n 0, 1) := by decide +kernel
theorem dX7_comes_537 : decode cX7_comes 537 = .ok (.getfield 119, 3) := by decide +kernel
theorem dX7_comes_540 : decode cX7_comes 540 = .ok (.iload_n 1, 1) := by decide +kernel
theorem dX7_comes_541 : decode cX7_comes 541 = .ok (.dup2, 1) := by decide +kernel
theorem dX7_comes_542 : decode cX7_comes 542 = .ok (.iaload, 1) := by decide +kernel
theorem dX7_comes_543 : decode cX7_comes 543 = .ok (.aload_n 0, 1) := by decide +kernel
theorem dX7_comes_544 : decode cX7_comes 544 = .ok (.getfield 28, 3) := by decide +kernel
theorem dX7_comes_547 : decode cX7_comes 547 = .ok (.iload 7, 2) := by decide +kernel
theorem dX7_comes_549 : decode cX7_comes 549 = .ok (.iaload, 1) := by decide +kernel
theorem dX7_comes_550 : decode cX7_comes 550 = .ok (.iload 6, 2) := by decide +kernel
theorem dX7_comes_552 : decode cX7_comes 552 = .ok (.if_icmp .ne 7, 3) := by decide +kernel
theorem dX7_comes_559 : decode cX7_comes 559 = .ok (.iconst 1, 1) := by decide +kernel
theorem dX7_comes_560 : decode cX7_comes 560 = .ok (.iadd, 1) := by decide +kernel
theorem dX7_comes_561 : decode cX7_comes 561 = .ok (.iastore, 1) := by decide +kernel
theorem dX7_comes_562 : decode cX7_comes 562 = .ok (.return_, 1) := by decide +kernel
theorem dX7_comes_555 : decode cX7_comes 555 = .ok (.iconst 0, 1) := by decide +kernel
theorem dX7_comes_556 : decode cX7_comes 556 = .ok (.goto 4, 3) := by decide +kernel
theorem dX7_comes_276 : decode cX7_comes 276 = .ok (.aload_n 0, 1) := by decide +kernel
theorem dX7_comes_277 : decode cX7_comes 277 = .ok (.getfield 28, 3) := by decide +kernel
theorem dX7_comes_280 : decode cX7_comes 280 = .ok (.iload 7, 2) := by decide +kernel
theorem dX7_comes_282 : decode cX7_comes 282 = .ok (.iload 10, 2) := by decide +kernel
theorem dX7_comes_284 : decode cX7_comes 284 = .ok (.ifCond .eq 8, 3) := by decide +kernel
theorem dX7_comes_292 : decode cX7_comes 292 = .ok (.aload_n 0, 1) := by decide +kernel
theorem dX7_comes_293 : decode cX7_comes 293 = .ok (.getfield 28, 3) := by decide +kernel
theorem dX7_comes_296 : decode cX7_comes 296 = .ok (.iload 7, 2) := by decide +kernel
theorem dX7_comes_298 : decode cX7_comes 298 = .ok (.iaload, 1) := by decide +kernel
theorem dX7_comes_299 : decode cX7_comes 299 = .ok (.iastore, 1) := by decide +kernel
theorem dX7_comes_300 : decode cX7_comes 300 = .ok (.goto 262, 3) := by decide +kernel
theorem dX7_comes_287 : decode cX7_comes 287 = .ok (.iload 6, 2) := by decide +kernel
theorem dX7_comes_289 : decode cX7_comes 289 = .ok (.goto 10, 3) := by decide +kernel
theorem dX7_comes_303 : decode cX7_comes 303 = .ok (.aload_n 0, 1) := by decide +kernel
theorem dX7_comes_304 : decode cX7_comes 304 = .ok (.getfield 28, 3) := by decide +kernel
theorem dX7_comes_307 : decode cX7_comes 307 = .ok (.iload 7, 2) := by decide +kernel
theorem dX7_comes_309 : decode cX7_comes 309 = .ok (.aload_n 0, 1) := by decide +kernel
theorem dX7_comes_310 : decode cX7_comes 310 = .ok (.getfield 28, 3) := by decide +kernel
theorem dX7_comes_313 : decode cX7_comes 313 = .ok (.iload 7, 2) := by decide +kernel
theorem dX7_comes_315 : decode cX7_comes 315 = .ok (.iaload, 1) := by decide +kernel
theorem dX7_comes_316 : decode cX7_comes 316 = .ok (.iload 6, 2) := by decide +kernel
theorem dX7_comes_318 : decode cX7_comes 318 = .ok (.iadd, 1) := by decide +kernel
theorem dX7_comes_319 : decode cX7_comes 319 = .ok (.sipush 1000, 3) := by decide +kernel
theorem dX7_comes_322 : decode cX7_comes 322 = .ok (.irem, 1) := by decide +kernel
theorem dX7_comes_323 : decode cX7_comes 323 = .ok (.iastore, 1) := by decide +kernel
theorem dX7_comes_324 : decode cX7_comes 324 = .ok (.goto 238, 3) := by decide +kernel
theorem dX7_comes_327 : decode cX7_comes 327 = .ok (.aload_n 0, 1) := by decide +kernel
theorem dX7_comes_328 : decode cX7_comes 328 = .ok (.getfield 28, 3) := by decide +kernel
theorem dX7_comes_331 : decode cX7_comes 331 = .ok (.iload 7, 2) := by decide +kernel
theorem dX7_comes_333 : decode cX7_comes 333 = .ok (.iload 10, 2) := by decide +kernel
theorem dX7_comes_335 : decode cX7_comes 335 = .ok (.ifCond .eq 20, 3) := by decide +kernel
theorem dX7_comes_355 : decode cX7_comes 355 = .ok (.aload_n 0, 1) := by decide +kernel
theorem dX7_comes_356 : decode cX7_comes 356 = .ok (.getfield 28, 3) := by decide +kernel
theorem dX7_comes_359 : decode cX7_comes 359 = .ok (.iload 7, 2) := by decide +kernel
theorem dX7_comes_361 : decode cX7_comes 361 = .ok (.iaload, 1) := by decide +kernel
theorem dX7_comes_362 : decode cX7_comes 362 = .ok (.iastore, 1) := by decide +kernel
theorem dX7_comes_363 : decode cX7_comes 363 = .ok (.goto 199, 3) := by decide +kernel
theorem dX7_comes_338 : decode cX7_comes 338 = .ok (.iload 6, 2) := by decide +kernel
theorem dX7_comes_340 : decode cX7_comes 340 = .ok (.aload_n 0, 1) := by decide +kernel
theorem dX7_comes_341 : decode cX7_comes 341 = .ok (.getfield 28, 3) := by decide +kernel
theorem dX7_comes_344 : decode cX7_comes 344 = .ok (.iload 7, 2) := by decide +kernel
theorem dX7_comes_346 : decode cX7_comes 346 = .ok (.iaload, 1) := by decide +kernel
theorem dX7_comes_347 : decode cX7_comes 347 = .ok (.if_icmp .le 8, 3) := by decide +kernel
theorem dX7_comes_350 : decode cX7_comes 350 = .ok (.iload 6, 2) := by decide +kernel
theorem dX7_comes_352 : decode cX7_comes 352 = .ok (.goto 10, 3) := by decide +kernel
theorem dX7_comes_366 : decode cX7_comes 366 = .ok (.aload_n 0, 1) := by decide +kernel
theorem dX7_comes_367 : decode cX7_comes 367 = .ok (.getfield 31, 3) := by decide +kernel
theorem dX7_comes_370 : decode cX7_comes 370 = .ok (.aload_n 0, 1) := by decide +kernel
theorem dX7_comes_371 : decode cX7_comes 371 = .ok (.iload_n 2, 1) := by decide +kernel
theorem dX7_comes_372 : decode cX7_comes 372 = .ok (.invokevirtual 232, 3) := by decide +kernel
theorem dX7_comes_375 : decode cX7_comes 375 = .ok (.aload_n 0, 1) := by decide +kernel
theorem dX7_comes_376 : decode cX7_comes 376 = .ok (.getfield 31, 3) := by decide +kernel
theorem dX7_comes_379 : decode cX7_comes 379 = .ok (.aload_n 0, 1) := by decide +kernel
theorem dX7_comes_380 : decode cX7_comes 380 = .ok (.iload_n 2, 1) := by decide +kernel
theorem dX7_comes_381 : decode cX7_comes 381 = .ok (.invokevirtual 232, 3) := by decide +kernel
theorem dX7_comes_384 : decode cX7_comes 384 = .ok (.iaload, 1) := by decide +kernel
theorem dX7_comes_385 : decode cX7_comes 385 = .ok (.iconst 1, 1) := by decide +kernel
theorem dX7_comes_386 : decode cX7_comes 386 = .ok (.iadd, 1) := by decide +kernel
theorem dX7_comes_387 : decode cX7_comes 387 = .ok (.sipush 1000, 3) := by decide +kernel
theorem dX7_comes_390 : decode cX7_comes 390 = .ok (.irem, 1) := by decide +kernel
theorem dX7_comes_391 : decode cX7_comes 391 = .ok (.iastore, 1) := by decide +kernel
theorem dX7_comes_392 : decode cX7_comes 392 = .ok (.aload_n 0, 1) := by decide +kernel
theorem dX7_comes_393 : decode cX7_comes 393 = .ok (.getfield 28, 3) := by decide +kernel
theorem dX7_comes_396 : decode cX7_comes 396 = .ok (.iload 7, 2) := by decide +kernel
theorem dX7_comes_398 : decode cX7_comes 398 = .ok (.aload_n 0, 1) := by decide +kernel
theorem dX7_comes_399 : decode cX7_comes 399 = .ok (.getfield 31, 3) := by decide +kernel
theorem dX7_comes_402 : decode cX7_comes 402 = .ok (.aload_n 0, 1) := by decide +kernel
theorem dX7_comes_403 : decode cX7_comes 403 = .ok (.iload_n 2, 1) := by decide +kernel
theorem dX7_comes_404 : decode cX7_comes 404 = .ok (.invokevirtual 232, 3) := by decide +kernel
theorem dX7_comes_407 : decode cX7_comes 407 = .ok (.iaload, 1) := by decide +kernel
theorem dX7_comes_408 : decode cX7_comes 408 = .ok (.iastore, 1) := by decide +kernel
theorem dX7_comes_409 : decode cX7_comes 409 = .ok (.aload_n 0, 1) := by decide +kernel
theorem dX7_comes_410 : decode cX7_comes 410 = .ok (.getfield 122, 3) := by decide +kernel
theorem dX7_comes_413 : decode cX7_comes 413 = .ok (.iload_n 1, 1) := by decide +kernel
theorem dX7_comes_414 : decode cX7_comes 414 = .ok (.aload_n 0, 1) := by decide +kernel
theorem dX7_comes_415 : decode cX7_comes 415 = .ok (.getfield 28, 3) := by decide +kernel
theorem dX7_comes_418 : decode cX7_comes 418 = .ok (.iload 7, 2) := by decide +kernel
theorem dX7_comes_420 : decode cX7_comes 420 = .ok (.iaload, 1) := by decide +kernel
theorem dX7_comes_421 : decode cX7_comes 421 = .ok (.iastore, 1) := by decide +kernel
theorem dX7_comes_422 : decode cX7_comes 422 = .ok (.goto 140, 3) := by decide +kernel
theorem dX7_comes_425 : decode cX7_comes 425 = .ok (.aload_n 0, 1) := by decide +kernel
theorem dX7_comes_426 : decode cX7_comes 426 = .ok (.getfield 122, 3) := by decide +kernel
theorem dX7_comes_429 : decode cX7_comes 429 = .ok (.iload_n 1, 1) := by decide +kernel
theorem dX7_comes_430 : decode cX7_comes 430 = .ok (.aload_n 0, 1) := by decide +kernel
theorem dX7_comes_431 : decode cX7_comes 431 = .ok (.getfield 28, 3) := by decide +kernel
theorem dX7_comes_434 : decode cX7_comes 434 = .ok (.iload 7, 2) := by decide +kernel
theorem dX7_comes_436 : decode cX7_comes 436 = .ok (.iaload, 1) := by decide +kernel
theorem dX7_comes_437 : decode cX7_comes 437 = .ok (.iastore, 1) := by decide +kernel
theorem dX7_comes_438 : decode cX7_comes 438 = .ok (.goto 124, 3) := by decide +kernel
theorem dX7_comes_441 : decode cX7_comes 441 = .ok (.aload_n 0, 1) := by decide +kernel
theorem dX7_comes_442 : decode cX7_comes 442 = .ok (.iload_n 2, 1) := by decide +kernel
theorem dX7_comes_443 : decode cX7_comes 443 = .ok (.iconst 2, 1) := by decide +kernel
theorem dX7_comes_444 : decode cX7_comes 444 = .ok (.invokevirtual 216, 3) := by decide +kernel
theorem dX7_comes_447 : decode cX7_comes 447 = .ok (.ifCond .eq 31, 3) := by decide +kernel
theorem dX7_comes_450 : decode cX7_comes 450 = .ok (.aload_n 0, 1) := by decide +kernel
theorem dX7_comes_451 : decode cX7_comes 451 = .ok (.getfield 116, 3) := by decide +kernel
theorem dX7_comes_454 : decode cX7_comes 454 = .ok (.iload_n 1, 1) := by decide +kernel
theorem dX7_comes_455 : decode cX7_comes 455 = .ok (.iaload, 1) := by decide +kernel
theorem dX7_comes_456 : decode cX7_comes 456 = .ok (.ifCond .eq 22, 3) := by decide +kernel
theorem dX7_comes_478 : decode cX7_comes 478 = .ok (.iconst 0, 1) := by decide +kernel
theorem dX7_comes_479 : decode cX7_comes 479 = .ok (.istore 11, 2) := by decide +kernel
theorem dX7_comes_481 : decode cX7_comes 481 = .ok (.aload_n 0, 1) := by decide +kernel
theorem dX7_comes_482 : decode cX7_comes 482 = .ok (.iload_n 2, 1) := by decide +kernel
theorem dX7_comes_483 : decode cX7_comes 483 = .ok (.iload 4, 2) := by decide +kernel
theorem dX7_comes_485 : decode cX7_comes 485 = .ok (.invokevirtual 220, 3) := by decide +kernel
theorem dX7_comes_488 : decode cX7_comes 488 = .ok (.ifCond .eq 74, 3) := by decide +kernel
theorem dX7_comes_491 : decode cX7_comes 491 = .ok (.aload_n 0, 1) := by decide +kernel
theorem dX7_comes_492 : decode cX7_comes 492 = .ok (.aload_n 0, 1) := by decide +kernel
theorem dX7_comes_493 : decode cX7_comes 493 = .ok (.getfield 16, 3) := by decide +kernel
theorem dX7_comes_496 : decode cX7_comes 496 = .ok (.iload 4, 2) := by decide +kernel
theorem dX7_comes_498 : decode cX7_comes 498 = .ok (.iaload, 1) := by decide +kernel
theorem dX7_comes_499 : decode cX7_comes 499 = .ok (.iload 6, 2) := by decide +kernel
theorem dX7_comes_501 : decode cX7_comes 501 = .ok (.iload 11, 2) := by decide +kernel
theorem dX7_comes_503 : decode cX7_comes 503 = .ok (.invokevirtual 265, 3) := by decide +kernel
theorem dX7_comes_506 : decode cX7_comes 506 = .ok (.ifCond .eq 56, 3) := by decide +kernel
theorem dX7_comes_509 : decode cX7_comes 509 = .ok (.aload_n 0, 1) := by decide +kernel
theorem dX7_comes_510 : decode cX7_comes 510 = .ok (.getfield 122, 3) := by decide +kernel
theorem dX7_comes_513 : decode cX7_comes 513 = .ok (.iload_n 1, 1) := by decide +kernel
theorem dX7_comes_514 : decode cX7_comes 514 = .ok (.aload_n 0, 1) := by decide +kernel
theorem dX7_comes_515 : decode cX7_comes 515 = .ok (.getfield 246, 3) := by decide +kernel
theorem dX7_comes_518 : decode cX7_comes 518 = .ok (.iastore, 1) := by decide +kernel
theorem dX7_comes_519 : decode cX7_comes 519 = .ok (.goto 43, 3) := by decide +kernel
theorem dX7_comes_459 : decode cX7_comes 459 = .ok (.aload_n 0, 1) := by decide +kernel
theorem dX7_comes_460 : decode cX7_comes 460 = .ok (.getfield 116, 3) := by decide +kernel
theorem dX7_comes_463 : decode cX7_comes 463 = .ok (.iload_n 1, 1) := by decide +kernel
theorem dX7_comes_464 : decode cX7_comes 464 = .ok (.iaload, 1) := by decide +kernel
theorem dX7_comes_465 : decode cX7_comes 465 = .ok (.bipush 7, 2) := by decide +kernel
theorem dX7_comes_467 : decode cX7_comes 467 = .ok (.iload_n 3, 1) := by decide +kernel
theorem dX7_comes_468 : decode cX7_comes 468 = .ok (.imul, 1) := by decide +kernel
theorem dX7_comes_469 : decode cX7_comes 469 = .ok (.iadd, 1) := by decide +kernel
theorem dX7_comes_470 : decode cX7_comes 470 = .ok (.bipush 99, 2) := by decide +kernel
theorem dX7_comes_472 : decode cX7_comes 472 = .ok (.irem, 1) := by decide +kernel
theorem dX7_comes_473 : decode cX7_comes 473 = .ok (.iconst 1, 1) := by decide +kernel
theorem dX7_comes_474 : decode cX7_comes 474 = .ok (.iadd, 1) := by decide +kernel
theorem dX7_comes_475 : decode cX7_comes 475 = .ok (.goto 4, 3) := by decide +kernel
theorem dX7_comes_522 : decode cX7_comes 522 = .ok (.iload 10, 2) := by decide +kernel
theorem dX7_comes_524 : decode cX7_comes 524 = .ok (.ifCond .eq 38, 3) := by decide +kernel
theorem dX7_comes_527 : decode cX7_comes 527 = .ok (.aload_n 0, 1) := by decide +kernel
theorem dX7_comes_528 : decode cX7_comes 528 = .ok (.iload 6, 2) := by decide +kernel
theorem dX7_comes_530 : decode cX7_comes 530 = .ok (.invokevirtual 268, 3) := by decide +kernel
theorem dX7_comes_533 : decode cX7_comes 533 = .ok (.goto 29, 3) := by decide +kernel
theorem dX7_comes_159 : decode cX7_comes 159 = .ok (.iload 9, 2) := by decide +kernel
theorem dX7_comes_161 : decode cX7_comes 161 = .ok (.ifCond .eq 21, 3) := by decide +kernel
theorem dX7_comes_182 : decode cX7_comes 182 = .ok (.iconst 1, 1) := by decide +kernel
theorem dX7_comes_183 : decode cX7_comes 183 = .ok (.goto 4, 3) := by decide +kernel
theorem dX7_comes_187 : decode cX7_comes 187 = .ok (.istore 10, 2) := by decide +kernel
theorem dX7_comes_164 : decode cX7_comes 164 = .ok (.iload 5, 2) := by decide +kernel
theorem dX7_comes_166 : decode cX7_comes 166 = .ok (.ifCond .eq 20, 3) := by decide +kernel
theorem dX7_comes_186 : decode cX7_comes 186 = .ok (.iconst 0, 1) := by decide +kernel
theorem dX7_comes_169 : decode cX7_comes 169 = .ok (.iload 5, 2) := by decide +kernel
theorem dX7_comes_171 : decode cX7_comes 171 = .ok (.iconst 2, 1) := by decide +kernel
theorem dX7_comes_172 : decode cX7_comes 172 = .ok (.if_icmp .eq 14, 3) := by decide +kernel
theorem dX7_comes_175 : decode cX7_comes 175 = .ok (.iload 5, 2) := by decide +kernel
theorem dX7_comes_177 : decode cX7_comes 177 = .ok (.bipush 6, 2) := by decide +kernel
theorem dX7_comes_179 : decode cX7_comes 179 = .ok (.if_icmp .eq 7, 3) := by decide +kernel
theorem dX7_comes_81 : decode cX7_comes 81 = .ok (.bipush 8, 2) := by decide +kernel
theorem dX7_comes_83 : decode cX7_comes 83 = .ok (.aload_n 0, 1) := by decide +kernel
theorem dX7_comes_84 : decode cX7_comes 84 = .ok (.iload_n 2, 1) := by decide +kernel
theorem dX7_comes_85 : decode cX7_comes 85 = .ok (.invokevirtual 232, 3) := by decide +kernel
theorem dX7_comes_88 : decode cX7_comes 88 = .ok (.imul, 1) := by decide +kernel
theorem dX7_comes_89 : decode cX7_comes 89 = .ok (.iload_n 3, 1) := by decide +kernel
theorem dX7_comes_90 : decode cX7_comes 90 = .ok (.iadd, 1) := by decide +kernel
theorem dX7_comes_91 : decode cX7_comes 91 = .ok (.istore 8, 2) := by decide +kernel
theorem dX7_comes_93 : decode cX7_comes 93 = .ok (.aload_n 0, 1) := by decide +kernel
theorem dX7_comes_94 : decode cX7_comes 94 = .ok (.iload_n 2, 1) := by decide +kernel
theorem dX7_comes_95 : decode cX7_comes 95 = .ok (.iconst 3, 1) := by decide +kernel
theorem dX7_comes_96 : decode cX7_comes 96 = .ok (.invokevirtual 216, 3) := by decide +kernel
theorem dX7_comes_99 : decode cX7_comes 99 = .ok (.ifCond .eq 57, 3) := by decide +kernel
theorem dX7_comes_102 : decode cX7_comes 102 = .ok (.aload_n 0, 1) := by decide +kernel
theorem dX7_comes_103 : decode cX7_comes 103 = .ok (.getfield 125, 3) := by decide +kernel
theorem dX7_comes_106 : decode cX7_comes 106 = .ok (.iload_n 1, 1) := by decide +kernel
theorem dX7_comes_107 : decode cX7_comes 107 = .ok (.baload, 1) := by decide +kernel
theorem dX7_comes_108 : decode cX7_comes 108 = .ok (.ifCond .eq 48, 3) := by decide +kernel
theorem dX7_comes_156 : decode cX7_comes 156 = .ok (.iconst 0, 1) := by decide +kernel
theorem dX7_comes_157 : decode cX7_comes 157 = .ok (.istore 9, 2) := by decide +kernel
theorem dX7_comes_111 : decode cX7_comes 111 = .ok (.aload_n 0, 1) := by decide +kernel
theorem dX7_comes_112 : decode cX7_comes 112 = .ok (.getfield 131, 3) := by decide +kernel
theorem dX7_comes_115 : decode cX7_comes 115 = .ok (.iload 4, 2) := by decide +kernel
theorem dX7_comes_117 : decode cX7_comes 117 = .ok (.iaload, 1) := by decide +kernel
theorem dX7_comes_118 : decode cX7_comes 118 = .ok (.iload 5, 2) := by decide +kernel
theorem dX7_comes_120 : decode cX7_comes 120 = .ok (.if_icmp .ne 36, 3) := by decide +kernel
theorem dX7_comes_123 : decode cX7_comes 123 = .ok (.aload_n 0, 1) := by decide +kernel
theorem dX7_comes_124 : decode cX7_comes 124 = .ok (.getfield 134, 3) := by decide +kernel
theorem dX7_comes_127 : decode cX7_comes 127 = .ok (.iload 4, 2) := by decide +kernel
theorem dX7_comes_129 : decode cX7_comes 129 = .ok (.iaload, 1) := by decide +kernel
theorem dX7_comes_130 : decode cX7_comes 130 = .ok (.aload_n 0, 1) := by decide +kernel
theorem dX7_comes_131 : decode cX7_comes 131 = .ok (.getfield 16, 3) := by decide +kernel
theorem dX7_comes_134 : decode cX7_comes 134 = .ok (.iload 4, 2) := by decide +kernel
theorem dX7_comes_136 : decode cX7_comes 136 = .ok (.iaload, 1) := by decide +kernel
theorem dX7_comes_137 : decode cX7_comes 137 = .ok (.if_icmp .ne 19, 3) := by decide +kernel
theorem dX7_comes_140 : decode cX7_comes 140 = .ok (.aload_n 0, 1) := by decide +kernel
theorem dX7_comes_141 : decode cX7_comes 141 = .ok (.getfield 137, 3) := by decide +kernel
theorem dX7_comes_144 : decode cX7_comes 144 = .ok (.iload 4, 2) := by decide +kernel
theorem dX7_comes_146 : decode cX7_comes 146 = .ok (.iaload, 1) := by decide +kernel
theorem dX7_comes_147 : decode cX7_comes 147 = .ok (.iload 6, 2) := by decide +kernel
theorem dX7_comes_149 : decode cX7_comes 149 = .ok (.if_icmp .ne 7, 3) := by decide +kernel
theorem dX7_comes_152 : decode cX7_comes 152 = .ok (.iconst 1, 1) := by decide +kernel
theorem dX7_comes_153 : decode cX7_comes 153 = .ok (.goto 4, 3) := by decide +kernel
theorem dX7_comes_0 : decode cX7_comes 0 = .ok (.aload_n 0, 1) := by decide +kernel
theorem dX7_comes_1 : decode cX7_comes 1 = .ok (.getfield 249, 3) := by decide +kernel
theorem dX7_comes_4 : decode cX7_comes 4 = .ok (.iconst 1, 1) := by decide +kernel
theorem dX7_comes_5 : decode cX7_comes 5 = .ok (.isub, 1) := by decide +kernel
theorem dX7_comes_6 : decode cX7_comes 6 = .ok (.istore_n 1, 1) := by decide +kernel
theorem dX7_comes_7 : decode cX7_comes 7 = .ok (.aload_n 0, 1) := by decide +kernel
theorem dX7_comes_8 : decode cX7_comes 8 = .ok (.getfield 110, 3) := by decide +kernel
theorem dX7_comes_11 : decode cX7_comes 11 = .ok (.iload_n 1, 1) := by decide +kernel
theorem dX7_comes_12 : decode cX7_comes 12 = .ok (.iaload, 1) := by decide +kernel
theorem dX7_comes_13 : decode cX7_comes 13 = .ok (.istore_n 2, 1) := by decide +kernel
theorem dX7_comes_14 : decode cX7_comes 14 = .ok (.aload_n 0, 1) := by decide +kernel
theorem dX7_comes_15 : decode cX7_comes 15 = .ok (.getfield 119, 3) := by decide +kernel
theorem dX7_comes_18 : decode cX7_comes 18 = .ok (.iload_n 1, 1) := by decide +kernel
theorem dX7_comes_19 : decode cX7_comes 19 = .ok (.iaload, 1) := by decide +kernel
theorem dX7_comes_20 : decode cX7_comes 20 = .ok (.istore_n 3, 1) := by decide +kernel
theorem dX7_comes_21 : decode cX7_comes 21 = .ok (.bipush 8, 2) := by decide +kernel
theorem dX7_comes_23 : decode cX7_comes 23 = .ok (.iload_n 2, 1) := by decide +kernel
theorem dX7_comes_24 : decode cX7_comes 24 = .ok (.imul, 1) := by decide +kernel
theorem dX7_comes_25 : decode cX7_comes 25 = .ok (.iload_n 3, 1) := by decide +kernel
theorem dX7_comes_26 : decode cX7_comes 26 = .ok (.iadd, 1) := by decide +kernel
theorem dX7_comes_27 : decode cX7_comes 27 = .ok (.istore 4, 2) := by decide +kernel
theorem dX7_comes_29 : decode cX7_comes 29 = .ok (.aload_n 0, 1) := by decide +kernel
theorem dX7_comes_30 : decode cX7_comes 30 = .ok (.getfield 13, 3) := by decide +kernel
theorem dX7_comes_33 : decode cX7_comes 33 = .ok (.iload 4, 2) := by decide +kernel
theorem dX7_comes_35 : decode cX7_comes 35 = .ok (.iaload, 1) := by decide +kernel
theorem dX7_comes_36 : decode cX7_comes 36 = .ok (.istore 5, 2) := by decide +kernel
theorem dX7_comes_38 : decode cX7_comes 38 = .ok (.aload_n 0, 1) := by decide +kernel
theorem dX7_comes_39 : decode cX7_comes 39 = .ok (.iload 4, 2) := by decide +kernel
theorem dX7_comes_41 : decode cX7_comes 41 = .ok (.iload_n 1, 1) := by decide +kernel
theorem dX7_comes_42 : decode cX7_comes 42 = .ok (.invokevirtual 262, 3) := by decide +kernel
theorem dX7_comes_45 : decode cX7_comes 45 = .ok (.istore 6, 2) := by decide +kernel
theorem dX7_comes_47 : decode cX7_comes 47 = .ok (.iconst 4, 1) := by decide +kernel
theorem dX7_comes_48 : decode cX7_comes 48 = .ok (.aload_n 0, 1) := by decide +kernel
theorem dX7_comes_49 : decode cX7_comes 49 = .ok (.iload_n 2, 1) := by decide +kernel
theorem dX7_comes_50 : decode cX7_comes 50 = .ok (.invokevirtual 232, 3) := by decide +kernel
theorem dX7_comes_53 : decode cX7_comes 53 = .ok (.imul, 1) := by decide +kernel
theorem dX7_comes_54 : decode cX7_comes 54 = .ok (.iload 5, 2) := by decide +kernel
theorem dX7_comes_56 : decode cX7_comes 56 = .ok (.iconst 5, 1) := by decide +kernel
theorem dX7_comes_57 : decode cX7_comes 57 = .ok (.if_icmp .eq 10, 3) := by decide +kernel
theorem dX7_comes_67 : decode cX7_comes 67 = .ok (.iconst 0, 1) := by decide +kernel
theorem dX7_comes_68 : decode cX7_comes 68 = .ok (.goto 10, 3) := by decide +kernel
theorem dX7_comes_78 : decode cX7_comes 78 = .ok (.iadd, 1) := by decide +kernel
theorem dX7_comes_79 : decode cX7_comes 79 = .ok (.istore 7, 2) := by decide +kernel
theorem dX7_comes_60 : decode cX7_comes 60 = .ok (.iload 5, 2) := by decide +kernel
theorem dX7_comes_62 : decode cX7_comes 62 = .ok (.bipush 6, 2) := by decide +kernel
theorem dX7_comes_64 : decode cX7_comes 64 = .ok (.if_icmp .ne 7, 3) := by decide +kernel
theorem dX7_comes_71 : decode cX7_comes 71 = .ok (.aload_n 0, 1) := by decide +kernel
theorem dX7_comes_72 : decode cX7_comes 72 = .ok (.getfield 16, 3) := by decide +kernel
theorem dX7_comes_75 : decode cX7_comes 75 = .ok (.iload 4, 2) := by decide +kernel
theorem dX7_comes_77 : decode cX7_comes 77 = .ok (.iaload, 1) := by decide +kernel
abbrev md_m_comes0 : Nat → Nat → Bool := mdf [(8, 22), (8, 49), (8, 51), (40, 99), (50, 99), (51, 99), (54, 99), (55, 99), (56, 99), (58, 99)]
theorem mdle_m_comes0_m_begins {r k : Nat} (h : md_m_comes0 r k = false) : md_m_begins r k = false := mdf_le (by decide +kernel) h
theorem mdle_m_comes0_m_puts0 {r k : Nat} (h : md_m_comes0 r k = false) : md_m_puts0 r k = false := mdf_le (by decide +kernel) h
set_option maxHeartbeats 4000000 in
set_option maxRecDepth 100000 in
theorem lt_m_comes0_c (l : Launch) (D : va_G) (cI cZ cS cR : ClassId) (N0 : NT) (g : GS) (h : Nat) (dd : Int32) (t0 : Int32) (fa : Nat) (fta : Nat) (r_h : g.1 h = 8) (r_fa : g.1 fa = 51) (n_fa : g.2.2.1 fa = 7) (r_fta : g.1 fta = 55) (n_fta : g.2.2.1 fta = 7) (kdd : g.2.1 h 49 = .int dd) (kt0 : g.2.1 h 22 = .int t0) (kw : g.2.1 h 21 = .int 0) (kfa : g.2.1 h 43 = .ref fa) (kft : g.2.1 h 46 = .ref fta) (l_dd : 1 ≤ dd.toInt) (u_dd : dd.toInt ≤ 6) (l_t0 : 0 ≤ t0.toInt) (u_t0 : t0.toInt ≤ 999999999) (hD_0 : DP g fa dd.toInt) (hat : ∀ f : Int32, f.toInt = dd.toInt - 1 → (g.2.2.2.1 fta f.toNatClampNeg).toInt ≤ 7) (hw : PX 48 2 3 71 72 g h) {p : Program} {e : Env} {s : State} {m : MethodId} {args : Array Value} {below : List Frame} {meth : Method} {c : Code} (hB : Tz p s m meth c args cX7_comes 12 RX7 D cI cZ cS cR N0) (hr : meth.sig.returnType = none)    : ∀ (g1 : GS) (f : Int32) (sv : Int32) (pp : Int32) (at1 : Int32) (wo : Int32) (v : Int32) (c1 : Int32) (kn1 : Int32) (do1 : Int32)  (H : Heap) (locs : List Loc) (ls : Array Slot), Tv D cI cZ cS cR N0 s.heap H locs g1 → Inv g1 → Ex g g1 → Sm md_m_comes0 g g1 → 0 ≤ f.toInt → f.toInt ≤ 5 → 0 ≤ sv.toInt → sv.toInt ≤ 5 → 0 ≤ pp.toInt → pp.toInt ≤ 7 → 0 ≤ at1.toInt → at1.toInt ≤ 47 → 0 ≤ v.toInt → v.toInt ≤ 999 → 0 ≤ c1.toInt → c1.toInt ≤ 47 → 0 ≤ kn1.toInt → kn1.toInt ≤ 95 → 0 ≤ do1.toInt → do1.toInt ≤ 1 → g1.2.1 h 49 = .int dd → g1.2.1 h 22 = .int t0 → g1.2.2.2.1 fta f.toNatClampNeg = pp → (DP g1 fa dd.toInt) → (f.toInt = dd.toInt - 1 ∧ f.toInt ≤ sv.toInt) → lv_has ls 12 [(0, .ref h), (1, .int f), (2, .int sv), (3, .int pp), (4, .int at1), (5, .int wo), (6, .int v), (7, .int c1), (8, .int kn1), (10, .int do1)] → W p l e (rmx 4 0 0) s m args below meth c H locs 0 0 (MQ below (tQ D cI cZ cS cR N0 (fun v g' => ∃ (d2 : Int32) (t2 : Int32), v = none ∧ Inv g' ∧ Ex g g' ∧ Sm md_m_comes0 g g' ∧ (g'.2.1 h 49 = .int d2) ∧ (g'.2.1 h 22 = .int t2) ∧ (0 ≤ d2.toInt ∧ d2.toInt ≤ 6 ∧ d2.toInt ≤ dd.toInt + 1) ∧ (0 ≤ t2.toInt ∧ t2.toInt ≤ t0.toInt + 1) ∧ (DP g' fa d2.toInt))) args s 0 0 (fun q => N0.1 ≤ q)) (F0 m 189 ls []) := by
  have hx := hB.1
  have hb := hB.2.1
  intro g1 f sv pp at1 wo v c1 kn1 do1 H locs ls hT hI hE hM l_f u_f l_sv u_sv l_pp u_pp l_at1 u_at1 l_v u_v l_c1 u_c1 l_kn1 u_kn1 l_do1 u_do1 kp0 kp1 kc0 hD hfs hl
  have r_1 : g1.1 h = 8 := Ex.r hE r_h (by decide)
  have r_2 : g1.1 fa = 51 := Ex.r hE r_fa (by decide)
  have n_3 : g1.2.2.1 fa = 7 := Ex.n hE r_fa (by decide) n_fa
  have r_4 : g1.1 fta = 55 := Ex.r hE r_fta (by decide)
  have n_5 : g1.2.2.1 fta = 7 := Ex.n hE r_fta (by decide) n_fta
  have kn_6 : g1.2.1 h 21 = .int 0 := Sm.v hM r_h (by decide) rfl kw
  have kn_7 : g1.2.1 h 43 = .ref fa := Sm.v hM r_h (by decide) rfl kfa
  have kn_8 : g1.2.1 h 46 = .ref fta := Sm.v hM r_h (by decide) rfl kft
  refine lv_aload_n hx hb dX7_comes_189 rfl (lv_at hl 0 rfl) ?_
  obtain ⟨v_9, e_v_9, r_v_9, n_v_9⟩ := f_8_17 hI r_1
  refine t_get (ci := 7) (v := .ref v_9) hB hT (ro_ci r_1 rfl) rfl 17 (by decide) k_762 e_v_9 dX7_comes_190 ?_
  refine lv_iload hx hb dX7_comes_193 (lv_at hl 8 rfl) ?_
  refine lv_iload hx hb dX7_comes_195 (lv_at hl 5 rfl) ?_
  have i_10 : vp_in kn1 96 := (i_in (n := 96) rfl (by omega) (by omega))
  refine t_iast hB hT (ro_in r_v_9 (by decide)) n_v_9 i_10 dX7_comes_197 (fun H locs hT => ?_)
  have hI : Inv (sC g1 v_9 kn1.toNatClampNeg wo) := hI.sC (ck r_v_9 trivial)
  have hM : Sm md_m_comes0 g (sC g1 v_9 kn1.toNatClampNeg wo) := hM.tr hE (Sm_sC (by rw [r_v_9]; rfl))
  have hE : Ex g (sC g1 v_9 kn1.toNatClampNeg wo) := hE
  have hD : DP (sC g1 v_9 kn1.toNatClampNeg wo) fa dd.toInt := hD.tC (ro_ne r_2 r_v_9 (by decide))
  refine lv_aload_n hx hb dX7_comes_198 rfl (lv_at hl 0 rfl) ?_
  obtain ⟨v_11, e_v_11, r_v_11, n_v_11⟩ := f_8_18 hI r_1
  refine t_get (ci := 7) (v := .ref v_11) hB hT (ro_ci r_1 rfl) rfl 18 (by decide) k_763 e_v_11 dX7_comes_199 ?_
  refine lv_iload hx hb dX7_comes_202 (lv_at hl 8 rfl) ?_
  refine lv_aload_n hx hb dX7_comes_204 rfl (lv_at hl 0 rfl) ?_
  obtain ⟨v_12, e_v_12, r_v_12, n_v_12⟩ := f_8_3 hI r_1
  refine t_get (ci := 7) (v := .ref v_12) hB hT (ro_ci r_1 rfl) rfl 3 (by decide) k_748 e_v_12 dX7_comes_205 ?_
  refine lv_iload hx hb dX7_comes_208 (lv_at hl 4 rfl) ?_
  have i_u_13 : vp_in at1 48 := (i_in (n := 48) rfl (by omega) (by omega))
  refine t_iald hB hT (ro_in r_v_12 (by decide)) n_v_12 i_u_13 rfl dX7_comes_210 ?_
  have c_u_13 := hI.c r_v_12 n_v_12 (i_cl i_u_13)
  refine lv_topi (fun u_13 e_u_13 => ?_)
  obtain ⟨l_u_13, u_u_13⟩ := c_u_13
  rw [← e_u_13] at l_u_13 u_u_13
  have i_14 : vp_in kn1 96 := (i_in (n := 96) rfl (by omega) (by omega))
  refine t_iast hB hT (ro_in r_v_11 (by decide)) n_v_11 i_14 dX7_comes_211 (fun H locs hT => ?_)
  have hI : Inv (sC (sC g1 v_9 kn1.toNatClampNeg wo) v_11 kn1.toNatClampNeg u_13) := hI.sC (ck r_v_11 trivial)
  have hM : Sm md_m_comes0 g (sC (sC g1 v_9 kn1.toNatClampNeg wo) v_11 kn1.toNatClampNeg u_13) := hM.tr hE (Sm_sC (by rw [r_v_11]; rfl))
  have hE : Ex g (sC (sC g1 v_9 kn1.toNatClampNeg wo) v_11 kn1.toNatClampNeg u_13) := hE
  have hD : DP (sC (sC g1 v_9 kn1.toNatClampNeg wo) v_11 kn1.toNatClampNeg u_13) fa dd.toInt := hD.tC (ro_ne r_2 r_v_11 (by decide))
  refine lv_aload_n hx hb dX7_comes_212 rfl (lv_at hl 0 rfl) ?_
  obtain ⟨v_15, e_v_15, r_v_15, n_v_15⟩ := f_8_19 hI r_1
  refine t_get (ci := 7) (v := .ref v_15) hB hT (ro_ci r_1 rfl) rfl 19 (by decide) k_764 e_v_15 dX7_comes_213 ?_
  refine lv_iload hx hb dX7_comes_216 (lv_at hl 8 rfl) ?_
  refine lv_iload hx hb dX7_comes_218 (lv_at hl 6 rfl) ?_
  have i_16 : vp_in kn1 96 := (i_in (n := 96) rfl (by omega) (by omega))
  refine t_iast hB hT (ro_in r_v_15 (by decide)) n_v_15 i_16 dX7_comes_220 (fun H locs hT => ?_)
  have hI : Inv (sC (sC (sC g1 v_9 kn1.toNatClampNeg wo) v_11 kn1.toNatClampNeg u_13) v_15 kn1.toNatClampNeg v) := hI.sC (ck r_v_15 trivial)
  have hM : Sm md_m_comes0 g (sC (sC (sC g1 v_9 kn1.toNatClampNeg wo) v_11 kn1.toNatClampNeg u_13) v_15 kn1.toNatClampNeg v) := hM.tr hE (Sm_sC (by rw [r_v_15]; rfl))
  have hE : Ex g (sC (sC (sC g1 v_9 kn1.toNatClampNeg wo) v_11 kn1.toNatClampNeg u_13) v_15 kn1.toNatClampNeg v) := hE
  have hD : DP (sC (sC (sC g1 v_9 kn1.toNatClampNeg wo) v_11 kn1.toNatClampNeg u_13) v_15 kn1.toNatClampNeg v) fa dd.toInt := hD.tC (ro_ne r_2 r_v_15 (by decide))
  refine lv_aload_n hx hb dX7_comes_221 rfl (lv_at hl 0 rfl) ?_
  refine t_get (ci := 7) (v := .ref fta) hB hT (ro_ci r_1 rfl) rfl 46 (by decide) k_791 kn_8 dX7_comes_222 ?_
  refine lv_iload_n hx hb dX7_comes_225 rfl (lv_at hl 1 rfl) ?_
  refine lv_dup2_11 hx hb dX7_comes_226 rfl rfl ?_
  have i_u_17 : vp_in f 7 := (i_in (n := 7) rfl (by omega) (by omega))
  refine t_iald (v := pp) hB hT (ro_in r_4 (by decide)) n_5 i_u_17 (sC_a (sC_a (sC_a kc0 (ro_ne r_4 r_v_9 (by decide))) (ro_ne r_4 r_v_11 (by decide))) (ro_ne r_4 r_v_15 (by decide))) dX7_comes_227 ?_
  refine lv_iconst (v := 1) hx hb dX7_comes_228 (by decide) ?_
  refine lv_iadd hx hb dX7_comes_229 ?_
  refine lv_topi (fun z_18 ez_18 => ?_)
  have e_z_18 : z_18.toInt = pp.toInt + 1 := i_add ez_18 rfl (by decide) (by omega) (by omega)
  have i_19 : vp_in f 7 := (i_in (n := 7) rfl (by omega) (by omega))
  refine t_iast hB hT (ro_in r_4 (by decide)) n_5 i_19 dX7_comes_230 (fun H locs hT => ?_)
  have hI : Inv (sC (sC (sC (sC g1 v_9 kn1.toNatClampNeg wo) v_11 kn1.toNatClampNeg u_13) v_15 kn1.toNatClampNeg v) fta f.toNatClampNeg z_18) := hI.sC (ck r_4 ⟨by omega, by omega⟩)
  have hM : Sm md_m_comes0 g (sC (sC (sC (sC g1 v_9 kn1.toNatClampNeg wo) v_11 kn1.toNatClampNeg u_13) v_15 kn1.toNatClampNeg v) fta f.toNatClampNeg z_18) := hM.tr hE (Sm_sC (by rw [r_4]; rfl))
  have hE : Ex g (sC (sC (sC (sC g1 v_9 kn1.toNatClampNeg wo) v_11 kn1.toNatClampNeg u_13) v_15 kn1.toNatClampNeg v) fta f.toNatClampNeg z_18) := hE
  have hD : DP (sC (sC (sC (sC g1 v_9 kn1.toNatClampNeg wo) v_11 kn1.toNatClampNeg u_13) v_15 kn1.toNatClampNeg v) fta f.toNatClampNeg z_18) fa dd.toInt := hD.tC (ro_ne r_2 r_4 (by decide))
  refine lv_iload hx hb dX7_comes_231 (lv_at hl 5 rfl) ?_
  by_cases ht_20 : (wo < 0 ∨ 6 < wo)
  · refine lv_tableOut (tgt := 536) hx hb dX7_comes_233 (sw_out ht_20) (by decide) ?_
    refine lv_aload_n hx hb dX7_comes_536 rfl (lv_at hl 0 rfl) ?_
    refine t_get (ci := 7) (v := .ref fta) hB hT (ro_ci r_1 rfl) rfl 46 (by decide) k_791 kn_8 dX7_comes_537 ?_
    refine lv_iload_n hx hb dX7_comes_540 rfl (lv_at hl 1 rfl) ?_
    refine lv_dup2_11 hx hb dX7_comes_541 rfl rfl ?_
    have i_u_22 : vp_in f 7 := (i_in (n := 7) rfl (by omega) (by omega))
    refine t_iald (v := z_18) hB hT (ro_in r_4 (by decide)) n_5 i_u_22 sC_eq dX7_comes_542 ?_
    refine lv_aload_n hx hb dX7_comes_543 rfl (lv_at hl 0 rfl) ?_
    obtain ⟨v_23, e_v_23, r_v_23, n_v_23⟩ := f_8_7 hI r_1
    refine t_get (ci := 7) (v := .ref v_23) hB hT (ro_ci r_1 rfl) rfl 7 (by decide) k_752 e_v_23 dX7_comes_544 ?_
    refine lv_iload hx hb dX7_comes_547 (lv_at hl 7 rfl) ?_
    have i_u_24 : vp_in c1 48 := (i_in (n := 48) rfl (by omega) (by omega))
    refine t_iald hB hT (ro_in r_v_23 (by decide)) n_v_23 i_u_24 rfl dX7_comes_549 ?_
    have c_u_24 := hI.c r_v_23 n_v_23 (i_cl i_u_24)
    refine lv_topi (fun u_24 e_u_24 => ?_)
    obtain ⟨l_u_24, u_u_24⟩ := c_u_24
    rw [← e_u_24] at l_u_24 u_u_24
    refine lv_iload hx hb dX7_comes_550 (lv_at hl 6 rfl) ?_
    refine lv_icmp_ne (tgt := 559) hx hb dX7_comes_552 (by decide) (fun c_25 => ?_) (fun c_25 => ?_)
    · have c_25' : u_24.toInt ≠ v.toInt := i_ne c_25 rfl rfl
      refine lv_iconst (v := 1) hx hb dX7_comes_559 (by decide) ?_
      refine lv_iadd hx hb dX7_comes_560 ?_
      refine lv_topi (fun z_26 ez_26 => ?_)
      have e_z_26 : z_26.toInt = z_18.toInt + 1 := i_add ez_26 rfl (by decide) (by omega) (by omega)
      have i_27 : vp_in f 7 := (i_in (n := 7) rfl (by omega) (by omega))
      refine t_iast hB hT (ro_in r_4 (by decide)) n_5 i_27 dX7_comes_561 (fun H locs hT => ?_)
      have hI : Inv (sC (sC (sC (sC (sC g1 v_9 kn1.toNatClampNeg wo) v_11 kn1.toNatClampNeg u_13) v_15 kn1.toNatClampNeg v) fta f.toNatClampNeg z_18) fta f.toNatClampNeg z_26) := hI.sC (ck r_4 ⟨by omega, by omega⟩)
      have hM : Sm md_m_comes0 g (sC (sC (sC (sC (sC g1 v_9 kn1.toNatClampNeg wo) v_11 kn1.toNatClampNeg u_13) v_15 kn1.toNatClampNeg v) fta f.toNatClampNeg z_18) fta f.toNatClampNeg z_26) := hM.tr hE (Sm_sC (by rw [r_4]; rfl))
      have hE : Ex g (sC (sC (sC (sC (sC g1 v_9 kn1.toNatClampNeg wo) v_11 kn1.toNatClampNeg u_13) v_15 kn1.toNatClampNeg v) fta f.toNatClampNeg z_18) fta f.toNatClampNeg z_26) := hE
      have hD : DP (sC (sC (sC (sC (sC g1 v_9 kn1.toNatClampNeg wo) v_11 kn1.toNatClampNeg u_13) v_15 kn1.toNatClampNeg v) fta f.toNatClampNeg z_18) fta f.toNatClampNeg z_26) fa dd.toInt := hD.tC (ro_ne r_2 r_4 (by decide))
      exact t_vret hB hr hT (Nat.le_of_ble_eq_true rfl) (Nat.le_of_ble_eq_true rfl) dX7_comes_562 ⟨dd, t0, rfl, hI, hE, hM, kp0, kp1, (by omega), (by omega), (hD.cast (by omega))⟩
    · have c_25' : u_24.toInt = v.toInt := i_eq c_25 rfl rfl
      refine lv_iconst (v := 0) hx hb dX7_comes_555 (by decide) ?_
      refine lv_goto (tgt := 560) hx hb dX7_comes_556 (by decide) ?_
      refine lv_iadd hx hb dX7_comes_560 ?_
      refine lv_topi (fun z_28 ez_28 => ?_)
      have e_z_28 : z_28.toInt = z_18.toInt + 0 := i_add ez_28 rfl (by decide) (by omega) (by omega)
      have i_29 : vp_in f 7 := (i_in (n := 7) rfl (by omega) (by omega))
      refine t_iast hB hT (ro_in r_4 (by decide)) n_5 i_29 dX7_comes_561 (fun H locs hT => ?_)
      have hI : Inv (sC (sC (sC (sC (sC g1 v_9 kn1.toNatClampNeg wo) v_11 kn1.toNatClampNeg u_13) v_15 kn1.toNatClampNeg v) fta f.toNatClampNeg z_18) fta f.toNatClampNeg z_28) := hI.sC (ck r_4 ⟨by omega, by omega⟩)
      have hM : Sm md_m_comes0 g (sC (sC (sC (sC (sC g1 v_9 kn1.toNatClampNeg wo) v_11 kn1.toNatClampNeg u_13) v_15 kn1.toNatClampNeg v) fta f.toNatClampNeg z_18) fta f.toNatClampNeg z_28) := hM.tr hE (Sm_sC (by rw [r_4]; rfl))
      have hE : Ex g (sC (sC (sC (sC (sC g1 v_9 kn1.toNatClampNeg wo) v_11 kn1.toNatClampNeg u_13) v_15 kn1.toNatClampNeg v) fta f.toNatClampNeg z_18) fta f.toNatClampNeg z_28) := hE
      have hD : DP (sC (sC (sC (sC (sC g1 v_9 kn1.toNatClampNeg wo) v_11 kn1.toNatClampNeg u_13) v_15 kn1.toNatClampNeg v) fta f.toNatClampNeg z_18) fta f.toNatClampNeg z_28) fa dd.toInt := hD.tC (ro_ne r_2 r_4 (by decide))
      exact t_vret hB hr hT (Nat.le_of_ble_eq_true rfl) (Nat.le_of_ble_eq_true rfl) dX7_comes_562 ⟨dd, t0, rfl, hI, hE, hM, kp0, kp1, (by omega), (by omega), (hD.cast (by omega))⟩
  · obtain ⟨j_21, hj_21, ej_21⟩ := sw_in (n := 7) rfl ht_20
    rcases (show j_21 = 0 ∨ j_21 = 1 ∨ j_21 = 2 ∨ j_21 = 3 ∨ j_21 = 4 ∨ j_21 = 5 ∨ j_21 = 6 by omega) with rfl | rfl | rfl | rfl | rfl | rfl | rfl
    · refine x_ev (y := 0) ej_21 ?_
      refine lv_tableIn (off := 43) (tgt := 276) hx hb dX7_comes_233 (by decide) (by decide) rfl (by decide) ?_
      refine lv_aload_n hx hb dX7_comes_276 rfl (lv_at hl 0 rfl) ?_
      obtain ⟨v_30, e_v_30, r_v_30, n_v_30⟩ := f_8_7 hI r_1
      refine t_get (ci := 7) (v := .ref v_30) hB hT (ro_ci r_1 rfl) rfl 7 (by decide) k_752 e_v_30 dX7_comes_277 ?_
      refine lv_iload hx hb dX7_comes_280 (lv_at hl 7 rfl) ?_
      refine lv_iload hx hb dX7_comes_282 (lv_at hl 9 rfl) ?_
      refine lv_if_eq (tgt := 292) hx hb dX7_comes_284 (by decide) (fun c_31 => ?_) (fun c_31 => ?_)
      · have c_31' : do1.toInt = 0 := i_eq c_31 rfl (by decide)
        refine lv_aload_n hx hb dX7_comes_292 rfl (lv_at hl 0 rfl) ?_
        refine t_get (ci := 7) (v := .ref v_30) hB hT (ro_ci r_1 rfl) rfl 7 (by decide) k_752 e_v_30 dX7_comes_293 ?_
        refine lv_iload hx hb dX7_comes_296 (lv_at hl 7 rfl) ?_
        have i_u_32 : vp_in c1 48 := (i_in (n := 48) rfl (by omega) (by omega))
        refine t_iald hB hT (ro_in r_v_30 (by decide)) n_v_30 i_u_32 rfl dX7_comes_298 ?_
        have c_u_32 := hI.c r_v_30 n_v_30 (i_cl i_u_32)
        refine lv_topi (fun u_32 e_u_32 => ?_)
        obtain ⟨l_u_32, u_u_32⟩ := c_u_32
        rw [← e_u_32] at l_u_32 u_u_32
        have i_33 : vp_in c1 48 := (i_in (n := 48) rfl (by omega) (by omega))
        refine t_iast hB hT (ro_in r_v_30 (by decide)) n_v_30 i_33 dX7_comes_299 (fun H locs hT => ?_)
        have hI : Inv (sC (sC (sC (sC (sC g1 v_9 kn1.toNatClampNeg wo) v_11 kn1.toNatClampNeg u_13) v_15 kn1.toNatClampNeg v) fta f.toNatClampNeg z_18) v_30 c1.toNatClampNeg u_32) := hI.sC (ck r_v_30 ⟨by omega, by omega⟩)
        have hM : Sm md_m_comes0 g (sC (sC (sC (sC (sC g1 v_9 kn1.toNatClampNeg wo) v_11 kn1.toNatClampNeg u_13) v_15 kn1.toNatClampNeg v) fta f.toNatClampNeg z_18) v_30 c1.toNatClampNeg u_32) := hM.tr hE (Sm_sC (by rw [r_v_30]; rfl))
        have hE : Ex g (sC (sC (sC (sC (sC g1 v_9 kn1.toNatClampNeg wo) v_11 kn1.toNatClampNeg u_13) v_15 kn1.toNatClampNeg v) fta f.toNatClampNeg z_18) v_30 c1.toNatClampNeg u_32) := hE
        have hD : DP (sC (sC (sC (sC (sC g1 v_9 kn1.toNatClampNeg wo) v_11 kn1.toNatClampNeg u_13) v_15 kn1.toNatClampNeg v) fta f.toNatClampNeg z_18) v_30 c1.toNatClampNeg u_32) fa dd.toInt := hD.tC (ro_ne r_2 r_v_30 (by decide))
        refine lv_goto (tgt := 562) hx hb dX7_comes_300 (by decide) ?_
        exact t_vret hB hr hT (Nat.le_of_ble_eq_true rfl) (Nat.le_of_ble_eq_true rfl) dX7_comes_562 ⟨dd, t0, rfl, hI, hE, hM, kp0, kp1, (by omega), (by omega), (hD.cast (by omega))⟩
      · have c_31' : do1.toInt ≠ 0 := i_ne c_31 rfl (by decide)
        refine lv_iload hx hb dX7_comes_287 (lv_at hl 6 rfl) ?_
        refine lv_goto (tgt := 299) hx hb dX7_comes_289 (by decide) ?_
        have i_34 : vp_in c1 48 := (i_in (n := 48) rfl (by omega) (by omega))
        refine t_iast hB hT (ro_in r_v_30 (by decide)) n_v_30 i_34 dX7_comes_299 (fun H locs hT => ?_)
        have hI : Inv (sC (sC (sC (sC (sC g1 v_9 kn1.toNatClampNeg wo) v_11 kn1.toNatClampNeg u_13) v_15 kn1.toNatClampNeg v) fta f.toNatClampNeg z_18) v_30 c1.toNatClampNeg v) := hI.sC (ck r_v_30 ⟨by omega, by omega⟩)
        have hM : Sm md_m_comes0 g (sC (sC (sC (sC (sC g1 v_9 kn1.toNatClampNeg wo) v_11 kn1.toNatClampNeg u_13) v_15 kn1.toNatClampNeg v) fta f.toNatClampNeg z_18) v_30 c1.toNatClampNeg v) := hM.tr hE (Sm_sC (by rw [r_v_30]; rfl))
        have hE : Ex g (sC (sC (sC (sC (sC g1 v_9 kn1.toNatClampNeg wo) v_11 kn1.toNatClampNeg u_13) v_15 kn1.toNatClampNeg v) fta f.toNatClampNeg z_18) v_30 c1.toNatClampNeg v) := hE
        have hD : DP (sC (sC (sC (sC (sC g1 v_9 kn1.toNatClampNeg wo) v_11 kn1.toNatClampNeg u_13) v_15 kn1.toNatClampNeg v) fta f.toNatClampNeg z_18) v_30 c1.toNatClampNeg v) fa dd.toInt := hD.tC (ro_ne r_2 r_v_30 (by decide))
        refine lv_goto (tgt := 562) hx hb dX7_comes_300 (by decide) ?_
        exact t_vret hB hr hT (Nat.le_of_ble_eq_true rfl) (Nat.le_of_ble_eq_true rfl) dX7_comes_562 ⟨dd, t0, rfl, hI, hE, hM, kp0, kp1, (by omega), (by omega), (hD.cast (by omega))⟩
    · refine x_ev (y := 1) ej_21 ?_
      refine lv_tableIn (off := 70) (tgt := 303) hx hb dX7_comes_233 (by decide) (by decide) rfl (by decide) ?_
      refine lv_aload_n hx hb dX7_comes_303 rfl (lv_at hl 0 rfl) ?_
      obtain ⟨v_35, e_v_35, r_v_35, n_v_35⟩ := f_8_7 hI r_1
      refine t_get (ci := 7) (v := .ref v_35) hB hT (ro_ci r_1 rfl) rfl 7 (by decide) k_752 e_v_35 dX7_comes_304 ?_
      refine lv_iload hx hb dX7_comes_307 (lv_at hl 7 rfl) ?_
      refine lv_aload_n hx hb dX7_comes_309 rfl (lv_at hl 0 rfl) ?_
      refine t_get (ci := 7) (v := .ref v_35) hB hT (ro_ci r_1 rfl) rfl 7 (by decide) k_752 e_v_35 dX7_comes_310 ?_
      refine lv_iload hx hb dX7_comes_313 (lv_at hl 7 rfl) ?_
      have i_u_36 : vp_in c1 48 := (i_in (n := 48) rfl (by omega) (by omega))
      refine t_iald hB hT (ro_in r_v_35 (by decide)) n_v_35 i_u_36 rfl dX7_comes_315 ?_
      have c_u_36 := hI.c r_v_35 n_v_35 (i_cl i_u_36)
      refine lv_topi (fun u_36 e_u_36 => ?_)
      obtain ⟨l_u_36, u_u_36⟩ := c_u_36
      rw [← e_u_36] at l_u_36 u_u_36
      refine lv_iload hx hb dX7_comes_316 (lv_at hl 6 rfl) ?_
      refine lv_iadd hx hb dX7_comes_318 ?_
      refine lv_topi (fun z_37 ez_37 => ?_)
      have e_z_37 : z_37.toInt = u_36.toInt + v.toInt := i_add ez_37 rfl rfl (by omega) (by omega)
      refine lv_sipush (v := 1000) hx hb dX7_comes_319 (by decide) ?_
      refine lv_irem hx hb dX7_comes_322 (by decide) ?_
      refine lv_topi (fun z_38 ez_38 => ?_)
      have e_z_38 := i_rem (a := z_37.toInt) (b := 1000) ez_38 rfl (by decide) (by omega) (by omega)
      have i_39 : vp_in c1 48 := (i_in (n := 48) rfl (by omega) (by omega))
      refine t_iast hB hT (ro_in r_v_35 (by decide)) n_v_35 i_39 dX7_comes_323 (fun H locs hT => ?_)
      have hI : Inv (sC (sC (sC (sC (sC g1 v_9 kn1.toNatClampNeg wo) v_11 kn1.toNatClampNeg u_13) v_15 kn1.toNatClampNeg v) fta f.toNatClampNeg z_18) v_35 c1.toNatClampNeg z_38) := hI.sC (ck r_v_35 ⟨by omega, by omega⟩)
      have hM : Sm md_m_comes0 g (sC (sC (sC (sC (sC g1 v_9 kn1.toNatClampNeg wo) v_11 kn1.toNatClampNeg u_13) v_15 kn1.toNatClampNeg v) fta f.toNatClampNeg z_18) v_35 c1.toNatClampNeg z_38) := hM.tr hE (Sm_sC (by rw [r_v_35]; rfl))
      have hE : Ex g (sC (sC (sC (sC (sC g1 v_9 kn1.toNatClampNeg wo) v_11 kn1.toNatClampNeg u_13) v_15 kn1.toNatClampNeg v) fta f.toNatClampNeg z_18) v_35 c1.toNatClampNeg z_38) := hE
      have hD : DP (sC (sC (sC (sC (sC g1 v_9 kn1.toNatClampNeg wo) v_11 kn1.toNatClampNeg u_13) v_15 kn1.toNatClampNeg v) fta f.toNatClampNeg z_18) v_35 c1.toNatClampNeg z_38) fa dd.toInt := hD.tC (ro_ne r_2 r_v_35 (by decide))
      refine lv_goto (tgt := 562) hx hb dX7_comes_324 (by decide) ?_
      exact t_vret hB hr hT (Nat.le_of_ble_eq_true rfl) (Nat.le_of_ble_eq_true rfl) dX7_comes_562 ⟨dd, t0, rfl, hI, hE, hM, kp0, kp1, (by omega), (by omega), (hD.cast (by omega))⟩
    · refine x_ev (y := 2) ej_21 ?_
      refine lv_tableIn (off := 94) (tgt := 327) hx hb dX7_comes_233 (by decide) (by decide) rfl (by decide) ?_
      refine lv_aload_n hx hb dX7_comes_327 rfl (lv_at hl 0 rfl) ?_
      obtain ⟨v_40, e_v_40, r_v_40, n_v_40⟩ := f_8_7 hI r_1
      refine t_get (ci := 7) (v := .ref v_40) hB hT (ro_ci r_1 rfl) rfl 7 (by decide) k_752 e_v_40 dX7_comes_328 ?_
      refine lv_iload hx hb dX7_comes_331 (lv_at hl 7 rfl) ?_
      refine lv_iload hx hb dX7_comes_333 (lv_at hl 9 rfl) ?_
      refine lv_if_eq (tgt := 355) hx hb dX7_comes_335 (by decide) (fun c_41 => ?_) (fun c_41 => ?_)
      · have c_41' : do1.toInt = 0 := i_eq c_41 rfl (by decide)
        refine lv_aload_n hx hb dX7_comes_355 rfl (lv_at hl 0 rfl) ?_
        refine t_get (ci := 7) (v := .ref v_40) hB hT (ro_ci r_1 rfl) rfl 7 (by decide) k_752 e_v_40 dX7_comes_356 ?_
        refine lv_iload hx hb dX7_comes_359 (lv_at hl 7 rfl) ?_
        have i_u_42 : vp_in c1 48 := (i_in (n := 48) rfl (by omega) (by omega))
        refine t_iald hB hT (ro_in r_v_40 (by decide)) n_v_40 i_u_42 rfl dX7_comes_361 ?_
        have c_u_42 := hI.c r_v_40 n_v_40 (i_cl i_u_42)
        refine lv_topi (fun u_42 e_u_42 => ?_)
        obtain ⟨l_u_42, u_u_42⟩ := c_u_42
        rw [← e_u_42] at l_u_42 u_u_42
        have i_43 : vp_in c1 48 := (i_in (n := 48) rfl (by omega) (by omega))
        refine t_iast hB hT (ro_in r_v_40 (by decide)) n_v_40 i_43 dX7_comes_362 (fun H locs hT => ?_)
        have hI : Inv (sC (sC (sC (sC (sC g1 v_9 kn1.toNatClampNeg wo) v_11 kn1.toNatClampNeg u_13) v_15 kn1.toNatClampNeg v) fta f.toNatClampNeg z_18) v_40 c1.toNatClampNeg u_42) := hI.sC (ck r_v_40 ⟨by omega, by omega⟩)
        have hM : Sm md_m_comes0 g (sC (sC (sC (sC (sC g1 v_9 kn1.toNatClampNeg wo) v_11 kn1.toNatClampNeg u_13) v_15 kn1.toNatClampNeg v) fta f.toNatClampNeg z_18) v_40 c1.toNatClampNeg u_42) := hM.tr hE (Sm_sC (by rw [r_v_40]; rfl))
        have hE : Ex g (sC (sC (sC (sC (sC g1 v_9 kn1.toNatClampNeg wo) v_11 kn1.toNatClampNeg u_13) v_15 kn1.toNatClampNeg v) fta f.toNatClampNeg z_18) v_40 c1.toNatClampNeg u_42) := hE
        have hD : DP (sC (sC (sC (sC (sC g1 v_9 kn1.toNatClampNeg wo) v_11 kn1.toNatClampNeg u_13) v_15 kn1.toNatClampNeg v) fta f.toNatClampNeg z_18) v_40 c1.toNatClampNeg u_42) fa dd.toInt := hD.tC (ro_ne r_2 r_v_40 (by decide))
        refine lv_goto (tgt := 562) hx hb dX7_comes_363 (by decide) ?_
        exact t_vret hB hr hT (Nat.le_of_ble_eq_true rfl) (Nat.le_of_ble_eq_true rfl) dX7_comes_562 ⟨dd, t0, rfl, hI, hE, hM, kp0, kp1, (by omega), (by omega), (hD.cast (by omega))⟩
      · have c_41' : do1.toInt ≠ 0 := i_ne c_41 rfl (by decide)
        refine lv_iload hx hb dX7_comes_338 (lv_at hl 6 rfl) ?_
        refine lv_aload_n hx hb dX7_comes_340 rfl (lv_at hl 0 rfl) ?_
        refine t_get (ci := 7) (v := .ref v_40) hB hT (ro_ci r_1 rfl) rfl 7 (by decide) k_752 e_v_40 dX7_comes_341 ?_
        refine lv_iload hx hb dX7_comes_344 (lv_at hl 7 rfl) ?_
        have i_u_44 : vp_in c1 48 := (i_in (n := 48) rfl (by omega) (by omega))
        refine t_iald hB hT (ro_in r_v_40 (by decide)) n_v_40 i_u_44 rfl dX7_comes_346 ?_
        have c_u_44 := hI.c r_v_40 n_v_40 (i_cl i_u_44)
        refine lv_topi (fun u_44 e_u_44 => ?_)
        obtain ⟨l_u_44, u_u_44⟩ := c_u_44
        rw [← e_u_44] at l_u_44 u_u_44
        refine lv_icmp_le (tgt := 355) hx hb dX7_comes_347 (by decide) (fun c_45 => ?_) (fun c_45 => ?_)
        · have c_45' : v.toInt ≤ u_44.toInt := i_le c_45 rfl rfl
          refine lv_aload_n hx hb dX7_comes_355 rfl (lv_at hl 0 rfl) ?_
          refine t_get (ci := 7) (v := .ref v_40) hB hT (ro_ci r_1 rfl) rfl 7 (by decide) k_752 e_v_40 dX7_comes_356 ?_
          refine lv_iload hx hb dX7_comes_359 (lv_at hl 7 rfl) ?_
          have i_u_46 : vp_in c1 48 := (i_in (n := 48) rfl (by omega) (by omega))
          refine t_iald (v := u_44) hB hT (ro_in r_v_40 (by decide)) n_v_40 i_u_46 e_u_44.symm dX7_comes_361 ?_
          have i_47 : vp_in c1 48 := (i_in (n := 48) rfl (by omega) (by omega))
          refine t_iast hB hT (ro_in r_v_40 (by decide)) n_v_40 i_47 dX7_comes_362 (fun H locs hT => ?_)
          have hI : Inv (sC (sC (sC (sC (sC g1 v_9 kn1.toNatClampNeg wo) v_11 kn1.toNatClampNeg u_13) v_15 kn1.toNatClampNeg v) fta f.toNatClampNeg z_18) v_40 c1.toNatClampNeg u_44) := hI.sC (ck r_v_40 ⟨by omega, by omega⟩)
          have hM : Sm md_m_comes0 g (sC (sC (sC (sC (sC g1 v_9 kn1.toNatClampNeg wo) v_11 kn1.toNatClampNeg u_13) v_15 kn1.toNatClampNeg v) fta f.toNatClampNeg z_18) v_40 c1.toNatClampNeg u_44) := hM.tr hE (Sm_sC (by rw [r_v_40]; rfl))
          have hE : Ex g (sC (sC (sC (sC (sC g1 v_9 kn1.toNatClampNeg wo) v_11 kn1.toNatClampNeg u_13) v_15 kn1.toNatClampNeg v) fta f.toNatClampNeg z_18) v_40 c1.toNatClampNeg u_44) := hE
          have hD : DP (sC (sC (sC (sC (sC g1 v_9 kn1.toNatClampNeg wo) v_11 kn1.toNatClampNeg u_13) v_15 kn1.toNatClampNeg v) fta f.toNatClampNeg z_18) v_40 c1.toNatClampNeg u_44) fa dd.toInt := hD.tC (ro_ne r_2 r_v_40 (by decide))
          refine lv_goto (tgt := 562) hx hb dX7_comes_363 (by decide) ?_
          exact t_vret hB hr hT (Nat.le_of_ble_eq_true rfl) (Nat.le_of_ble_eq_true rfl) dX7_comes_562 ⟨dd, t0, rfl, hI, hE, hM, kp0, kp1, (by omega), (by omega), (hD.cast (by omega))⟩
        · have c_45' : u_44.toInt < v.toInt := i_nle c_45 rfl rfl
          refine lv_iload hx hb dX7_comes_350 (lv_at hl 6 rfl) ?_
          refine lv_goto (tgt := 362) hx hb dX7_comes_352 (by decide) ?_
          have i_48 : vp_in c1 48 := (i_in (n := 48) rfl (by omega) (by omega))
          refine t_iast hB hT (ro_in r_v_40 (by decide)) n_v_40 i_48 dX7_comes_362 (fun H locs hT => ?_)
          have hI : Inv (sC (sC (sC (sC (sC g1 v_9 kn1.toNatClampNeg wo) v_11 kn1.toNatClampNeg u_13) v_15 kn1.toNatClampNeg v) fta f.toNatClampNeg z_18) v_40 c1.toNatClampNeg v) := hI.sC (ck r_v_40 ⟨by omega, by omega⟩)
          have hM : Sm md_m_comes0 g (sC (sC (sC (sC (sC g1 v_9 kn1.toNatClampNeg wo) v_11 kn1.toNatClampNeg u_13) v_15 kn1.toNatClampNeg v) fta f.toNatClampNeg z_18) v_40 c1.toNatClampNeg v) := hM.tr hE (Sm_sC (by rw [r_v_40]; rfl))
          have hE : Ex g (sC (sC (sC (sC (sC g1 v_9 kn1.toNatClampNeg wo) v_11 kn1.toNatClampNeg u_13) v_15 kn1.toNatClampNeg v) fta f.toNatClampNeg z_18) v_40 c1.toNatClampNeg v) := hE
          have hD : DP (sC (sC (sC (sC (sC g1 v_9 kn1.toNatClampNeg wo) v_11 kn1.toNatClampNeg u_13) v_15 kn1.toNatClampNeg v) fta f.toNatClampNeg z_18) v_40 c1.toNatClampNeg v) fa dd.toInt := hD.tC (ro_ne r_2 r_v_40 (by decide))
          refine lv_goto (tgt := 562) hx hb dX7_comes_363 (by decide) ?_
          exact t_vret hB hr hT (Nat.le_of_ble_eq_true rfl) (Nat.le_of_ble_eq_true rfl) dX7_comes_562 ⟨dd, t0, rfl, hI, hE, hM, kp0, kp1, (by omega), (by omega), (hD.cast (by omega))⟩
    · refine x_ev (y := 3) ej_21 ?_
      refine lv_tableIn (off := 133) (tgt := 366) hx hb dX7_comes_233 (by decide) (by decide) rfl (by decide) ?_
      refine lv_aload_n hx hb dX7_comes_366 rfl (lv_at hl 0 rfl) ?_
      obtain ⟨v_49, e_v_49, r_v_49, n_v_49⟩ := f_8_8 hI r_1
      refine t_get (ci := 7) (v := .ref v_49) hB hT (ro_ci r_1 rfl) rfl 8 (by decide) k_753 e_v_49 dX7_comes_367 ?_
      refine lv_aload_n hx hb dX7_comes_370 rfl (lv_at hl 0 rfl) ?_
      refine lv_iload_n hx hb dX7_comes_371 rfl (lv_at hl 2 rfl) ?_
      refine t_callV (n := 1) (As := [.int sv]) (rest := [.ref v_49]) (ci := 7) hB hT hl.1 (m_base l D cI cZ cS cR N0 (sC (sC (sC (sC g1 v_9 kn1.toNatClampNeg wo) v_11 kn1.toNatClampNeg u_13) v_15 kn1.toNatClampNeg v) fta f.toNatClampNeg z_18) hI h sv 0 r_1 kn_6 (by have q0 : (0 : Int32).toInt = 0 := (by decide); omega) (by have q0 : (0 : Int32).toInt = 0 := (by decide); omega) (by have q0 : (0 : Int32).toInt = 0 := (by decide); omega) (by have q0 : (0 : Int32).toInt = 0 := (by decide); omega)) (ro_ci r_1 rfl) rfl k_1043 k_65 k_1040 k_1042 k_34 (by decide +kernel) ⟨(Nat.le_of_ble_eq_true rfl), (Nat.le_of_ble_eq_true rfl)⟩ rfl (Nat.le_of_ble_eq_true rfl) ⟨(Nat.le_of_ble_eq_true rfl), (Nat.le_of_ble_eq_true rfl)⟩ dX7_comes_372 (fun v g_50 H locs hp hT => ?_)
      obtain ⟨r_51, rfl, eg, f_52, f_53⟩ := hp
      rw [eg] at hT
      clear eg
      refine W.eq (g2 := F0 m 375 ls [.int r_51, .ref v_49]) rfl ?_
      have qc_56 : (0 : Int32).toInt = 0 := (by decide)
      refine lv_aload_n hx hb dX7_comes_375 rfl (lv_at hl 0 rfl) ?_
      refine t_get (ci := 7) (v := .ref v_49) hB hT (ro_ci r_1 rfl) rfl 8 (by decide) k_753 e_v_49 dX7_comes_376 ?_
      refine lv_aload_n hx hb dX7_comes_379 rfl (lv_at hl 0 rfl) ?_
      refine lv_iload_n hx hb dX7_comes_380 rfl (lv_at hl 2 rfl) ?_
      refine t_callV (n := 1) (As := [.int sv]) (rest := [.ref v_49, .int r_51, .ref v_49]) (ci := 7) hB hT hl.1 (m_base l D cI cZ cS cR N0 (sC (sC (sC (sC g1 v_9 kn1.toNatClampNeg wo) v_11 kn1.toNatClampNeg u_13) v_15 kn1.toNatClampNeg v) fta f.toNatClampNeg z_18) hI h sv 0 r_1 kn_6 (by have q0 : (0 : Int32).toInt = 0 := (by decide); omega) (by have q0 : (0 : Int32).toInt = 0 := (by decide); omega) (by have q0 : (0 : Int32).toInt = 0 := (by decide); omega) (by have q0 : (0 : Int32).toInt = 0 := (by decide); omega)) (ro_ci r_1 rfl) rfl k_1043 k_65 k_1040 k_1042 k_34 (by decide +kernel) ⟨(Nat.le_of_ble_eq_true rfl), (Nat.le_of_ble_eq_true rfl)⟩ rfl (Nat.le_of_ble_eq_true rfl) ⟨(Nat.le_of_ble_eq_true rfl), (Nat.le_of_ble_eq_true rfl)⟩ dX7_comes_381 (fun v g_57 H locs hp hT => ?_)
      obtain ⟨r_58, rfl, eg, f_59, f_60⟩ := hp
      rw [eg] at hT
      clear eg
      refine W.eq (g2 := F0 m 384 ls [.int r_58, .ref v_49, .int r_51, .ref v_49]) rfl ?_
      have qc_63 : (0 : Int32).toInt = 0 := (by decide)
      have q_r_58 : r_58 = r_51 := f_59.trans f_52.symm
      refine W.eq (g2 := F0 m 384 ls [.int r_51, .ref v_49, .int r_51, .ref v_49]) (by rw [q_r_58]) ?_
      have i_u_64 : vp_in r_51 12 := (i_in (n := 12) rfl (by omega) (by omega))
      refine t_iald hB hT (ro_in r_v_49 (by decide)) n_v_49 i_u_64 rfl dX7_comes_384 ?_
      have c_u_64 := hI.c r_v_49 n_v_49 (i_cl i_u_64)
      refine lv_topi (fun u_64 e_u_64 => ?_)
      obtain ⟨l_u_64, u_u_64⟩ := c_u_64
      rw [← e_u_64] at l_u_64 u_u_64
      refine lv_iconst (v := 1) hx hb dX7_comes_385 (by decide) ?_
      refine lv_iadd hx hb dX7_comes_386 ?_
      refine lv_topi (fun z_65 ez_65 => ?_)
      have e_z_65 : z_65.toInt = u_64.toInt + 1 := i_add ez_65 rfl (by decide) (by omega) (by omega)
      refine lv_sipush (v := 1000) hx hb dX7_comes_387 (by decide) ?_
      refine lv_irem hx hb dX7_comes_390 (by decide) ?_
      refine lv_topi (fun z_66 ez_66 => ?_)
      have e_z_66 := i_rem (a := z_65.toInt) (b := 1000) ez_66 rfl (by decide) (by omega) (by omega)
      have i_67 : vp_in r_51 12 := (i_in (n := 12) rfl (by omega) (by omega))
      refine t_iast hB hT (ro_in r_v_49 (by decide)) n_v_49 i_67 dX7_comes_391 (fun H locs hT => ?_)
      have hI : Inv (sC (sC (sC (sC (sC g1 v_9 kn1.toNatClampNeg wo) v_11 kn1.toNatClampNeg u_13) v_15 kn1.toNatClampNeg v) fta f.toNatClampNeg z_18) v_49 r_51.toNatClampNeg z_66) := hI.sC (ck r_v_49 ⟨by omega, by omega⟩)
      have hM : Sm md_m_comes0 g (sC (sC (sC (sC (sC g1 v_9 kn1.toNatClampNeg wo) v_11 kn1.toNatClampNeg u_13) v_15 kn1.toNatClampNeg v) fta f.toNatClampNeg z_18) v_49 r_51.toNatClampNeg z_66) := hM.tr hE (Sm_sC (by rw [r_v_49]; rfl))
      have hE : Ex g (sC (sC (sC (sC (sC g1 v_9 kn1.toNatClampNeg wo) v_11 kn1.toNatClampNeg u_13) v_15 kn1.toNatClampNeg v) fta f.toNatClampNeg z_18) v_49 r_51.toNatClampNeg z_66) := hE
      have hD : DP (sC (sC (sC (sC (sC g1 v_9 kn1.toNatClampNeg wo) v_11 kn1.toNatClampNeg u_13) v_15 kn1.toNatClampNeg v) fta f.toNatClampNeg z_18) v_49 r_51.toNatClampNeg z_66) fa dd.toInt := hD.tC (ro_ne r_2 r_v_49 (by decide))
      refine lv_aload_n hx hb dX7_comes_392 rfl (lv_at hl 0 rfl) ?_
      obtain ⟨v_68, e_v_68, r_v_68, n_v_68⟩ := f_8_7 hI r_1
      refine t_get (ci := 7) (v := .ref v_68) hB hT (ro_ci r_1 rfl) rfl 7 (by decide) k_752 e_v_68 dX7_comes_393 ?_
      refine lv_iload hx hb dX7_comes_396 (lv_at hl 7 rfl) ?_
      refine lv_aload_n hx hb dX7_comes_398 rfl (lv_at hl 0 rfl) ?_
      refine t_get (ci := 7) (v := .ref v_49) hB hT (ro_ci r_1 rfl) rfl 8 (by decide) k_753 e_v_49 dX7_comes_399 ?_
      refine lv_aload_n hx hb dX7_comes_402 rfl (lv_at hl 0 rfl) ?_
      refine lv_iload_n hx hb dX7_comes_403 rfl (lv_at hl 2 rfl) ?_
      refine t_callV (n := 1) (As := [.int sv]) (rest := [.ref v_49, .int c1, .ref v_68]) (ci := 7) hB hT hl.1 (m_base l D cI cZ cS cR N0 (sC (sC (sC (sC (sC g1 v_9 kn1.toNatClampNeg wo) v_11 kn1.toNatClampNeg u_13) v_15 kn1.toNatClampNeg v) fta f.toNatClampNeg z_18) v_49 r_51.toNatClampNeg z_66) hI h sv 0 r_1 kn_6 (by have q0 : (0 : Int32).toInt = 0 := (by decide); omega) (by have q0 : (0 : Int32).toInt = 0 := (by decide); omega) (by have q0 : (0 : Int32).toInt = 0 := (by decide); omega) (by have q0 : (0 : Int32).toInt = 0 := (by decide); omega)) (ro_ci r_1 rfl) rfl k_1043 k_65 k_1040 k_1042 k_34 (by decide +kernel) ⟨(Nat.le_of_ble_eq_true rfl), (Nat.le_of_ble_eq_true rfl)⟩ rfl (Nat.le_of_ble_eq_true rfl) ⟨(Nat.le_of_ble_eq_true rfl), (Nat.le_of_ble_eq_true rfl)⟩ dX7_comes_404 (fun v g_69 H locs hp hT => ?_)
      obtain ⟨r_70, rfl, eg, f_71, f_72⟩ := hp
      rw [eg] at hT
      clear eg
      refine W.eq (g2 := F0 m 407 ls [.int r_70, .ref v_49, .int c1, .ref v_68]) rfl ?_
      have qc_75 : (0 : Int32).toInt = 0 := (by decide)
      have q_r_70 : r_70 = r_51 := f_71.trans f_52.symm
      refine W.eq (g2 := F0 m 407 ls [.int r_51, .ref v_49, .int c1, .ref v_68]) (by rw [q_r_70]) ?_
      have i_u_76 : vp_in r_51 12 := (i_in (n := 12) rfl (by omega) (by omega))
      refine t_iald (v := z_66) hB hT (ro_in r_v_49 (by decide)) n_v_49 i_u_76 sC_eq dX7_comes_407 ?_
      have i_77 : vp_in c1 48 := (i_in (n := 48) rfl (by omega) (by omega))
      refine t_iast hB hT (ro_in r_v_68 (by decide)) n_v_68 i_77 dX7_comes_408 (fun H locs hT => ?_)
      have hI : Inv (sC (sC (sC (sC (sC (sC g1 v_9 kn1.toNatClampNeg wo) v_11 kn1.toNatClampNeg u_13) v_15 kn1.toNatClampNeg v) fta f.toNatClampNeg z_18) v_49 r_51.toNatClampNeg z_66) v_68 c1.toNatClampNeg z_66) := hI.sC (ck r_v_68 ⟨by omega, by omega⟩)
      have hM : Sm md_m_comes0 g (sC (sC (sC (sC (sC (sC g1 v_9 kn1.toNatClampNeg wo) v_11 kn1.toNatClampNeg u_13) v_15 kn1.toNatClampNeg v) fta f.toNatClampNeg z_18) v_49 r_51.toNatClampNeg z_66) v_68 c1.toNatClampNeg z_66) := hM.tr hE (Sm_sC (by rw [r_v_68]; rfl))
      have hE : Ex g (sC (sC (sC (sC (sC (sC g1 v_9 kn1.toNatClampNeg wo) v_11 kn1.toNatClampNeg u_13) v_15 kn1.toNatClampNeg v) fta f.toNatClampNeg z_18) v_49 r_51.toNatClampNeg z_66) v_68 c1.toNatClampNeg z_66) := hE
      have hD : DP (sC (sC (sC (sC (sC (sC g1 v_9 kn1.toNatClampNeg wo) v_11 kn1.toNatClampNeg u_13) v_15 kn1.toNatClampNeg v) fta f.toNatClampNeg z_18) v_49 r_51.toNatClampNeg z_66) v_68 c1.toNatClampNeg z_66) fa dd.toInt := hD.tC (ro_ne r_2 r_v_68 (by decide))
      refine lv_aload_n hx hb dX7_comes_409 rfl (lv_at hl 0 rfl) ?_
      obtain ⟨v_78, e_v_78, r_v_78, n_v_78⟩ := f_8_47 hI r_1
      refine t_get (ci := 7) (v := .ref v_78) hB hT (ro_ci r_1 rfl) rfl 47 (by decide) k_792 e_v_78 dX7_comes_410 ?_
      refine lv_iload_n hx hb dX7_comes_413 rfl (lv_at hl 1 rfl) ?_
      refine lv_aload_n hx hb dX7_comes_414 rfl (lv_at hl 0 rfl) ?_
      refine t_get (ci := 7) (v := .ref v_68) hB hT (ro_ci r_1 rfl) rfl 7 (by decide) k_752 e_v_68 dX7_comes_415 ?_
      refine lv_iload hx hb dX7_comes_418 (lv_at hl 7 rfl) ?_
      have i_u_79 : vp_in c1 48 := (i_in (n := 48) rfl (by omega) (by omega))
      refine t_iald (v := z_66) hB hT (ro_in r_v_68 (by decide)) n_v_68 i_u_79 sC_eq dX7_comes_420 ?_
      have i_80 : vp_in f 7 := (i_in (n := 7) rfl (by omega) (by omega))
      refine t_iast hB hT (ro_in r_v_78 (by decide)) n_v_78 i_80 dX7_comes_421 (fun H locs hT => ?_)
      have hI : Inv (sC (sC (sC (sC (sC (sC (sC g1 v_9 kn1.toNatClampNeg wo) v_11 kn1.toNatClampNeg u_13) v_15 kn1.toNatClampNeg v) fta f.toNatClampNeg z_18) v_49 r_51.toNatClampNeg z_66) v_68 c1.toNatClampNeg z_66) v_78 f.toNatClampNeg z_66) := hI.sC (ck r_v_78 ⟨by omega, by omega⟩)
      have hM : Sm md_m_comes0 g (sC (sC (sC (sC (sC (sC (sC g1 v_9 kn1.toNatClampNeg wo) v_11 kn1.toNatClampNeg u_13) v_15 kn1.toNatClampNeg v) fta f.toNatClampNeg z_18) v_49 r_51.toNatClampNeg z_66) v_68 c1.toNatClampNeg z_66) v_78 f.toNatClampNeg z_66) := hM.tr hE (Sm_sC (by rw [r_v_78]; rfl))
      have hE : Ex g (sC (sC (sC (sC (sC (sC (sC g1 v_9 kn1.toNatClampNeg wo) v_11 kn1.toNatClampNeg u_13) v_15 kn1.toNatClampNeg v) fta f.toNatClampNeg z_18) v_49 r_51.toNatClampNeg z_66) v_68 c1.toNatClampNeg z_66) v_78 f.toNatClampNeg z_66) := hE
      have hD : DP (sC (sC (sC (sC (sC (sC (sC g1 v_9 kn1.toNatClampNeg wo) v_11 kn1.toNatClampNeg u_13) v_15 kn1.toNatClampNeg v) fta f.toNatClampNeg z_18) v_49 r_51.toNatClampNeg z_66) v_68 c1.toNatClampNeg z_66) v_78 f.toNatClampNeg z_66) fa dd.toInt := hD.tC (ro_ne r_2 r_v_78 (by decide))
      refine lv_goto (tgt := 562) hx hb dX7_comes_422 (by decide) ?_
      exact t_vret hB hr hT (Nat.le_of_ble_eq_true rfl) (Nat.le_of_ble_eq_true rfl) dX7_comes_562 ⟨dd, t0, rfl, hI, hE, hM, kp0, kp1, (by omega), (by omega), (hD.cast (by omega))⟩
    · refine x_ev (y := 4) ej_21 ?_
      refine lv_tableIn (off := 192) (tgt := 425) hx hb dX7_comes_233 (by decide) (by decide) rfl (by decide) ?_
      refine lv_aload_n hx hb dX7_comes_425 rfl (lv_at hl 0 rfl) ?_
      obtain ⟨v_81, e_v_81, r_v_81, n_v_81⟩ := f_8_47 hI r_1
      refine t_get (ci := 7) (v := .ref v_81) hB hT (ro_ci r_1 rfl) rfl 47 (by decide) k_792 e_v_81 dX7_comes_426 ?_
      refine lv_iload_n hx hb dX7_comes_429 rfl (lv_at hl 1 rfl) ?_
      refine lv_aload_n hx hb dX7_comes_430 rfl (lv_at hl 0 rfl) ?_
      obtain ⟨v_82, e_v_82, r_v_82, n_v_82⟩ := f_8_7 hI r_1
      refine t_get (ci := 7) (v := .ref v_82) hB hT (ro_ci r_1 rfl) rfl 7 (by decide) k_752 e_v_82 dX7_comes_431 ?_
      refine lv_iload hx hb dX7_comes_434 (lv_at hl 7 rfl) ?_
      have i_u_83 : vp_in c1 48 := (i_in (n := 48) rfl (by omega) (by omega))
      refine t_iald hB hT (ro_in r_v_82 (by decide)) n_v_82 i_u_83 rfl dX7_comes_436 ?_
      have c_u_83 := hI.c r_v_82 n_v_82 (i_cl i_u_83)
      refine lv_topi (fun u_83 e_u_83 => ?_)
      obtain ⟨l_u_83, u_u_83⟩ := c_u_83
      rw [← e_u_83] at l_u_83 u_u_83
      have i_84 : vp_in f 7 := (i_in (n := 7) rfl (by omega) (by omega))
      refine t_iast hB hT (ro_in r_v_81 (by decide)) n_v_81 i_84 dX7_comes_437 (fun H locs hT => ?_)
      have hI : Inv (sC (sC (sC (sC (sC g1 v_9 kn1.toNatClampNeg wo) v_11 kn1.toNatClampNeg u_13) v_15 kn1.toNatClampNeg v) fta f.toNatClampNeg z_18) v_81 f.toNatClampNeg u_83) := hI.sC (ck r_v_81 ⟨by omega, by omega⟩)
      have hM : Sm md_m_comes0 g (sC (sC (sC (sC (sC g1 v_9 kn1.toNatClampNeg wo) v_11 kn1.toNatClampNeg u_13) v_15 kn1.toNatClampNeg v) fta f.toNatClampNeg z_18) v_81 f.toNatClampNeg u_83) := hM.tr hE (Sm_sC (by rw [r_v_81]; rfl))
      have hE : Ex g (sC (sC (sC (sC (sC g1 v_9 kn1.toNatClampNeg wo) v_11 kn1.toNatClampNeg u_13) v_15 kn1.toNatClampNeg v) fta f.toNatClampNeg z_18) v_81 f.toNatClampNeg u_83) := hE
      have hD : DP (sC (sC (sC (sC (sC g1 v_9 kn1.toNatClampNeg wo) v_11 kn1.toNatClampNeg u_13) v_15 kn1.toNatClampNeg v) fta f.toNatClampNeg z_18) v_81 f.toNatClampNeg u_83) fa dd.toInt := hD.tC (ro_ne r_2 r_v_81 (by decide))
      refine lv_goto (tgt := 562) hx hb dX7_comes_438 (by decide) ?_
      exact t_vret hB hr hT (Nat.le_of_ble_eq_true rfl) (Nat.le_of_ble_eq_true rfl) dX7_comes_562 ⟨dd, t0, rfl, hI, hE, hM, kp0, kp1, (by omega), (by omega), (hD.cast (by omega))⟩
    · refine x_ev (y := 5) ej_21 ?_
      refine lv_tableIn (off := 208) (tgt := 441) hx hb dX7_comes_233 (by decide) (by decide) rfl (by decide) ?_
      refine lv_aload_n hx hb dX7_comes_441 rfl (lv_at hl 0 rfl) ?_
      refine lv_iload_n hx hb dX7_comes_442 rfl (lv_at hl 2 rfl) ?_
      refine lv_iconst (v := 2) hx hb dX7_comes_443 (by decide) ?_
      refine t_callV (n := 2) (As := [.int sv, .int 2]) (rest := []) (ci := 7) hB hT hl.1 (m_has l D cI cZ cS cR N0 (sC (sC (sC (sC g1 v_9 kn1.toNatClampNeg wo) v_11 kn1.toNatClampNeg u_13) v_15 kn1.toNatClampNeg v) fta f.toNatClampNeg z_18) hI h sv 2 r_1 (by have q0 : (2 : Int32).toInt = 2 := (by decide); omega) (by have q0 : (2 : Int32).toInt = 2 := (by decide); omega)) (ro_ci r_1 rfl) rfl k_999 k_65 k_996 k_998 k_28 (by decide +kernel) ⟨(Nat.le_of_ble_eq_true rfl), (Nat.le_of_ble_eq_true rfl)⟩ rfl (Nat.le_of_ble_eq_true rfl) ⟨(Nat.le_of_ble_eq_true rfl), (Nat.le_of_ble_eq_true rfl)⟩ dX7_comes_444 (fun v g_85 H locs hp hT => ?_)
      obtain ⟨r_86, rfl, eg, f_87⟩ := hp
      rw [eg] at hT
      clear eg
      refine W.eq (g2 := F0 m 447 ls [.int r_86]) rfl ?_
      have qc_90 : (2 : Int32).toInt = 2 := (by decide)
      rcases f_87 with rfl | rfl
      · refine W.eq (g2 := F0 m 447 ls [.int 1]) rfl ?_
        refine lv_if_eq (tgt := 478) hx hb dX7_comes_447 (by decide) (fun c_ => absurd c_ (by decide)) (fun c_ => ?_)
        refine lv_aload_n hx hb dX7_comes_450 rfl (lv_at hl 0 rfl) ?_
        obtain ⟨v_91, e_v_91, r_v_91, n_v_91⟩ := f_8_45 hI r_1
        refine t_get (ci := 7) (v := .ref v_91) hB hT (ro_ci r_1 rfl) rfl 45 (by decide) k_790 e_v_91 dX7_comes_451 ?_
        refine lv_iload_n hx hb dX7_comes_454 rfl (lv_at hl 1 rfl) ?_
        have i_u_92 : vp_in f 7 := (i_in (n := 7) rfl (by omega) (by omega))
        refine t_iald hB hT (ro_in r_v_91 (by decide)) n_v_91 i_u_92 rfl dX7_comes_455 ?_
        refine lv_topi (fun u_92 e_u_92 => ?_)
        refine lv_if_eq (tgt := 478) hx hb dX7_comes_456 (by decide) (fun c_93 => ?_) (fun c_93 => ?_)
        · have c_93' : u_92.toInt = 0 := i_eq c_93 rfl (by decide)
          refine lv_iconst (v := 0) hx hb dX7_comes_478 (by decide) ?_
          refine lv_istore (lv' := [(11, .int 0), (0, .ref h), (1, .int f), (2, .int sv), (3, .int pp), (4, .int at1), (5, .int wo), (6, .int v), (7, .int c1), (8, .int kn1), (10, .int do1)]) hx hb dX7_comes_479 hl (by decide) rfl (fun ls hl => ?_)
          refine lv_aload_n hx hb dX7_comes_481 rfl (lv_at hl 1 rfl) ?_
          refine lv_iload_n hx hb dX7_comes_482 rfl (lv_at hl 3 rfl) ?_
          refine lv_iload hx hb dX7_comes_483 (lv_at hl 5 rfl) ?_
          refine t_callV (n := 2) (As := [.int sv, .int at1]) (rest := []) (ci := 7) hB hT hl.1 (m_canAsk l D cI cZ cS cR N0 (sC (sC (sC (sC g1 v_9 kn1.toNatClampNeg wo) v_11 kn1.toNatClampNeg u_13) v_15 kn1.toNatClampNeg v) fta f.toNatClampNeg z_18) hI h sv at1 v_12 u_13 r_1 r_v_12 n_v_12 e_v_12 (by omega) (by omega) (sC_a (sC_a (sC_a e_u_13.symm (ro_ne r_v_12 r_v_11 (by decide))) (ro_ne r_v_12 r_v_15 (by decide))) (ro_ne r_v_12 r_4 (by decide)))) (ro_ci r_1 rfl) rfl k_1023 k_65 k_1020 k_1022 k_31 (by decide +kernel) ⟨(Nat.le_of_ble_eq_true rfl), (Nat.le_of_ble_eq_true rfl)⟩ rfl (Nat.le_of_ble_eq_true rfl) ⟨(Nat.le_of_ble_eq_true rfl), (Nat.le_of_ble_eq_true rfl)⟩ dX7_comes_485 (fun v g_94 H locs hp hT => ?_)
          obtain ⟨r_95, rfl, eg, f_96⟩ := hp
          rw [eg] at hT
          clear eg
          refine W.eq (g2 := F0 m 488 ls [.int r_95]) rfl ?_
          rcases f_96 with ⟨rfl, hw_99⟩ | rfl
          · refine W.eq (g2 := F0 m 488 ls [.int 1]) rfl ?_
            refine lv_if_eq (tgt := 562) hx hb dX7_comes_488 (by decide) (fun c_ => absurd c_ (by decide)) (fun c_ => ?_)
            refine lv_aload_n hx hb dX7_comes_491 rfl (lv_at hl 1 rfl) ?_
            refine lv_aload_n hx hb dX7_comes_492 rfl (lv_at hl 1 rfl) ?_
            refine t_get (ci := 7) (v := .ref v_12) hB hT (ro_ci r_1 rfl) rfl 3 (by decide) k_748 e_v_12 dX7_comes_493 ?_
            refine lv_iload hx hb dX7_comes_496 (lv_at hl 5 rfl) ?_
            have i_u_100 : vp_in at1 48 := (i_in (n := 48) rfl (by omega) (by omega))
            refine t_iald (v := u_13) hB hT (ro_in r_v_12 (by decide)) n_v_12 i_u_100 (sC_a (sC_a (sC_a e_u_13.symm (ro_ne r_v_12 r_v_11 (by decide))) (ro_ne r_v_12 r_v_15 (by decide))) (ro_ne r_v_12 r_4 (by decide))) dX7_comes_498 ?_
            refine lv_iload hx hb dX7_comes_499 (lv_at hl 7 rfl) ?_
            refine lv_iload hx hb dX7_comes_501 (lv_at hl 0 rfl) ?_
            refine t_callV (n := 3) (As := [.int u_13, .int v, .int 0]) (rest := []) (ci := 7) hB hT hl.1 (m_begins l D cI cZ cS cR N0 (sC (sC (sC (sC g1 v_9 kn1.toNatClampNeg wo) v_11 kn1.toNatClampNeg u_13) v_15 kn1.toNatClampNeg v) fta f.toNatClampNeg z_18) hI h u_13 v 0 dd fa r_1 r_2 n_3 kp0 kn_7 (by have q0 : (0 : Int32).toInt = 0 := (by decide); omega) (by have q0 : (0 : Int32).toInt = 0 := (by decide); omega) (by have q0 : (0 : Int32).toInt = 0 := (by decide); omega) (by have q0 : (0 : Int32).toInt = 0 := (by decide); omega) (by have q0 : (0 : Int32).toInt = 0 := (by decide); omega) (by have q0 : (0 : Int32).toInt = 0 := (by decide); omega) (by have q0 : (0 : Int32).toInt = 0 := (by decide); omega) hD) (ro_ci r_1 rfl) rfl k_1055 k_65 k_1052 k_1054 k_37 (by decide +kernel) ⟨(Nat.le_of_ble_eq_true rfl), (Nat.le_of_ble_eq_true rfl)⟩ rfl (Nat.le_of_ble_eq_true rfl) ⟨(Nat.le_of_ble_eq_true rfl), (Nat.le_of_ble_eq_true rfl)⟩ dX7_comes_503 (fun v g_101 H locs hp hT => ?_)
            obtain ⟨r_102, d2_103, rfl, hI, x_108, m_107, f_104, f_105, f_106⟩ := hp
            have hM : Sm md_m_comes0 g g_101 := hM.tr hE (m_107.mo (fun r k h => mdle_m_comes0_m_begins h))
            have hE : Ex g g_101 := hE.tr x_108
            have r_109 : g_101.1 h = 8 := (Ex.r x_108 r_1 (by decide))
            have r_110 : g_101.1 fa = 51 := (Ex.r x_108 r_2 (by decide))
            have r_111 : g_101.1 fta = 55 := (Ex.r x_108 r_4 (by decide))
            have r_112 : g_101.1 v_9 = 50 := (Ex.r x_108 r_v_9 (by decide))
            have r_113 : g_101.1 v_11 = 50 := (Ex.r x_108 r_v_11 (by decide))
            have r_114 : g_101.1 v_12 = 72 := (Ex.r x_108 r_v_12 (by decide))
            have r_115 : g_101.1 v_15 = 50 := (Ex.r x_108 r_v_15 (by decide))
            have r_116 : g_101.1 v_91 = 50 := (Ex.r x_108 r_v_91 (by decide))
            have n_117 : g_101.2.2.1 fa = 7 := (Ex.n x_108 r_2 (by decide) n_3)
            have n_118 : g_101.2.2.1 fta = 7 := (Ex.n x_108 r_4 (by decide) n_5)
            have n_119 : g_101.2.2.1 v_9 = 96 := (Ex.n x_108 r_v_9 (by decide) n_v_9)
            have n_120 : g_101.2.2.1 v_11 = 96 := (Ex.n x_108 r_v_11 (by decide) n_v_11)
            have n_121 : g_101.2.2.1 v_12 = 48 := (Ex.n x_108 r_v_12 (by decide) n_v_12)
            have n_122 : g_101.2.2.1 v_15 = 96 := (Ex.n x_108 r_v_15 (by decide) n_v_15)
            have n_123 : g_101.2.2.1 v_91 = 7 := (Ex.n x_108 r_v_91 (by decide) n_v_91)
            have kn_124 : g_101.2.1 h 22 = .int t0 := (Sm.v m_107 r_1 (by decide) rfl kp1)
            have kn_125 : g_101.2.1 h 21 = .int 0 := (Sm.v m_107 r_1 (by decide) rfl kn_6)
            have kn_126 : g_101.2.1 h 43 = .ref fa := (Sm.v m_107 r_1 (by decide) rfl kn_7)
            have kn_127 : g_101.2.1 h 46 = .ref fta := (Sm.v m_107 r_1 (by decide) rfl kn_8)
            have kn_128 : g_101.2.1 h 17 = .ref v_9 := (Sm.v m_107 r_1 (by decide) rfl e_v_9)
            have kn_129 : g_101.2.1 h 18 = .ref v_11 := (Sm.v m_107 r_1 (by decide) rfl e_v_11)
            have kn_130 : g_101.2.1 h 3 = .ref v_12 := (Sm.v m_107 r_1 (by decide) rfl e_v_12)
            have kn_131 : g_101.2.1 h 19 = .ref v_15 := (Sm.v m_107 r_1 (by decide) rfl e_v_15)
            have kn_132 : g_101.2.1 h 45 = .ref v_91 := (Sm.v m_107 r_1 (by decide) rfl e_v_91)
            have kn_133 : g_101.2.2.2.1 v_12 at1.toNatClampNeg = u_13 := (Sm.c m_107 r_v_12 (by decide) rfl (sC_a (sC_a (sC_a e_u_13.symm (ro_ne r_v_12 r_v_11 (by decide))) (ro_ne r_v_12 r_v_15 (by decide))) (ro_ne r_v_12 r_4 (by decide))))
            refine W.eq (g2 := F0 m 506 ls [.int r_102]) rfl ?_
            have hD := f_106
            have qc_134 : (0 : Int32).toInt = 0 := (by decide)
            rcases f_104 with ⟨rfl, hw_135⟩ | ⟨rfl, hw_136⟩
            · refine W.eq (g2 := F0 m 506 ls [.int 1]) rfl ?_
              refine lv_if_eq (tgt := 562) hx hb dX7_comes_506 (by decide) (fun c_ => absurd c_ (by decide)) (fun c_ => ?_)
              refine lv_aload_n hx hb dX7_comes_509 rfl (lv_at hl 1 rfl) ?_
              obtain ⟨v_137, e_v_137, r_v_137, n_v_137⟩ := f_8_47 hI r_109
              refine t_get (ci := 7) (v := .ref v_137) hB hT (ro_ci r_109 rfl) rfl 47 (by decide) k_792 e_v_137 dX7_comes_510 ?_
              refine lv_iload_n hx hb dX7_comes_513 rfl (lv_at hl 2 rfl) ?_
              refine lv_aload_n hx hb dX7_comes_514 rfl (lv_at hl 1 rfl) ?_
              obtain ⟨v_138, e_v_138, l_v_138, u_v_138⟩ := f_8_51 hI r_109
              refine t_get (ci := 7) (v := .int v_138) hB hT (ro_ci r_109 rfl) rfl 51 (by decide) k_796 e_v_138 dX7_comes_515 ?_
              have i_139 : vp_in f 7 := (i_in (n := 7) rfl (by omega) (by omega))
              refine t_iast hB hT (ro_in r_v_137 (by decide)) n_v_137 i_139 dX7_comes_518 (fun H locs hT => ?_)
              have hI : Inv (sC g_101 v_137 f.toNatClampNeg v_138) := hI.sC (ck r_v_137 ⟨by omega, by omega⟩)
              have hM : Sm md_m_comes0 g (sC g_101 v_137 f.toNatClampNeg v_138) := hM.tr hE (Sm_sC (by rw [r_v_137]; rfl))
              have hE : Ex g (sC g_101 v_137 f.toNatClampNeg v_138) := hE
              have hD : DP (sC g_101 v_137 f.toNatClampNeg v_138) fa d2_103.toInt := hD.tC (ro_ne r_110 r_v_137 (by decide))
              refine lv_goto (tgt := 562) hx hb dX7_comes_519 (by decide) ?_
              exact t_vret hB hr hT (Nat.le_of_ble_eq_true rfl) (Nat.le_of_ble_eq_true rfl) dX7_comes_562 ⟨d2_103, t0, rfl, hI, hE, hM, f_105, kn_124, (by omega), (by omega), (hD.cast (by omega))⟩
            · refine W.eq (g2 := F0 m 506 ls [.int 0]) rfl ?_
              refine lv_if_eq (tgt := 562) hx hb dX7_comes_506 (by decide) (fun c_ => ?_) (fun c_ => absurd (by decide) c_)
              exact t_vret hB hr hT (Nat.le_of_ble_eq_true rfl) (Nat.le_of_ble_eq_true rfl) dX7_comes_562 ⟨d2_103, t0, rfl, hI, hE, hM, f_105, kn_124, (by omega), (by omega), (hD.cast (by omega))⟩
          · refine W.eq (g2 := F0 m 488 ls [.int 0]) rfl ?_
            refine lv_if_eq (tgt := 562) hx hb dX7_comes_488 (by decide) (fun c_ => ?_) (fun c_ => absurd (by decide) c_)
            exact t_vret hB hr hT (Nat.le_of_ble_eq_true rfl) (Nat.le_of_ble_eq_true rfl) dX7_comes_562 ⟨dd, t0, rfl, hI, hE, hM, kp0, kp1, (by omega), (by omega), (hD.cast (by omega))⟩
        · have c_93' : u_92.toInt ≠ 0 := i_ne c_93 rfl (by decide)
          refine lv_aload_n hx hb dX7_comes_459 rfl (lv_at hl 0 rfl) ?_
          refine t_get (ci := 7) (v := .ref v_91) hB hT (ro_ci r_1 rfl) rfl 45 (by decide) k_790 e_v_91 dX7_comes_460 ?_
          refine lv_iload_n hx hb dX7_comes_463 rfl (lv_at hl 1 rfl) ?_
          have i_u_140 : vp_in f 7 := (i_in (n := 7) rfl (by omega) (by omega))
          refine t_iald (v := u_92) hB hT (ro_in r_v_91 (by decide)) n_v_91 i_u_140 e_u_92.symm dX7_comes_464 ?_
          refine lv_bipush (v := 7) hx hb dX7_comes_465 (by decide) ?_
          refine lv_iload_n hx hb dX7_comes_467 rfl (lv_at hl 3 rfl) ?_
          refine lv_imul hx hb dX7_comes_468 ?_
          refine lv_topi (fun z_141 ez_141 => ?_)
          have e_z_141 : z_141.toInt = 7 * pp.toInt := i_mul ez_141 (by decide) rfl (by omega) (by omega)
          refine lv_iadd hx hb dX7_comes_469 ?_
          refine lv_topi (fun z_142 ez_142 => ?_)
          refine lv_bipush (v := 99) hx hb dX7_comes_470 (by decide) ?_
          refine lv_irem hx hb dX7_comes_472 (by decide) ?_
          refine lv_topi (fun z_143 ez_143 => ?_)
          refine lv_iconst (v := 1) hx hb dX7_comes_473 (by decide) ?_
          refine lv_iadd hx hb dX7_comes_474 ?_
          refine lv_topi (fun z_144 ez_144 => ?_)
          refine lv_goto (tgt := 479) hx hb dX7_comes_475 (by decide) ?_
          refine lv_istore (lv' := [(11, .int z_144), (0, .ref h), (1, .int f), (2, .int sv), (3, .int pp), (4, .int at1), (5, .int wo), (6, .int v), (7, .int c1), (8, .int kn1), (10, .int do1)]) hx hb dX7_comes_479 hl (by decide) rfl (fun ls hl => ?_)
          refine lv_aload_n hx hb dX7_comes_481 rfl (lv_at hl 1 rfl) ?_
          refine lv_iload_n hx hb dX7_comes_482 rfl (lv_at hl 3 rfl) ?_
          refine lv_iload hx hb dX7_comes_483 (lv_at hl 5 rfl) ?_
          refine t_callV (n := 2) (As := [.int sv, .int at1]) (rest := []) (ci := 7) hB hT hl.1 (m_canAsk l D cI cZ cS cR N0 (sC (sC (sC (sC g1 v_9 kn1.toNatClampNeg wo) v_11 kn1.toNatClampNeg u_13) v_15 kn1.toNatClampNeg v) fta f.toNatClampNeg z_18) hI h sv at1 v_12 u_13 r_1 r_v_12 n_v_12 e_v_12 (by omega) (by omega) (sC_a (sC_a (sC_a e_u_13.symm (ro_ne r_v_12 r_v_11 (by decide))) (ro_ne r_v_12 r_v_15 (by decide))) (ro_ne r_v_12 r_4 (by decide)))) (ro_ci r_1 rfl) rfl k_1023 k_65 k_1020 k_1022 k_31 (by decide +kernel) ⟨(Nat.le_of_ble_eq_true rfl), (Nat.le_of_ble_eq_true rfl)⟩ rfl (Nat.le_of_ble_eq_true rfl) ⟨(Nat.le_of_ble_eq_true rfl), (Nat.le_of_ble_eq_true rfl)⟩ dX7_comes_485 (fun v g_145 H locs hp hT => ?_)
          obtain ⟨r_146, rfl, eg, f_147⟩ := hp
          rw [eg] at hT
          clear eg
          refine W.eq (g2 := F0 m 488 ls [.int r_146]) rfl ?_
          rcases f_147 with ⟨rfl, hw_150⟩ | rfl
          · refine W.eq (g2 := F0 m 488 ls [.int 1]) rfl ?_
            refine lv_if_eq (tgt := 562) hx hb dX7_comes_488 (by decide) (fun c_ => absurd c_ (by decide)) (fun c_ => ?_)
            refine lv_aload_n hx hb dX7_comes_491 rfl (lv_at hl 1 rfl) ?_
            refine lv_aload_n hx hb dX7_comes_492 rfl (lv_at hl 1 rfl) ?_
            refine t_get (ci := 7) (v := .ref v_12) hB hT (ro_ci r_1 rfl) rfl 3 (by decide) k_748 e_v_12 dX7_comes_493 ?_
            refine lv_iload hx hb dX7_comes_496 (lv_at hl 5 rfl) ?_
            have i_u_151 : vp_in at1 48 := (i_in (n := 48) rfl (by omega) (by omega))
            refine t_iald (v := u_13) hB hT (ro_in r_v_12 (by decide)) n_v_12 i_u_151 (sC_a (sC_a (sC_a e_u_13.symm (ro_ne r_v_12 r_v_11 (by decide))) (ro_ne r_v_12 r_v_15 (by decide))) (ro_ne r_v_12 r_4 (by decide))) dX7_comes_498 ?_
            refine lv_iload hx hb dX7_comes_499 (lv_at hl 7 rfl) ?_
            refine lv_iload hx hb dX7_comes_501 (lv_at hl 0 rfl) ?_
            refine t_callV (n := 3) (As := [.int u_13, .int v, .int z_144]) (rest := []) (ci := 7) hB hT hl.1 (m_begins l D cI cZ cS cR N0 (sC (sC (sC (sC g1 v_9 kn1.toNatClampNeg wo) v_11 kn1.toNatClampNeg u_13) v_15 kn1.toNatClampNeg v) fta f.toNatClampNeg z_18) hI h u_13 v z_144 dd fa r_1 r_2 n_3 kp0 kn_7 (by omega) (by omega) (by omega) (by omega) (by omega) (by omega) (by omega) hD) (ro_ci r_1 rfl) rfl k_1055 k_65 k_1052 k_1054 k_37 (by decide +kernel) ⟨(Nat.le_of_ble_eq_true rfl), (Nat.le_of_ble_eq_true rfl)⟩ rfl (Nat.le_of_ble_eq_true rfl) ⟨(Nat.le_of_ble_eq_true rfl), (Nat.le_of_ble_eq_true rfl)⟩ dX7_comes_503 (fun v g_152 H locs hp hT => ?_)
            obtain ⟨r_153, d2_154, rfl, hI, x_159, m_158, f_155, f_156, f_157⟩ := hp
            have hM : Sm md_m_comes0 g g_152 := hM.tr hE (m_158.mo (fun r k h => mdle_m_comes0_m_begins h))
            have hE : Ex g g_152 := hE.tr x_159
            have r_160 : g_152.1 h = 8 := (Ex.r x_159 r_1 (by decide))
            have r_161 : g_152.1 fa = 51 := (Ex.r x_159 r_2 (by decide))
            have r_162 : g_152.1 fta = 55 := (Ex.r x_159 r_4 (by decide))
            have r_163 : g_152.1 v_9 = 50 := (Ex.r x_159 r_v_9 (by decide))
            have r_164 : g_152.1 v_11 = 50 := (Ex.r x_159 r_v_11 (by decide))
            have r_165 : g_152.1 v_12 = 72 := (Ex.r x_159 r_v_12 (by decide))
            have r_166 : g_152.1 v_15 = 50 := (Ex.r x_159 r_v_15 (by decide))
            have r_167 : g_152.1 v_91 = 50 := (Ex.r x_159 r_v_91 (by decide))
            have n_168 : g_152.2.2.1 fa = 7 := (Ex.n x_159 r_2 (by decide) n_3)
            have n_169 : g_152.2.2.1 fta = 7 := (Ex.n x_159 r_4 (by decide) n_5)
            have n_170 : g_152.2.2.1 v_9 = 96 := (Ex.n x_159 r_v_9 (by decide) n_v_9)
            have n_171 : g_152.2.2.1 v_11 = 96 := (Ex.n x_159 r_v_11 (by decide) n_v_11)
            have n_172 : g_152.2.2.1 v_12 = 48 := (Ex.n x_159 r_v_12 (by decide) n_v_12)
            have n_173 : g_152.2.2.1 v_15 = 96 := (Ex.n x_159 r_v_15 (by decide) n_v_15)
            have n_174 : g_152.2.2.1 v_91 = 7 := (Ex.n x_159 r_v_91 (by decide) n_v_91)
            have kn_175 : g_152.2.1 h 22 = .int t0 := (Sm.v m_158 r_1 (by decide) rfl kp1)
            have kn_176 : g_152.2.1 h 21 = .int 0 := (Sm.v m_158 r_1 (by decide) rfl kn_6)
            have kn_177 : g_152.2.1 h 43 = .ref fa := (Sm.v m_158 r_1 (by decide) rfl kn_7)
            have kn_178 : g_152.2.1 h 46 = .ref fta := (Sm.v m_158 r_1 (by decide) rfl kn_8)
            have kn_179 : g_152.2.1 h 17 = .ref v_9 := (Sm.v m_158 r_1 (by decide) rfl e_v_9)
            have kn_180 : g_152.2.1 h 18 = .ref v_11 := (Sm.v m_158 r_1 (by decide) rfl e_v_11)
            have kn_181 : g_152.2.1 h 3 = .ref v_12 := (Sm.v m_158 r_1 (by decide) rfl e_v_12)
            have kn_182 : g_152.2.1 h 19 = .ref v_15 := (Sm.v m_158 r_1 (by decide) rfl e_v_15)
            have kn_183 : g_152.2.1 h 45 = .ref v_91 := (Sm.v m_158 r_1 (by decide) rfl e_v_91)
            have kn_184 : g_152.2.2.2.1 v_12 at1.toNatClampNeg = u_13 := (Sm.c m_158 r_v_12 (by decide) rfl (sC_a (sC_a (sC_a e_u_13.symm (ro_ne r_v_12 r_v_11 (by decide))) (ro_ne r_v_12 r_v_15 (by decide))) (ro_ne r_v_12 r_4 (by decide))))
            refine W.eq (g2 := F0 m 506 ls [.int r_153]) rfl ?_
            have hD := f_157
            rcases f_155 with ⟨rfl, hw_185⟩ | ⟨rfl, hw_186⟩
            · refine W.eq (g2 := F0 m 506 ls [.int 1]) rfl ?_
              refine lv_if_eq (tgt := 562) hx hb dX7_comes_506 (by decide) (fun c_ => absurd c_ (by decide)) (fun c_ => ?_)
              refine lv_aload_n hx hb dX7_comes_509 rfl (lv_at hl 1 rfl) ?_
              obtain ⟨v_187, e_v_187, r_v_187, n_v_187⟩ := f_8_47 hI r_160
              refine t_get (ci := 7) (v := .ref v_187) hB hT (ro_ci r_160 rfl) rfl 47 (by decide) k_792 e_v_187 dX7_comes_510 ?_
              refine lv_iload_n hx hb dX7_comes_513 rfl (lv_at hl 2 rfl) ?_
              refine lv_aload_n hx hb dX7_comes_514 rfl (lv_at hl 1 rfl) ?_
              obtain ⟨v_188, e_v_188, l_v_188, u_v_188⟩ := f_8_51 hI r_160
              refine t_get (ci := 7) (v := .int v_188) hB hT (ro_ci r_160 rfl) rfl 51 (by decide) k_796 e_v_188 dX7_comes_515 ?_
              have i_189 : vp_in f 7 := (i_in (n := 7) rfl (by omega) (by omega))
              refine t_iast hB hT (ro_in r_v_187 (by decide)) n_v_187 i_189 dX7_comes_518 (fun H locs hT => ?_)
              have hI : Inv (sC g_152 v_187 f.toNatClampNeg v_188) := hI.sC (ck r_v_187 ⟨by omega, by omega⟩)
              have hM : Sm md_m_comes0 g (sC g_152 v_187 f.toNatClampNeg v_188) := hM.tr hE (Sm_sC (by rw [r_v_187]; rfl))
              have hE : Ex g (sC g_152 v_187 f.toNatClampNeg v_188) := hE
              have hD : DP (sC g_152 v_187 f.toNatClampNeg v_188) fa d2_154.toInt := hD.tC (ro_ne r_161 r_v_187 (by decide))
              refine lv_goto (tgt := 562) hx hb dX7_comes_519 (by decide) ?_
              exact t_vret hB hr hT (Nat.le_of_ble_eq_true rfl) (Nat.le_of_ble_eq_true rfl) dX7_comes_562 ⟨d2_154, t0, rfl, hI, hE, hM, f_156, kn_175, (by omega), (by omega), (hD.cast (by omega))⟩
            · refine W.eq (g2 := F0 m 506 ls [.int 0]) rfl ?_
              refine lv_if_eq (tgt := 562) hx hb dX7_comes_506 (by decide) (fun c_ => ?_) (fun c_ => absurd (by decide) c_)
              exact t_vret hB hr hT (Nat.le_of_ble_eq_true rfl) (Nat.le_of_ble_eq_true rfl) dX7_comes_562 ⟨d2_154, t0, rfl, hI, hE, hM, f_156, kn_175, (by omega), (by omega), (hD.cast (by omega))⟩
          · refine W.eq (g2 := F0 m 488 ls [.int 0]) rfl ?_
            refine lv_if_eq (tgt := 562) hx hb dX7_comes_488 (by decide) (fun c_ => ?_) (fun c_ => absurd (by decide) c_)
            exact t_vret hB hr hT (Nat.le_of_ble_eq_true rfl) (Nat.le_of_ble_eq_true rfl) dX7_comes_562 ⟨dd, t0, rfl, hI, hE, hM, kp0, kp1, (by omega), (by omega), (hD.cast (by omega))⟩
      · refine W.eq (g2 := F0 m 447 ls [.int 0]) rfl ?_
        refine lv_if_eq (tgt := 478) hx hb dX7_comes_447 (by decide) (fun c_ => ?_) (fun c_ => absurd (by decide) c_)
        refine lv_iconst (v := 0) hx hb dX7_comes_478 (by decide) ?_
        refine lv_istore (lv' := [(11, .int 0), (0, .ref h), (1, .int f), (2, .int sv), (3, .int pp), (4, .int at1), (5, .int wo), (6, .int v), (7, .int c1), (8, .int kn1), (10, .int do1)]) hx hb dX7_comes_479 hl (by decide) rfl (fun ls hl => ?_)
        refine lv_aload_n hx hb dX7_comes_481 rfl (lv_at hl 1 rfl) ?_
        refine lv_iload_n hx hb dX7_comes_482 rfl (lv_at hl 3 rfl) ?_
        refine lv_iload hx hb dX7_comes_483 (lv_at hl 5 rfl) ?_
        refine t_callV (n := 2) (As := [.int sv, .int at1]) (rest := []) (ci := 7) hB hT hl.1 (m_canAsk l D cI cZ cS cR N0 (sC (sC (sC (sC g1 v_9 kn1.toNatClampNeg wo) v_11 kn1.toNatClampNeg u_13) v_15 kn1.toNatClampNeg v) fta f.toNatClampNeg z_18) hI h sv at1 v_12 u_13 r_1 r_v_12 n_v_12 e_v_12 (by omega) (by omega) (sC_a (sC_a (sC_a e_u_13.symm (ro_ne r_v_12 r_v_11 (by decide))) (ro_ne r_v_12 r_v_15 (by decide))) (ro_ne r_v_12 r_4 (by decide)))) (ro_ci r_1 rfl) rfl k_1023 k_65 k_1020 k_1022 k_31 (by decide +kernel) ⟨(Nat.le_of_ble_eq_true rfl), (Nat.le_of_ble_eq_true rfl)⟩ rfl (Nat.le_of_ble_eq_true rfl) ⟨(Nat.le_of_ble_eq_true rfl), (Nat.le_of_ble_eq_true rfl)⟩ dX7_comes_485 (fun v g_190 H locs hp hT => ?_)
        obtain ⟨r_191, rfl, eg, f_192⟩ := hp
        rw [eg] at hT
        clear eg
        refine W.eq (g2 := F0 m 488 ls [.int r_191]) rfl ?_
        rcases f_192 with ⟨rfl, hw_195⟩ | rfl
        · refine W.eq (g2 := F0 m 488 ls [.int 1]) rfl ?_
          refine lv_if_eq (tgt := 562) hx hb dX7_comes_488 (by decide) (fun c_ => absurd c_ (by decide)) (fun c_ => ?_)
          refine lv_aload_n hx hb dX7_comes_491 rfl (lv_at hl 1 rfl) ?_
          refine lv_aload_n hx hb dX7_comes_492 rfl (lv_at hl 1 rfl) ?_
          refine t_get (ci := 7) (v := .ref v_12) hB hT (ro_ci r_1 rfl) rfl 3 (by decide) k_748 e_v_12 dX7_comes_493 ?_
          refine lv_iload hx hb dX7_comes_496 (lv_at hl 5 rfl) ?_
          have i_u_196 : vp_in at1 48 := (i_in (n := 48) rfl (by omega) (by omega))
          refine t_iald (v := u_13) hB hT (ro_in r_v_12 (by decide)) n_v_12 i_u_196 (sC_a (sC_a (sC_a e_u_13.symm (ro_ne r_v_12 r_v_11 (by decide))) (ro_ne r_v_12 r_v_15 (by decide))) (ro_ne r_v_12 r_4 (by decide))) dX7_comes_498 ?_
          refine lv_iload hx hb dX7_comes_499 (lv_at hl 7 rfl) ?_
          refine lv_iload hx hb dX7_comes_501 (lv_at hl 0 rfl) ?_
          refine t_callV (n := 3) (As := [.int u_13, .int v, .int 0]) (rest := []) (ci := 7) hB hT hl.1 (m_begins l D cI cZ cS cR N0 (sC (sC (sC (sC g1 v_9 kn1.toNatClampNeg wo) v_11 kn1.toNatClampNeg u_13) v_15 kn1.toNatClampNeg v) fta f.toNatClampNeg z_18) hI h u_13 v 0 dd fa r_1 r_2 n_3 kp0 kn_7 (by have q0 : (0 : Int32).toInt = 0 := (by decide); omega) (by have q0 : (0 : Int32).toInt = 0 := (by decide); omega) (by have q0 : (0 : Int32).toInt = 0 := (by decide); omega) (by have q0 : (0 : Int32).toInt = 0 := (by decide); omega) (by have q0 : (0 : Int32).toInt = 0 := (by decide); omega) (by have q0 : (0 : Int32).toInt = 0 := (by decide); omega) (by have q0 : (0 : Int32).toInt = 0 := (by decide); omega) hD) (ro_ci r_1 rfl) rfl k_1055 k_65 k_1052 k_1054 k_37 (by decide +kernel) ⟨(Nat.le_of_ble_eq_true rfl), (Nat.le_of_ble_eq_true rfl)⟩ rfl (Nat.le_of_ble_eq_true rfl) ⟨(Nat.le_of_ble_eq_true rfl), (Nat.le_of_ble_eq_true rfl)⟩ dX7_comes_503 (fun v g_197 H locs hp hT => ?_)
          obtain ⟨r_198, d2_199, rfl, hI, x_204, m_203, f_200, f_201, f_202⟩ := hp
          have hM : Sm md_m_comes0 g g_197 := hM.tr hE (m_203.mo (fun r k h => mdle_m_comes0_m_begins h))
          have hE : Ex g g_197 := hE.tr x_204
          have r_205 : g_197.1 h = 8 := (Ex.r x_204 r_1 (by decide))
          have r_206 : g_197.1 fa = 51 := (Ex.r x_204 r_2 (by decide))
          have r_207 : g_197.1 fta = 55 := (Ex.r x_204 r_4 (by decide))
          have r_208 : g_197.1 v_9 = 50 := (Ex.r x_204 r_v_9 (by decide))
          have r_209 : g_197.1 v_11 = 50 := (Ex.r x_204 r_v_11 (by decide))
          have r_210 : g_197.1 v_12 = 72 := (Ex.r x_204 r_v_12 (by decide))
          have r_211 : g_197.1 v_15 = 50 := (Ex.r x_204 r_v_15 (by decide))
          have n_212 : g_197.2.2.1 fa = 7 := (Ex.n x_204 r_2 (by decide) n_3)
          have n_213 : g_197.2.2.1 fta = 7 := (Ex.n x_204 r_4 (by decide) n_5)
          have n_214 : g_197.2.2.1 v_9 = 96 := (Ex.n x_204 r_v_9 (by decide) n_v_9)
          have n_215 : g_197.2.2.1 v_11 = 96 := (Ex.n x_204 r_v_11 (by decide) n_v_11)
          have n_216 : g_197.2.2.1 v_12 = 48 := (Ex.n x_204 r_v_12 (by decide) n_v_12)
          have n_217 : g_197.2.2.1 v_15 = 96 := (Ex.n x_204 r_v_15 (by decide) n_v_15)
          have kn_218 : g_197.2.1 h 22 = .int t0 := (Sm.v m_203 r_1 (by decide) rfl kp1)
          have kn_219 : g_197.2.1 h 21 = .int 0 := (Sm.v m_203 r_1 (by decide) rfl kn_6)
          have kn_220 : g_197.2.1 h 43 = .ref fa := (Sm.v m_203 r_1 (by decide) rfl kn_7)
          have kn_221 : g_197.2.1 h 46 = .ref fta := (Sm.v m_203 r_1 (by decide) rfl kn_8)
          have kn_222 : g_197.2.1 h 17 = .ref v_9 := (Sm.v m_203 r_1 (by decide) rfl e_v_9)
          have kn_223 : g_197.2.1 h 18 = .ref v_11 := (Sm.v m_203 r_1 (by decide) rfl e_v_11)
          have kn_224 : g_197.2.1 h 3 = .ref v_12 := (Sm.v m_203 r_1 (by decide) rfl e_v_12)
          have kn_225 : g_197.2.1 h 19 = .ref v_15 := (Sm.v m_203 r_1 (by decide) rfl e_v_15)
          have kn_226 : g_197.2.2.2.1 v_12 at1.toNatClampNeg = u_13 := (Sm.c m_203 r_v_12 (by decide) rfl (sC_a (sC_a (sC_a e_u_13.symm (ro_ne r_v_12 r_v_11 (by decide))) (ro_ne r_v_12 r_v_15 (by decide))) (ro_ne r_v_12 r_4 (by decide))))
          refine W.eq (g2 := F0 m 506 ls [.int r_198]) rfl ?_
          have hD := f_202
          have qc_227 : (0 : Int32).toInt = 0 := (by decide)
          rcases f_200 with ⟨rfl, hw_228⟩ | ⟨rfl, hw_229⟩
          · refine W.eq (g2 := F0 m 506 ls [.int 1]) rfl ?_
            refine lv_if_eq (tgt := 562) hx hb dX7_comes_506 (by decide) (fun c_ => absurd c_ (by decide)) (fun c_ => ?_)
            refine lv_aload_n hx hb dX7_comes_509 rfl (lv_at hl 1 rfl) ?_
            obtain ⟨v_230, e_v_230, r_v_230, n_v_230⟩ := f_8_47 hI r_205
            refine t_get (ci := 7) (v := .ref v_230) hB hT (ro_ci r_205 rfl) rfl 47 (by decide) k_792 e_v_230 dX7_comes_510 ?_
            refine lv_iload_n hx hb dX7_comes_513 rfl (lv_at hl 2 rfl) ?_
            refine lv_aload_n hx hb dX7_comes_514 rfl (lv_at hl 1 rfl) ?_
            obtain ⟨v_231, e_v_231, l_v_231, u_v_231⟩ := f_8_51 hI r_205
            refine t_get (ci := 7) (v := .int v_231) hB hT (ro_ci r_205 rfl) rfl 51 (by decide) k_796 e_v_231 dX7_comes_515 ?_
            have i_232 : vp_in f 7 := (i_in (n := 7) rfl (by omega) (by omega))
            refine t_iast hB hT (ro_in r_v_230 (by decide)) n_v_230 i_232 dX7_comes_518 (fun H locs hT => ?_)
            have hI : Inv (sC g_197 v_230 f.toNatClampNeg v_231) := hI.sC (ck r_v_230 ⟨by omega, by omega⟩)
            have hM : Sm md_m_comes0 g (sC g_197 v_230 f.toNatClampNeg v_231) := hM.tr hE (Sm_sC (by rw [r_v_230]; rfl))
            have hE : Ex g (sC g_197 v_230 f.toNatClampNeg v_231) := hE
            have hD : DP (sC g_197 v_230 f.toNatClampNeg v_231) fa d2_199.toInt := hD.tC (ro_ne r_206 r_v_230 (by decide))
            refine lv_goto (tgt := 562) hx hb dX7_comes_519 (by decide) ?_
            exact t_vret hB hr hT (Nat.le_of_ble_eq_true rfl) (Nat.le_of_ble_eq_true rfl) dX7_comes_562 ⟨d2_199, t0, rfl, hI, hE, hM, f_201, kn_218, (by omega), (by omega), (hD.cast (by omega))⟩
          · refine W.eq (g2 := F0 m 506 ls [.int 0]) rfl ?_
            refine lv_if_eq (tgt := 562) hx hb dX7_comes_506 (by decide) (fun c_ => ?_) (fun c_ => absurd (by decide) c_)
            exact t_vret hB hr hT (Nat.le_of_ble_eq_true rfl) (Nat.le_of_ble_eq_true rfl) dX7_comes_562 ⟨d2_199, t0, rfl, hI, hE, hM, f_201, kn_218, (by omega), (by omega), (hD.cast (by omega))⟩
        · refine W.eq (g2 := F0 m 488 ls [.int 0]) rfl ?_
          refine lv_if_eq (tgt := 562) hx hb dX7_comes_488 (by decide) (fun c_ => ?_) (fun c_ => absurd (by decide) c_)
          exact t_vret hB hr hT (Nat.le_of_ble_eq_true rfl) (Nat.le_of_ble_eq_true rfl) dX7_comes_562 ⟨dd, t0, rfl, hI, hE, hM, kp0, kp1, (by omega), (by omega), (hD.cast (by omega))⟩
    · refine x_ev (y := 6) ej_21 ?_
      refine lv_tableIn (off := 289) (tgt := 522) hx hb dX7_comes_233 (by decide) (by decide) rfl (by decide) ?_
      refine lv_iload hx hb dX7_comes_522 (lv_at hl 9 rfl) ?_
      refine lv_if_eq (tgt := 562) hx hb dX7_comes_524 (by decide) (fun c_233 => ?_) (fun c_233 => ?_)
      · have c_233' : do1.toInt = 0 := i_eq c_233 rfl (by decide)
        exact t_vret hB hr hT (Nat.le_of_ble_eq_true rfl) (Nat.le_of_ble_eq_true rfl) dX7_comes_562 ⟨dd, t0, rfl, hI, hE, hM, kp0, kp1, (by omega), (by omega), (hD.cast (by omega))⟩
      · have c_233' : do1.toInt ≠ 0 := i_ne c_233 rfl (by decide)
        refine lv_aload_n hx hb dX7_comes_527 rfl (lv_at hl 0 rfl) ?_
        refine lv_iload hx hb dX7_comes_528 (lv_at hl 6 rfl) ?_
        refine t_callV (n := 1) (As := [.int v]) (rest := []) (ci := 7) hB hT hl.1 (m_puts0 l D cI cZ cS cR N0 (sC (sC (sC (sC g1 v_9 kn1.toNatClampNeg wo) v_11 kn1.toNatClampNeg u_13) v_15 kn1.toNatClampNeg v) fta f.toNatClampNeg z_18) hI h v t0 r_1 kp1 kn_6 (by omega) (by omega) (by omega) (by omega)) (ro_ci r_1 rfl) rfl k_1079 k_65 k_1076 k_1078 k_43 (by decide +kernel) ⟨(Nat.le_of_ble_eq_true rfl), (Nat.le_of_ble_eq_true rfl)⟩ rfl (Nat.le_of_ble_eq_true rfl) ⟨(Nat.le_of_ble_eq_true rfl), (Nat.le_of_ble_eq_true rfl)⟩ dX7_comes_530 (fun v g_234 H locs hp hT => ?_)
        obtain ⟨t2_235, rfl, hI, x_239, m_238, f_236, f_237⟩ := hp
        have hD : DP g_234 fa dd.toInt := hD.sm m_238 r_2 (by decide) rfl
        have hM : Sm md_m_comes0 g g_234 := hM.tr hE (m_238.mo (fun r k h => mdle_m_comes0_m_puts0 h))
        have hE : Ex g g_234 := hE.tr x_239
        have r_240 : g_234.1 h = 8 := (Ex.r x_239 r_1 (by decide))
        have r_241 : g_234.1 fa = 51 := (Ex.r x_239 r_2 (by decide))
        have r_242 : g_234.1 fta = 55 := (Ex.r x_239 r_4 (by decide))
        have r_243 : g_234.1 v_9 = 50 := (Ex.r x_239 r_v_9 (by decide))
        have r_244 : g_234.1 v_11 = 50 := (Ex.r x_239 r_v_11 (by decide))
        have r_245 : g_234.1 v_12 = 72 := (Ex.r x_239 r_v_12 (by decide))
        have r_246 : g_234.1 v_15 = 50 := (Ex.r x_239 r_v_15 (by decide))
        have n_247 : g_234.2.2.1 fa = 7 := (Ex.n x_239 r_2 (by decide) n_3)
        have n_248 : g_234.2.2.1 fta = 7 := (Ex.n x_239 r_4 (by decide) n_5)
        have n_249 : g_234.2.2.1 v_9 = 96 := (Ex.n x_239 r_v_9 (by decide) n_v_9)
        have n_250 : g_234.2.2.1 v_11 = 96 := (Ex.n x_239 r_v_11 (by decide) n_v_11)
        have n_251 : g_234.2.2.1 v_12 = 48 := (Ex.n x_239 r_v_12 (by decide) n_v_12)
        have n_252 : g_234.2.2.1 v_15 = 96 := (Ex.n x_239 r_v_15 (by decide) n_v_15)
        have kn_253 : g_234.2.1 h 49 = .int dd := (Sm.v m_238 r_1 (by decide) rfl kp0)
        have kn_254 : g_234.2.1 h 21 = .int 0 := (Sm.v m_238 r_1 (by decide) rfl kn_6)
        have kn_255 : g_234.2.1 h 43 = .ref fa := (Sm.v m_238 r_1 (by decide) rfl kn_7)
        have kn_256 : g_234.2.1 h 46 = .ref fta := (Sm.v m_238 r_1 (by decide) rfl kn_8)
        have kn_257 : g_234.2.1 h 17 = .ref v_9 := (Sm.v m_238 r_1 (by decide) rfl e_v_9)
        have kn_258 : g_234.2.1 h 18 = .ref v_11 := (Sm.v m_238 r_1 (by decide) rfl e_v_11)
        have kn_259 : g_234.2.1 h 3 = .ref v_12 := (Sm.v m_238 r_1 (by decide) rfl e_v_12)
        have kn_260 : g_234.2.1 h 19 = .ref v_15 := (Sm.v m_238 r_1 (by decide) rfl e_v_15)
        have kn_261 : g_234.2.2.2.1 v_12 at1.toNatClampNeg = u_13 := (Sm.c m_238 r_v_12 (by decide) rfl (sC_a (sC_a (sC_a e_u_13.symm (ro_ne r_v_12 r_v_11 (by decide))) (ro_ne r_v_12 r_v_15 (by decide))) (ro_ne r_v_12 r_4 (by decide))))
        have kn_262 : g_234.2.2.2.1 fta f.toNatClampNeg = z_18 := (Sm.c m_238 r_4 (by decide) rfl sC_eq)
        refine W.eq (g2 := F0 m 533 ls []) rfl ?_
        refine lv_goto (tgt := 562) hx hb dX7_comes_533 (by decide) ?_
        exact t_vret hB hr hT (Nat.le_of_ble_eq_true rfl) (Nat.le_of_ble_eq_true rfl) dX7_comes_562 ⟨dd, t2_235, rfl, hI, hE, hM, kn_253, f_236, (by omega), (by omega), (hD.cast (by omega))⟩
set_option maxHeartbeats 4000000 in
set_option maxRecDepth 100000 in
theorem lt_m_comes0_b (l : Launch) (D : va_G) (cI cZ cS cR : ClassId) (N0 : NT) (g : GS) (h : Nat) (dd : Int32) (t0 : Int32) (fa : Nat) (fta : Nat) (r_h : g.1 h = 8) (r_fa : g.1 fa = 51) (n_fa : g.2.2.1 fa = 7) (r_fta : g.1 fta = 55) (n_fta : g.2.2.1 fta = 7) (kdd : g.2.1 h 49 = .int dd) (kt0 : g.2.1 h 22 = .int t0) (kw : g.2.1 h 21 = .int 0) (kfa : g.2.1 h 43 = .ref fa) (kft : g.2.1 h 46 = .ref fta) (l_dd : 1 ≤ dd.toInt) (u_dd : dd.toInt ≤ 6) (l_t0 : 0 ≤ t0.toInt) (u_t0 : t0.toInt ≤ 999999999) (hD_0 : DP g fa dd.toInt) (hat : ∀ f : Int32, f.toInt = dd.toInt - 1 → (g.2.2.2.1 fta f.toNatClampNeg).toInt ≤ 7) (hw : PX 48 2 3 71 72 g h) {p : Program} {e : Env} {s : State} {m : MethodId} {args : Array Value} {below : List Frame} {meth : Method} {c : Code} (hB : Tz p s m meth c args cX7_comes 12 RX7 D cI cZ cS cR N0) (hr : meth.sig.returnType = none)    : ∀ (g1 : GS) (f : Int32) (sv : Int32) (pp : Int32) (at1 : Int32) (wo : Int32) (v : Int32) (c1 : Int32) (kn1 : Int32) (ag : Int32)  (H : Heap) (locs : List Loc) (ls : Array Slot), Tv D cI cZ cS cR N0 s.heap H locs g1 → Inv g1 → Ex g g1 → Sm md_m_comes0 g g1 → 0 ≤ f.toInt → f.toInt ≤ 5 → 0 ≤ sv.toInt → sv.toInt ≤ 5 → 0 ≤ pp.toInt → pp.toInt ≤ 7 → 0 ≤ at1.toInt → at1.toInt ≤ 47 → 0 ≤ v.toInt → v.toInt ≤ 999 → 0 ≤ c1.toInt → c1.toInt ≤ 47 → 0 ≤ kn1.toInt → kn1.toInt ≤ 95 → 0 ≤ ag.toInt → ag.toInt ≤ 1 → g1.2.1 h 49 = .int dd → g1.2.1 h 22 = .int t0 → g1.2.2.2.1 fta f.toNatClampNeg = pp → (DP g1 fa dd.toInt) → (f.toInt = dd.toInt - 1 ∧ f.toInt ≤ sv.toInt) → lv_has ls 12 [(0, .ref h), (1, .int f), (2, .int sv), (3, .int pp), (4, .int at1), (5, .int wo), (6, .int v), (7, .int c1), (8, .int kn1), (9, .int ag)] → W p l e (rmx 4 0 0) s m args below meth c H locs 0 0 (MQ below (tQ D cI cZ cS cR N0 (fun v g' => ∃ (d2 : Int32) (t2 : Int32), v = none ∧ Inv g' ∧ Ex g g' ∧ Sm md_m_comes0 g g' ∧ (g'.2.1 h 49 = .int d2) ∧ (g'.2.1 h 22 = .int t2) ∧ (0 ≤ d2.toInt ∧ d2.toInt ≤ 6 ∧ d2.toInt ≤ dd.toInt + 1) ∧ (0 ≤ t2.toInt ∧ t2.toInt ≤ t0.toInt + 1) ∧ (DP g' fa d2.toInt))) args s 0 0 (fun q => N0.1 ≤ q)) (F0 m 159 ls []) := by
  have hx := hB.1
  have hb := hB.2.1
  intro g1 f sv pp at1 wo v c1 kn1 ag H locs ls hT hI hE hM l_f u_f l_sv u_sv l_pp u_pp l_at1 u_at1 l_v u_v l_c1 u_c1 l_kn1 u_kn1 l_ag u_ag kp0 kp1 kc0 hD hfs hl
  have r_1 : g1.1 h = 8 := Ex.r hE r_h (by decide)
  have r_2 : g1.1 fa = 51 := Ex.r hE r_fa (by decide)
  have n_3 : g1.2.2.1 fa = 7 := Ex.n hE r_fa (by decide) n_fa
  have r_4 : g1.1 fta = 55 := Ex.r hE r_fta (by decide)
  have n_5 : g1.2.2.1 fta = 7 := Ex.n hE r_fta (by decide) n_fta
  have kn_6 : g1.2.1 h 21 = .int 0 := Sm.v hM r_h (by decide) rfl kw
  have kn_7 : g1.2.1 h 43 = .ref fa := Sm.v hM r_h (by decide) rfl kfa
  have kn_8 : g1.2.1 h 46 = .ref fta := Sm.v hM r_h (by decide) rfl kft
  refine lv_iload hx hb dX7_comes_159 (lv_at hl 9 rfl) ?_
  refine lv_if_eq (tgt := 182) hx hb dX7_comes_161 (by decide) (fun c_9 => ?_) (fun c_9 => ?_)
  · have c_9' : ag.toInt = 0 := i_eq c_9 rfl (by decide)
    refine lv_iconst (v := 1) hx hb dX7_comes_182 (by decide) ?_
    refine lv_goto (tgt := 187) hx hb dX7_comes_183 (by decide) ?_
    refine lv_istore (lv' := [(10, .int 1), (0, .ref h), (1, .int f), (2, .int sv), (3, .int pp), (4, .int at1), (5, .int wo), (6, .int v), (7, .int c1), (8, .int kn1), (9, .int ag)]) hx hb dX7_comes_187 hl (by decide) rfl (fun ls hl => ?_)
    exact lt_m_comes0_c l D cI cZ cS cR N0 g h dd t0 fa fta r_h r_fa n_fa r_fta n_fta kdd kt0 kw kfa kft l_dd u_dd l_t0 u_t0 hD_0 hat hw hB hr   g1 f sv pp at1 wo v c1 kn1 (1 : Int32) H locs ls hT hI hE hM (by omega) (by omega) (by omega) (by omega) (by omega) (by omega) (by omega) (by omega) (by omega) (by omega) (by omega) (by omega) (by omega) (by omega) (by decide) (by decide) kp0 kp1 kc0 hD (by omega) (lv_sub hl [1, 2, 3, 4, 5, 6, 7, 8, 9, 0] rfl)
  · have c_9' : ag.toInt ≠ 0 := i_ne c_9 rfl (by decide)
    refine lv_iload hx hb dX7_comes_164 (lv_at hl 5 rfl) ?_
    refine lv_if_eq (tgt := 186) hx hb dX7_comes_166 (by decide) (fun c_10 => ?_) (fun c_10 => ?_)
    · have c_10' : wo.toInt = 0 := i_eq c_10 rfl (by decide)
      refine lv_iconst (v := 0) hx hb dX7_comes_186 (by decide) ?_
      refine lv_istore (lv' := [(10, .int 0), (0, .ref h), (1, .int f), (2, .int sv), (3, .int pp), (4, .int at1), (5, .int wo), (6, .int v), (7, .int c1), (8, .int kn1), (9, .int ag)]) hx hb dX7_comes_187 hl (by decide) rfl (fun ls hl => ?_)
      exact lt_m_comes0_c l D cI cZ cS cR N0 g h dd t0 fa fta r_h r_fa n_fa r_fta n_fta kdd kt0 kw kfa kft l_dd u_dd l_t0 u_t0 hD_0 hat hw hB hr   g1 f sv pp at1 wo v c1 kn1 (0 : Int32) H locs ls hT hI hE hM (by omega) (by omega) (by omega) (by omega) (by omega) (by omega) (by omega) (by omega) (by omega) (by omega) (by omega) (by omega) (by omega) (by omega) (by decide) (by decide) kp0 kp1 kc0 hD (by omega) (lv_sub hl [1, 2, 3, 4, 5, 6, 7, 8, 9, 0] rfl)
    · have c_10' : wo.toInt ≠ 0 := i_ne c_10 rfl (by decide)
      refine lv_iload hx hb dX7_comes_169 (lv_at hl 5 rfl) ?_
      refine lv_iconst (v := 2) hx hb dX7_comes_171 (by decide) ?_
      refine lv_icmp_eq (tgt := 186) hx hb dX7_comes_172 (by decide) (fun c_11 => ?_) (fun c_11 => ?_)
      · have c_11' : wo.toInt = 2 := i_eq c_11 rfl (by decide)
        refine lv_iconst (v := 0) hx hb dX7_comes_186 (by decide) ?_
        refine lv_istore (lv' := [(10, .int 0), (0, .ref h), (1, .int f), (2, .int sv), (3, .int pp), (4, .int at1), (5, .int wo), (6, .int v), (7, .int c1), (8, .int kn1), (9, .int ag)]) hx hb dX7_comes_187 hl (by decide) rfl (fun ls hl => ?_)
        exact lt_m_comes0_c l D cI cZ cS cR N0 g h dd t0 fa fta r_h r_fa n_fa r_fta n_fta kdd kt0 kw kfa kft l_dd u_dd l_t0 u_t0 hD_0 hat hw hB hr   g1 f sv pp at1 wo v c1 kn1 (0 : Int32) H locs ls hT hI hE hM (by omega) (by omega) (by omega) (by omega) (by omega) (by omega) (by omega) (by omega) (by omega) (by omega) (by omega) (by omega) (by omega) (by omega) (by decide) (by decide) kp0 kp1 kc0 hD (by omega) (lv_sub hl [1, 2, 3, 4, 5, 6, 7, 8, 9, 0] rfl)
      · have c_11' : wo.toInt ≠ 2 := i_ne c_11 rfl (by decide)
        refine lv_iload hx hb dX7_comes_175 (lv_at hl 5 rfl) ?_
        refine lv_bipush (v := 6) hx hb dX7_comes_177 (by decide) ?_
        refine lv_icmp_eq (tgt := 186) hx hb dX7_comes_179 (by decide) (fun c_12 => ?_) (fun c_12 => ?_)
        · have c_12' : wo.toInt = 6 := i_eq c_12 rfl (by decide)
          refine lv_iconst (v := 0) hx hb dX7_comes_186 (by decide) ?_
          refine lv_istore (lv' := [(10, .int 0), (0, .ref h), (1, .int f), (2, .int sv), (3, .int pp), (4, .int at1), (5, .int wo), (6, .int v), (7, .int c1), (8, .int kn1), (9, .int ag)]) hx hb dX7_comes_187 hl (by decide) rfl (fun ls hl => ?_)
          exact lt_m_comes0_c l D cI cZ cS cR N0 g h dd t0 fa fta r_h r_fa n_fa r_fta n_fta kdd kt0 kw kfa kft l_dd u_dd l_t0 u_t0 hD_0 hat hw hB hr   g1 f sv pp at1 wo v c1 kn1 (0 : Int32) H locs ls hT hI hE hM (by omega) (by omega) (by omega) (by omega) (by omega) (by omega) (by omega) (by omega) (by omega) (by omega) (by omega) (by omega) (by omega) (by omega) (by decide) (by decide) kp0 kp1 kc0 hD (by omega) (lv_sub hl [1, 2, 3, 4, 5, 6, 7, 8, 9, 0] rfl)
        · have c_12' : wo.toInt ≠ 6 := i_ne c_12 rfl (by decide)
          refine lv_iconst (v := 1) hx hb dX7_comes_182 (by decide) ?_
          refine lv_goto (tgt := 187) hx hb dX7_comes_183 (by decide) ?_
          refine lv_istore (lv' := [(10, .int 1), (0, .ref h), (1, .int f), (2, .int sv), (3, .int pp), (4, .int at1), (5, .int wo), (6, .int v), (7, .int c1), (8, .int kn1), (9, .int ag)]) hx hb dX7_comes_187 hl (by decide) rfl (fun ls hl => ?_)
          exact lt_m_comes0_c l D cI cZ cS cR N0 g h dd t0 fa fta r_h r_fa n_fa r_fta n_fta kdd kt0 kw kfa kft l_dd u_dd l_t0 u_t0 hD_0 hat hw hB hr   g1 f sv pp at1 wo v c1 kn1 (1 : Int32) H locs ls hT hI hE hM (by omega) (by omega) (by omega) (by omega) (by omega) (by omega) (by omega) (by omega) (by omega) (by omega) (by omega) (by omega) (by omega) (by omega) (by decide) (by decide) kp0 kp1 kc0 hD (by omega) (lv_sub hl [1, 2, 3, 4, 5, 6, 7, 8, 9, 0] rfl)
set_option maxHeartbeats 4000000 in
set_option maxRecDepth 100000 in
theorem lt_m_comes0_a (l : Launch) (D : va_G) (cI cZ cS cR : ClassId) (N0 : NT) (g : GS) (h : Nat) (dd : Int32) (t0 : Int32) (fa : Nat) (fta : Nat) (r_h : g.1 h = 8) (r_fa : g.1 fa = 51) (n_fa : g.2.2.1 fa = 7) (r_fta : g.1 fta = 55) (n_fta : g.2.2.1 fta = 7) (kdd : g.2.1 h 49 = .int dd) (kt0 : g.2.1 h 22 = .int t0) (kw : g.2.1 h 21 = .int 0) (kfa : g.2.1 h 43 = .ref fa) (kft : g.2.1 h 46 = .ref fta) (l_dd : 1 ≤ dd.toInt) (u_dd : dd.toInt ≤ 6) (l_t0 : 0 ≤ t0.toInt) (u_t0 : t0.toInt ≤ 999999999) (hD_0 : DP g fa dd.toInt) (hat : ∀ f : Int32, f.toInt = dd.toInt - 1 → (g.2.2.2.1 fta f.toNatClampNeg).toInt ≤ 7) (hw : PX 48 2 3 71 72 g h) {p : Program} {e : Env} {s : State} {m : MethodId} {args : Array Value} {below : List Frame} {meth : Method} {c : Code} (hB : Tz p s m meth c args cX7_comes 12 RX7 D cI cZ cS cR N0) (hr : meth.sig.returnType = none)    : ∀ (g1 : GS) (f : Int32) (sv : Int32) (pp : Int32) (at1 : Int32) (wo : Int32) (v : Int32) (c1 : Int32)  (H : Heap) (locs : List Loc) (ls : Array Slot), Tv D cI cZ cS cR N0 s.heap H locs g1 → Inv g1 → Ex g g1 → Sm md_m_comes0 g g1 → 0 ≤ f.toInt → f.toInt ≤ 5 → 0 ≤ sv.toInt → sv.toInt ≤ 5 → 0 ≤ pp.toInt → pp.toInt ≤ 7 → 0 ≤ at1.toInt → at1.toInt ≤ 47 → 0 ≤ v.toInt → v.toInt ≤ 999 → 0 ≤ c1.toInt → c1.toInt ≤ 47 → g1.2.1 h 49 = .int dd → g1.2.1 h 22 = .int t0 → g1.2.2.2.1 fta f.toNatClampNeg = pp → (DP g1 fa dd.toInt) → (f.toInt = dd.toInt - 1 ∧ f.toInt ≤ sv.toInt) → lv_has ls 12 [(0, .ref h), (1, .int f), (2, .int sv), (3, .int pp), (4, .int at1), (5, .int wo), (6, .int v), (7, .int c1)] → W p l e (rmx 4 0 0) s m args below meth c H locs 0 0 (MQ below (tQ D cI cZ cS cR N0 (fun v g' => ∃ (d2 : Int32) (t2 : Int32), v = none ∧ Inv g' ∧ Ex g g' ∧ Sm md_m_comes0 g g' ∧ (g'.2.1 h 49 = .int d2) ∧ (g'.2.1 h 22 = .int t2) ∧ (0 ≤ d2.toInt ∧ d2.toInt ≤ 6 ∧ d2.toInt ≤ dd.toInt + 1) ∧ (0 ≤ t2.toInt ∧ t2.toInt ≤ t0.toInt + 1) ∧ (DP g' fa d2.toInt))) args s 0 0 (fun q => N0.1 ≤ q)) (F0 m 81 ls []) := by
  have hx := hB.1
  have hb := hB.2.1
  intro g1 f sv pp at1 wo v c1 H locs ls hT hI hE hM l_f u_f l_sv u_sv l_pp u_pp l_at1 u_at1 l_v u_v l_c1 u_c1 kp0 kp1 kc0 hD hfs hl
  have r_1 : g1.1 h = 8 := Ex.r hE r_h (by decide)
  have r_2 : g1.1 fa = 51 := Ex.r hE r_fa (by decide)
  have n_3 : g1.2.2.1 fa = 7 := Ex.n hE r_fa (by decide) n_fa
  have r_4 : g1.1 fta = 55 := Ex.r hE r_fta (by decide)
  have n_5 : g1.2.2.1 fta = 7 := Ex.n hE r_fta (by decide) n_fta
  have kn_6 : g1.2.1 h 21 = .int 0 := Sm.v hM r_h (by decide) rfl kw
  have kn_7 : g1.2.1 h 43 = .ref fa := Sm.v hM r_h (by decide) rfl kfa
  have kn_8 : g1.2.1 h 46 = .ref fta := Sm.v hM r_h (by decide) rfl kft
  refine lv_bipush (v := 8) hx hb dX7_comes_81 (by decide) ?_
  refine lv_aload_n hx hb dX7_comes_83 rfl (lv_at hl 0 rfl) ?_
  refine lv_iload_n hx hb dX7_comes_84 rfl (lv_at hl 2 rfl) ?_
  refine t_callV (n := 1) (As := [.int sv]) (rest := [.int 8]) (ci := 7) hB hT hl.1 (m_base l D cI cZ cS cR N0 g1 hI h sv 0 r_1 kn_6 (by have q0 : (0 : Int32).toInt = 0 := (by decide); omega) (by have q0 : (0 : Int32).toInt = 0 := (by decide); omega) (by have q0 : (0 : Int32).toInt = 0 := (by decide); omega) (by have q0 : (0 : Int32).toInt = 0 := (by decide); omega)) (ro_ci r_1 rfl) rfl k_1043 k_65 k_1040 k_1042 k_34 (by decide +kernel) ⟨(Nat.le_of_ble_eq_true rfl), (Nat.le_of_ble_eq_true rfl)⟩ rfl (Nat.le_of_ble_eq_true rfl) ⟨(Nat.le_of_ble_eq_true rfl), (Nat.le_of_ble_eq_true rfl)⟩ dX7_comes_85 (fun v g_9 H locs hp hT => ?_)
  obtain ⟨r_10, rfl, eg, f_11, f_12⟩ := hp
  rw [eg] at hT
  clear eg
  refine W.eq (g2 := F0 m 88 ls [.int r_10, .int 8]) rfl ?_
  have qc_15 : (0 : Int32).toInt = 0 := (by decide)
  refine lv_imul hx hb dX7_comes_88 ?_
  refine lv_topi (fun z_16 ez_16 => ?_)
  have e_z_16 : z_16.toInt = 8 * r_10.toInt := i_mul ez_16 (by decide) rfl (by omega) (by omega)
  refine lv_iload_n hx hb dX7_comes_89 rfl (lv_at hl 3 rfl) ?_
  refine lv_iadd hx hb dX7_comes_90 ?_
  refine lv_topi (fun z_17 ez_17 => ?_)
  have e_z_17 : z_17.toInt = z_16.toInt + pp.toInt := i_add ez_17 rfl rfl (by omega) (by omega)
  refine lv_istore (lv' := [(8, .int z_17), (0, .ref h), (1, .int f), (2, .int sv), (3, .int pp), (4, .int at1), (5, .int wo), (6, .int v), (7, .int c1)]) hx hb dX7_comes_91 hl (by decide) rfl (fun ls hl => ?_)
  refine lv_aload_n hx hb dX7_comes_93 rfl (lv_at hl 1 rfl) ?_
  refine lv_iload_n hx hb dX7_comes_94 rfl (lv_at hl 3 rfl) ?_
  refine lv_iconst (v := 3) hx hb dX7_comes_95 (by decide) ?_
  refine t_callV (n := 2) (As := [.int sv, .int 3]) (rest := []) (ci := 7) hB hT hl.1 (m_has l D cI cZ cS cR N0 g1 hI h sv 3 r_1 (by have q0 : (3 : Int32).toInt = 3 := (by decide); omega) (by have q0 : (3 : Int32).toInt = 3 := (by decide); omega)) (ro_ci r_1 rfl) rfl k_999 k_65 k_996 k_998 k_28 (by decide +kernel) ⟨(Nat.le_of_ble_eq_true rfl), (Nat.le_of_ble_eq_true rfl)⟩ rfl (Nat.le_of_ble_eq_true rfl) ⟨(Nat.le_of_ble_eq_true rfl), (Nat.le_of_ble_eq_true rfl)⟩ dX7_comes_96 (fun v g_18 H locs hp hT => ?_)
  obtain ⟨r_19, rfl, eg, f_20⟩ := hp
  rw [eg] at hT
  clear eg
  refine W.eq (g2 := F0 m 99 ls [.int r_19]) rfl ?_
  have qc_23 : (3 : Int32).toInt = 3 := (by decide)
  rcases f_20 with rfl | rfl
  · refine W.eq (g2 := F0 m 99 ls [.int 1]) rfl ?_
    refine lv_if_eq (tgt := 156) hx hb dX7_comes_99 (by decide) (fun c_ => absurd c_ (by decide)) (fun c_ => ?_)
    refine lv_aload_n hx hb dX7_comes_102 rfl (lv_at hl 1 rfl) ?_
    obtain ⟨v_24, e_v_24, r_v_24, n_v_24⟩ := f_8_48 hI r_1
    refine t_get (ci := 7) (v := .ref v_24) hB hT (ro_ci r_1 rfl) rfl 48 (by decide) k_793 e_v_24 dX7_comes_103 ?_
    refine lv_iload_n hx hb dX7_comes_106 rfl (lv_at hl 2 rfl) ?_
    have i_u_25 : vp_in f 7 := (i_in (n := 7) rfl (by omega) (by omega))
    refine t_zald hB hT r_v_24 n_v_24 i_u_25 rfl dX7_comes_107 ?_
    refine lv_topi (fun u_25 e_u_25 => ?_)
    refine lv_if_eq (tgt := 156) hx hb dX7_comes_108 (by decide) (fun c_26 => ?_) (fun c_26 => ?_)
    · have c_26' : u_25.toInt = 0 := i_eq c_26 rfl (by decide)
      refine lv_iconst (v := 0) hx hb dX7_comes_156 (by decide) ?_
      refine lv_istore (lv' := [(9, .int 0), (8, .int z_17), (0, .ref h), (1, .int f), (2, .int sv), (3, .int pp), (4, .int at1), (5, .int wo), (6, .int v), (7, .int c1)]) hx hb dX7_comes_157 hl (by decide) rfl (fun ls hl => ?_)
      exact lt_m_comes0_b l D cI cZ cS cR N0 g h dd t0 fa fta r_h r_fa n_fa r_fta n_fta kdd kt0 kw kfa kft l_dd u_dd l_t0 u_t0 hD_0 hat hw hB hr   g1 f sv pp at1 wo v c1 z_17 (0 : Int32) H locs ls hT hI hE hM (by omega) (by omega) (by omega) (by omega) (by omega) (by omega) (by omega) (by omega) (by omega) (by omega) (by omega) (by omega) (by omega) (by omega) (by decide) (by decide) kp0 kp1 kc0 hD (by omega) (lv_sub hl [2, 3, 4, 5, 6, 7, 8, 9, 1, 0] rfl)
    · have c_26' : u_25.toInt ≠ 0 := i_ne c_26 rfl (by decide)
      refine lv_aload_n hx hb dX7_comes_111 rfl (lv_at hl 1 rfl) ?_
      obtain ⟨v_27, e_v_27, r_v_27, n_v_27⟩ := f_8_54 hI r_1
      refine t_get (ci := 7) (v := .ref v_27) hB hT (ro_ci r_1 rfl) rfl 54 (by decide) k_799 e_v_27 dX7_comes_112 ?_
      refine lv_iload hx hb dX7_comes_115 (lv_at hl 5 rfl) ?_
      have i_u_28 : vp_in at1 48 := (i_in (n := 48) rfl (by omega) (by omega))
      refine t_iald hB hT (ro_in r_v_27 (by decide)) n_v_27 i_u_28 rfl dX7_comes_117 ?_
      refine lv_topi (fun u_28 e_u_28 => ?_)
      refine lv_iload hx hb dX7_comes_118 (lv_at hl 6 rfl) ?_
      refine lv_icmp_ne (tgt := 156) hx hb dX7_comes_120 (by decide) (fun c_29 => ?_) (fun c_29 => ?_)
      · have c_29' : u_28.toInt ≠ wo.toInt := i_ne c_29 rfl rfl
        refine lv_iconst (v := 0) hx hb dX7_comes_156 (by decide) ?_
        refine lv_istore (lv' := [(9, .int 0), (8, .int z_17), (0, .ref h), (1, .int f), (2, .int sv), (3, .int pp), (4, .int at1), (5, .int wo), (6, .int v), (7, .int c1)]) hx hb dX7_comes_157 hl (by decide) rfl (fun ls hl => ?_)
        exact lt_m_comes0_b l D cI cZ cS cR N0 g h dd t0 fa fta r_h r_fa n_fa r_fta n_fta kdd kt0 kw kfa kft l_dd u_dd l_t0 u_t0 hD_0 hat hw hB hr   g1 f sv pp at1 wo v c1 z_17 (0 : Int32) H locs ls hT hI hE hM (by omega) (by omega) (by omega) (by omega) (by omega) (by omega) (by omega) (by omega) (by omega) (by omega) (by omega) (by omega) (by omega) (by omega) (by decide) (by decide) kp0 kp1 kc0 hD (by omega) (lv_sub hl [2, 3, 4, 5, 6, 7, 8, 9, 1, 0] rfl)
      · have c_29' : u_28.toInt = wo.toInt := i_eq c_29 rfl rfl
        refine lv_aload_n hx hb dX7_comes_123 rfl (lv_at hl 1 rfl) ?_
        obtain ⟨v_30, e_v_30, r_v_30, n_v_30⟩ := f_8_55 hI r_1
        refine t_get (ci := 7) (v := .ref v_30) hB hT (ro_ci r_1 rfl) rfl 55 (by decide) k_800 e_v_30 dX7_comes_124 ?_
        refine lv_iload hx hb dX7_comes_127 (lv_at hl 5 rfl) ?_
        have i_u_31 : vp_in at1 48 := (i_in (n := 48) rfl (by omega) (by omega))
        refine t_iald hB hT (ro_in r_v_30 (by decide)) n_v_30 i_u_31 rfl dX7_comes_129 ?_
        refine lv_topi (fun u_31 e_u_31 => ?_)
        refine lv_aload_n hx hb dX7_comes_130 rfl (lv_at hl 1 rfl) ?_
        obtain ⟨v_32, e_v_32, r_v_32, n_v_32⟩ := f_8_3 hI r_1
        refine t_get (ci := 7) (v := .ref v_32) hB hT (ro_ci r_1 rfl) rfl 3 (by decide) k_748 e_v_32 dX7_comes_131 ?_
        refine lv_iload hx hb dX7_comes_134 (lv_at hl 5 rfl) ?_
        have i_u_33 : vp_in at1 48 := (i_in (n := 48) rfl (by omega) (by omega))
        refine t_iald hB hT (ro_in r_v_32 (by decide)) n_v_32 i_u_33 rfl dX7_comes_136 ?_
        have c_u_33 := hI.c r_v_32 n_v_32 (i_cl i_u_33)
        refine lv_topi (fun u_33 e_u_33 => ?_)
        obtain ⟨l_u_33, u_u_33⟩ := c_u_33
        rw [← e_u_33] at l_u_33 u_u_33
        refine lv_icmp_ne (tgt := 156) hx hb dX7_comes_137 (by decide) (fun c_34 => ?_) (fun c_34 => ?_)
        · have c_34' : u_31.toInt ≠ u_33.toInt := i_ne c_34 rfl rfl
          refine lv_iconst (v := 0) hx hb dX7_comes_156 (by decide) ?_
          refine lv_istore (lv' := [(9, .int 0), (8, .int z_17), (0, .ref h), (1, .int f), (2, .int sv), (3, .int pp), (4, .int at1), (5, .int wo), (6, .int v), (7, .int c1)]) hx hb dX7_comes_157 hl (by decide) rfl (fun ls hl => ?_)
          exact lt_m_comes0_b l D cI cZ cS cR N0 g h dd t0 fa fta r_h r_fa n_fa r_fta n_fta kdd kt0 kw kfa kft l_dd u_dd l_t0 u_t0 hD_0 hat hw hB hr   g1 f sv pp at1 wo v c1 z_17 (0 : Int32) H locs ls hT hI hE hM (by omega) (by omega) (by omega) (by omega) (by omega) (by omega) (by omega) (by omega) (by omega) (by omega) (by omega) (by omega) (by omega) (by omega) (by decide) (by decide) kp0 kp1 kc0 hD (by omega) (lv_sub hl [2, 3, 4, 5, 6, 7, 8, 9, 1, 0] rfl)
        · have c_34' : u_31.toInt = u_33.toInt := i_eq c_34 rfl rfl
          refine lv_aload_n hx hb dX7_comes_140 rfl (lv_at hl 1 rfl) ?_
          obtain ⟨v_35, e_v_35, r_v_35, n_v_35⟩ := f_8_56 hI r_1
          refine t_get (ci := 7) (v := .ref v_35) hB hT (ro_ci r_1 rfl) rfl 56 (by decide) k_801 e_v_35 dX7_comes_141 ?_
          refine lv_iload hx hb dX7_comes_144 (lv_at hl 5 rfl) ?_
          have i_u_36 : vp_in at1 48 := (i_in (n := 48) rfl (by omega) (by omega))
          refine t_iald hB hT (ro_in r_v_35 (by decide)) n_v_35 i_u_36 rfl dX7_comes_146 ?_
          refine lv_topi (fun u_36 e_u_36 => ?_)
          refine lv_iload hx hb dX7_comes_147 (lv_at hl 7 rfl) ?_
          refine lv_icmp_ne (tgt := 156) hx hb dX7_comes_149 (by decide) (fun c_37 => ?_) (fun c_37 => ?_)
          · have c_37' : u_36.toInt ≠ v.toInt := i_ne c_37 rfl rfl
            refine lv_iconst (v := 0) hx hb dX7_comes_156 (by decide) ?_
            refine lv_istore (lv' := [(9, .int 0), (8, .int z_17), (0, .ref h), (1, .int f), (2, .int sv), (3, .int pp), (4, .int at1), (5, .int wo), (6, .int v), (7, .int c1)]) hx hb dX7_comes_157 hl (by decide) rfl (fun ls hl => ?_)
            exact lt_m_comes0_b l D cI cZ cS cR N0 g h dd t0 fa fta r_h r_fa n_fa r_fta n_fta kdd kt0 kw kfa kft l_dd u_dd l_t0 u_t0 hD_0 hat hw hB hr   g1 f sv pp at1 wo v c1 z_17 (0 : Int32) H locs ls hT hI hE hM (by omega) (by omega) (by omega) (by omega) (by omega) (by omega) (by omega) (by omega) (by omega) (by omega) (by omega) (by omega) (by omega) (by omega) (by decide) (by decide) kp0 kp1 kc0 hD (by omega) (lv_sub hl [2, 3, 4, 5, 6, 7, 8, 9, 1, 0] rfl)
          · have c_37' : u_36.toInt = v.toInt := i_eq c_37 rfl rfl
            refine lv_iconst (v := 1) hx hb dX7_comes_152 (by decide) ?_
            refine lv_goto (tgt := 157) hx hb dX7_comes_153 (by decide) ?_
            refine lv_istore (lv' := [(9, .int 1), (8, .int z_17), (0, .ref h), (1, .int f), (2, .int sv), (3, .int pp), (4, .int at1), (5, .int wo), (6, .int v), (7, .int c1)]) hx hb dX7_comes_157 hl (by decide) rfl (fun ls hl => ?_)
            exact lt_m_comes0_b l D cI cZ cS cR N0 g h dd t0 fa fta r_h r_fa n_fa r_fta n_fta kdd kt0 kw kfa kft l_dd u_dd l_t0 u_t0 hD_0 hat hw hB hr   g1 f sv pp at1 wo v c1 z_17 (1 : Int32) H locs ls hT hI hE hM (by omega) (by omega) (by omega) (by omega) (by omega) (by omega) (by omega) (by omega) (by omega) (by omega) (by omega) (by omega) (by omega) (by omega) (by decide) (by decide) kp0 kp1 kc0 hD (by omega) (lv_sub hl [2, 3, 4, 5, 6, 7, 8, 9, 1, 0] rfl)
  · refine W.eq (g2 := F0 m 99 ls [.int 0]) rfl ?_
    refine lv_if_eq (tgt := 156) hx hb dX7_comes_99 (by decide) (fun c_ => ?_) (fun c_ => absurd (by decide) c_)
    refine lv_iconst (v := 0) hx hb dX7_comes_156 (by decide) ?_
    refine lv_istore (lv' := [(9, .int 0), (8, .int z_17), (0, .ref h), (1, .int f), (2, .int sv), (3, .int pp), (4, .int at1), (5, .int wo), (6, .int v), (7, .int c1)]) hx hb dX7_comes_157 hl (by decide) rfl (fun ls hl => ?_)
    exact lt_m_comes0_b l D cI cZ cS cR N0 g h dd t0 fa fta r_h r_fa n_fa r_fta n_fta kdd kt0 kw kfa kft l_dd u_dd l_t0 u_t0 hD_0 hat hw hB hr   g1 f sv pp at1 wo v c1 z_17 (0 : Int32) H locs ls hT hI hE hM (by omega) (by omega) (by omega) (by omega) (by omega) (by omega) (by omega) (by omega) (by omega) (by omega) (by omega) (by omega) (by omega) (by omega) (by decide) (by decide) kp0 kp1 kc0 hD (by omega) (lv_sub hl [2, 3, 4, 5, 6, 7, 8, 9, 1, 0] rfl)
set_option maxHeartbeats 4000000 in
set_option maxRecDepth 100000 in
theorem m_comes0 (l : Launch) (D : va_G) (cI cZ cS cR : ClassId) (N0 : NT) (g : GS) (hI : Inv g) (h : Nat) (dd : Int32) (t0 : Int32) (fa : Nat) (fta : Nat) (r_h : g.1 h = 8) (r_fa : g.1 fa = 51) (n_fa : g.2.2.1 fa = 7) (r_fta : g.1 fta = 55) (n_fta : g.2.2.1 fta = 7) (kdd : g.2.1 h 49 = .int dd) (kt0 : g.2.1 h 22 = .int t0) (kw : g.2.1 h 21 = .int 0) (kfa : g.2.1 h 43 = .ref fa) (kft : g.2.1 h 46 = .ref fta) (l_dd : 1 ≤ dd.toInt) (u_dd : dd.toInt ≤ 6) (l_t0 : 0 ≤ t0.toInt) (u_t0 : t0.toInt ≤ 999999999) (hD_0 : DP g fa dd.toInt) (hat : ∀ f : Int32, f.toInt = dd.toInt - 1 → (g.2.2.2.1 fta f.toNatClampNeg).toInt ≤ 7) (hw : PX 48 2 3 71 72 g h) : Ty l D cI cZ cS cR N0 yX7_comes cX7_comes 12 none 4 0 0 [.ref h] g (fun v g' => ∃ (d2 : Int32) (t2 : Int32), v = none ∧ Inv g' ∧ Ex g g' ∧ Sm md_m_comes0 g g' ∧ (g'.2.1 h 49 = .int d2) ∧ (g'.2.1 h 22 = .int t2) ∧ (0 ≤ d2.toInt ∧ d2.toInt ≤ 6 ∧ d2.toInt ≤ dd.toInt + 1) ∧ (0 ≤ t2.toInt ∧ t2.toInt ≤ t0.toInt + 1) ∧ (DP g' fa d2.toInt)) := by
  refine t_enter (by decide) (Nat.le_of_ble_eq_true rfl) ?_
  intro p e s m args below meth c ls H locs hB hr hin hl hT
  have hx := hB.1
  have hb := hB.2.1
  have hl : lv_has ls 12 [(0, .ref h)] := hl
  have hE : Ex g g := Ex.rf
  have hM : Sm md_m_comes0 g g := Sm.rf
  have hD := hD_0
  refine lv_aload_n hx hb dX7_comes_0 rfl (lv_at hl 0 rfl) ?_
  refine t_get (ci := 7) (v := .int dd) hB hT (ro_ci r_h rfl) rfl 49 (by decide) k_794 kdd dX7_comes_1 ?_
  refine lv_iconst (v := 1) hx hb dX7_comes_4 (by decide) ?_
  refine lv_isub hx hb dX7_comes_5 ?_
  refine lv_topi (fun z_1 ez_1 => ?_)
  have e_z_1 : z_1.toInt = dd.toInt - 1 := i_sub ez_1 rfl (by decide) (by omega) (by omega)
  refine lv_istore_n (lv' := [(1, .int z_1), (0, .ref h)]) hx hb dX7_comes_6 rfl hl (by decide) rfl (fun ls hl => ?_)
  refine lv_aload_n hx hb dX7_comes_7 rfl (lv_at hl 1 rfl) ?_
  refine t_get (ci := 7) (v := .ref fa) hB hT (ro_ci r_h rfl) rfl 43 (by decide) k_788 kfa dX7_comes_8 ?_
  refine lv_iload_n hx hb dX7_comes_11 rfl (lv_at hl 0 rfl) ?_
  have i_u_2 : vp_in z_1 7 := (i_in (n := 7) rfl (by omega) (by omega))
  refine t_iald hB hT (ro_in r_fa (by decide)) n_fa i_u_2 rfl dX7_comes_12 ?_
  have c_u_2 := hI.c r_fa n_fa (i_cl i_u_2)
  refine lv_topi (fun u_2 e_u_2 => ?_)
  obtain ⟨l_u_2, u_u_2⟩ := c_u_2
  rw [← e_u_2] at l_u_2 u_u_2
  have hsf := hD.at (f := z_1) (by omega) (by omega) e_u_2.symm
  refine lv_istore_n (lv' := [(2, .int u_2), (1, .int z_1), (0, .ref h)]) hx hb dX7_comes_13 rfl hl (by decide) rfl (fun ls hl => ?_)
  refine lv_aload_n hx hb dX7_comes_14 rfl (lv_at hl 2 rfl) ?_
  refine t_get (ci := 7) (v := .ref fta) hB hT (ro_ci r_h rfl) rfl 46 (by decide) k_791 kft dX7_comes_15 ?_
  refine lv_iload_n hx hb dX7_comes_18 rfl (lv_at hl 1 rfl) ?_
  have i_u_3 : vp_in z_1 7 := (i_in (n := 7) rfl (by omega) (by omega))
  refine t_iald hB hT (ro_in r_fta (by decide)) n_fta i_u_3 rfl dX7_comes_19 ?_
  have c_u_3 := hI.c r_fta n_fta (i_cl i_u_3)
  refine lv_topi (fun u_3 e_u_3 => ?_)
  obtain ⟨l_u_3, u_u_3⟩ := c_u_3
  rw [← e_u_3] at l_u_3 u_u_3
  have hat1 := hat z_1 (by omega)
  rw [e_u_3.symm] at hat1
  refine lv_istore_n (lv' := [(3, .int u_3), (2, .int u_2), (1, .int z_1), (0, .ref h)]) hx hb dX7_comes_20 rfl hl (by decide) rfl (fun ls hl => ?_)
  refine lv_bipush (v := 8) hx hb dX7_comes_21 (by decide) ?_
  refine lv_iload_n hx hb dX7_comes_23 rfl (lv_at hl 1 rfl) ?_
  refine lv_imul hx hb dX7_comes_24 ?_
  refine lv_topi (fun z_4 ez_4 => ?_)
  have e_z_4 : z_4.toInt = 8 * u_2.toInt := i_mul ez_4 (by decide) rfl (by omega) (by omega)
  refine lv_iload_n hx hb dX7_comes_25 rfl (lv_at hl 0 rfl) ?_
  refine lv_iadd hx hb dX7_comes_26 ?_
  refine lv_topi (fun z_5 ez_5 => ?_)
  have e_z_5 : z_5.toInt = z_4.toInt + u_3.toInt := i_add ez_5 rfl rfl (by omega) (by omega)
  refine lv_istore (lv' := [(4, .int z_5), (3, .int u_3), (2, .int u_2), (1, .int z_1), (0, .ref h)]) hx hb dX7_comes_27 hl (by decide) rfl (fun ls hl => ?_)
  refine lv_aload_n hx hb dX7_comes_29 rfl (lv_at hl 4 rfl) ?_
  obtain ⟨v_6, e_v_6, r_v_6, n_v_6⟩ := f_8_2 hI r_h
  refine t_get (ci := 7) (v := .ref v_6) hB hT (ro_ci r_h rfl) rfl 2 (by decide) k_747 e_v_6 dX7_comes_30 ?_
  refine lv_iload hx hb dX7_comes_33 (lv_at hl 0 rfl) ?_
  have i_u_7 : vp_in z_5 48 := (i_in (n := 48) rfl (by omega) (by omega))
  refine t_iald hB hT (ro_in r_v_6 (by decide)) n_v_6 i_u_7 rfl dX7_comes_35 ?_
  refine lv_topi (fun u_7 e_u_7 => ?_)
  refine lv_istore (lv' := [(5, .int u_7), (4, .int z_5), (3, .int u_3), (2, .int u_2), (1, .int z_1), (0, .ref h)]) hx hb dX7_comes_36 hl (by decide) rfl (fun ls hl => ?_)
  refine lv_aload_n hx hb dX7_comes_38 rfl (lv_at hl 5 rfl) ?_
  refine lv_iload hx hb dX7_comes_39 (lv_at hl 1 rfl) ?_
  refine lv_iload_n hx hb dX7_comes_41 rfl (lv_at hl 4 rfl) ?_
  refine t_callV (n := 2) (As := [.int z_5, .int z_1]) (rest := []) (ci := 7) hB hT hl.1 (m_valued l D cI cZ cS cR N0 g hI h z_5 z_1 r_h (by omega) (by omega) (by omega) (by omega)) (ro_ci r_h rfl) rfl k_1075 k_65 k_1072 k_1074 k_42 (by decide +kernel) ⟨(Nat.le_of_ble_eq_true rfl), (Nat.le_of_ble_eq_true rfl)⟩ rfl (Nat.le_of_ble_eq_true rfl) ⟨(Nat.le_of_ble_eq_true rfl), (Nat.le_of_ble_eq_true rfl)⟩ dX7_comes_42 (fun v g_8 H locs hp hT => ?_)
  obtain ⟨r_9, rfl, eg, f_10⟩ := hp
  rw [eg] at hT
  clear eg
  refine W.eq (g2 := F0 m 45 ls [.int r_9]) rfl ?_
  refine lv_istore (lv' := [(6, .int r_9), (5, .int u_7), (4, .int z_5), (3, .int u_3), (2, .int u_2), (1, .int z_1), (0, .ref h)]) hx hb dX7_comes_45 hl (by decide) rfl (fun ls hl => ?_)
  refine lv_iconst (v := 4) hx hb dX7_comes_47 (by decide) ?_
  refine lv_aload_n hx hb dX7_comes_48 rfl (lv_at hl 6 rfl) ?_
  refine lv_iload_n hx hb dX7_comes_49 rfl (lv_at hl 4 rfl) ?_
  refine t_callV (n := 1) (As := [.int u_2]) (rest := [.int 4]) (ci := 7) hB hT hl.1 (m_base l D cI cZ cS cR N0 g hI h u_2 0 r_h kw (by have q0 : (0 : Int32).toInt = 0 := (by decide); omega) (by have q0 : (0 : Int32).toInt = 0 := (by decide); omega) (by have q0 : (0 : Int32).toInt = 0 := (by decide); omega) (by have q0 : (0 : Int32).toInt = 0 := (by decide); omega)) (ro_ci r_h rfl) rfl k_1043 k_65 k_1040 k_1042 k_34 (by decide +kernel) ⟨(Nat.le_of_ble_eq_true rfl), (Nat.le_of_ble_eq_true rfl)⟩ rfl (Nat.le_of_ble_eq_true rfl) ⟨(Nat.le_of_ble_eq_true rfl), (Nat.le_of_ble_eq_true rfl)⟩ dX7_comes_50 (fun v g_13 H locs hp hT => ?_)
  obtain ⟨r_14, rfl, eg, f_15, f_16⟩ := hp
  rw [eg] at hT
  clear eg
  refine W.eq (g2 := F0 m 53 ls [.int r_14, .int 4]) rfl ?_
  have qc_19 : (0 : Int32).toInt = 0 := (by decide)
  refine lv_imul hx hb dX7_comes_53 ?_
  refine lv_topi (fun z_20 ez_20 => ?_)
  have e_z_20 : z_20.toInt = 4 * r_14.toInt := i_mul ez_20 (by decide) rfl (by omega) (by omega)
  refine lv_iload hx hb dX7_comes_54 (lv_at hl 1 rfl) ?_
  refine lv_iconst (v := 5) hx hb dX7_comes_56 (by decide) ?_
  refine lv_icmp_eq (tgt := 67) hx hb dX7_comes_57 (by decide) (fun c_21 => ?_) (fun c_21 => ?_)
  · have c_21' : u_7.toInt = 5 := i_eq c_21 rfl (by decide)
    refine lv_iconst (v := 0) hx hb dX7_comes_67 (by decide) ?_
    refine lv_goto (tgt := 78) hx hb dX7_comes_68 (by decide) ?_
    refine lv_iadd hx hb dX7_comes_78 ?_
    refine lv_topi (fun z_22 ez_22 => ?_)
    have e_z_22 : z_22.toInt = z_20.toInt + 0 := i_add ez_22 rfl (by decide) (by omega) (by omega)
    refine lv_istore (lv' := [(7, .int z_22), (6, .int r_9), (5, .int u_7), (4, .int z_5), (3, .int u_3), (2, .int u_2), (1, .int z_1), (0, .ref h)]) hx hb dX7_comes_79 hl (by decide) rfl (fun ls hl => ?_)
    exact lt_m_comes0_a l D cI cZ cS cR N0 g h dd t0 fa fta r_h r_fa n_fa r_fta n_fta kdd kt0 kw kfa kft l_dd u_dd l_t0 u_t0 hD_0 hat hw hB hr   g z_1 u_2 u_3 z_5 u_7 r_9 z_22 H locs ls hT hI hE hM (by omega) (by omega) (by omega) (by omega) (by omega) (by omega) (by omega) (by omega) (by omega) (by omega) (by omega) (by omega) kdd kt0 e_u_3.symm hD (by omega) (lv_sub hl [7, 6, 5, 4, 3, 2, 1, 0] rfl)
  · have c_21' : u_7.toInt ≠ 5 := i_ne c_21 rfl (by decide)
    refine lv_iload hx hb dX7_comes_60 (lv_at hl 1 rfl) ?_
    refine lv_bipush (v := 6) hx hb dX7_comes_62 (by decide) ?_
    refine lv_icmp_ne (tgt := 71) hx hb dX7_comes_64 (by decide) (fun c_23 => ?_) (fun c_23 => ?_)
    · have c_23' : u_7.toInt ≠ 6 := i_ne c_23 rfl (by decide)
      refine lv_aload_n hx hb dX7_comes_71 rfl (lv_at hl 6 rfl) ?_
      obtain ⟨v_24, e_v_24, r_v_24, n_v_24⟩ := f_8_3 hI r_h
      refine t_get (ci := 7) (v := .ref v_24) hB hT (ro_ci r_h rfl) rfl 3 (by decide) k_748 e_v_24 dX7_comes_72 ?_
      refine lv_iload hx hb dX7_comes_75 (lv_at hl 2 rfl) ?_
      have i_u_25 : vp_in z_5 48 := (i_in (n := 48) rfl (by omega) (by omega))
      refine t_iald hB hT (ro_in r_v_24 (by decide)) n_v_24 i_u_25 rfl dX7_comes_77 ?_
      have c_u_25 := hI.c r_v_24 n_v_24 (i_cl i_u_25)
      refine lv_topi (fun u_25 e_u_25 => ?_)
      obtain ⟨l_u_25, u_u_25⟩ := c_u_25
      rw [← e_u_25] at l_u_25 u_u_25
      have hwp := PLu (PX.use hw e_v_6 e_v_24 z_5.toNatClampNeg (i_cl (i_in (n := 48) rfl (by omega) (by omega)))) e_u_25.symm e_u_7.symm
      refine lv_iadd hx hb dX7_comes_78 ?_
      refine lv_topi (fun z_26 ez_26 => ?_)
      have e_z_26 : z_26.toInt = z_20.toInt + u_25.toInt := i_add ez_26 rfl rfl (by omega) (by omega)
      refine lv_istore (lv' := [(7, .int z_26), (6, .int r_9), (5, .int u_7), (4, .int z_5), (3, .int u_3), (2, .int u_2), (1, .int z_1), (0, .ref h)]) hx hb dX7_comes_79 hl (by decide) rfl (fun ls hl => ?_)
      exact lt_m_comes0_a l D cI cZ cS cR N0 g h dd t0 fa fta r_h r_fa n_fa r_fta n_fta kdd kt0 kw kfa kft l_dd u_dd l_t0 u_t0 hD_0 hat hw hB hr   g z_1 u_2 u_3 z_5 u_7 r_9 z_26 H locs ls hT hI hE hM (by omega) (by omega) (by omega) (by omega) (by omega) (by omega) (by omega) (by omega) (by omega) (by omega) (by omega) (by omega) kdd kt0 e_u_3.symm hD (by omega) (lv_sub hl [7, 6, 5, 4, 3, 2, 1, 0] rfl)
    · have c_23' : u_7.toInt = 6 := i_eq c_23 rfl (by decide)
      refine lv_iconst (v := 0) hx hb dX7_comes_67 (by decide) ?_
      refine lv_goto (tgt := 78) hx hb dX7_comes_68 (by decide) ?_
      refine lv_iadd hx hb dX7_comes_78 ?_
      refine lv_topi (fun z_27 ez_27 => ?_)
      have e_z_27 : z_27.toInt = z_20.toInt + 0 := i_add ez_27 rfl (by decide) (by omega) (by omega)
      refine lv_istore (lv' := [(7, .int z_27), (6, .int r_9), (5, .int u_7), (4, .int z_5), (3, .int u_3), (2, .int u_2), (1, .int z_1), (0, .ref h)]) hx hb dX7_comes_79 hl (by decide) rfl (fun ls hl => ?_)
      exact lt_m_comes0_a l D cI cZ cS cR N0 g h dd t0 fa fta r_h r_fa n_fa r_fta n_fta kdd kt0 kw kfa kft l_dd u_dd l_t0 u_t0 hD_0 hat hw hB hr   g z_1 u_2 u_3 z_5 u_7 r_9 z_27 H locs ls hT hI hE hM (by omega) (by omega) (by omega) (by omega) (by omega) (by omega) (by omega) (by omega) (by omega) (by omega) (by omega) (by omega) kdd kt0 e_u_3.symm hD (by omega) (lv_sub hl [7, 6, 5, 4, 3, 2, 1, 0] rfl)
abbrev md_m_comes1 : Nat → Nat → Bool := mdf [(8, 49), (8, 51), (8, 52), (40, 99), (50, 99), (51, 99), (54, 99), (55, 99), (56, 99), (58, 99)]
theorem mdle_m_comes1_m_begins {r k : Nat} (h : md_m_comes1 r k = false) : md_m_begins r k = false := mdf_le (by decide +kernel) h
theorem mdle_m_comes1_m_puts1 {r k : Nat} (h : md_m_comes1 r k = false) : md_m_puts1 r k = false := mdf_le (by decide +kernel) h
set_option maxHeartbeats 4000000 in
set_option maxRecDepth 100000 in
theorem lt_m_comes1_c (l : Launch) (D : va_G) (cI cZ cS cR : ClassId) (N0 : NT) (g : GS) (h : Nat) (dd : Int32) (t0 : Int32) (fa : Nat) (fta : Nat) (r_h : g.1 h = 8) (r_fa : g.1 fa = 51) (n_fa : g.2.2.1 fa = 7) (r_fta : g.1 fta = 55) (n_fta : g.2.2.1 fta = 7) (kdd : g.2.1 h 49 = .int dd) (kt0 : g.2.1 h 52 = .int t0) (kw : g.2.1 h 21 = .int 1) (kfa : g.2.1 h 43 = .ref fa) (kft : g.2.1 h 46 = .ref fta) (l_dd : 1 ≤ dd.toInt) (u_dd : dd.toInt ≤ 6) (l_t0 : 0 ≤ t0.toInt) (u_t0 : t0.toInt ≤ 1199) (hD_0 : DP g fa dd.toInt) (hat : ∀ f : Int32, f.toInt = dd.toInt - 1 → (g.2.2.2.1 fta f.toNatClampNeg).toInt ≤ 7) (hw : PX 48 2 3 71 72 g h) {p : Program} {e : Env} {s : State} {m : MethodId} {args : Array Value} {below : List Frame} {meth : Method} {c : Code} (hB : Tz p s m meth c args cX7_comes 12 RX7 D cI cZ cS cR N0) (hr : meth.sig.returnType = none)    : ∀ (g1 : GS) (f : Int32) (sv : Int32) (pp : Int32) (at1 : Int32) (wo : Int32) (v : Int32) (c1 : Int32) (kn1 : Int32) (do1 : Int32)  (H : Heap) (locs : List Loc) (ls : Array Slot), Tv D cI cZ cS cR N0 s.heap H locs g1 → Inv g1 → Ex g g1 → Sm md_m_comes1 g g1 → 0 ≤ f.toInt → f.toInt ≤ 5 → 0 ≤ sv.toInt → sv.toInt ≤ 5 → 0 ≤ pp.toInt → pp.toInt ≤ 7 → 0 ≤ at1.toInt → at1.toInt ≤ 47 → 0 ≤ v.toInt → v.toInt ≤ 999 → 0 ≤ c1.toInt → c1.toInt ≤ 47 → 0 ≤ kn1.toInt → kn1.toInt ≤ 95 → 0 ≤ do1.toInt → do1.toInt ≤ 1 → g1.2.1 h 49 = .int dd → g1.2.1 h 52 = .int t0 → g1.2.2.2.1 fta f.toNatClampNeg = pp → (DP g1 fa dd.toInt) → (f.toInt = dd.toInt - 1 ∧ f.toInt ≤ sv.toInt) → lv_has ls 12 [(0, .ref h), (1, .int f), (2, .int sv), (3, .int pp), (4, .int at1), (5, .int wo), (6, .int v), (7, .int c1), (8, .int kn1), (10, .int do1)] → W p l e (rmx 4 0 0) s m args below meth c H locs 0 0 (MQ below (tQ D cI cZ cS cR N0 (fun v g' => ∃ (d2 : Int32) (t2 : Int32), v = none ∧ Inv g' ∧ Ex g g' ∧ Sm md_m_comes1 g g' ∧ (g'.2.1 h 49 = .int d2) ∧ (g'.2.1 h 52 = .int t2) ∧ (0 ≤ d2.toInt ∧ d2.toInt ≤ 6 ∧ d2.toInt ≤ dd.toInt + 1) ∧ (0 ≤ t2.toInt ∧ t2.toInt ≤ t0.toInt + 1) ∧ (DP g' fa d2.toInt))) args s 0 0 (fun q => N0.1 ≤ q)) (F0 m 189 ls []) := by
  have hx := hB.1
  have hb := hB.2.1
  intro g1 f sv pp at1 wo v c1 kn1 do1 H locs ls hT hI hE hM l_f u_f l_sv u_sv l_pp u_pp l_at1 u_at1 l_v u_v l_c1 u_c1 l_kn1 u_kn1 l_do1 u_do1 kp0 kp1 kc0 hD hfs hl
  have r_1 : g1.1 h = 8 := Ex.r hE r_h (by decide)
  have r_2 : g1.1 fa = 51 := Ex.r hE r_fa (by decide)
  have n_3 : g1.2.2.1 fa = 7 := Ex.n hE r_fa (by decide) n_fa
  have r_4 : g1.1 fta = 55 := Ex.r hE r_fta (by decide)
  have n_5 : g1.2.2.1 fta = 7 := Ex.n hE r_fta (by decide) n_fta
  have kn_6 : g1.2.1 h 21 = .int 1 := Sm.v hM r_h (by decide) rfl kw
  have kn_7 : g1.2.1 h 43 = .ref fa := Sm.v hM r_h (by decide) rfl kfa
  have kn_8 : g1.2.1 h 46 = .ref fta := Sm.v hM r_h (by decide) rfl kft
  refine lv_aload_n hx hb dX7_comes_189 rfl (lv_at hl 0 rfl) ?_
  obtain ⟨v_9, e_v_9, r_v_9, n_v_9⟩ := f_8_17 hI r_1
  refine t_get (ci := 7) (v := .ref v_9) hB hT (ro_ci r_1 rfl) rfl 17 (by decide) k_762 e_v_9 dX7_comes_190 ?_
  refine lv_iload hx hb dX7_comes_193 (lv_at hl 8 rfl) ?_
  refine lv_iload hx hb dX7_comes_195 (lv_at hl 5 rfl) ?_
  have i_10 : vp_in kn1 96 := (i_in (n := 96) rfl (by omega) (by omega))
  refine t_iast hB hT (ro_in r_v_9 (by decide)) n_v_9 i_10 dX7_comes_197 (fun H locs hT => ?_)
  have hI : Inv (sC g1 v_9 kn1.toNatClampNeg wo) := hI.sC (ck r_v_9 trivial)
  have hM : Sm md_m_comes1 g (sC g1 v_9 kn1.toNatClampNeg wo) := hM.tr hE (Sm_sC (by rw [r_v_9]; rfl))
  have hE : Ex g (sC g1 v_9 kn1.toNatClampNeg wo) := hE
  have hD : DP (sC g1 v_9 kn1.toNatClampNeg wo) fa dd.toInt := hD.tC (ro_ne r_2 r_v_9 (by decide))
  refine lv_aload_n hx hb dX7_comes_198 rfl (lv_at hl 0 rfl) ?_
  obtain ⟨v_11, e_v_11, r_v_11, n_v_11⟩ := f_8_18 hI r_1
  refine t_get (ci := 7) (v := .ref v_11) hB hT (ro_ci r_1 rfl) rfl 18 (by decide) k_763 e_v_11 dX7_comes_199 ?_
  refine lv_iload hx hb dX7_comes_202 (lv_at hl 8 rfl) ?_
  refine lv_aload_n hx hb dX7_comes_204 rfl (lv_at hl 0 rfl) ?_
  obtain ⟨v_12, e_v_12, r_v_12, n_v_12⟩ := f_8_3 hI r_1
  refine t_get (ci := 7) (v := .ref v_12) hB hT (ro_ci r_1 rfl) rfl 3 (by decide) k_748 e_v_12 dX7_comes_205 ?_
  refine lv_iload hx hb dX7_comes_208 (lv_at hl 4 rfl) ?_
  have i_u_13 : vp_in at1 48 := (i_in (n := 48) rfl (by omega) (by omega))
  refine t_iald hB hT (ro_in r_v_12 (by decide)) n_v_12 i_u_13 rfl dX7_comes_210 ?_
  have c_u_13 := hI.c r_v_12 n_v_12 (i_cl i_u_13)
  refine lv_topi (fun u_13 e_u_13 => ?_)
  obtain ⟨l_u_13, u_u_13⟩ := c_u_13
  rw [← e_u_13] at l_u_13 u_u_13
  have i_14 : vp_in kn1 96 := (i_in (n := 96) rfl (by omega) (by omega))
  refine t_iast hB hT (ro_in r_v_11 (by decide)) n_v_11 i_14 dX7_comes_211 (fun H locs hT => ?_)
  have hI : Inv (sC (sC g1 v_9 kn1.toNatClampNeg wo) v_11 kn1.toNatClampNeg u_13) := hI.sC (ck r_v_11 trivial)
  have hM : Sm md_m_comes1 g (sC (sC g1 v_9 kn1.toNatClampNeg wo) v_11 kn1.toNatClampNeg u_13) := hM.tr hE (Sm_sC (by rw [r_v_11]; rfl))
  have hE : Ex g (sC (sC g1 v_9 kn1.toNatClampNeg wo) v_11 kn1.toNatClampNeg u_13) := hE
  have hD : DP (sC (sC g1 v_9 kn1.toNatClampNeg wo) v_11 kn1.toNatClampNeg u_13) fa dd.toInt := hD.tC (ro_ne r_2 r_v_11 (by decide))
  refine lv_aload_n hx hb dX7_comes_212 rfl (lv_at hl 0 rfl) ?_
  obtain ⟨v_15, e_v_15, r_v_15, n_v_15⟩ := f_8_19 hI r_1
  refine t_get (ci := 7) (v := .ref v_15) hB hT (ro_ci r_1 rfl) rfl 19 (by decide) k_764 e_v_15 dX7_comes_213 ?_
  refine lv_iload hx hb dX7_comes_216 (lv_at hl 8 rfl) ?_
  refine lv_iload hx hb dX7_comes_218 (lv_at hl 6 rfl) ?_
  have i_16 : vp_in kn1 96 := (i_in (n := 96) rfl (by omega) (by omega))
  refine t_iast hB hT (ro_in r_v_15 (by decide)) n_v_15 i_16 dX7_comes_220 (fun H locs hT => ?_)
  have hI : Inv (sC (sC (sC g1 v_9 kn1.toNatClampNeg wo) v_11 kn1.toNatClampNeg u_13) v_15 kn1.toNatClampNeg v) := hI.sC (ck r_v_15 trivial)
  have hM : Sm md_m_comes1 g (sC (sC (sC g1 v_9 kn1.toNatClampNeg wo) v_11 kn1.toNatClampNeg u_13) v_15 kn1.toNatClampNeg v) := hM.tr hE (Sm_sC (by rw [r_v_15]; rfl))
  have hE : Ex g (sC (sC (sC g1 v_9 kn1.toNatClampNeg wo) v_11 kn1.toNatClampNeg u_13) v_15 kn1.toNatClampNeg v) := hE
  have hD : DP (sC (sC (sC g1 v_9 kn1.toNatClampNeg wo) v_11 kn1.toNatClampNeg u_13) v_15 kn1.toNatClampNeg v) fa dd.toInt := hD.tC (ro_ne r_2 r_v_15 (by decide))
  refine lv_aload_n hx hb dX7_comes_221 rfl (lv_at hl 0 rfl) ?_
  refine t_get (ci := 7) (v := .ref fta) hB hT (ro_ci r_1 rfl) rfl 46 (by decide) k_791 kn_8 dX7_comes_222 ?_
  refine lv_iload_n hx hb dX7_comes_225 rfl (lv_at hl 1 rfl) ?_
  refine lv_dup2_11 hx hb dX7_comes_226 rfl rfl ?_
  have i_u_17 : vp_in f 7 := (i_in (n := 7) rfl (by omega) (by omega))
  refine t_iald (v := pp) hB hT (ro_in r_4 (by decide)) n_5 i_u_17 (sC_a (sC_a (sC_a kc0 (ro_ne r_4 r_v_9 (by decide))) (ro_ne r_4 r_v_11 (by decide))) (ro_ne r_4 r_v_15 (by decide))) dX7_comes_227 ?_
  refine lv_iconst (v := 1) hx hb dX7_comes_228 (by decide) ?_
  refine lv_iadd hx hb dX7_comes_229 ?_
  refine lv_topi (fun z_18 ez_18 => ?_)
  have e_z_18 : z_18.toInt = pp.toInt + 1 := i_add ez_18 rfl (by decide) (by omega) (by omega)
  have i_19 : vp_in f 7 := (i_in (n := 7) rfl (by omega) (by omega))
  refine t_iast hB hT (ro_in r_4 (by decide)) n_5 i_19 dX7_comes_230 (fun H locs hT => ?_)
  have hI : Inv (sC (sC (sC (sC g1 v_9 kn1.toNatClampNeg wo) v_11 kn1.toNatClampNeg u_13) v_15 kn1.toNatClampNeg v) fta f.toNatClampNeg z_18) := hI.sC (ck r_4 ⟨by omega, by omega⟩)
  have hM : Sm md_m_comes1 g (sC (sC (sC (sC g1 v_9 kn1.toNatClampNeg wo) v_11 kn1.toNatClampNeg u_13) v_15 kn1.toNatClampNeg v) fta f.toNatClampNeg z_18) := hM.tr hE (Sm_sC (by rw [r_4]; rfl))
  have hE : Ex g (sC (sC (sC (sC g1 v_9 kn1.toNatClampNeg wo) v_11 kn1.toNatClampNeg u_13) v_15 kn1.toNatClampNeg v) fta f.toNatClampNeg z_18) := hE
  have hD : DP (sC (sC (sC (sC g1 v_9 kn1.toNatClampNeg wo) v_11 kn1.toNatClampNeg u_13) v_15 kn1.toNatClampNeg v) fta f.toNatClampNeg z_18) fa dd.toInt := hD.tC (ro_ne r_2 r_4 (by decide))
  refine lv_iload hx hb dX7_comes_231 (lv_at hl 5 rfl) ?_
  by_cases ht_20 : (wo < 0 ∨ 6 < wo)
  · refine lv_tableOut (tgt := 536) hx hb dX7_comes_233 (sw_out ht_20) (by decide) ?_
    refine lv_aload_n hx hb dX7_comes_536 rfl (lv_at hl 0 rfl) ?_
    refine t_get (ci := 7) (v := .ref fta) hB hT (ro_ci r_1 rfl) rfl 46 (by decide) k_791 kn_8 dX7_comes_537 ?_
    refine lv_iload_n hx hb dX7_comes_540 rfl (lv_at hl 1 rfl) ?_
    refine lv_dup2_11 hx hb dX7_comes_541 rfl rfl ?_
    have i_u_22 : vp_in f 7 := (i_in (n := 7) rfl (by omega) (by omega))
    refine t_iald (v := z_18) hB hT (ro_in r_4 (by decide)) n_5 i_u_22 sC_eq dX7_comes_542 ?_
    refine lv_aload_n hx hb dX7_comes_543 rfl (lv_at hl 0 rfl) ?_
    obtain ⟨v_23, e_v_23, r_v_23, n_v_23⟩ := f_8_7 hI r_1
    refine t_get (ci := 7) (v := .ref v_23) hB hT (ro_ci r_1 rfl) rfl 7 (by decide) k_752 e_v_23 dX7_comes_544 ?_
    refine lv_iload hx hb dX7_comes_547 (lv_at hl 7 rfl) ?_
    have i_u_24 : vp_in c1 48 := (i_in (n := 48) rfl (by omega) (by omega))
    refine t_iald hB hT (ro_in r_v_23 (by decide)) n_v_23 i_u_24 rfl dX7_comes_549 ?_
    have c_u_24 := hI.c r_v_23 n_v_23 (i_cl i_u_24)
    refine lv_topi (fun u_24 e_u_24 => ?_)
    obtain ⟨l_u_24, u_u_24⟩ := c_u_24
    rw [← e_u_24] at l_u_24 u_u_24
    refine lv_iload hx hb dX7_comes_550 (lv_at hl 6 rfl) ?_
    refine lv_icmp_ne (tgt := 559) hx hb dX7_comes_552 (by decide) (fun c_25 => ?_) (fun c_25 => ?_)
    · have c_25' : u_24.toInt ≠ v.toInt := i_ne c_25 rfl rfl
      refine lv_iconst (v := 1) hx hb dX7_comes_559 (by decide) ?_
      refine lv_iadd hx hb dX7_comes_560 ?_
      refine lv_topi (fun z_26 ez_26 => ?_)
      have e_z_26 : z_26.toInt = z_18.toInt + 1 := i_add ez_26 rfl (by decide) (by omega) (by omega)
      have i_27 : vp_in f 7 := (i_in (n := 7) rfl (by omega) (by omega))
      refine t_iast hB hT (ro_in r_4 (by decide)) n_5 i_27 dX7_comes_561 (fun H locs hT => ?_)
      have hI : Inv (sC (sC (sC (sC (sC g1 v_9 kn1.toNatClampNeg wo) v_11 kn1.toNatClampNeg u_13) v_15 kn1.toNatClampNeg v) fta f.toNatClampNeg z_18) fta f.toNatClampNeg z_26) := hI.sC (ck r_4 ⟨by omega, by omega⟩)
      have hM : Sm md_m_comes1 g (sC (sC (sC (sC (sC g1 v_9 kn1.toNatClampNeg wo) v_11 kn1.toNatClampNeg u_13) v_15 kn1.toNatClampNeg v) fta f.toNatClampNeg z_18) fta f.toNatClampNeg z_26) := hM.tr hE (Sm_sC (by rw [r_4]; rfl))
      have hE : Ex g (sC (sC (sC (sC (sC g1 v_9 kn1.toNatClampNeg wo) v_11 kn1.toNatClampNeg u_13) v_15 kn1.toNatClampNeg v) fta f.toNatClampNeg z_18) fta f.toNatClampNeg z_26) := hE
      have hD : DP (sC (sC (sC (sC (sC g1 v_9 kn1.toNatClampNeg wo) v_11 kn1.toNatClampNeg u_13) v_15 kn1.toNatClampNeg v) fta f.toNatClampNeg z_18) fta f.toNatClampNeg z_26) fa dd.toInt := hD.tC (ro_ne r_2 r_4 (by decide))
      exact t_vret hB hr hT (Nat.le_of_ble_eq_true rfl) (Nat.le_of_ble_eq_true rfl) dX7_comes_562 ⟨dd, t0, rfl, hI, hE, hM, kp0, kp1, (by omega), (by omega), (hD.cast (by omega))⟩
    · have c_25' : u_24.toInt = v.toInt := i_eq c_25 rfl rfl
      refine lv_iconst (v := 0) hx hb dX7_comes_555 (by decide) ?_
      refine lv_goto (tgt := 560) hx hb dX7_comes_556 (by decide) ?_
      refine lv_iadd hx hb dX7_comes_560 ?_
      refine lv_topi (fun z_28 ez_28 => ?_)
      have e_z_28 : z_28.toInt = z_18.toInt + 0 := i_add ez_28 rfl (by decide) (by omega) (by omega)
      have i_29 : vp_in f 7 := (i_in (n := 7) rfl (by omega) (by omega))
      refine t_iast hB hT (ro_in r_4 (by decide)) n_5 i_29 dX7_comes_561 (fun H locs hT => ?_)
      have hI : Inv (sC (sC (sC (sC (sC g1 v_9 kn1.toNatClampNeg wo) v_11 kn1.toNatClampNeg u_13) v_15 kn1.toNatClampNeg v) fta f.toNatClampNeg z_18) fta f.toNatClampNeg z_28) := hI.sC (ck r_4 ⟨by omega, by omega⟩)
      have hM : Sm md_m_comes1 g (sC (sC (sC (sC (sC g1 v_9 kn1.toNatClampNeg wo) v_11 kn1.toNatClampNeg u_13) v_15 kn1.toNatClampNeg v) fta f.toNatClampNeg z_18) fta f.toNatClampNeg z_28) := hM.tr hE (Sm_sC (by rw [r_4]; rfl))
      have hE : Ex g (sC (sC (sC (sC (sC g1 v_9 kn1.toNatClampNeg wo) v_11 kn1.toNatClampNeg u_13) v_15 kn1.toNatClampNeg v) fta f.toNatClampNeg z_18) fta f.toNatClampNeg z_28) := hE
      have hD : DP (sC (sC (sC (sC (sC g1 v_9 kn1.toNatClampNeg wo) v_11 kn1.toNatClampNeg u_13) v_15 kn1.toNatClampNeg v) fta f.toNatClampNeg z_18) fta f.toNatClampNeg z_28) fa dd.toInt := hD.tC (ro_ne r_2 r_4 (by decide))
      exact t_vret hB hr hT (Nat.le_of_ble_eq_true rfl) (Nat.le_of_ble_eq_true rfl) dX7_comes_562 ⟨dd, t0, rfl, hI, hE, hM, kp0, kp1, (by omega), (by omega), (hD.cast (by omega))⟩
  · obtain ⟨j_21, hj_21, ej_21⟩ := sw_in (n := 7) rfl ht_20
    rcases (show j_21 = 0 ∨ j_21 = 1 ∨ j_21 = 2 ∨ j_21 = 3 ∨ j_21 = 4 ∨ j_21 = 5 ∨ j_21 = 6 by omega) with rfl | rfl | rfl | rfl | rfl | rfl | rfl
    · refine x_ev (y := 0) ej_21 ?_
      refine lv_tableIn (off := 43) (tgt := 276) hx hb dX7_comes_233 (by decide) (by decide) rfl (by decide) ?_
      refine lv_aload_n hx hb dX7_comes_276 rfl (lv_at hl 0 rfl) ?_
      obtain ⟨v_30, e_v_30, r_v_30, n_v_30⟩ := f_8_7 hI r_1
      refine t_get (ci := 7) (v := .ref v_30) hB hT (ro_ci r_1 rfl) rfl 7 (by decide) k_752 e_v_30 dX7_comes_277 ?_
      refine lv_iload hx hb dX7_comes_280 (lv_at hl 7 rfl) ?_
      refine lv_iload hx hb dX7_comes_282 (lv_at hl 9 rfl) ?_
      refine lv_if_eq (tgt := 292) hx hb dX7_comes_284 (by decide) (fun c_31 => ?_) (fun c_31 => ?_)
      · have c_31' : do1.toInt = 0 := i_eq c_31 rfl (by decide)
        refine lv_aload_n hx hb dX7_comes_292 rfl (lv_at hl 0 rfl) ?_
        refine t_get (ci := 7) (v := .ref v_30) hB hT (ro_ci r_1 rfl) rfl 7 (by decide) k_752 e_v_30 dX7_comes_293 ?_
        refine lv_iload hx hb dX7_comes_296 (lv_at hl 7 rfl) ?_
        have i_u_32 : vp_in c1 48 := (i_in (n := 48) rfl (by omega) (by omega))
        refine t_iald hB hT (ro_in r_v_30 (by decide)) n_v_30 i_u_32 rfl dX7_comes_298 ?_
        have c_u_32 := hI.c r_v_30 n_v_30 (i_cl i_u_32)
        refine lv_topi (fun u_32 e_u_32 => ?_)
        obtain ⟨l_u_32, u_u_32⟩ := c_u_32
        rw [← e_u_32] at l_u_32 u_u_32
        have i_33 : vp_in c1 48 := (i_in (n := 48) rfl (by omega) (by omega))
        refine t_iast hB hT (ro_in r_v_30 (by decide)) n_v_30 i_33 dX7_comes_299 (fun H locs hT => ?_)
        have hI : Inv (sC (sC (sC (sC (sC g1 v_9 kn1.toNatClampNeg wo) v_11 kn1.toNatClampNeg u_13) v_15 kn1.toNatClampNeg v) fta f.toNatClampNeg z_18) v_30 c1.toNatClampNeg u_32) := hI.sC (ck r_v_30 ⟨by omega, by omega⟩)
        have hM : Sm md_m_comes1 g (sC (sC (sC (sC (sC g1 v_9 kn1.toNatClampNeg wo) v_11 kn1.toNatClampNeg u_13) v_15 kn1.toNatClampNeg v) fta f.toNatClampNeg z_18) v_30 c1.toNatClampNeg u_32) := hM.tr hE (Sm_sC (by rw [r_v_30]; rfl))
        have hE : Ex g (sC (sC (sC (sC (sC g1 v_9 kn1.toNatClampNeg wo) v_11 kn1.toNatClampNeg u_13) v_15 kn1.toNatClampNeg v) fta f.toNatClampNeg z_18) v_30 c1.toNatClampNeg u_32) := hE
        have hD : DP (sC (sC (sC (sC (sC g1 v_9 kn1.toNatClampNeg wo) v_11 kn1.toNatClampNeg u_13) v_15 kn1.toNatClampNeg v) fta f.toNatClampNeg z_18) v_30 c1.toNatClampNeg u_32) fa dd.toInt := hD.tC (ro_ne r_2 r_v_30 (by decide))
        refine lv_goto (tgt := 562) hx hb dX7_comes_300 (by decide) ?_
        exact t_vret hB hr hT (Nat.le_of_ble_eq_true rfl) (Nat.le_of_ble_eq_true rfl) dX7_comes_562 ⟨dd, t0, rfl, hI, hE, hM, kp0, kp1, (by omega), (by omega), (hD.cast (by omega))⟩
      · have c_31' : do1.toInt ≠ 0 := i_ne c_31 rfl (by decide)
        refine lv_iload hx hb dX7_comes_287 (lv_at hl 6 rfl) ?_
        refine lv_goto (tgt := 299) hx hb dX7_comes_289 (by decide) ?_
        have i_34 : vp_in c1 48 := (i_in (n := 48) rfl (by omega) (by omega))
        refine t_iast hB hT (ro_in r_v_30 (by decide)) n_v_30 i_34 dX7_comes_299 (fun H locs hT => ?_)
        have hI : Inv (sC (sC (sC (sC (sC g1 v_9 kn1.toNatClampNeg wo) v_11 kn1.toNatClampNeg u_13) v_15 kn1.toNatClampNeg v) fta f.toNatClampNeg z_18) v_30 c1.toNatClampNeg v) := hI.sC (ck r_v_30 ⟨by omega, by omega⟩)
        have hM : Sm md_m_comes1 g (sC (sC (sC (sC (sC g1 v_9 kn1.toNatClampNeg wo) v_11 kn1.toNatClampNeg u_13) v_15 kn1.toNatClampNeg v) fta f.toNatClampNeg z_18) v_30 c1.toNatClampNeg v) := hM.tr hE (Sm_sC (by rw [r_v_30]; rfl))
        have hE : Ex g (sC (sC (sC (sC (sC g1 v_9 kn1.toNatClampNeg wo) v_11 kn1.toNatClampNeg u_13) v_15 kn1.toNatClampNeg v) fta f.toNatClampNeg z_18) v_30 c1.toNatClampNeg v) := hE
        have hD : DP (sC (sC (sC (sC (sC g1 v_9 kn1.toNatClampNeg wo) v_11 kn1.toNatClampNeg u_13) v_15 kn1.toNatClampNeg v) fta f.toNatClampNeg z_18) v_30 c1.toNatClampNeg v) fa dd.toInt := hD.tC (ro_ne r_2 r_v_30 (by decide))
        refine lv_goto (tgt := 562) hx hb dX7_comes_300 (by decide) ?_
        exact t_vret hB hr hT (Nat.le_of_ble_eq_true rfl) (Nat.le_of_ble_eq_true rfl) dX7_comes_562 ⟨dd, t0, rfl, hI, hE, hM, kp0, kp1, (by omega), (by omega), (hD.cast (by omega))⟩
    · refine x_ev (y := 1) ej_21 ?_
      refine lv_tableIn (off := 70) (tgt := 303) hx hb dX7_comes_233 (by decide) (by decide) rfl (by decide) ?_
      refine lv_aload_n hx hb dX7_comes_303 rfl (lv_at hl 0 rfl) ?_
      obtain ⟨v_35, e_v_35, r_v_35, n_v_35⟩ := f_8_7 hI r_1
      refine t_get (ci := 7) (v := .ref v_35) hB hT (ro_ci r_1 rfl) rfl 7 (by decide) k_752 e_v_35 dX7_comes_304 ?_
      refine lv_iload hx hb dX7_comes_307 (lv_at hl 7 rfl) ?_
      refine lv_aload_n hx hb dX7_comes_309 rfl (lv_at hl 0 rfl) ?_
      refine t_get (ci := 7) (v := .ref v_35) hB hT (ro_ci r_1 rfl) rfl 7 (by decide) k_752 e_v_35 dX7_comes_310 ?_
      refine lv_iload hx hb dX7_comes_313 (lv_at hl 7 rfl) ?_
      have i_u_36 : vp_in c1 48 := (i_in (n := 48) rfl (by omega) (by omega))
      refine t_iald hB hT (ro_in r_v_35 (by decide)) n_v_35 i_u_36 rfl dX7_comes_315 ?_
      have c_u_36 := hI.c r_v_35 n_v_35 (i_cl i_u_36)
      refine lv_topi (fun u_36 e_u_36 => ?_)
      obtain ⟨l_u_36, u_u_36⟩ := c_u_36
      rw [← e_u_36] at l_u_36 u_u_36
      refine lv_iload hx hb dX7_comes_316 (lv_at hl 6 rfl) ?_
      refine lv_iadd hx hb dX7_comes_318 ?_
      refine lv_topi (fun z_37 ez_37 => ?_)
      have e_z_37 : z_37.toInt = u_36.toInt + v.toInt := i_add ez_37 rfl rfl (by omega) (by omega)
      refine lv_sipush (v := 1000) hx hb dX7_comes_319 (by decide) ?_
      refine lv_irem hx hb dX7_comes_322 (by decide) ?_
      refine lv_topi (fun z_38 ez_38 => ?_)
      have e_z_38 := i_rem (a := z_37.toInt) (b := 1000) ez_38 rfl (by decide) (by omega) (by omega)
      have i_39 : vp_in c1 48 := (i_in (n := 48) rfl (by omega) (by omega))
      refine t_iast hB hT (ro_in r_v_35 (by decide)) n_v_35 i_39 dX7_comes_323 (fun H locs hT => ?_)
      have hI : Inv (sC (sC (sC (sC (sC g1 v_9 kn1.toNatClampNeg wo) v_11 kn1.toNatClampNeg u_13) v_15 kn1.toNatClampNeg v) fta f.toNatClampNeg z_18) v_35 c1.toNatClampNeg z_38) := hI.sC (ck r_v_35 ⟨by omega, by omega⟩)
      have hM : Sm md_m_comes1 g (sC (sC (sC (sC (sC g1 v_9 kn1.toNatClampNeg wo) v_11 kn1.toNatClampNeg u_13) v_15 kn1.toNatClampNeg v) fta f.toNatClampNeg z_18) v_35 c1.toNatClampNeg z_38) := hM.tr hE (Sm_sC (by rw [r_v_35]; rfl))
      have hE : Ex g (sC (sC (sC (sC (sC g1 v_9 kn1.toNatClampNeg wo) v_11 kn1.toNatClampNeg u_13) v_15 kn1.toNatClampNeg v) fta f.toNatClampNeg z_18) v_35 c1.toNatClampNeg z_38) := hE
      have hD : DP (sC (sC (sC (sC (sC g1 v_9 kn1.toNatClampNeg wo) v_11 kn1.toNatClampNeg u_13) v_15 kn1.toNatClampNeg v) fta f.toNatClampNeg z_18) v_35 c1.toNatClampNeg z_38) fa dd.toInt := hD.tC (ro_ne r_2 r_v_35 (by decide))
      refine lv_goto (tgt := 562) hx hb dX7_comes_324 (by decide) ?_
      exact t_vret hB hr hT (Nat.le_of_ble_eq_true rfl) (Nat.le_of_ble_eq_true rfl) dX7_comes_562 ⟨dd, t0, rfl, hI, hE, hM, kp0, kp1, (by omega), (by omega), (hD.cast (by omega))⟩
    · refine x_ev (y := 2) ej_21 ?_
      refine lv_tableIn (off := 94) (tgt := 327) hx hb dX7_comes_233 (by decide) (by decide) rfl (by decide) ?_
      refine lv_aload_n hx hb dX7_comes_327 rfl (lv_at hl 0 rfl) ?_
      obtain ⟨v_40, e_v_40, r_v_40, n_v_40⟩ := f_8_7 hI r_1
      refine t_get (ci := 7) (v := .ref v_40) hB hT (ro_ci r_1 rfl) rfl 7 (by decide) k_752 e_v_40 dX7_comes_328 ?_
      refine lv_iload hx hb dX7_comes_331 (lv_at hl 7 rfl) ?_
      refine lv_iload hx hb dX7_comes_333 (lv_at hl 9 rfl) ?_
      refine lv_if_eq (tgt := 355) hx hb dX7_comes_335 (by decide) (fun c_41 => ?_) (fun c_41 => ?_)
      · have c_41' : do1.toInt = 0 := i_eq c_41 rfl (by decide)
        refine lv_aload_n hx hb dX7_comes_355 rfl (lv_at hl 0 rfl) ?_
        refine t_get (ci := 7) (v := .ref v_40) hB hT (ro_ci r_1 rfl) rfl 7 (by decide) k_752 e_v_40 dX7_comes_356 ?_
        refine lv_iload hx hb dX7_comes_359 (lv_at hl 7 rfl) ?_
        have i_u_42 : vp_in c1 48 := (i_in (n := 48) rfl (by omega) (by omega))
        refine t_iald hB hT (ro_in r_v_40 (by decide)) n_v_40 i_u_42 rfl dX7_comes_361 ?_
        have c_u_42 := hI.c r_v_40 n_v_40 (i_cl i_u_42)
        refine lv_topi (fun u_42 e_u_42 => ?_)
        obtain ⟨l_u_42, u_u_42⟩ := c_u_42
        rw [← e_u_42] at l_u_42 u_u_42
        have i_43 : vp_in c1 48 := (i_in (n := 48) rfl (by omega) (by omega))
        refine t_iast hB hT (ro_in r_v_40 (by decide)) n_v_40 i_43 dX7_comes_362 (fun H locs hT => ?_)
        have hI : Inv (sC (sC (sC (sC (sC g1 v_9 kn1.toNatClampNeg wo) v_11 kn1.toNatClampNeg u_13) v_15 kn1.toNatClampNeg v) fta f.toNatClampNeg z_18) v_40 c1.toNatClampNeg u_42) := hI.sC (ck r_v_40 ⟨by omega, by omega⟩)
        have hM : Sm md_m_comes1 g (sC (sC (sC (sC (sC g1 v_9 kn1.toNatClampNeg wo) v_11 kn1.toNatClampNeg u_13) v_15 kn1.toNatClampNeg v) fta f.toNatClampNeg z_18) v_40 c1.toNatClampNeg u_42) := hM.tr hE (Sm_sC (by rw [r_v_40]; rfl))
        have hE : Ex g (sC (sC (sC (sC (sC g1 v_9 kn1.toNatClampNeg wo) v_11 kn1.toNatClampNeg u_13) v_15 kn1.toNatClampNeg v) fta f.toNatClampNeg z_18) v_40 c1.toNatClampNeg u_42) := hE
        have hD : DP (sC (sC (sC (sC (sC g1 v_9 kn1.toNatClampNeg wo) v_11 kn1.toNatClampNeg u_13) v_15 kn1.toNatClampNeg v) fta f.toNatClampNeg z_18) v_40 c1.toNatClampNeg u_42) fa dd.toInt := hD.tC (ro_ne r_2 r_v_40 (by decide))
        refine lv_goto (tgt := 562) hx hb dX7_comes_363 (by decide) ?_
        exact t_vret hB hr hT (Nat.le_of_ble_eq_true rfl) (Nat.le_of_ble_eq_true rfl) dX7_comes_562 ⟨dd, t0, rfl, hI, hE, hM, kp0, kp1, (by omega), (by omega), (hD.cast (by omega))⟩
      · have c_41' : do1.toInt ≠ 0 := i_ne c_41 rfl (by decide)
        refine lv_iload hx hb dX7_comes_338 (lv_at hl 6 rfl) ?_
        refine lv_aload_n hx hb dX7_comes_340 rfl (lv_at hl 0 rfl) ?_
        refine t_get (ci := 7) (v := .ref v_40) hB hT (ro_ci r_1 rfl) rfl 7 (by decide) k_752 e_v_40 dX7_comes_341 ?_
        refine lv_iload hx hb dX7_comes_344 (lv_at hl 7 rfl) ?_
        have i_u_44 : vp_in c1 48 := (i_in (n := 48) rfl (by omega) (by omega))
        refine t_iald hB hT (ro_in r_v_40 (by decide)) n_v_40 i_u_44 rfl dX7_comes_346 ?_
        have c_u_44 := hI.c r_v_40 n_v_40 (i_cl i_u_44)
        refine lv_topi (fun u_44 e_u_44 => ?_)
        obtain ⟨l_u_44, u_u_44⟩ := c_u_44
        rw [← e_u_44] at l_u_44 u_u_44
        refine lv_icmp_le (tgt := 355) hx hb dX7_comes_347 (by decide) (fun c_45 => ?_) (fun c_45 => ?_)
        · have c_45' : v.toInt ≤ u_44.toInt := i_le c_45 rfl rfl
          refine lv_aload_n hx hb dX7_comes_355 rfl (lv_at hl 0 rfl) ?_
          refine t_get (ci := 7) (v := .ref v_40) hB hT (ro_ci r_1 rfl) rfl 7 (by decide) k_752 e_v_40 dX7_comes_356 ?_
          refine lv_iload hx hb dX7_comes_359 (lv_at hl 7 rfl) ?_
          have i_u_46 : vp_in c1 48 := (i_in (n := 48) rfl (by omega) (by omega))
          refine t_iald (v := u_44) hB hT (ro_in r_v_40 (by decide)) n_v_40 i_u_46 e_u_44.symm dX7_comes_361 ?_
          have i_47 : vp_in c1 48 := (i_in (n := 48) rfl (by omega) (by omega))
          refine t_iast hB hT (ro_in r_v_40 (by decide)) n_v_40 i_47 dX7_comes_362 (fun H locs hT => ?_)
          have hI : Inv (sC (sC (sC (sC (sC g1 v_9 kn1.toNatClampNeg wo) v_11 kn1.toNatClampNeg u_13) v_15 kn1.toNatClampNeg v) fta f.toNatClampNeg z_18) v_40 c1.toNatClampNeg u_44) := hI.sC (ck r_v_40 ⟨by omega, by omega⟩)
          have hM : Sm md_m_comes1 g (sC (sC (sC (sC (sC g1 v_9 kn1.toNatClampNeg wo) v_11 kn1.toNatClampNeg u_13) v_15 kn1.toNatClampNeg v) fta f.toNatClampNeg z_18) v_40 c1.toNatClampNeg u_44) := hM.tr hE (Sm_sC (by rw [r_v_40]; rfl))
          have hE : Ex g (sC (sC (sC (sC (sC g1 v_9 kn1.toNatClampNeg wo) v_11 kn1.toNatClampNeg u_13) v_15 kn1.toNatClampNeg v) fta f.toNatClampNeg z_18) v_40 c1.toNatClampNeg u_44) := hE
          have hD : DP (sC (sC (sC (sC (sC g1 v_9 kn1.toNatClampNeg wo) v_11 kn1.toNatClampNeg u_13) v_15 kn1.toNatClampNeg v) fta f.toNatClampNeg z_18) v_40 c1.toNatClampNeg u_44) fa dd.toInt := hD.tC (ro_ne r_2 r_v_40 (by decide))
          refine lv_goto (tgt := 562) hx hb dX7_comes_363 (by decide) ?_
          exact t_vret hB hr hT (Nat.le_of_ble_eq_true rfl) (Nat.le_of_ble_eq_true rfl) dX7_comes_562 ⟨dd, t0, rfl, hI, hE, hM, kp0, kp1, (by omega), (by omega), (hD.cast (by omega))⟩
        · have c_45' : u_44.toInt < v.toInt := i_nle c_45 rfl rfl
          refine lv_iload hx hb dX7_comes_350 (lv_at hl 6 rfl) ?_
          refine lv_goto (tgt := 362) hx hb dX7_comes_352 (by decide) ?_
          have i_48 : vp_in c1 48 := (i_in (n := 48) rfl (by omega) (by omega))
          refine t_iast hB hT (ro_in r_v_40 (by decide)) n_v_40 i_48 dX7_comes_362 (fun H locs hT => ?_)
          have hI : Inv (sC (sC (sC (sC (sC g1 v_9 kn1.toNatClampNeg wo) v_11 kn1.toNatClampNeg u_13) v_15 kn1.toNatClampNeg v) fta f.toNatClampNeg z_18) v_40 c1.toNatClampNeg v) := hI.sC (ck r_v_40 ⟨by omega, by omega⟩)
          have hM : Sm md_m_comes1 g (sC (sC (sC (sC (sC g1 v_9 kn1.toNatClampNeg wo) v_11 kn1.toNatClampNeg u_13) v_15 kn1.toNatClampNeg v) fta f.toNatClampNeg z_18) v_40 c1.toNatClampNeg v) := hM.tr hE (Sm_sC (by rw [r_v_40]; rfl))
          have hE : Ex g (sC (sC (sC (sC (sC g1 v_9 kn1.toNatClampNeg wo) v_11 kn1.toNatClampNeg u_13) v_15 kn1.toNatClampNeg v) fta f.toNatClampNeg z_18) v_40 c1.toNatClampNeg v) := hE
          have hD : DP (sC (sC (sC (sC (sC g1 v_9 kn1.toNatClampNeg wo) v_11 kn1.toNatClampNeg u_13) v_15 kn1.toNatClampNeg v) fta f.toNatClampNeg z_18) v_40 c1.toNatClampNeg v) fa dd.toInt := hD.tC (ro_ne r_2 r_v_40 (by decide))
          refine lv_goto (tgt := 562) hx hb dX7_comes_363 (by decide) ?_
          exact t_vret hB hr hT (Nat.le_of_ble_eq_true rfl) (Nat.le_of_ble_eq_true rfl) dX7_comes_562 ⟨dd, t0, rfl, hI, hE, hM, kp0, kp1, (by omega), (by omega), (hD.cast (by omega))⟩
    · refine x_ev (y := 3) ej_21 ?_
      refine lv_tableIn (off := 133) (tgt := 366) hx hb dX7_comes_233 (by decide) (by decide) rfl (by decide) ?_
      refine lv_aload_n hx hb dX7_comes_366 rfl (lv_at hl 0 rfl) ?_
      obtain ⟨v_49, e_v_49, r_v_49, n_v_49⟩ := f_8_8 hI r_1
      refine t_get (ci := 7) (v := .ref v_49) hB hT (ro_ci r_1 rfl) rfl 8 (by decide) k_753 e_v_49 dX7_comes_367 ?_
      refine lv_aload_n hx hb dX7_comes_370 rfl (lv_at hl 0 rfl) ?_
      refine lv_iload_n hx hb dX7_comes_371 rfl (lv_at hl 2 rfl) ?_
      refine t_callV (n := 1) (As := [.int sv]) (rest := [.ref v_49]) (ci := 7) hB hT hl.1 (m_base l D cI cZ cS cR N0 (sC (sC (sC (sC g1 v_9 kn1.toNatClampNeg wo) v_11 kn1.toNatClampNeg u_13) v_15 kn1.toNatClampNeg v) fta f.toNatClampNeg z_18) hI h sv 1 r_1 kn_6 (by have q0 : (1 : Int32).toInt = 1 := (by decide); omega) (by have q0 : (1 : Int32).toInt = 1 := (by decide); omega) (by have q0 : (1 : Int32).toInt = 1 := (by decide); omega) (by have q0 : (1 : Int32).toInt = 1 := (by decide); omega)) (ro_ci r_1 rfl) rfl k_1043 k_65 k_1040 k_1042 k_34 (by decide +kernel) ⟨(Nat.le_of_ble_eq_true rfl), (Nat.le_of_ble_eq_true rfl)⟩ rfl (Nat.le_of_ble_eq_true rfl) ⟨(Nat.le_of_ble_eq_true rfl), (Nat.le_of_ble_eq_true rfl)⟩ dX7_comes_372 (fun v g_50 H locs hp hT => ?_)
      obtain ⟨r_51, rfl, eg, f_52, f_53⟩ := hp
      rw [eg] at hT
      clear eg
      refine W.eq (g2 := F0 m 375 ls [.int r_51, .ref v_49]) rfl ?_
      have qc_56 : (1 : Int32).toInt = 1 := (by decide)
      refine lv_aload_n hx hb dX7_comes_375 rfl (lv_at hl 0 rfl) ?_
      refine t_get (ci := 7) (v := .ref v_49) hB hT (ro_ci r_1 rfl) rfl 8 (by decide) k_753 e_v_49 dX7_comes_376 ?_
      refine lv_aload_n hx hb dX7_comes_379 rfl (lv_at hl 0 rfl) ?_
      refine lv_iload_n hx hb dX7_comes_380 rfl (lv_at hl 2 rfl) ?_
      refine t_callV (n := 1) (As := [.int sv]) (rest := [.ref v_49, .int r_51, .ref v_49]) (ci := 7) hB hT hl.1 (m_base l D cI cZ cS cR N0 (sC (sC (sC (sC g1 v_9 kn1.toNatClampNeg wo) v_11 kn1.toNatClampNeg u_13) v_15 kn1.toNatClampNeg v) fta f.toNatClampNeg z_18) hI h sv 1 r_1 kn_6 (by have q0 : (1 : Int32).toInt = 1 := (by decide); omega) (by have q0 : (1 : Int32).toInt = 1 := (by decide); omega) (by have q0 : (1 : Int32).toInt = 1 := (by decide); omega) (by have q0 : (1 : Int32).toInt = 1 := (by decide); omega)) (ro_ci r_1 rfl) rfl k_1043 k_65 k_1040 k_1042 k_34 (by decide +kernel) ⟨(Nat.le_of_ble_eq_true rfl), (Nat.le_of_ble_eq_true rfl)⟩ rfl (Nat.le_of_ble_eq_true rfl) ⟨(Nat.le_of_ble_eq_true rfl), (Nat.le_of_ble_eq_true rfl)⟩ dX7_comes_381 (fun v g_57 H locs hp hT => ?_)
      obtain ⟨r_58, rfl, eg, f_59, f_60⟩ := hp
      rw [eg] at hT
      clear eg
      refine W.eq (g2 := F0 m 384 ls [.int r_58, .ref v_49, .int r_51, .ref v_49]) rfl ?_
      have qc_63 : (1 : Int32).toInt = 1 := (by decide)
      have q_r_58 : r_58 = r_51 := f_59.trans f_52.symm
      refine W.eq (g2 := F0 m 384 ls [.int r_51, .ref v_49, .int r_51, .ref v_49]) (by rw [q_r_58]) ?_
      have i_u_64 : vp_in r_51 12 := (i_in (n := 12) rfl (by omega) (by omega))
      refine t_iald hB hT (ro_in r_v_49 (by decide)) n_v_49 i_u_64 rfl dX7_comes_384 ?_
      have c_u_64 := hI.c r_v_49 n_v_49 (i_cl i_u_64)
      refine lv_topi (fun u_64 e_u_64 => ?_)
      obtain ⟨l_u_64, u_u_64⟩ := c_u_64
      rw [← e_u_64] at l_u_64 u_u_64
      refine lv_iconst (v := 1) hx hb dX7_comes_385 (by decide) ?_
      refine lv_iadd hx hb dX7_comes_386 ?_
      refine lv_topi (fun z_65 ez_65 => ?_)
      have e_z_65 : z_65.toInt = u_64.toInt + 1 := i_add ez_65 rfl (by decide) (by omega) (by omega)
      refine lv_sipush (v := 1000) hx hb dX7_comes_387 (by decide) ?_
      refine lv_irem hx hb dX7_comes_390 (by decide) ?_
      refine lv_topi (fun z_66 ez_66 => ?_)
      have e_z_66 := i_rem (a := z_65.toInt) (b := 1000) ez_66 rfl (by decide) (by omega) (by omega)
      have i_67 : vp_in r_51 12 := (i_in (n := 12) rfl (by omega) (by omega))
      refine t_iast hB hT (ro_in r_v_49 (by decide)) n_v_49 i_67 dX7_comes_391 (fun H locs hT => ?_)
      have hI : Inv (sC (sC (sC (sC (sC g1 v_9 kn1.toNatClampNeg wo) v_11 kn1.toNatClampNeg u_13) v_15 kn1.toNatClampNeg v) fta f.toNatClampNeg z_18) v_49 r_51.toNatClampNeg z_66) := hI.sC (ck r_v_49 ⟨by omega, by omega⟩)
      have hM : Sm md_m_comes1 g (sC (sC (sC (sC (sC g1 v_9 kn1.toNatClampNeg wo) v_11 kn1.toNatClampNeg u_13) v_15 kn1.toNatClampNeg v) fta f.toNatClampNeg z_18) v_49 r_51.toNatClampNeg z_66) := hM.tr hE (Sm_sC (by rw [r_v_49]; rfl))
      have hE : Ex g (sC (sC (sC (sC (sC g1 v_9 kn1.toNatClampNeg wo) v_11 kn1.toNatClampNeg u_13) v_15 kn1.toNatClampNeg v) fta f.toNatClampNeg z_18) v_49 r_51.toNatClampNeg z_66) := hE
      have hD : DP (sC (sC (sC (sC (sC g1 v_9 kn1.toNatClampNeg wo) v_11 kn1.toNatClampNeg u_13) v_15 kn1.toNatClampNeg v) fta f.toNatClampNeg z_18) v_49 r_51.toNatClampNeg z_66) fa dd.toInt := hD.tC (ro_ne r_2 r_v_49 (by decide))
      refine lv_aload_n hx hb dX7_comes_392 rfl (lv_at hl 0 rfl) ?_
      obtain ⟨v_68, e_v_68, r_v_68, n_v_68⟩ := f_8_7 hI r_1
      refine t_get (ci := 7) (v := .ref v_68) hB hT (ro_ci r_1 rfl) rfl 7 (by decide) k_752 e_v_68 dX7_comes_393 ?_
      refine lv_iload hx hb dX7_comes_396 (lv_at hl 7 rfl) ?_
      refine lv_aload_n hx hb dX7_comes_398 rfl (lv_at hl 0 rfl) ?_
      refine t_get (ci := 7) (v := .ref v_49) hB hT (ro_ci r_1 rfl) rfl 8 (by decide) k_753 e_v_49 dX7_comes_399 ?_
      refine lv_aload_n hx hb dX7_comes_402 rfl (lv_at hl 0 rfl) ?_
      refine lv_iload_n hx hb dX7_comes_403 rfl (lv_at hl 2 rfl) ?_
      refine t_callV (n := 1) (As := [.int sv]) (rest := [.ref v_49, .int c1, .ref v_68]) (ci := 7) hB hT hl.1 (m_base l D cI cZ cS cR N0 (sC (sC (sC (sC (sC g1 v_9 kn1.toNatClampNeg wo) v_11 kn1.toNatClampNeg u_13) v_15 kn1.toNatClampNeg v) fta f.toNatClampNeg z_18) v_49 r_51.toNatClampNeg z_66) hI h sv 1 r_1 kn_6 (by have q0 : (1 : Int32).toInt = 1 := (by decide); omega) (by have q0 : (1 : Int32).toInt = 1 := (by decide); omega) (by have q0 : (1 : Int32).toInt = 1 := (by decide); omega) (by have q0 : (1 : Int32).toInt = 1 := (by decide); omega)) (ro_ci r_1 rfl) rfl k_1043 k_65 k_1040 k_1042 k_34 (by decide +kernel) ⟨(Nat.le_of_ble_eq_true rfl), (Nat.le_of_ble_eq_true rfl)⟩ rfl (Nat.le_of_ble_eq_true rfl) ⟨(Nat.le_of_ble_eq_true rfl), (Nat.le_of_ble_eq_true rfl)⟩ dX7_comes_404 (fun v g_69 H locs hp hT => ?_)
      obtain ⟨r_70, rfl, eg, f_71, f_72⟩ := hp
      rw [eg] at hT
      clear eg
      refine W.eq (g2 := F0 m 407 ls [.int r_70, .ref v_49, .int c1, .ref v_68]) rfl ?_
      have qc_75 : (1 : Int32).toInt = 1 := (by decide)
      have q_r_70 : r_70 = r_51 := f_71.trans f_52.symm
      refine W.eq (g2 := F0 m 407 ls [.int r_51, .ref v_49, .int c1, .ref v_68]) (by rw [q_r_70]) ?_
      have i_u_76 : vp_in r_51 12 := (i_in (n := 12) rfl (by omega) (by omega))
      refine t_iald (v := z_66) hB hT (ro_in r_v_49 (by decide)) n_v_49 i_u_76 sC_eq dX7_comes_407 ?_
      have i_77 : vp_in c1 48 := (i_in (n := 48) rfl (by omega) (by omega))
      refine t_iast hB hT (ro_in r_v_68 (by decide)) n_v_68 i_77 dX7_comes_408 (fun H locs hT => ?_)
      have hI : Inv (sC (sC (sC (sC (sC (sC g1 v_9 kn1.toNatClampNeg wo) v_11 kn1.toNatClampNeg u_13) v_15 kn1.toNatClampNeg v) fta f.toNatClampNeg z_18) v_49 r_51.toNatClampNeg z_66) v_68 c1.toNatClampNeg z_66) := hI.sC (ck r_v_68 ⟨by omega, by omega⟩)
      have hM : Sm md_m_comes1 g (sC (sC (sC (sC (sC (sC g1 v_9 kn1.toNatClampNeg wo) v_11 kn1.toNatClampNeg u_13) v_15 kn1.toNatClampNeg v) fta f.toNatClampNeg z_18) v_49 r_51.toNatClampNeg z_66) v_68 c1.toNatClampNeg z_66) := hM.tr hE (Sm_sC (by rw [r_v_68]; rfl))
      have hE : Ex g (sC (sC (sC (sC (sC (sC g1 v_9 kn1.toNatClampNeg wo) v_11 kn1.toNatClampNeg u_13) v_15 kn1.toNatClampNeg v) fta f.toNatClampNeg z_18) v_49 r_51.toNatClampNeg z_66) v_68 c1.toNatClampNeg z_66) := hE
      have hD : DP (sC (sC (sC (sC (sC (sC g1 v_9 kn1.toNatClampNeg wo) v_11 kn1.toNatClampNeg u_13) v_15 kn1.toNatClampNeg v) fta f.toNatClampNeg z_18) v_49 r_51.toNatClampNeg z_66) v_68 c1.toNatClampNeg z_66) fa dd.toInt := hD.tC (ro_ne r_2 r_v_68 (by decide))
      refine lv_aload_n hx hb dX7_comes_409 rfl (lv_at hl 0 rfl) ?_
      obtain ⟨v_78, e_v_78, r_v_78, n_v_78⟩ := f_8_47 hI r_1
      refine t_get (ci := 7) (v := .ref v_78) hB hT (ro_ci r_1 rfl) rfl 47 (by decide) k_792 e_v_78 dX7_comes_410 ?_
      refine lv_iload_n hx hb dX7_comes_413 rfl (lv_at hl 1 rfl) ?_
      refine lv_aload_n hx hb dX7_comes_414 rfl (lv_at hl 0 rfl) ?_
      refine t_get (ci := 7) (v := .ref v_68) hB hT (ro_ci r_1 rfl) rfl 7 (by decide) k_752 e_v_68 dX7_comes_415 ?_
      refine lv_iload hx hb dX7_comes_418 (lv_at hl 7 rfl) ?_
      have i_u_79 : vp_in c1 48 := (i_in (n := 48) rfl (by omega) (by omega))
      refine t_iald (v := z_66) hB hT (ro_in r_v_68 (by decide)) n_v_68 i_u_79 sC_eq dX7_comes_420 ?_
      have i_80 : vp_in f 7 := (i_in (n := 7) rfl (by omega) (by omega))
      refine t_iast hB hT (ro_in r_v_78 (by decide)) n_v_78 i_80 dX7_comes_421 (fun H locs hT => ?_)
      have hI : Inv (sC (sC (sC (sC (sC (sC (sC g1 v_9 kn1.toNatClampNeg wo) v_11 kn1.toNatClampNeg u_13) v_15 kn1.toNatClampNeg v) fta f.toNatClampNeg z_18) v_49 r_51.toNatClampNeg z_66) v_68 c1.toNatClampNeg z_66) v_78 f.toNatClampNeg z_66) := hI.sC (ck r_v_78 ⟨by omega, by omega⟩)
      have hM : Sm md_m_comes1 g (sC (sC (sC (sC (sC (sC (sC g1 v_9 kn1.toNatClampNeg wo) v_11 kn1.toNatClampNeg u_13) v_15 kn1.toNatClampNeg v) fta f.toNatClampNeg z_18) v_49 r_51.toNatClampNeg z_66) v_68 c1.toNatClampNeg z_66) v_78 f.toNatClampNeg z_66) := hM.tr hE (Sm_sC (by rw [r_v_78]; rfl))
      have hE : Ex g (sC (sC (sC (sC (sC (sC (sC g1 v_9 kn1.toNatClampNeg wo) v_11 kn1.toNatClampNeg u_13) v_15 kn1.toNatClampNeg v) fta f.toNatClampNeg z_18) v_49 r_51.toNatClampNeg z_66) v_68 c1.toNatClampNeg z_66) v_78 f.toNatClampNeg z_66) := hE
      have hD : DP (sC (sC (sC (sC (sC (sC (sC g1 v_9 kn1.toNatClampNeg wo) v_11 kn1.toNatClampNeg u_13) v_15 kn1.toNatClampNeg v) fta f.toNatClampNeg z_18) v_49 r_51.toNatClampNeg z_66) v_68 c1.toNatClampNeg z_66) v_78 f.toNatClampNeg z_66) fa dd.toInt := hD.tC (ro_ne r_2 r_v_78 (by decide))
      refine lv_goto (tgt := 562) hx hb dX7_comes_422 (by decide) ?_
      exact t_vret hB hr hT (Nat.le_of_ble_eq_true rfl) (Nat.le_of_ble_eq_true rfl) dX7_comes_562 ⟨dd, t0, rfl, hI, hE, hM, kp0, kp1, (by omega), (by omega), (hD.cast (by omega))⟩
    · refine x_ev (y := 4) ej_21 ?_
      refine lv_tableIn (off := 192) (tgt := 425) hx hb dX7_comes_233 (by decide) (by decide) rfl (by decide) ?_
      refine lv_aload_n hx hb dX7_comes_425 rfl (lv_at hl 0 rfl) ?_
      obtain ⟨v_81, e_v_81, r_v_81, n_v_81⟩ := f_8_47 hI r_1
      refine t_get (ci := 7) (v := .ref v_81) hB hT (ro_ci r_1 rfl) rfl 47 (by decide) k_792 e_v_81 dX7_comes_426 ?_
      refine lv_iload_n hx hb dX7_comes_429 rfl (lv_at hl 1 rfl) ?_
      refine lv_aload_n hx hb dX7_comes_430 rfl (lv_at hl 0 rfl) ?_
      obtain ⟨v_82, e_v_82, r_v_82, n_v_82⟩ := f_8_7 hI r_1
      refine t_get (ci := 7) (v := .ref v_82) hB hT (ro_ci r_1 rfl) rfl 7 (by decide) k_752 e_v_82 dX7_comes_431 ?_
      refine lv_iload hx hb dX7_comes_434 (lv_at hl 7 rfl) ?_
      have i_u_83 : vp_in c1 48 := (i_in (n := 48) rfl (by omega) (by omega))
      refine t_iald hB hT (ro_in r_v_82 (by decide)) n_v_82 i_u_83 rfl dX7_comes_436 ?_
      have c_u_83 := hI.c r_v_82 n_v_82 (i_cl i_u_83)
      refine lv_topi (fun u_83 e_u_83 => ?_)
      obtain ⟨l_u_83, u_u_83⟩ := c_u_83
      rw [← e_u_83] at l_u_83 u_u_83
      have i_84 : vp_in f 7 := (i_in (n := 7) rfl (by omega) (by omega))
      refine t_iast hB hT (ro_in r_v_81 (by decide)) n_v_81 i_84 dX7_comes_437 (fun H locs hT => ?_)
      have hI : Inv (sC (sC (sC (sC (sC g1 v_9 kn1.toNatClampNeg wo) v_11 kn1.toNatClampNeg u_13) v_15 kn1.toNatClampNeg v) fta f.toNatClampNeg z_18) v_81 f.toNatClampNeg u_83) := hI.sC (ck r_v_81 ⟨by omega, by omega⟩)
      have hM : Sm md_m_comes1 g (sC (sC (sC (sC (sC g1 v_9 kn1.toNatClampNeg wo) v_11 kn1.toNatClampNeg u_13) v_15 kn1.toNatClampNeg v) fta f.toNatClampNeg z_18) v_81 f.toNatClampNeg u_83) := hM.tr hE (Sm_sC (by rw [r_v_81]; rfl))
      have hE : Ex g (sC (sC (sC (sC (sC g1 v_9 kn1.toNatClampNeg wo) v_11 kn1.toNatClampNeg u_13) v_15 kn1.toNatClampNeg v) fta f.toNatClampNeg z_18) v_81 f.toNatClampNeg u_83) := hE
      have hD : DP (sC (sC (sC (sC (sC g1 v_9 kn1.toNatClampNeg wo) v_11 kn1.toNatClampNeg u_13) v_15 kn1.toNatClampNeg v) fta f.toNatClampNeg z_18) v_81 f.toNatClampNeg u_83) fa dd.toInt := hD.tC (ro_ne r_2 r_v_81 (by decide))
      refine lv_goto (tgt := 562) hx hb dX7_comes_438 (by decide) ?_
      exact t_vret hB hr hT (Nat.le_of_ble_eq_true rfl) (Nat.le_of_ble_eq_true rfl) dX7_comes_562 ⟨dd, t0, rfl, hI, hE, hM, kp0, kp1, (by omega), (by omega), (hD.cast (by omega))⟩
    · refine x_ev (y := 5) ej_21 ?_
      refine lv_tableIn (off := 208) (tgt := 441) hx hb dX7_comes_233 (by decide) (by decide) rfl (by decide) ?_
      refine lv_aload_n hx hb dX7_comes_441 rfl (lv_at hl 0 rfl) ?_
      refine lv_iload_n hx hb dX7_comes_442 rfl (lv_at hl 2 rfl) ?_
      refine lv_iconst (v := 2) hx hb dX7_comes_443 (by decide) ?_
      refine t_callV (n := 2) (As := [.int sv, .int 2]) (rest := []) (ci := 7) hB hT hl.1 (m_has l D cI cZ cS cR N0 (sC (sC (sC (sC g1 v_9 kn1.toNatClampNeg wo) v_11 kn1.toNatClampNeg u_13) v_15 kn1.toNatClampNeg v) fta f.toNatClampNeg z_18) hI h sv 2 r_1 (by have q0 : (2 : Int32).toInt = 2 := (by decide); omega) (by have q0 : (2 : Int32).toInt = 2 := (by decide); omega)) (ro_ci r_1 rfl) rfl k_999 k_65 k_996 k_998 k_28 (by decide +kernel) ⟨(Nat.le_of_ble_eq_true rfl), (Nat.le_of_ble_eq_true rfl)⟩ rfl (Nat.le_of_ble_eq_true rfl) ⟨(Nat.le_of_ble_eq_true rfl), (Nat.le_of_ble_eq_true rfl)⟩ dX7_comes_444 (fun v g_85 H locs hp hT => ?_)
      obtain ⟨r_86, rfl, eg, f_87⟩ := hp
      rw [eg] at hT
      clear eg
      refine W.eq (g2 := F0 m 447 ls [.int r_86]) rfl ?_
      have qc_90 : (2 : Int32).toInt = 2 := (by decide)
      rcases f_87 with rfl | rfl
      · refine W.eq (g2 := F0 m 447 ls [.int 1]) rfl ?_
        refine lv_if_eq (tgt := 478) hx hb dX7_comes_447 (by decide) (fun c_ => absurd c_ (by decide)) (fun c_ => ?_)
        refine lv_aload_n hx hb dX7_comes_450 rfl (lv_at hl 0 rfl) ?_
        obtain ⟨v_91, e_v_91, r_v_91, n_v_91⟩ := f_8_45 hI r_1
        refine t_get (ci := 7) (v := .ref v_91) hB hT (ro_ci r_1 rfl) rfl 45 (by decide) k_790 e_v_91 dX7_comes_451 ?_
        refine lv_iload_n hx hb dX7_comes_454 rfl (lv_at hl 1 rfl) ?_
        have i_u_92 : vp_in f 7 := (i_in (n := 7) rfl (by omega) (by omega))
        refine t_iald hB hT (ro_in r_v_91 (by decide)) n_v_91 i_u_92 rfl dX7_comes_455 ?_
        refine lv_topi (fun u_92 e_u_92 => ?_)
        refine lv_if_eq (tgt := 478) hx hb dX7_comes_456 (by decide) (fun c_93 => ?_) (fun c_93 => ?_)
        · have c_93' : u_92.toInt = 0 := i_eq c_93 rfl (by decide)
          refine lv_iconst (v := 0) hx hb dX7_comes_478 (by decide) ?_
          refine lv_istore (lv' := [(11, .int 0), (0, .ref h), (1, .int f), (2, .int sv), (3, .int pp), (4, .int at1), (5, .int wo), (6, .int v), (7, .int c1), (8, .int kn1), (10, .int do1)]) hx hb dX7_comes_479 hl (by decide) rfl (fun ls hl => ?_)
          refine lv_aload_n hx hb dX7_comes_481 rfl (lv_at hl 1 rfl) ?_
          refine lv_iload_n hx hb dX7_comes_482 rfl (lv_at hl 3 rfl) ?_
          refine lv_iload hx hb dX7_comes_483 (lv_at hl 5 rfl) ?_
          refine t_callV (n := 2) (As := [.int sv, .int at1]) (rest := []) (ci := 7) hB hT hl.1 (m_canAsk l D cI cZ cS cR N0 (sC (sC (sC (sC g1 v_9 kn1.toNatClampNeg wo) v_11 kn1.toNatClampNeg u_13) v_15 kn1.toNatClampNeg v) fta f.toNatClampNeg z_18) hI h sv at1 v_12 u_13 r_1 r_v_12 n_v_12 e_v_12 (by omega) (by omega) (sC_a (sC_a (sC_a e_u_13.symm (ro_ne r_v_12 r_v_11 (by decide))) (ro_ne r_v_12 r_v_15 (by decide))) (ro_ne r_v_12 r_4 (by decide)))) (ro_ci r_1 rfl) rfl k_1023 k_65 k_1020 k_1022 k_31 (by decide +kernel) ⟨(Nat.le_of_ble_eq_true rfl), (Nat.le_of_ble_eq_true rfl)⟩ rfl (Nat.le_of_ble_eq_true rfl) ⟨(Nat.le_of_ble_eq_true rfl), (Nat.le_of_ble_eq_true rfl)⟩ dX7_comes_485 (fun v g_94 H locs hp hT => ?_)
          obtain ⟨r_95, rfl, eg, f_96⟩ := hp
          rw [eg] at hT
          clear eg
          refine W.eq (g2 := F0 m 488 ls [.int r_95]) rfl ?_
          rcases f_96 with ⟨rfl, hw_99⟩ | rfl
          · refine W.eq (g2 := F0 m 488 ls [.int 1]) rfl ?_
            refine lv_if_eq (tgt := 562) hx hb dX7_comes_488 (by decide) (fun c_ => absurd c_ (by decide)) (fun c_ => ?_)
            refine lv_aload_n hx hb dX7_comes_491 rfl (lv_at hl 1 rfl) ?_
            refine lv_aload_n hx hb dX7_comes_492 rfl (lv_at hl 1 rfl) ?_
            refine t_get (ci := 7) (v := .ref v_12) hB hT (ro_ci r_1 rfl) rfl 3 (by decide) k_748 e_v_12 dX7_comes_493 ?_
            refine lv_iload hx hb dX7_comes_496 (lv_at hl 5 rfl) ?_
            have i_u_100 : vp_in at1 48 := (i_in (n := 48) rfl (by omega) (by omega))
            refine t_iald (v := u_13) hB hT (ro_in r_v_12 (by decide)) n_v_12 i_u_100 (sC_a (sC_a (sC_a e_u_13.symm (ro_ne r_v_12 r_v_11 (by decide))) (ro_ne r_v_12 r_v_15 (by decide))) (ro_ne r_v_12 r_4 (by decide))) dX7_comes_498 ?_
            refine lv_iload hx hb dX7_comes_499 (lv_at hl 7 rfl) ?_
            refine lv_iload hx hb dX7_comes_501 (lv_at hl 0 rfl) ?_
            refine t_callV (n := 3) (As := [.int u_13, .int v, .int 0]) (rest := []) (ci := 7) hB hT hl.1 (m_begins l D cI cZ cS cR N0 (sC (sC (sC (sC g1 v_9 kn1.toNatClampNeg wo) v_11 kn1.toNatClampNeg u_13) v_15 kn1.toNatClampNeg v) fta f.toNatClampNeg z_18) hI h u_13 v 0 dd fa r_1 r_2 n_3 kp0 kn_7 (by have q0 : (0 : Int32).toInt = 0 := (by decide); omega) (by have q0 : (0 : Int32).toInt = 0 := (by decide); omega) (by have q0 : (0 : Int32).toInt = 0 := (by decide); omega) (by have q0 : (0 : Int32).toInt = 0 := (by decide); omega) (by have q0 : (0 : Int32).toInt = 0 := (by decide); omega) (by have q0 : (0 : Int32).toInt = 0 := (by decide); omega) (by have q0 : (0 : Int32).toInt = 0 := (by decide); omega) hD) (ro_ci r_1 rfl) rfl k_1055 k_65 k_1052 k_1054 k_37 (by decide +kernel) ⟨(Nat.le_of_ble_eq_true rfl), (Nat.le_of_ble_eq_true rfl)⟩ rfl (Nat.le_of_ble_eq_true rfl) ⟨(Nat.le_of_ble_eq_true rfl), (Nat.le_of_ble_eq_true rfl)⟩ dX7_comes_503 (fun v g_101 H locs hp hT => ?_)
            obtain ⟨r_102, d2_103, rfl, hI, x_108, m_107, f_104, f_105, f_106⟩ := hp
            have hM : Sm md_m_comes1 g g_101 := hM.tr hE (m_107.mo (fun r k h => mdle_m_comes1_m_begins h))
            have hE : Ex g g_101 := hE.tr x_108
            have r_109 : g_101.1 h = 8 := (Ex.r x_108 r_1 (by decide))
            have r_110 : g_101.1 fa = 51 := (Ex.r x_108 r_2 (by decide))
            have r_111 : g_101.1 fta = 55 := (Ex.r x_108 r_4 (by decide))
            have r_112 : g_101.1 v_9 = 50 := (Ex.r x_108 r_v_9 (by decide))
            have r_113 : g_101.1 v_11 = 50 := (Ex.r x_108 r_v_11 (by decide))
            have r_114 : g_101.1 v_12 = 72 := (Ex.r x_108 r_v_12 (by decide))
            have r_115 : g_101.1 v_15 = 50 := (Ex.r x_108 r_v_15 (by decide))
            have r_116 : g_101.1 v_91 = 50 := (Ex.r x_108 r_v_91 (by decide))
            have n_117 : g_101.2.2.1 fa = 7 := (Ex.n x_108 r_2 (by decide) n_3)
            have n_118 : g_101.2.2.1 fta = 7 := (Ex.n x_108 r_4 (by decide) n_5)
            have n_119 : g_101.2.2.1 v_9 = 96 := (Ex.n x_108 r_v_9 (by decide) n_v_9)
            have n_120 : g_101.2.2.1 v_11 = 96 := (Ex.n x_108 r_v_11 (by decide) n_v_11)
            have n_121 : g_101.2.2.1 v_12 = 48 := (Ex.n x_108 r_v_12 (by decide) n_v_12)
            have n_122 : g_101.2.2.1 v_15 = 96 := (Ex.n x_108 r_v_15 (by decide) n_v_15)
            have n_123 : g_101.2.2.1 v_91 = 7 := (Ex.n x_108 r_v_91 (by decide) n_v_91)
            have kn_124 : g_101.2.1 h 52 = .int t0 := (Sm.v m_107 r_1 (by decide) rfl kp1)
            have kn_125 : g_101.2.1 h 21 = .int 1 := (Sm.v m_107 r_1 (by decide) rfl kn_6)
            have kn_126 : g_101.2.1 h 43 = .ref fa := (Sm.v m_107 r_1 (by decide) rfl kn_7)
            have kn_127 : g_101.2.1 h 46 = .ref fta := (Sm.v m_107 r_1 (by decide) rfl kn_8)
            have kn_128 : g_101.2.1 h 17 = .ref v_9 := (Sm.v m_107 r_1 (by decide) rfl e_v_9)
            have kn_129 : g_101.2.1 h 18 = .ref v_11 := (Sm.v m_107 r_1 (by decide) rfl e_v_11)
            have kn_130 : g_101.2.1 h 3 = .ref v_12 := (Sm.v m_107 r_1 (by decide) rfl e_v_12)
            have kn_131 : g_101.2.1 h 19 = .ref v_15 := (Sm.v m_107 r_1 (by decide) rfl e_v_15)
            have kn_132 : g_101.2.1 h 45 = .ref v_91 := (Sm.v m_107 r_1 (by decide) rfl e_v_91)
            have kn_133 : g_101.2.2.2.1 v_12 at1.toNatClampNeg = u_13 := (Sm.c m_107 r_v_12 (by decide) rfl (sC_a (sC_a (sC_a e_u_13.symm (ro_ne r_v_12 r_v_11 (by decide))) (ro_ne r_v_12 r_v_15 (by decide))) (ro_ne r_v_12 r_4 (by decide))))
            refine W.eq (g2 := F0 m 506 ls [.int r_102]) rfl ?_
            have hD := f_106
            have qc_134 : (0 : Int32).toInt = 0 := (by decide)
            rcases f_104 with ⟨rfl, hw_135⟩ | ⟨rfl, hw_136⟩
            · refine W.eq (g2 := F0 m 506 ls [.int 1]) rfl ?_
              refine lv_if_eq (tgt := 562) hx hb dX7_comes_506 (by decide) (fun c_ => absurd c_ (by decide)) (fun c_ => ?_)
              refine lv_aload_n hx hb dX7_comes_509 rfl (lv_at hl 1 rfl) ?_
              obtain ⟨v_137, e_v_137, r_v_137, n_v_137⟩ := f_8_47 hI r_109
              refine t_get (ci := 7) (v := .ref v_137) hB hT (ro_ci r_109 rfl) rfl 47 (by decide) k_792 e_v_137 dX7_comes_510 ?_
              refine lv_iload_n hx hb dX7_comes_513 rfl (lv_at hl 2 rfl) ?_
              refine lv_aload_n hx hb dX7_comes_514 rfl (lv_at hl 1 rfl) ?_
              obtain ⟨v_138, e_v_138, l_v_138, u_v_138⟩ := f_8_51 hI r_109
              refine t_get (ci := 7) (v := .int v_138) hB hT (ro_ci r_109 rfl) rfl 51 (by decide) k_796 e_v_138 dX7_comes_515 ?_
              have i_139 : vp_in f 7 := (i_in (n := 7) rfl (by omega) (by omega))
              refine t_iast hB hT (ro_in r_v_137 (by decide)) n_v_137 i_139 dX7_comes_518 (fun H locs hT => ?_)
              have hI : Inv (sC g_101 v_137 f.toNatClampNeg v_138) := hI.sC (ck r_v_137 ⟨by omega, by omega⟩)
              have hM : Sm md_m_comes1 g (sC g_101 v_137 f.toNatClampNeg v_138) := hM.tr hE (Sm_sC (by rw [r_v_137]; rfl))
              have hE : Ex g (sC g_101 v_137 f.toNatClampNeg v_138) := hE
              have hD : DP (sC g_101 v_137 f.toNatClampNeg v_138) fa d2_103.toInt := hD.tC (ro_ne r_110 r_v_137 (by decide))
              refine lv_goto (tgt := 562) hx hb dX7_comes_519 (by decide) ?_
              exact t_vret hB hr hT (Nat.le_of_ble_eq_true rfl) (Nat.le_of_ble_eq_true rfl) dX7_comes_562 ⟨d2_103, t0, rfl, hI, hE, hM, f_105, kn_124, (by omega), (by omega), (hD.cast (by omega))⟩
            · refine W.eq (g2 := F0 m 506 ls [.int 0]) rfl ?_
              refine lv_if_eq (tgt := 562) hx hb dX7_comes_506 (by decide) (fun c_ => ?_) (fun c_ => absurd (by decide) c_)
              exact t_vret hB hr hT (Nat.le_of_ble_eq_true rfl) (Nat.le_of_ble_eq_true rfl) dX7_comes_562 ⟨d2_103, t0, rfl, hI, hE, hM, f_105, kn_124, (by omega), (by omega), (hD.cast (by omega))⟩
          · refine W.eq (g2 := F0 m 488 ls [.int 0]) rfl ?_
            refine lv_if_eq (tgt := 562) hx hb dX7_comes_488 (by decide) (fun c_ => ?_) (fun c_ => absurd (by decide) c_)
            exact t_vret hB hr hT (Nat.le_of_ble_eq_true rfl) (Nat.le_of_ble_eq_true rfl) dX7_comes_562 ⟨dd, t0, rfl, hI, hE, hM, kp0, kp1, (by omega), (by omega), (hD.cast (by omega))⟩
        · have c_93' : u_92.toInt ≠ 0 := i_ne c_93 rfl (by decide)
          refine lv_aload_n hx hb dX7_comes_459 rfl (lv_at hl 0 rfl) ?_
          refine t_get (ci := 7) (v := .ref v_91) hB hT (ro_ci r_1 rfl) rfl 45 (by decide) k_790 e_v_91 dX7_comes_460 ?_
          refine lv_iload_n hx hb dX7_comes_463 rfl (lv_at hl 1 rfl) ?_
          have i_u_140 : vp_in f 7 := (i_in (n := 7) rfl (by omega) (by omega))
          refine t_iald (v := u_92) hB hT (ro_in r_v_91 (by decide)) n_v_91 i_u_140 e_u_92.symm dX7_comes_464 ?_
          refine lv_bipush (v := 7) hx hb dX7_comes_465 (by decide) ?_
          refine lv_iload_n hx hb dX7_comes_467 rfl (lv_at hl 3 rfl) ?_
          refine lv_imul hx hb dX7_comes_468 ?_
          refine lv_topi (fun z_141 ez_141 => ?_)
          have e_z_141 : z_141.toInt = 7 * pp.toInt := i_mul ez_141 (by decide) rfl (by omega) (by omega)
          refine lv_iadd hx hb dX7_comes_469 ?_
          refine lv_topi (fun z_142 ez_142 => ?_)
          refine lv_bipush (v := 99) hx hb dX7_comes_470 (by decide) ?_
          refine lv_irem hx hb dX7_comes_472 (by decide) ?_
          refine lv_topi (fun z_143 ez_143 => ?_)
          refine lv_iconst (v := 1) hx hb dX7_comes_473 (by decide) ?_
          refine lv_iadd hx hb dX7_comes_474 ?_
          refine lv_topi (fun z_144 ez_144 => ?_)
          refine lv_goto (tgt := 479) hx hb dX7_comes_475 (by decide) ?_
          refine lv_istore (lv' := [(11, .int z_144), (0, .ref h), (1, .int f), (2, .int sv), (3, .int pp), (4, .int at1), (5, .int wo), (6, .int v), (7, .int c1), (8, .int kn1), (10, .int do1)]) hx hb dX7_comes_479 hl (by decide) rfl (fun ls hl => ?_)
          refine lv_aload_n hx hb dX7_comes_481 rfl (lv_at hl 1 rfl) ?_
          refine lv_iload_n hx hb dX7_comes_482 rfl (lv_at hl 3 rfl) ?_
          refine lv_iload hx hb dX7_comes_483 (lv_at hl 5 rfl) ?_
          refine t_callV (n := 2) (As := [.int sv, .int at1]) (rest := []) (ci := 7) hB hT hl.1 (m_canAsk l D cI cZ cS cR N0 (sC (sC (sC (sC g1 v_9 kn1.toNatClampNeg wo) v_11 kn1.toNatClampNeg u_13) v_15 kn1.toNatClampNeg v) fta f.toNatClampNeg z_18) hI h sv at1 v_12 u_13 r_1 r_v_12 n_v_12 e_v_12 (by omega) (by omega) (sC_a (sC_a (sC_a e_u_13.symm (ro_ne r_v_12 r_v_11 (by decide))) (ro_ne r_v_12 r_v_15 (by decide))) (ro_ne r_v_12 r_4 (by decide)))) (ro_ci r_1 rfl) rfl k_1023 k_65 k_1020 k_1022 k_31 (by decide +kernel) ⟨(Nat.le_of_ble_eq_true rfl), (Nat.le_of_ble_eq_true rfl)⟩ rfl (Nat.le_of_ble_eq_true rfl) ⟨(Nat.le_of_ble_eq_true rfl), (Nat.le_of_ble_eq_true rfl)⟩ dX7_comes_485 (fun v g_145 H locs hp hT => ?_)
          obtain ⟨r_146, rfl, eg, f_147⟩ := hp
          rw [eg] at hT
          clear eg
          refine W.eq (g2 := F0 m 488 ls [.int r_146]) rfl ?_
          rcases f_147 with ⟨rfl, hw_150⟩ | rfl
          · refine W.eq (g2 := F0 m 488 ls [.int 1]) rfl ?_
            refine lv_if_eq (tgt := 562) hx hb dX7_comes_488 (by decide) (fun c_ => absurd c_ (by decide)) (fun c_ => ?_)
            refine lv_aload_n hx hb dX7_comes_491 rfl (lv_at hl 1 rfl) ?_
            refine lv_aload_n hx hb dX7_comes_492 rfl (lv_at hl 1 rfl) ?_
            refine t_get (ci := 7) (v := .ref v_12) hB hT (ro_ci r_1 rfl) rfl 3 (by decide) k_748 e_v_12 dX7_comes_493 ?_
            refine lv_iload hx hb dX7_comes_496 (lv_at hl 5 rfl) ?_
            have i_u_151 : vp_in at1 48 := (i_in (n := 48) rfl (by omega) (by omega))
            refine t_iald (v := u_13) hB hT (ro_in r_v_12 (by decide)) n_v_12 i_u_151 (sC_a (sC_a (sC_a e_u_13.symm (ro_ne r_v_12 r_v_11 (by decide))) (ro_ne r_v_12 r_v_15 (by decide))) (ro_ne r_v_12 r_4 (by decide))) dX7_comes_498 ?_
            refine lv_iload hx hb dX7_comes_499 (lv_at hl 7 rfl) ?_
            refine lv_iload hx hb dX7_comes_501 (lv_at hl 0 rfl) ?_
            refine t_callV (n := 3) (As := [.int u_13, .int v, .int z_144]) (rest := []) (ci := 7) hB hT hl.1 (m_begins l D cI cZ cS cR N0 (sC (sC (sC (sC g1 v_9 kn1.toNatClampNeg wo) v_11 kn1.toNatClampNeg u_13) v_15 kn1.toNatClampNeg v) fta f.toNatClampNeg z_18) hI h u_13 v z_144 dd fa r_1 r_2 n_3 kp0 kn_7 (by omega) (by omega) (by omega) (by omega) (by omega) (by omega) (by omega) hD) (ro_ci r_1 rfl) rfl k_1055 k_65 k_1052 k_1054 k_37 (by decide +kernel) ⟨(Nat.le_of_ble_eq_true rfl), (Nat.le_of_ble_eq_true rfl)⟩ rfl (Nat.le_of_ble_eq_true rfl) ⟨(Nat.le_of_ble_eq_true rfl), (Nat.le_of_ble_eq_true rfl)⟩ dX7_comes_503 (fun v g_152 H locs hp hT => ?_)
            obtain ⟨r_153, d2_154, rfl, hI, x_159, m_158, f_155, f_156, f_157⟩ := hp
            have hM : Sm md_m_comes1 g g_152 := hM.tr hE (m_158.mo (fun r k h => mdle_m_comes1_m_begins h))
            have hE : Ex g g_152 := hE.tr x_159
            have r_160 : g_152.1 h = 8 := (Ex.r x_159 r_1 (by decide))
            have r_161 : g_152.1 fa = 51 := (Ex.r x_159 r_2 (by decide))
            have r_162 : g_152.1 fta = 55 := (Ex.r x_159 r_4 (by decide))
            have r_163 : g_152.1 v_9 = 50 := (Ex.r x_159 r_v_9 (by decide))
            have r_164 : g_152.1 v_11 = 50 := (Ex.r x_159 r_v_11 (by decide))
            have r_165 : g_152.1 v_12 = 72 := (Ex.r x_159 r_v_12 (by decide))
            have r_166 : g_152.1 v_15 = 50 := (Ex.r x_159 r_v_15 (by decide))
            have r_167 : g_152.1 v_91 = 50 := (Ex.r x_159 r_v_91 (by decide))
            have n_168 : g_152.2.2.1 fa = 7 := (Ex.n x_159 r_2 (by decide) n_3)
            have n_169 : g_152.2.2.1 fta = 7 := (Ex.n x_159 r_4 (by decide) n_5)
            have n_170 : g_152.2.2.1 v_9 = 96 := (Ex.n x_159 r_v_9 (by decide) n_v_9)
            have n_171 : g_152.2.2.1 v_11 = 96 := (Ex.n x_159 r_v_11 (by decide) n_v_11)
            have n_172 : g_152.2.2.1 v_12 = 48 := (Ex.n x_159 r_v_12 (by decide) n_v_12)
            have n_173 : g_152.2.2.1 v_15 = 96 := (Ex.n x_159 r_v_15 (by decide) n_v_15)
            have n_174 : g_152.2.2.1 v_91 = 7 := (Ex.n x_159 r_v_91 (by decide) n_v_91)
            have kn_175 : g_152.2.1 h 52 = .int t0 := (Sm.v m_158 r_1 (by decide) rfl kp1)
            have kn_176 : g_152.2.1 h 21 = .int 1 := (Sm.v m_158 r_1 (by decide) rfl kn_6)
            have kn_177 : g_152.2.1 h 43 = .ref fa := (Sm.v m_158 r_1 (by decide) rfl kn_7)
            have kn_178 : g_152.2.1 h 46 = .ref fta := (Sm.v m_158 r_1 (by decide) rfl kn_8)
            have kn_179 : g_152.2.1 h 17 = .ref v_9 := (Sm.v m_158 r_1 (by decide) rfl e_v_9)
            have kn_180 : g_152.2.1 h 18 = .ref v_11 := (Sm.v m_158 r_1 (by decide) rfl e_v_11)
            have kn_181 : g_152.2.1 h 3 = .ref v_12 := (Sm.v m_158 r_1 (by decide) rfl e_v_12)
            have kn_182 : g_152.2.1 h 19 = .ref v_15 := (Sm.v m_158 r_1 (by decide) rfl e_v_15)
            have kn_183 : g_152.2.1 h 45 = .ref v_91 := (Sm.v m_158 r_1 (by decide) rfl e_v_91)
            have kn_184 : g_152.2.2.2.1 v_12 at1.toNatClampNeg = u_13 := (Sm.c m_158 r_v_12 (by decide) rfl (sC_a (sC_a (sC_a e_u_13.symm (ro_ne r_v_12 r_v_11 (by decide))) (ro_ne r_v_12 r_v_15 (by decide))) (ro_ne r_v_12 r_4 (by decide))))
            refine W.eq (g2 := F0 m 506 ls [.int r_153]) rfl ?_
            have hD := f_157
            rcases f_155 with ⟨rfl, hw_185⟩ | ⟨rfl, hw_186⟩
            · refine W.eq (g2 := F0 m 506 ls [.int 1]) rfl ?_
              refine lv_if_eq (tgt := 562) hx hb dX7_comes_506 (by decide) (fun c_ => absurd c_ (by decide)) (fun c_ => ?_)
              refine lv_aload_n hx hb dX7_comes_509 rfl (lv_at hl 1 rfl) ?_
              obtain ⟨v_187, e_v_187, r_v_187, n_v_187⟩ := f_8_47 hI r_160
              refine t_get (ci := 7) (v := .ref v_187) hB hT (ro_ci r_160 rfl) rfl 47 (by decide) k_792 e_v_187 dX7_comes_510 ?_
              refine lv_iload_n hx hb dX7_comes_513 rfl (lv_at hl 2 rfl) ?_
              refine lv_aload_n hx hb dX7_comes_514 rfl (lv_at hl 1 rfl) ?_
              obtain ⟨v_188, e_v_188, l_v_188, u_v_188⟩ := f_8_51 hI r_160
              refine t_get (ci := 7) (v := .int v_188) hB hT (ro_ci r_160 rfl) rfl 51 (by decide) k_796 e_v_188 dX7_comes_515 ?_
              have i_189 : vp_in f 7 := (i_in (n := 7) rfl (by omega) (by omega))
              refine t_iast hB hT (ro_in r_v_187 (by decide)) n_v_187 i_189 dX7_comes_518 (fun H locs hT => ?_)
              have hI : Inv (sC g_152 v_187 f.toNatClampNeg v_188) := hI.sC (ck r_v_187 ⟨by omega, by omega⟩)
              have hM : Sm md_m_comes1 g (sC g_152 v_187 f.toNatClampNeg v_188) := hM.tr hE (Sm_sC (by rw [r_v_187]; rfl))
              have hE : Ex g (sC g_152 v_187 f.toNatClampNeg v_188) := hE
              have hD : DP (sC g_152 v_187 f.toNatClampNeg v_188) fa d2_154.toInt := hD.tC (ro_ne r_161 r_v_187 (by decide))
              refine lv_goto (tgt := 562) hx hb dX7_comes_519 (by decide) ?_
              exact t_vret hB hr hT (Nat.le_of_ble_eq_true rfl) (Nat.le_of_ble_eq_true rfl) dX7_comes_562 ⟨d2_154, t0, rfl, hI, hE, hM, f_156, kn_175, (by omega), (by omega), (hD.cast (by omega))⟩
            · refine W.eq (g2 := F0 m 506 ls [.int 0]) rfl ?_
              refine lv_if_eq (tgt := 562) hx hb dX7_comes_506 (by decide) (fun c_ => ?_) (fun c_ => absurd (by decide) c_)
              exact t_vret hB hr hT (Nat.le_of_ble_eq_true rfl) (Nat.le_of_ble_eq_true rfl) dX7_comes_562 ⟨d2_154, t0, rfl, hI, hE, hM, f_156, kn_175, (by omega), (by omega), (hD.cast (by omega))⟩
          · refine W.eq (g2 := F0 m 488 ls [.int 0]) rfl ?_
            refine lv_if_eq (tgt := 562) hx hb dX7_comes_488 (by decide) (fun c_ => ?_) (fun c_ => absurd (by decide) c_)
            exact t_vret hB hr hT (Nat.le_of_ble_eq_true rfl) (Nat.le_of_ble_eq_true rfl) dX7_comes_562 ⟨dd, t0, rfl, hI, hE, hM, kp0, kp1, (by omega), (by omega), (hD.cast (by omega))⟩
      · refine W.eq (g2 := F0 m 447 ls [.int 0]) rfl ?_
        refine lv_if_eq (tgt := 478) hx hb dX7_comes_447 (by decide) (fun c_ => ?_) (fun c_ => absurd (by decide) c_)
        refine lv_iconst (v := 0) hx hb dX7_comes_478 (by decide) ?_
        refine lv_istore (lv' := [(11, .int 0), (0, .ref h), (1, .int f), (2, .int sv), (3, .int pp), (4, .int at1), (5, .int wo), (6, .int v), (7, .int c1), (8, .int kn1), (10, .int do1)]) hx hb dX7_comes_479 hl (by decide) rfl (fun ls hl => ?_)
        refine lv_aload_n hx hb dX7_comes_481 rfl (lv_at hl 1 rfl) ?_
        refine lv_iload_n hx hb dX7_comes_482 rfl (lv_at hl 3 rfl) ?_
        refine lv_iload hx hb dX7_comes_483 (lv_at hl 5 rfl) ?_
        refine t_callV (n := 2) (As := [.int sv, .int at1]) (rest := []) (ci := 7) hB hT hl.1 (m_canAsk l D cI cZ cS cR N0 (sC (sC (sC (sC g1 v_9 kn1.toNatClampNeg wo) v_11 kn1.toNatClampNeg u_13) v_15 kn1.toNatClampNeg v) fta f.toNatClampNeg z_18) hI h sv at1 v_12 u_13 r_1 r_v_12 n_v_12 e_v_12 (by omega) (by omega) (sC_a (sC_a (sC_a e_u_13.symm (ro_ne r_v_12 r_v_11 (by decide))) (ro_ne r_v_12 r_v_15 (by decide))) (ro_ne r_v_12 r_4 (by decide)))) (ro_ci r_1 rfl) rfl k_1023 k_65 k_1020 k_1022 k_31 (by decide +kernel) ⟨(Nat.le_of_ble_eq_true rfl), (Nat.le_of_ble_eq_true rfl)⟩ rfl (Nat.le_of_ble_eq_true rfl) ⟨(Nat.le_of_ble_eq_true rfl), (Nat.le_of_ble_eq_true rfl)⟩ dX7_comes_485 (fun v g_190 H locs hp hT => ?_)
        obtain ⟨r_191, rfl, eg, f_192⟩ := hp
        rw [eg] at hT
        clear eg
        refine W.eq (g2 := F0 m 488 ls [.int r_191]) rfl ?_
        rcases f_192 with ⟨rfl, hw_195⟩ | rfl
        · refine W.eq (g2 := F0 m 488 ls [.int 1]) rfl ?_
          refine lv_if_eq (tgt := 562) hx hb dX7_comes_488 (by decide) (fun c_ => absurd c_ (by decide)) (fun c_ => ?_)
          refine lv_aload_n hx hb dX7_comes_491 rfl (lv_at hl 1 rfl) ?_
          refine lv_aload_n hx hb dX7_comes_492 rfl (lv_at hl 1 rfl) ?_
          refine t_get (ci := 7) (v := .ref v_12) hB hT (ro_ci r_1 rfl) rfl 3 (by decide) k_748 e_v_12 dX7_comes_493 ?_
          refine lv_iload hx hb dX7_comes_496 (lv_at hl 5 rfl) ?_
          have i_u_196 : vp_in at1 48 := (i_in (n := 48) rfl (by omega) (by omega))
          refine t_iald (v := u_13) hB hT (ro_in r_v_12 (by decide)) n_v_12 i_u_196 (sC_a (sC_a (sC_a e_u_13.symm (ro_ne r_v_12 r_v_11 (by decide))) (ro_ne r_v_12 r_v_15 (by decide))) (ro_ne r_v_12 r_4 (by decide))) dX7_comes_498 ?_
          refine lv_iload hx hb dX7_comes_499 (lv_at hl 7 rfl) ?_
          refine lv_iload hx hb dX7_comes_501 (lv_at hl 0 rfl) ?_
          refine t_callV (n := 3) (As := [.int u_13, .int v, .int 0]) (rest := []) (ci := 7) hB hT hl.1 (m_begins l D cI cZ cS cR N0 (sC (sC (sC (sC g1 v_9 kn1.toNatClampNeg wo) v_11 kn1.toNatClampNeg u_13) v_15 kn1.toNatClampNeg v) fta f.toNatClampNeg z_18) hI h u_13 v 0 dd fa r_1 r_2 n_3 kp0 kn_7 (by have q0 : (0 : Int32).toInt = 0 := (by decide); omega) (by have q0 : (0 : Int32).toInt = 0 := (by decide); omega) (by have q0 : (0 : Int32).toInt = 0 := (by decide); omega) (by have q0 : (0 : Int32).toInt = 0 := (by decide); omega) (by have q0 : (0 : Int32).toInt = 0 := (by decide); omega) (by have q0 : (0 : Int32).toInt = 0 := (by decide); omega) (by have q0 : (0 : Int32).toInt = 0 := (by decide); omega) hD) (ro_ci r_1 rfl) rfl k_1055 k_65 k_1052 k_1054 k_37 (by decide +kernel) ⟨(Nat.le_of_ble_eq_true rfl), (Nat.le_of_ble_eq_true rfl)⟩ rfl (Nat.le_of_ble_eq_true rfl) ⟨(Nat.le_of_ble_eq_true rfl), (Nat.le_of_ble_eq_true rfl)⟩ dX7_comes_503 (fun v g_197 H locs hp hT => ?_)
          obtain ⟨r_198, d2_199, rfl, hI, x_204, m_203, f_200, f_201, f_202⟩ := hp
          have hM : Sm md_m_comes1 g g_197 := hM.tr hE (m_203.mo (fun r k h => mdle_m_comes1_m_begins h))
          have hE : Ex g g_197 := hE.tr x_204
          have r_205 : g_197.1 h = 8 := (Ex.r x_204 r_1 (by decide))
          have r_206 : g_197.1 fa = 51 := (Ex.r x_204 r_2 (by decide))
          have r_207 : g_197.1 fta = 55 := (Ex.r x_204 r_4 (by decide))
          have r_208 : g_197.1 v_9 = 50 := (Ex.r x_204 r_v_9 (by decide))
          have r_209 : g_197.1 v_11 = 50 := (Ex.r x_204 r_v_11 (by decide))
          have r_210 : g_197.1 v_12 = 72 := (Ex.r x_204 r_v_12 (by decide))
          have r_211 : g_197.1 v_15 = 50 := (Ex.r x_204 r_v_15 (by decide))
          have n_212 : g_197.2.2.1 fa = 7 := (Ex.n x_204 r_2 (by decide) n_3)
          have n_213 : g_197.2.2.1 fta = 7 := (Ex.n x_204 r_4 (by decide) n_5)
          have n_214 : g_197.2.2.1 v_9 = 96 := (Ex.n x_204 r_v_9 (by decide) n_v_9)
          have n_215 : g_197.2.2.1 v_11 = 96 := (Ex.n x_204 r_v_11 (by decide) n_v_11)
          have n_216 : g_197.2.2.1 v_12 = 48 := (Ex.n x_204 r_v_12 (by decide) n_v_12)
          have n_217 : g_197.2.2.1 v_15 = 96 := (Ex.n x_204 r_v_15 (by decide) n_v_15)
          have kn_218 : g_197.2.1 h 52 = .int t0 := (Sm.v m_203 r_1 (by decide) rfl kp1)
          have kn_219 : g_197.2.1 h 21 = .int 1 := (Sm.v m_203 r_1 (by decide) rfl kn_6)
          have kn_220 : g_197.2.1 h 43 = .ref fa := (Sm.v m_203 r_1 (by decide) rfl kn_7)
          have kn_221 : g_197.2.1 h 46 = .ref fta := (Sm.v m_203 r_1 (by decide) rfl kn_8)
          have kn_222 : g_197.2.1 h 17 = .ref v_9 := (Sm.v m_203 r_1 (by decide) rfl e_v_9)
          have kn_223 : g_197.2.1 h 18 = .ref v_11 := (Sm.v m_203 r_1 (by decide) rfl e_v_11)
          have kn_224 : g_197.2.1 h 3 = .ref v_12 := (Sm.v m_203 r_1 (by decide) rfl e_v_12)
          have kn_225 : g_197.2.1 h 19 = .ref v_15 := (Sm.v m_203 r_1 (by decide) rfl e_v_15)
          have kn_226 : g_197.2.2.2.1 v_12 at1.toNatClampNeg = u_13 := (Sm.c m_203 r_v_12 (by decide) rfl (sC_a (sC_a (sC_a e_u_13.symm (ro_ne r_v_12 r_v_11 (by decide))) (ro_ne r_v_12 r_v_15 (by decide))) (ro_ne r_v_12 r_4 (by decide))))
          refine W.eq (g2 := F0 m 506 ls [.int r_198]) rfl ?_
          have hD := f_202
          have qc_227 : (0 : Int32).toInt = 0 := (by decide)
          rcases f_200 with ⟨rfl, hw_228⟩ | ⟨rfl, hw_229⟩
          · refine W.eq (g2 := F0 m 506 ls [.int 1]) rfl ?_
            refine lv_if_eq (tgt := 562) hx hb dX7_comes_506 (by decide) (fun c_ => absurd c_ (by decide)) (fun c_ => ?_)
            refine lv_aload_n hx hb dX7_comes_509 rfl (lv_at hl 1 rfl) ?_
            obtain ⟨v_230, e_v_230, r_v_230, n_v_230⟩ := f_8_47 hI r_205
            refine t_get (ci := 7) (v := .ref v_230) hB hT (ro_ci r_205 rfl) rfl 47 (by decide) k_792 e_v_230 dX7_comes_510 ?_
            refine lv_iload_n hx hb dX7_comes_513 rfl (lv_at hl 2 rfl) ?_
            refine lv_aload_n hx hb dX7_comes_514 rfl (lv_at hl 1 rfl) ?_
            obtain ⟨v_231, e_v_231, l_v_231, u_v_231⟩ := f_8_51 hI r_205
            refine t_get (ci := 7) (v := .int v_231) hB hT (ro_ci r_205 rfl) rfl 51 (by decide) k_796 e_v_231 dX7_comes_515 ?_
            have i_232 : vp_in f 7 := (i_in (n := 7) rfl (by omega) (by omega))
            refine t_iast hB hT (ro_in r_v_230 (by decide)) n_v_230 i_232 dX7_comes_518 (fun H locs hT => ?_)
            have hI : Inv (sC g_197 v_230 f.toNatClampNeg v_231) := hI.sC (ck r_v_230 ⟨by omega, by omega⟩)
            have hM : Sm md_m_comes1 g (sC g_197 v_230 f.toNatClampNeg v_231) := hM.tr hE (Sm_sC (by rw [r_v_230]; rfl))
            have hE : Ex g (sC g_197 v_230 f.toNatClampNeg v_231) := hE
            have hD : DP (sC g_197 v_230 f.toNatClampNeg v_231) fa d2_199.toInt := hD.tC (ro_ne r_206 r_v_230 (by decide))
            refine lv_goto (tgt := 562) hx hb dX7_comes_519 (by decide) ?_
            exact t_vret hB hr hT (Nat.le_of_ble_eq_true rfl) (Nat.le_of_ble_eq_true rfl) dX7_comes_562 ⟨d2_199, t0, rfl, hI, hE, hM, f_201, kn_218, (by omega), (by omega), (hD.cast (by omega))⟩
          · refine W.eq (g2 := F0 m 506 ls [.int 0]) rfl ?_
            refine lv_if_eq (tgt := 562) hx hb dX7_comes_506 (by decide) (fun c_ => ?_) (fun c_ => absurd (by decide) c_)
            exact t_vret hB hr hT (Nat.le_of_ble_eq_true rfl) (Nat.le_of_ble_eq_true rfl) dX7_comes_562 ⟨d2_199, t0, rfl, hI, hE, hM, f_201, kn_218, (by omega), (by omega), (hD.cast (by omega))⟩
        · refine W.eq (g2 := F0 m 488 ls [.int 0]) rfl ?_
          refine lv_if_eq (tgt := 562) hx hb dX7_comes_488 (by decide) (fun c_ => ?_) (fun c_ => absurd (by decide) c_)
          exact t_vret hB hr hT (Nat.le_of_ble_eq_true rfl) (Nat.le_of_ble_eq_true rfl) dX7_comes_562 ⟨dd, t0, rfl, hI, hE, hM, kp0, kp1, (by omega), (by omega), (hD.cast (by omega))⟩
    · refine x_ev (y := 6) ej_21 ?_
      refine lv_tableIn (off := 289) (tgt := 522) hx hb dX7_comes_233 (by decide) (by decide) rfl (by decide) ?_
      refine lv_iload hx hb dX7_comes_522 (lv_at hl 9 rfl) ?_
      refine lv_if_eq (tgt := 562) hx hb dX7_comes_524 (by decide) (fun c_233 => ?_) (fun c_233 => ?_)
      · have c_233' : do1.toInt = 0 := i_eq c_233 rfl (by decide)
        exact t_vret hB hr hT (Nat.le_of_ble_eq_true rfl) (Nat.le_of_ble_eq_true rfl) dX7_comes_562 ⟨dd, t0, rfl, hI, hE, hM, kp0, kp1, (by omega), (by omega), (hD.cast (by omega))⟩
      · have c_233' : do1.toInt ≠ 0 := i_ne c_233 rfl (by decide)
        refine lv_aload_n hx hb dX7_comes_527 rfl (lv_at hl 0 rfl) ?_
        refine lv_iload hx hb dX7_comes_528 (lv_at hl 6 rfl) ?_
        refine t_callV (n := 1) (As := [.int v]) (rest := []) (ci := 7) hB hT hl.1 (m_puts1 l D cI cZ cS cR N0 (sC (sC (sC (sC g1 v_9 kn1.toNatClampNeg wo) v_11 kn1.toNatClampNeg u_13) v_15 kn1.toNatClampNeg v) fta f.toNatClampNeg z_18) hI h v t0 r_1 kp1 kn_6 (by omega) (by omega) (by omega) (by omega)) (ro_ci r_1 rfl) rfl k_1079 k_65 k_1076 k_1078 k_43 (by decide +kernel) ⟨(Nat.le_of_ble_eq_true rfl), (Nat.le_of_ble_eq_true rfl)⟩ rfl (Nat.le_of_ble_eq_true rfl) ⟨(Nat.le_of_ble_eq_true rfl), (Nat.le_of_ble_eq_true rfl)⟩ dX7_comes_530 (fun v g_234 H locs hp hT => ?_)
        obtain ⟨t2_235, rfl, hI, x_239, m_238, f_236, f_237⟩ := hp
        have hD : DP g_234 fa dd.toInt := hD.sm m_238 r_2 (by decide) rfl
        have hM : Sm md_m_comes1 g g_234 := hM.tr hE (m_238.mo (fun r k h => mdle_m_comes1_m_puts1 h))
        have hE : Ex g g_234 := hE.tr x_239
        have r_240 : g_234.1 h = 8 := (Ex.r x_239 r_1 (by decide))
        have r_241 : g_234.1 fa = 51 := (Ex.r x_239 r_2 (by decide))
        have r_242 : g_234.1 fta = 55 := (Ex.r x_239 r_4 (by decide))
        have r_243 : g_234.1 v_9 = 50 := (Ex.r x_239 r_v_9 (by decide))
        have r_244 : g_234.1 v_11 = 50 := (Ex.r x_239 r_v_11 (by decide))
        have r_245 : g_234.1 v_12 = 72 := (Ex.r x_239 r_v_12 (by decide))
        have r_246 : g_234.1 v_15 = 50 := (Ex.r x_239 r_v_15 (by decide))
        have n_247 : g_234.2.2.1 fa = 7 := (Ex.n x_239 r_2 (by decide) n_3)
        have n_248 : g_234.2.2.1 fta = 7 := (Ex.n x_239 r_4 (by decide) n_5)
        have n_249 : g_234.2.2.1 v_9 = 96 := (Ex.n x_239 r_v_9 (by decide) n_v_9)
        have n_250 : g_234.2.2.1 v_11 = 96 := (Ex.n x_239 r_v_11 (by decide) n_v_11)
        have n_251 : g_234.2.2.1 v_12 = 48 := (Ex.n x_239 r_v_12 (by decide) n_v_12)
        have n_252 : g_234.2.2.1 v_15 = 96 := (Ex.n x_239 r_v_15 (by decide) n_v_15)
        have kn_253 : g_234.2.1 h 49 = .int dd := (Sm.v m_238 r_1 (by decide) rfl kp0)
        have kn_254 : g_234.2.1 h 21 = .int 1 := (Sm.v m_238 r_1 (by decide) rfl kn_6)
        have kn_255 : g_234.2.1 h 43 = .ref fa := (Sm.v m_238 r_1 (by decide) rfl kn_7)
        have kn_256 : g_234.2.1 h 46 = .ref fta := (Sm.v m_238 r_1 (by decide) rfl kn_8)
        have kn_257 : g_234.2.1 h 17 = .ref v_9 := (Sm.v m_238 r_1 (by decide) rfl e_v_9)
        have kn_258 : g_234.2.1 h 18 = .ref v_11 := (Sm.v m_238 r_1 (by decide) rfl e_v_11)
        have kn_259 : g_234.2.1 h 3 = .ref v_12 := (Sm.v m_238 r_1 (by decide) rfl e_v_12)
        have kn_260 : g_234.2.1 h 19 = .ref v_15 := (Sm.v m_238 r_1 (by decide) rfl e_v_15)
        have kn_261 : g_234.2.2.2.1 v_12 at1.toNatClampNeg = u_13 := (Sm.c m_238 r_v_12 (by decide) rfl (sC_a (sC_a (sC_a e_u_13.symm (ro_ne r_v_12 r_v_11 (by decide))) (ro_ne r_v_12 r_v_15 (by decide))) (ro_ne r_v_12 r_4 (by decide))))
        have kn_262 : g_234.2.2.2.1 v_15 kn1.toNatClampNeg = v := (Sm.c m_238 r_v_15 (by decide) rfl (sC_a sC_eq (ro_ne r_v_15 r_4 (by decide))))
        have kn_263 : g_234.2.2.2.1 fta f.toNatClampNeg = z_18 := (Sm.c m_238 r_4 (by decide) rfl sC_eq)
        refine W.eq (g2 := F0 m 533 ls []) rfl ?_
        refine lv_goto (tgt := 562) hx hb dX7_comes_533 (by decide) ?_
        exact t_vret hB hr hT (Nat.le_of_ble_eq_true rfl) (Nat.le_of_ble_eq_true rfl) dX7_comes_562 ⟨dd, t2_235, rfl, hI, hE, hM, kn_253, f_236, (by omega), (by omega), (hD.cast (by omega))⟩
set_option maxHeartbeats 4000000 in
set_option maxRecDepth 100000 in
theorem lt_m_comes1_b (l : Launch) (D : va_G) (cI cZ cS cR : ClassId) (N0 : NT) (g : GS) (h : Nat) (dd : Int32) (t0 : Int32) (fa : Nat) (fta : Nat) (r_h : g.1 h = 8) (r_fa : g.1 fa = 51) (n_fa : g.2.2.1 fa = 7) (r_fta : g.1 fta = 55) (n_fta : g.2.2.1 fta = 7) (kdd : g.2.1 h 49 = .int dd) (kt0 : g.2.1 h 52 = .int t0) (kw : g.2.1 h 21 = .int 1) (kfa : g.2.1 h 43 = .ref fa) (kft : g.2.1 h 46 = .ref fta) (l_dd : 1 ≤ dd.toInt) (u_dd : dd.toInt ≤ 6) (l_t0 : 0 ≤ t0.toInt) (u_t0 : t0.toInt ≤ 1199) (hD_0 : DP g fa dd.toInt) (hat : ∀ f : Int32, f.toInt = dd.toInt - 1 → (g.2.2.2.1 fta f.toNatClampNeg).toInt ≤ 7) (hw : PX 48 2 3 71 72 g h) {p : Program} {e : Env} {s : State} {m : MethodId} {args : Array Value} {below : List Frame} {meth : Method} {c : Code} (hB : Tz p s m meth c args cX7_comes 12 RX7 D cI cZ cS cR N0) (hr : meth.sig.returnType = none)    : ∀ (g1 : GS) (f : Int32) (sv : Int32) (pp : Int32) (at1 : Int32) (wo : Int32) (v : Int32) (c1 : Int32) (kn1 : Int32) (ag : Int32)  (H : Heap) (locs : List Loc) (ls : Array Slot), Tv D cI cZ cS cR N0 s.heap H locs g1 → Inv g1 → Ex g g1 → Sm md_m_comes1 g g1 → 0 ≤ f.toInt → f.toInt ≤ 5 → 0 ≤ sv.toInt → sv.toInt ≤ 5 → 0 ≤ pp.toInt → pp.toInt ≤ 7 → 0 ≤ at1.toInt → at1.toInt ≤ 47 → 0 ≤ v.toInt → v.toInt ≤ 999 → 0 ≤ c1.toInt → c1.toInt ≤ 47 → 0 ≤ kn1.toInt → kn1.toInt ≤ 95 → 0 ≤ ag.toInt → ag.toInt ≤ 1 → g1.2.1 h 49 = .int dd → g1.2.1 h 52 = .int t0 → g1.2.2.2.1 fta f.toNatClampNeg = pp → (DP g1 fa dd.toInt) → (f.toInt = dd.toInt - 1 ∧ f.toInt ≤ sv.toInt) → lv_has ls 12 [(0, .ref h), (1, .int f), (2, .int sv), (3, .int pp), (4, .int at1), (5, .int wo), (6, .int v), (7, .int c1), (8, .int kn1), (9, .int ag)] → W p l e (rmx 4 0 0) s m args below meth c H locs 0 0 (MQ below (tQ D cI cZ cS cR N0 (fun v g' => ∃ (d2 : Int32) (t2 : Int32), v = none ∧ Inv g' ∧ Ex g g' ∧ Sm md_m_comes1 g g' ∧ (g'.2.1 h 49 = .int d2) ∧ (g'.2.1 h 52 = .int t2) ∧ (0 ≤ d2.toInt ∧ d2.toInt ≤ 6 ∧ d2.toInt ≤ dd.toInt + 1) ∧ (0 ≤ t2.toInt ∧ t2.toInt ≤ t0.toInt + 1) ∧ (DP g' fa d2.toInt))) args s 0 0 (fun q => N0.1 ≤ q)) (F0 m 159 ls []) := by
  have hx := hB.1
  have hb := hB.2.1
  intro g1 f sv pp at1 wo v c1 kn1 ag H locs ls hT hI hE hM l_f u_f l_sv u_sv l_pp u_pp l_at1 u_at1 l_v u_v l_c1 u_c1 l_kn1 u_kn1 l_ag u_ag kp0 kp1 kc0 hD hfs hl
  have r_1 : g1.1 h = 8 := Ex.r hE r_h (by decide)
  have r_2 : g1.1 fa = 51 := Ex.r hE r_fa (by decide)
  have n_3 : g1.2.2.1 fa = 7 := Ex.n hE r_fa (by decide) n_fa
  have r_4 : g1.1 fta = 55 := Ex.r hE r_fta (by decide)
  have n_5 : g1.2.2.1 fta = 7 := Ex.n hE r_fta (by decide) n_fta
  have kn_6 : g1.2.1 h 21 = .int 1 := Sm.v hM r_h (by decide) rfl kw
  have kn_7 : g1.2.1 h 43 = .ref fa := Sm.v hM r_h (by decide) rfl kfa
  have kn_8 : g1.2.1 h 46 = .ref fta := Sm.v hM r_h (by decide) rfl kft
  refine lv_iload hx hb dX7_comes_159 (lv_at hl 9 rfl) ?_
  refine lv_if_eq (tgt := 182) hx hb dX7_comes_161 (by decide) (fun c_9 => ?_) (fun c_9 => ?_)
  · have c_9' : ag.toInt = 0 := i_eq c_9 rfl (by decide)
    refine lv_iconst (v := 1) hx hb dX7_comes_182 (by decide) ?_
    refine lv_goto (tgt := 187) hx hb dX7_comes_183 (by decide) ?_
    refine lv_istore (lv' := [(10, .int 1), (0, .ref h), (1, .int f), (2, .int sv), (3, .int pp), (4, .int at1), (5, .int wo), (6, .int v), (7, .int c1), (8, .int kn1), (9, .int ag)]) hx hb dX7_comes_187 hl (by decide) rfl (fun ls hl => ?_)
    exact lt_m_comes1_c l D cI cZ cS cR N0 g h dd t0 fa fta r_h r_fa n_fa r_fta n_fta kdd kt0 kw kfa kft l_dd u_dd l_t0 u_t0 hD_0 hat hw hB hr   g1 f sv pp at1 wo v c1 kn1 (1 : Int32) H locs ls hT hI hE hM (by omega) (by omega) (by omega) (by omega) (by omega) (by omega) (by omega) (by omega) (by omega) (by omega) (by omega) (by omega) (by omega) (by omega) (by decide) (by decide) kp0 kp1 kc0 hD (by omega) (lv_sub hl [1, 2, 3, 4, 5, 6, 7, 8, 9, 0] rfl)
  · have c_9' : ag.toInt ≠ 0 := i_ne c_9 rfl (by decide)
    refine lv_iload hx hb dX7_comes_164 (lv_at hl 5 rfl) ?_
    refine lv_if_eq (tgt := 186) hx hb dX7_comes_166 (by decide) (fun c_10 => ?_) (fun c_10 => ?_)
    · have c_10' : wo.toInt = 0 := i_eq c_10 rfl (by decide)
      refine lv_iconst (v := 0) hx hb dX7_comes_186 (by decide) ?_
      refine lv_istore (lv' := [(10, .int 0), (0, .ref h), (1, .int f), (2, .int sv), (3, .int pp), (4, .int at1), (5, .int wo), (6, .int v), (7, .int c1), (8, .int kn1), (9, .int ag)]) hx hb dX7_comes_187 hl (by decide) rfl (fun ls hl => ?_)
      exact lt_m_comes1_c l D cI cZ cS cR N0 g h dd t0 fa fta r_h r_fa n_fa r_fta n_fta kdd kt0 kw kfa kft l_dd u_dd l_t0 u_t0 hD_0 hat hw hB hr   g1 f sv pp at1 wo v c1 kn1 (0 : Int32) H locs ls hT hI hE hM (by omega) (by omega) (by omega) (by omega) (by omega) (by omega) (by omega) (by omega) (by omega) (by omega) (by omega) (by omega) (by omega) (by omega) (by decide) (by decide) kp0 kp1 kc0 hD (by omega) (lv_sub hl [1, 2, 3, 4, 5, 6, 7, 8, 9, 0] rfl)
    · have c_10' : wo.toInt ≠ 0 := i_ne c_10 rfl (by decide)
      refine lv_iload hx hb dX7_comes_169 (lv_at hl 5 rfl) ?_
      refine lv_iconst (v := 2) hx hb dX7_comes_171 (by decide) ?_
      refine lv_icmp_eq (tgt := 186) hx hb dX7_comes_172 (by decide) (fun c_11 => ?_) (fun c_11 => ?_)
      · have c_11' : wo.toInt = 2 := i_eq c_11 rfl (by decide)
        refine lv_iconst (v := 0) hx hb dX7_comes_186 (by decide) ?_
        refine lv_istore (lv' := [(10, .int 0), (0, .ref h), (1, .int f), (2, .int sv), (3, .int pp), (4, .int at1), (5, .int wo), (6, .int v), (7, .int c1), (8, .int kn1), (9, .int ag)]) hx hb dX7_comes_187 hl (by decide) rfl (fun ls hl => ?_)
        exact lt_m_comes1_c l D cI cZ cS cR N0 g h dd t0 fa fta r_h r_fa n_fa r_fta n_fta kdd kt0 kw kfa kft l_dd u_dd l_t0 u_t0 hD_0 hat hw hB hr   g1 f sv pp at1 wo v c1 kn1 (0 : Int32) H locs ls hT hI hE hM (by omega) (by omega) (by omega) (by omega) (by omega) (by omega) (by omega) (by omega) (by omega) (by omega) (by omega) (by omega) (by omega) (by omega) (by decide) (by decide) kp0 kp1 kc0 hD (by omega) (lv_sub hl [1, 2, 3, 4, 5, 6, 7, 8, 9, 0] rfl)
      · have c_11' : wo.toInt ≠ 2 := i_ne c_11 rfl (by decide)
        refine lv_iload hx hb dX7_comes_175 (lv_at hl 5 rfl) ?_
        refine lv_bipush (v := 6) hx hb dX7_comes_177 (by decide) ?_
        refine lv_icmp_eq (tgt := 186) hx hb dX7_comes_179 (by decide) (fun c_12 => ?_) (fun c_12 => ?_)
        · have c_12' : wo.toInt = 6 := i_eq c_12 rfl (by decide)
          refine lv_iconst (v := 0) hx hb dX7_comes_186 (by decide) ?_
          refine lv_istore (lv' := [(10, .int 0), (0, .ref h), (1, .int f), (2, .int sv), (3, .int pp), (4, .int at1), (5, .int wo), (6, .int v), (7, .int c1), (8, .int kn1), (9, .int ag)]) hx hb dX7_comes_187 hl (by decide) rfl (fun ls hl => ?_)
          exact lt_m_comes1_c l D cI cZ cS cR N0 g h dd t0 fa fta r_h r_fa n_fa r_fta n_fta kdd kt0 kw kfa kft l_dd u_dd l_t0 u_t0 hD_0 hat hw hB hr   g1 f sv pp at1 wo v c1 kn1 (0 : Int32) H locs ls hT hI hE hM (by omega) (by omega) (by omega) (by omega) (by omega) (by omega) (by omega) (by omega) (by omega) (by omega) (by omega) (by omega) (by omega) (by omega) (by decide) (by decide) kp0 kp1 kc0 hD (by omega) (lv_sub hl [1, 2, 3, 4, 5, 6, 7, 8, 9, 0] rfl)
        · have c_12' : wo.toInt ≠ 6 := i_ne c_12 rfl (by decide)
          refine lv_iconst (v := 1) hx hb dX7_comes_182 (by decide) ?_
          refine lv_goto (tgt := 187) hx hb dX7_comes_183 (by decide) ?_
          refine lv_istore (lv' := [(10, .int 1), (0, .ref h), (1, .int f), (2, .int sv), (3, .int pp), (4, .int at1), (5, .int wo), (6, .int v), (7, .int c1), (8, .int kn1), (9, .int ag)]) hx hb dX7_comes_187 hl (by decide) rfl (fun ls hl => ?_)
          exact lt_m_comes1_c l D cI cZ cS cR N0 g h dd t0 fa fta r_h r_fa n_fa r_fta n_fta kdd kt0 kw kfa kft l_dd u_dd l_t0 u_t0 hD_0 hat hw hB hr   g1 f sv pp at1 wo v c1 kn1 (1 : Int32) H locs ls hT hI hE hM (by omega) (by omega) (by omega) (by omega) (by omega) (by omega) (by omega) (by omega) (by omega) (by omega) (by omega) (by omega) (by omega) (by omega) (by decide) (by decide) kp0 kp1 kc0 hD (by omega) (lv_sub hl [1, 2, 3, 4, 5, 6, 7, 8, 9, 0] rfl)
set_option maxHeartbeats 4000000 in
set_option maxRecDepth 100000 in
theorem lt_m_comes1_a (l : Launch) (D : va_G) (cI cZ cS cR : ClassId) (N0 : NT) (g : GS) (h : Nat) (dd : Int32) (t0 : Int32) (fa : Nat) (fta : Nat) (r_h : g.1 h = 8) (r_fa : g.1 fa = 51) (n_fa : g.2.2.1 fa = 7) (r_fta : g.1 fta = 55) (n_fta : g.2.2.1 fta = 7) (kdd : g.2.1 h 49 = .int dd) (kt0 : g.2.1 h 52 = .int t0) (kw : g.2.1 h 21 = .int 1) (kfa : g.2.1 h 43 = .ref fa) (kft : g.2.1 h 46 = .ref fta) (l_dd : 1 ≤ dd.toInt) (u_dd : dd.toInt ≤ 6) (l_t0 : 0 ≤ t0.toInt) (u_t0 : t0.toInt ≤ 1199) (hD_0 : DP g fa dd.toInt) (hat : ∀ f : Int32, f.toInt = dd.toInt - 1 → (g.2.2.2.1 fta f.toNatClampNeg).toInt ≤ 7) (hw : PX 48 2 3 71 72 g h) {p : Program} {e : Env} {s : State} {m : MethodId} {args : Array Value} {below : List Frame} {meth : Method} {c : Code} (hB : Tz p s m meth c args cX7_comes 12 RX7 D cI cZ cS cR N0) (hr : meth.sig.returnType = none)    : ∀ (g1 : GS) (f : Int32) (sv : Int32) (pp : Int32) (at1 : Int32) (wo : Int32) (v : Int32) (c1 : Int32)  (H : Heap) (locs : List Loc) (ls : Array Slot), Tv D cI cZ cS cR N0 s.heap H locs g1 → Inv g1 → Ex g g1 → Sm md_m_comes1 g g1 → 0 ≤ f.toInt → f.toInt ≤ 5 → 0 ≤ sv.toInt → sv.toInt ≤ 5 → 0 ≤ pp.toInt → pp.toInt ≤ 7 → 0 ≤ at1.toInt → at1.toInt ≤ 47 → 0 ≤ v.toInt → v.toInt ≤ 999 → 0 ≤ c1.toInt → c1.toInt ≤ 47 → g1.2.1 h 49 = .int dd → g1.2.1 h 52 = .int t0 → g1.2.2.2.1 fta f.toNatClampNeg = pp → (DP g1 fa dd.toInt) → (f.toInt = dd.toInt - 1 ∧ f.toInt ≤ sv.toInt) → lv_has ls 12 [(0, .ref h), (1, .int f), (2, .int sv), (3, .int pp), (4, .int at1), (5, .int wo), (6, .int v), (7, .int c1)] → W p l e (rmx 4 0 0) s m args below meth c H locs 0 0 (MQ below (tQ D cI cZ cS cR N0 (fun v g' => ∃ (d2 : Int32) (t2 : Int32), v = none ∧ Inv g' ∧ Ex g g' ∧ Sm md_m_comes1 g g' ∧ (g'.2.1 h 49 = .int d2) ∧ (g'.2.1 h 52 = .int t2) ∧ (0 ≤ d2.toInt ∧ d2.toInt ≤ 6 ∧ d2.toInt ≤ dd.toInt + 1) ∧ (0 ≤ t2.toInt ∧ t2.toInt ≤ t0.toInt + 1) ∧ (DP g' fa d2.toInt))) args s 0 0 (fun q => N0.1 ≤ q)) (F0 m 81 ls []) := by
  have hx := hB.1
  have hb := hB.2.1
  intro g1 f sv pp at1 wo v c1 H locs ls hT hI hE hM l_f u_f l_sv u_sv l_pp u_pp l_at1 u_at1 l_v u_v l_c1 u_c1 kp0 kp1 kc0 hD hfs hl
  have r_1 : g1.1 h = 8 := Ex.r hE r_h (by decide)
  have r_2 : g1.1 fa = 51 := Ex.r hE r_fa (by decide)
  have n_3 : g1.2.2.1 fa = 7 := Ex.n hE r_fa (by decide) n_fa
  have r_4 : g1.1 fta = 55 := Ex.r hE r_fta (by decide)
  have n_5 : g1.2.2.1 fta = 7 := Ex.n hE r_fta (by decide) n_fta
  have kn_6 : g1.2.1 h 21 = .int 1 := Sm.v hM r_h (by decide) rfl kw
  have kn_7 : g1.2.1 h 43 = .ref fa := Sm.v hM r_h (by decide) rfl kfa
  have kn_8 : g1.2.1 h 46 = .ref fta := Sm.v hM r_h (by decide) rfl kft
  refine lv_bipush (v := 8) hx hb dX7_comes_81 (by decide) ?_
  refine lv_aload_n hx hb dX7_comes_83 rfl (lv_at hl 0 rfl) ?_
  refine lv_iload_n hx hb dX7_comes_84 rfl (lv_at hl 2 rfl) ?_
  refine t_callV (n := 1) (As := [.int sv]) (rest := [.int 8]) (ci := 7) hB hT hl.1 (m_base l D cI cZ cS cR N0 g1 hI h sv 1 r_1 kn_6 (by have q0 : (1 : Int32).toInt = 1 := (by decide); omega) (by have q0 : (1 : Int32).toInt = 1 := (by decide); omega) (by have q0 : (1 : Int32).toInt = 1 := (by decide); omega) (by have q0 : (1 : Int32).toInt = 1 := (by decide); omega)) (ro_ci r_1 rfl) rfl k_1043 k_65 k_1040 k_1042 k_34 (by decide +kernel) ⟨(Nat.le_of_ble_eq_true rfl), (Nat.le_of_ble_eq_true rfl)⟩ rfl (Nat.le_of_ble_eq_true rfl) ⟨(Nat.le_of_ble_eq_true rfl), (Nat.le_of_ble_eq_true rfl)⟩ dX7_comes_85 (fun v g_9 H locs hp hT => ?_)
  obtain ⟨r_10, rfl, eg, f_11, f_12⟩ := hp
  rw [eg] at hT
  clear eg
  refine W.eq (g2 := F0 m 88 ls [.int r_10, .int 8]) rfl ?_
  have qc_15 : (1 : Int32).toInt = 1 := (by decide)
  refine lv_imul hx hb dX7_comes_88 ?_
  refine lv_topi (fun z_16 ez_16 => ?_)
  have e_z_16 : z_16.toInt = 8 * r_10.toInt := i_mul ez_16 (by decide) rfl (by omega) (by omega)
  refine lv_iload_n hx hb dX7_comes_89 rfl (lv_at hl 3 rfl) ?_
  refine lv_iadd hx hb dX7_comes_90 ?_
  refine lv_topi (fun z_17 ez_17 => ?_)
  have e_z_17 : z_17.toInt = z_16.toInt + pp.toInt := i_add ez_17 rfl rfl (by omega) (by omega)
  refine lv_istore (lv' := [(8, .int z_17), (0, .ref h), (1, .int f), (2, .int sv), (3, .int pp), (4, .int at1), (5, .int wo), (6, .int v), (7, .int c1)]) hx hb dX7_comes_91 hl (by decide) rfl (fun ls hl => ?_)
  refine lv_aload_n hx hb dX7_comes_93 rfl (lv_at hl 1 rfl) ?_
  refine lv_iload_n hx hb dX7_comes_94 rfl (lv_at hl 3 rfl) ?_
  refine lv_iconst (v := 3) hx hb dX7_comes_95 (by decide) ?_
  refine t_callV (n := 2) (As := [.int sv, .int 3]) (rest := []) (ci := 7) hB hT hl.1 (m_has l D cI cZ cS cR N0 g1 hI h sv 3 r_1 (by have q0 : (3 : Int32).toInt = 3 := (by decide); omega) (by have q0 : (3 : Int32).toInt = 3 := (by decide); omega)) (ro_ci r_1 rfl) rfl k_999 k_65 k_996 k_998 k_28 (by decide +kernel) ⟨(Nat.le_of_ble_eq_true rfl), (Nat.le_of_ble_eq_true rfl)⟩ rfl (Nat.le_of_ble_eq_true rfl) ⟨(Nat.le_of_ble_eq_true rfl), (Nat.le_of_ble_eq_true rfl)⟩ dX7_comes_96 (fun v g_18 H locs hp hT => ?_)
  obtain ⟨r_19, rfl, eg, f_20⟩ := hp
  rw [eg] at hT
  clear eg
  refine W.eq (g2 := F0 m 99 ls [.int r_19]) rfl ?_
  have qc_23 : (3 : Int32).toInt = 3 := (by decide)
  rcases f_20 with rfl | rfl
  · refine W.eq (g2 := F0 m 99 ls [.int 1]) rfl ?_
    refine lv_if_eq (tgt := 156) hx hb dX7_comes_99 (by decide) (fun c_ => absurd c_ (by decide)) (fun c_ => ?_)
    refine lv_aload_n hx hb dX7_comes_102 rfl (lv_at hl 1 rfl) ?_
    obtain ⟨v_24, e_v_24, r_v_24, n_v_24⟩ := f_8_48 hI r_1
    refine t_get (ci := 7) (v := .ref v_24) hB hT (ro_ci r_1 rfl) rfl 48 (by decide) k_793 e_v_24 dX7_comes_103 ?_
    refine lv_iload_n hx hb dX7_comes_106 rfl (lv_at hl 2 rfl) ?_
    have i_u_25 : vp_in f 7 := (i_in (n := 7) rfl (by omega) (by omega))
    refine t_zald hB hT r_v_24 n_v_24 i_u_25 rfl dX7_comes_107 ?_
    refine lv_topi (fun u_25 e_u_25 => ?_)
    refine lv_if_eq (tgt := 156) hx hb dX7_comes_108 (by decide) (fun c_26 => ?_) (fun c_26 => ?_)
    · have c_26' : u_25.toInt = 0 := i_eq c_26 rfl (by decide)
      refine lv_iconst (v := 0) hx hb dX7_comes_156 (by decide) ?_
      refine lv_istore (lv' := [(9, .int 0), (8, .int z_17), (0, .ref h), (1, .int f), (2, .int sv), (3, .int pp), (4, .int at1), (5, .int wo), (6, .int v), (7, .int c1)]) hx hb dX7_comes_157 hl (by decide) rfl (fun ls hl => ?_)
      exact lt_m_comes1_b l D cI cZ cS cR N0 g h dd t0 fa fta r_h r_fa n_fa r_fta n_fta kdd kt0 kw kfa kft l_dd u_dd l_t0 u_t0 hD_0 hat hw hB hr   g1 f sv pp at1 wo v c1 z_17 (0 : Int32) H locs ls hT hI hE hM (by omega) (by omega) (by omega) (by omega) (by omega) (by omega) (by omega) (by omega) (by omega) (by omega) (by omega) (by omega) (by omega) (by omega) (by decide) (by decide) kp0 kp1 kc0 hD (by omega) (lv_sub hl [2, 3, 4, 5, 6, 7, 8, 9, 1, 0] rfl)
    · have c_26' : u_25.toInt ≠ 0 := i_ne c_26 rfl (by decide)
      refine lv_aload_n hx hb dX7_comes_111 rfl (lv_at hl 1 rfl) ?_
      obtain ⟨v_27, e_v_27, r_v_27, n_v_27⟩ := f_8_54 hI r_1
      refine t_get (ci := 7) (v := .ref v_27) hB hT (ro_ci r_1 rfl) rfl 54 (by decide) k_799 e_v_27 dX7_comes_112 ?_
      refine lv_iload hx hb dX7_comes_115 (lv_at hl 5 rfl) ?_
      have i_u_28 : vp_in at1 48 := (i_in (n := 48) rfl (by omega) (by omega))
      refine t_iald hB hT (ro_in r_v_27 (by decide)) n_v_27 i_u_28 rfl dX7_comes_117 ?_
      refine lv_topi (fun u_28 e_u_28 => ?_)
      refine lv_iload hx hb dX7_comes_118 (lv_at hl 6 rfl) ?_
      refine lv_icmp_ne (tgt := 156) hx hb dX7_comes_120 (by decide) (fun c_29 => ?_) (fun c_29 => ?_)
      · have c_29' : u_28.toInt ≠ wo.toInt := i_ne c_29 rfl rfl
        refine lv_iconst (v := 0) hx hb dX7_comes_156 (by decide) ?_
        refine lv_istore (lv' := [(9, .int 0), (8, .int z_17), (0, .ref h), (1, .int f), (2, .int sv), (3, .int pp), (4, .int at1), (5, .int wo), (6, .int v), (7, .int c1)]) hx hb dX7_comes_157 hl (by decide) rfl (fun ls hl => ?_)
        exact lt_m_comes1_b l D cI cZ cS cR N0 g h dd t0 fa fta r_h r_fa n_fa r_fta n_fta kdd kt0 kw kfa kft l_dd u_dd l_t0 u_t0 hD_0 hat hw hB hr   g1 f sv pp at1 wo v c1 z_17 (0 : Int32) H locs ls hT hI hE hM (by omega) (by omega) (by omega) (by omega) (by omega) (by omega) (by omega) (by omega) (by omega) (by omega) (by omega) (by omega) (by omega) (by omega) (by decide) (by decide) kp0 kp1 kc0 hD (by omega) (lv_sub hl [2, 3, 4, 5, 6, 7, 8, 9, 1, 0] rfl)
      · have c_29' : u_28.toInt = wo.toInt := i_eq c_29 rfl rfl
        refine lv_aload_n hx hb dX7_comes_123 rfl (lv_at hl 1 rfl) ?_
        obtain ⟨v_30, e_v_30, r_v_30, n_v_30⟩ := f_8_55 hI r_1
        refine t_get (ci := 7) (v := .ref v_30) hB hT (ro_ci r_1 rfl) rfl 55 (by decide) k_800 e_v_30 dX7_comes_124 ?_
        refine lv_iload hx hb dX7_comes_127 (lv_at hl 5 rfl) ?_
        have i_u_31 : vp_in at1 48 := (i_in (n := 48) rfl (by omega) (by omega))
        refine t_iald hB hT (ro_in r_v_30 (by decide)) n_v_30 i_u_31 rfl dX7_comes_129 ?_
        refine lv_topi (fun u_31 e_u_31 => ?_)
        refine lv_aload_n hx hb dX7_comes_130 rfl (lv_at hl 1 rfl) ?_
        obtain ⟨v_32, e_v_32, r_v_32, n_v_32⟩ := f_8_3 hI r_1
        refine t_get (ci := 7) (v := .ref v_32) hB hT (ro_ci r_1 rfl) rfl 3 (by decide) k_748 e_v_32 dX7_comes_131 ?_
        refine lv_iload hx hb dX7_comes_134 (lv_at hl 5 rfl) ?_
        have i_u_33 : vp_in at1 48 := (i_in (n := 48) rfl (by omega) (by omega))
        refine t_iald hB hT (ro_in r_v_32 (by decide)) n_v_32 i_u_33 rfl dX7_comes_136 ?_
        have c_u_33 := hI.c r_v_32 n_v_32 (i_cl i_u_33)
        refine lv_topi (fun u_33 e_u_33 => ?_)
        obtain ⟨l_u_33, u_u_33⟩ := c_u_33
        rw [← e_u_33] at l_u_33 u_u_33
        refine lv_icmp_ne (tgt := 156) hx hb dX7_comes_137 (by decide) (fun c_34 => ?_) (fun c_34 => ?_)
        · have c_34' : u_31.toInt ≠ u_33.toInt := i_ne c_34 rfl rfl
          refine lv_iconst (v := 0) hx hb dX7_comes_156 (by decide) ?_
          refine lv_istore (lv' := [(9, .int 0), (8, .int z_17), (0, .ref h), (1, .int f), (2, .int sv), (3, .int pp), (4, .int at1), (5, .int wo), (6, .int v), (7, .int c1)]) hx hb dX7_comes_157 hl (by decide) rfl (fun ls hl => ?_)
          exact lt_m_comes1_b l D cI cZ cS cR N0 g h dd t0 fa fta r_h r_fa n_fa r_fta n_fta kdd kt0 kw kfa kft l_dd u_dd l_t0 u_t0 hD_0 hat hw hB hr   g1 f sv pp at1 wo v c1 z_17 (0 : Int32) H locs ls hT hI hE hM (by omega) (by omega) (by omega) (by omega) (by omega) (by omega) (by omega) (by omega) (by omega) (by omega) (by omega) (by omega) (by omega) (by omega) (by decide) (by decide) kp0 kp1 kc0 hD (by omega) (lv_sub hl [2, 3, 4, 5, 6, 7, 8, 9, 1, 0] rfl)
        · have c_34' : u_31.toInt = u_33.toInt := i_eq c_34 rfl rfl
          refine lv_aload_n hx hb dX7_comes_140 rfl (lv_at hl 1 rfl) ?_
          obtain ⟨v_35, e_v_35, r_v_35, n_v_35⟩ := f_8_56 hI r_1
          refine t_get (ci := 7) (v := .ref v_35) hB hT (ro_ci r_1 rfl) rfl 56 (by decide) k_801 e_v_35 dX7_comes_141 ?_
          refine lv_iload hx hb dX7_comes_144 (lv_at hl 5 rfl) ?_
          have i_u_36 : vp_in at1 48 := (i_in (n := 48) rfl (by omega) (by omega))
          refine t_iald hB hT (ro_in r_v_35 (by decide)) n_v_35 i_u_36 rfl dX7_comes_146 ?_
          refine lv_topi (fun u_36 e_u_36 => ?_)
          refine lv_iload hx hb dX7_comes_147 (lv_at hl 7 rfl) ?_
          refine lv_icmp_ne (tgt := 156) hx hb dX7_comes_149 (by decide) (fun c_37 => ?_) (fun c_37 => ?_)
          · have c_37' : u_36.toInt ≠ v.toInt := i_ne c_37 rfl rfl
            refine lv_iconst (v := 0) hx hb dX7_comes_156 (by decide) ?_
            refine lv_istore (lv' := [(9, .int 0), (8, .int z_17), (0, .ref h), (1, .int f), (2, .int sv), (3, .int pp), (4, .int at1), (5, .int wo), (6, .int v), (7, .int c1)]) hx hb dX7_comes_157 hl (by decide) rfl (fun ls hl => ?_)
            exact lt_m_comes1_b l D cI cZ cS cR N0 g h dd t0 fa fta r_h r_fa n_fa r_fta n_fta kdd kt0 kw kfa kft l_dd u_dd l_t0 u_t0 hD_0 hat hw hB hr   g1 f sv pp at1 wo v c1 z_17 (0 : Int32) H locs ls hT hI hE hM (by omega) (by omega) (by omega) (by omega) (by omega) (by omega) (by omega) (by omega) (by omega) (by omega) (by omega) (by omega) (by omega) (by omega) (by decide) (by decide) kp0 kp1 kc0 hD (by omega) (lv_sub hl [2, 3, 4, 5, 6, 7, 8, 9, 1, 0] rfl)
          · have c_37' : u_36.toInt = v.toInt := i_eq c_37 rfl rfl
            refine lv_iconst (v := 1) hx hb dX7_comes_152 (by decide) ?_
            refine lv_goto (tgt := 157) hx hb dX7_comes_153 (by decide) ?_
            refine lv_istore (lv' := [(9, .int 1), (8, .int z_17), (0, .ref h), (1, .int f), (2, .int sv), (3, .int pp), (4, .int at1), (5, .int wo), (6, .int v), (7, .int c1)]) hx hb dX7_comes_157 hl (by decide) rfl (fun ls hl => ?_)
            exact lt_m_comes1_b l D cI cZ cS cR N0 g h dd t0 fa fta r_h r_fa n_fa r_fta n_fta kdd kt0 kw kfa kft l_dd u_dd l_t0 u_t0 hD_0 hat hw hB hr   g1 f sv pp at1 wo v c1 z_17 (1 : Int32) H locs ls hT hI hE hM (by omega) (by omega) (by omega) (by omega) (by omega) (by omega) (by omega) (by omega) (by omega) (by omega) (by omega) (by omega) (by omega) (by omega) (by decide) (by decide) kp0 kp1 kc0 hD (by omega) (lv_sub hl [2, 3, 4, 5, 6, 7, 8, 9, 1, 0] rfl)
  · refine W.eq (g2 := F0 m 99 ls [.int 0]) rfl ?_
    refine lv_if_eq (tgt := 156) hx hb dX7_comes_99 (by decide) (fun c_ => ?_) (fun c_ => absurd (by decide) c_)
    refine lv_iconst (v := 0) hx hb dX7_comes_156 (by decide) ?_
    refine lv_istore (lv' := [(9, .int 0), (8, .int z_17), (0, .ref h), (1, .int f), (2, .int sv), (3, .int pp), (4, .int at1), (5, .int wo), (6, .int v), (7, .int c1)]) hx hb dX7_comes_157 hl (by decide) rfl (fun ls hl => ?_)
    exact lt_m_comes1_b l D cI cZ cS cR N0 g h dd t0 fa fta r_h r_fa n_fa r_fta n_fta kdd kt0 kw kfa kft l_dd u_dd l_t0 u_t0 hD_0 hat hw hB hr   g1 f sv pp at1 wo v c1 z_17 (0 : Int32) H locs ls hT hI hE hM (by omega) (by omega) (by omega) (by omega) (by omega) (by omega) (by omega) (by omega) (by omega) (by omega) (by omega) (by omega) (by omega) (by omega) (by decide) (by decide) kp0 kp1 kc0 hD (by omega) (lv_sub hl [2, 3, 4, 5, 6, 7, 8, 9, 1, 0] rfl)
set_option maxHeartbeats 4000000 in
set_option maxRecDepth 100000 in
theorem m_comes1 (l : Launch) (D : va_G) (cI cZ cS cR : ClassId) (N0 : NT) (g : GS) (hI : Inv g) (h : Nat) (dd : Int32) (t0 : Int32) (fa : Nat) (fta : Nat) (r_h : g.1 h = 8) (r_fa : g.1 fa = 51) (n_fa : g.2.2.1 fa = 7) (r_fta : g.1 fta = 55) (n_fta : g.2.2.1 fta = 7) (kdd : g.2.1 h 49 = .int dd) (kt0 : g.2.1 h 52 = .int t0) (kw : g.2.1 h 21 = .int 1) (kfa : g.2.1 h 43 = .ref fa) (kft : g.2.1 h 46 = .ref fta) (l_dd : 1 ≤ dd.toInt) (u_dd : dd.toInt ≤ 6) (l_t0 : 0 ≤ t0.toInt) (u_t0 : t0.toInt ≤ 1199) (hD_0 : DP g fa dd.toInt) (hat : ∀ f : Int32, f.toInt = dd.toInt - 1 → (g.2.2.2.1 fta f.toNatClampNeg).toInt ≤ 7) (hw : PX 48 2 3 71 72 g h) : Ty l D cI cZ cS cR N0 yX7_comes cX7_comes 12 none 4 0 0 [.ref h] g (fun v g' => ∃ (d2 : Int32) (t2 : Int32), v = none ∧ Inv g' ∧ Ex g g' ∧ Sm md_m_comes1 g g' ∧ (g'.2.1 h 49 = .int d2) ∧ (g'.2.1 h 52 = .int t2) ∧ (0 ≤ d2.toInt ∧ d2.toInt ≤ 6 ∧ d2.toInt ≤ dd.toInt + 1) ∧ (0 ≤ t2.toInt ∧ t2.toInt ≤ t0.toInt + 1) ∧ (DP g' fa d2.toInt)) := by
  refine t_enter (by decide) (Nat.le_of_ble_eq_true rfl) ?_
  intro p e s m args below meth c ls H locs hB hr hin hl hT
  have hx := hB.1
  have hb := hB.2.1
  have hl : lv_has ls 12 [(0, .ref h)] := hl
  have hE : Ex g g := Ex.rf
  have hM : Sm md_m_comes1 g g := Sm.rf
  have hD := hD_0
  refine lv_aload_n hx hb dX7_comes_0 rfl (lv_at hl 0 rfl) ?_
  refine t_get (ci := 7) (v := .int dd) hB hT (ro_ci r_h rfl) rfl 49 (by decide) k_794 kdd dX7_comes_1 ?_
  refine lv_iconst (v := 1) hx hb dX7_comes_4 (by decide) ?_
  refine lv_isub hx hb dX7_comes_5 ?_
  refine lv_topi (fun z_1 ez_1 => ?_)
  have e_z_1 : z_1.toInt = dd.toInt - 1 := i_sub ez_1 rfl (by decide) (by omega) (by omega)
  refine lv_istore_n (lv' := [(1, .int z_1), (0, .ref h)]) hx hb dX7_comes_6 rfl hl (by decide) rfl (fun ls hl => ?_)
  refine lv_aload_n hx hb dX7_comes_7 rfl (lv_at hl 1 rfl) ?_
  refine t_get (ci := 7) (v := .ref fa) hB hT (ro_ci r_h rfl) rfl 43 (by decide) k_788 kfa dX7_comes_8 ?_
  refine lv_iload_n hx hb dX7_comes_11 rfl (lv_at hl 0 rfl) ?_
  have i_u_2 : vp_in z_1 7 := (i_in (n := 7) rfl (by omega) (by omega))
  refine t_iald hB hT (ro_in r_fa (by decide)) n_fa i_u_2 rfl dX7_comes_12 ?_
  have c_u_2 := hI.c r_fa n_fa (i_cl i_u_2)
  refine lv_topi (fun u_2 e_u_2 => ?_)
  obtain ⟨l_u_2, u_u_2⟩ := c_u_2
  rw [← e_u_2] at l_u_2 u_u_2
  have hsf := hD.at (f := z_1) (by omega) (by omega) e_u_2.symm
  refine lv_istore_n (lv' := [(2, .int u_2), (1, .int z_1), (0, .ref h)]) hx hb dX7_comes_13 rfl hl (by decide) rfl (fun ls hl => ?_)
  refine lv_aload_n hx hb dX7_comes_14 rfl (lv_at hl 2 rfl) ?_
  refine t_get (ci := 7) (v := .ref fta) hB hT (ro_ci r_h rfl) rfl 46 (by decide) k_791 kft dX7_comes_15 ?_
  refine lv_iload_n hx hb dX7_comes_18 rfl (lv_at hl 1 rfl) ?_
  have i_u_3 : vp_in z_1 7 := (i_in (n := 7) rfl (by omega) (by omega))
  refine t_iald hB hT (ro_in r_fta (by decide)) n_fta i_u_3 rfl dX7_comes_19 ?_
  have c_u_3 := hI.c r_fta n_fta (i_cl i_u_3)
  refine lv_topi (fun u_3 e_u_3 => ?_)
  obtain ⟨l_u_3, u_u_3⟩ := c_u_3
  rw [← e_u_3] at l_u_3 u_u_3
  have hat1 := hat z_1 (by omega)
  rw [e_u_3.symm] at hat1
  refine lv_istore_n (lv' := [(3, .int u_3), (2, .int u_2), (1, .int z_1), (0, .ref h)]) hx hb dX7_comes_20 rfl hl (by decide) rfl (fun ls hl => ?_)
  refine lv_bipush (v := 8) hx hb dX7_comes_21 (by decide) ?_
  refine lv_iload_n hx hb dX7_comes_23 rfl (lv_at hl 1 rfl) ?_
  refine lv_imul hx hb dX7_comes_24 ?_
  refine lv_topi (fun z_4 ez_4 => ?_)
  have e_z_4 : z_4.toInt = 8 * u_2.toInt := i_mul ez_4 (by decide) rfl (by omega) (by omega)
  refine lv_iload_n hx hb dX7_comes_25 rfl (lv_at hl 0 rfl) ?_
  refine lv_iadd hx hb dX7_comes_26 ?_
  refine lv_topi (fun z_5 ez_5 => ?_)
  have e_z_5 : z_5.toInt = z_4.toInt + u_3.toInt := i_add ez_5 rfl rfl (by omega) (by omega)
  refine lv_istore (lv' := [(4, .int z_5), (3, .int u_3), (2, .int u_2), (1, .int z_1), (0, .ref h)]) hx hb dX7_comes_27 hl (by decide) rfl (fun ls hl => ?_)
  refine lv_aload_n hx hb dX7_comes_29 rfl (lv_at hl 4 rfl) ?_
  obtain ⟨v_6, e_v_6, r_v_6, n_v_6⟩ := f_8_2 hI r_h
  refine t_get (ci := 7) (v := .ref v_6) hB hT (ro_ci r_h rfl) rfl 2 (by decide) k_747 e_v_6 dX7_comes_30 ?_
  refine lv_iload hx hb dX7_comes_33 (lv_at hl 0 rfl) ?_
  have i_u_7 : vp_in z_5 48 := (i_in (n := 48) rfl (by omega) (by omega))
  refine t_iald hB hT (ro_in r_v_6 (by decide)) n_v_6 i_u_7 rfl dX7_comes_35 ?_
  refine lv_topi (fun u_7 e_u_7 => ?_)
  refine lv_istore (lv' := [(5, .int u_7), (4, .int z_5), (3, .int u_3), (2, .int u_2), (1, .int z_1), (0, .ref h)]) hx hb dX7_comes_36 hl (by decide) rfl (fun ls hl => ?_)
  refine lv_aload_n hx hb dX7_comes_38 rfl (lv_at hl 5 rfl) ?_
  refine lv_iload hx hb dX7_comes_39 (lv_at hl 1 rfl) ?_
  refine lv_iload_n hx hb dX7_comes_41 rfl (lv_at hl 4 rfl) ?_
  refine t_callV (n := 2) (As := [.int z_5, .int z_1]) (rest := []) (ci := 7) hB hT hl.1 (m_valued l D cI cZ cS cR N0 g hI h z_5 z_1 r_h (by omega) (by omega) (by omega) (by omega)) (ro_ci r_h rfl) rfl k_1075 k_65 k_1072 k_1074 k_42 (by decide +kernel) ⟨(Nat.le_of_ble_eq_true rfl), (Nat.le_of_ble_eq_true rfl)⟩ rfl (Nat.le_of_ble_eq_true rfl) ⟨(Nat.le_of_ble_eq_true rfl), (Nat.le_of_ble_eq_true rfl)⟩ dX7_comes_42 (fun v g_8 H locs hp hT => ?_)
  obtain ⟨r_9, rfl, eg, f_10⟩ := hp
  rw [eg] at hT
  clear eg
  refine W.eq (g2 := F0 m 45 ls [.int r_9]) rfl ?_
  refine lv_istore (lv' := [(6, .int r_9), (5, .int u_7), (4, .int z_5), (3, .int u_3), (2, .int u_2), (1, .int z_1), (0, .ref h)]) hx hb dX7_comes_45 hl (by decide) rfl (fun ls hl => ?_)
  refine lv_iconst (v := 4) hx hb dX7_comes_47 (by decide) ?_
  refine lv_aload_n hx hb dX7_comes_48 rfl (lv_at hl 6 rfl) ?_
  refine lv_iload_n hx hb dX7_comes_49 rfl (lv_at hl 4 rfl) ?_
  refine t_callV (n := 1) (As := [.int u_2]) (rest := [.int 4]) (ci := 7) hB hT hl.1 (m_base l D cI cZ cS cR N0 g hI h u_2 1 r_h kw (by have q0 : (1 : Int32).toInt = 1 := (by decide); omega) (by have q0 : (1 : Int32).toInt = 1 := (by decide); omega) (by have q0 : (1 : Int32).toInt = 1 := (by decide); omega) (by have q0 : (1 : Int32).toInt = 1 := (by decide); omega)) (ro_ci r_h rfl) rfl k_1043 k_65 k_1040 k_1042 k_34 (by decide +kernel) ⟨(Nat.le_of_ble_eq_true rfl), (Nat.le_of_ble_eq_true rfl)⟩ rfl (Nat.le_of_ble_eq_true rfl) ⟨(Nat.le_of_ble_eq_true rfl), (Nat.le_of_ble_eq_true rfl)⟩ dX7_comes_50 (fun v g_13 H locs hp hT => ?_)
  obtain ⟨r_14, rfl, eg, f_15, f_16⟩ := hp
  rw [eg] at hT
  clear eg
  refine W.eq (g2 := F0 m 53 ls [.int r_14, .int 4]) rfl ?_
  have qc_19 : (1 : Int32).toInt = 1 := (by decide)
  refine lv_imul hx hb dX7_comes_53 ?_
  refine lv_topi (fun z_20 ez_20 => ?_)
  have e_z_20 : z_20.toInt = 4 * r_14.toInt := i_mul ez_20 (by decide) rfl (by omega) (by omega)
  refine lv_iload hx hb dX7_comes_54 (lv_at hl 1 rfl) ?_
  refine lv_iconst (v := 5) hx hb dX7_comes_56 (by decide) ?_
  refine lv_icmp_eq (tgt := 67) hx hb dX7_comes_57 (by decide) (fun c_21 => ?_) (fun c_21 => ?_)
  · have c_21' : u_7.toInt = 5 := i_eq c_21 rfl (by decide)
    refine lv_iconst (v := 0) hx hb dX7_comes_67 (by decide) ?_
    refine lv_goto (tgt := 78) hx hb dX7_comes_68 (by decide) ?_
    refine lv_iadd hx hb dX7_comes_78 ?_
    refine lv_topi (fun z_22 ez_22 => ?_)
    have e_z_22 : z_22.toInt = z_20.toInt + 0 := i_add ez_22 rfl (by decide) (by omega) (by omega)
    refine lv_istore (lv' := [(7, .int z_22), (6, .int r_9), (5, .int u_7), (4, .int z_5), (3, .int u_3), (2, .int u_2), (1, .int z_1), (0, .ref h)]) hx hb dX7_comes_79 hl (by decide) rfl (fun ls hl => ?_)
    exact lt_m_comes1_a l D cI cZ cS cR N0 g h dd t0 fa fta r_h r_fa n_fa r_fta n_fta kdd kt0 kw kfa kft l_dd u_dd l_t0 u_t0 hD_0 hat hw hB hr   g z_1 u_2 u_3 z_5 u_7 r_9 z_22 H locs ls hT hI hE hM (by omega) (by omega) (by omega) (by omega) (by omega) (by omega) (by omega) (by omega) (by omega) (by omega) (by omega) (by omega) kdd kt0 e_u_3.symm hD (by omega) (lv_sub hl [7, 6, 5, 4, 3, 2, 1, 0] rfl)
  · have c_21' : u_7.toInt ≠ 5 := i_ne c_21 rfl (by decide)
    refine lv_iload hx hb dX7_comes_60 (lv_at hl 1 rfl) ?_
    refine lv_bipush (v := 6) hx hb dX7_comes_62 (by decide) ?_
    refine lv_icmp_ne (tgt := 71) hx hb dX7_comes_64 (by decide) (fun c_23 => ?_) (fun c_23 => ?_)
    · have c_23' : u_7.toInt ≠ 6 := i_ne c_23 rfl (by decide)
      refine lv_aload_n hx hb dX7_comes_71 rfl (lv_at hl 6 rfl) ?_
      obtain ⟨v_24, e_v_24, r_v_24, n_v_24⟩ := f_8_3 hI r_h
      refine t_get (ci := 7) (v := .ref v_24) hB hT (ro_ci r_h rfl) rfl 3 (by decide) k_748 e_v_24 dX7_comes_72 ?_
      refine lv_iload hx hb dX7_comes_75 (lv_at hl 2 rfl) ?_
      have i_u_25 : vp_in z_5 48 := (i_in (n := 48) rfl (by omega) (by omega))
      refine t_iald hB hT (ro_in r_v_24 (by decide)) n_v_24 i_u_25 rfl dX7_comes_77 ?_
      have c_u_25 := hI.c r_v_24 n_v_24 (i_cl i_u_25)
      refine lv_topi (fun u_25 e_u_25 => ?_)
      obtain ⟨l_u_25, u_u_25⟩ := c_u_25
      rw [← e_u_25] at l_u_25 u_u_25
      have hwp := PLu (PX.use hw e_v_6 e_v_24 z_5.toNatClampNeg (i_cl (i_in (n := 48) rfl (by omega) (by omega)))) e_u_25.symm e_u_7.symm
      refine lv_iadd hx hb dX7_comes_78 ?_
      refine lv_topi (fun z_26 ez_26 => ?_)
      have e_z_26 : z_26.toInt = z_20.toInt + u_25.toInt := i_add ez_26 rfl rfl (by omega) (by omega)
      refine lv_istore (lv' := [(7, .int z_26), (6, .int r_9), (5, .int u_7), (4, .int z_5), (3, .int u_3), (2, .int u_2), (1, .int z_1), (0, .ref h)]) hx hb dX7_comes_79 hl (by decide) rfl (fun ls hl => ?_)
      exact lt_m_comes1_a l D cI cZ cS cR N0 g h dd t0 fa fta r_h r_fa n_fa r_fta n_fta kdd kt0 kw kfa kft l_dd u_dd l_t0 u_t0 hD_0 hat hw hB hr   g z_1 u_2 u_3 z_5 u_7 r_9 z_26 H locs ls hT hI hE hM (by omega) (by omega) (by omega) (by omega) (by omega) (by omega) (by omega) (by omega) (by omega) (by omega) (by omega) (by omega) kdd kt0 e_u_3.symm hD (by omega) (lv_sub hl [7, 6, 5, 4, 3, 2, 1, 0] rfl)
    · have c_23' : u_7.toInt = 6 := i_eq c_23 rfl (by decide)
      refine lv_iconst (v := 0) hx hb dX7_comes_67 (by decide) ?_
      refine lv_goto (tgt := 78) hx hb dX7_comes_68 (by decide) ?_
      refine lv_iadd hx hb dX7_comes_78 ?_
      refine lv_topi (fun z_27 ez_27 => ?_)
      have e_z_27 : z_27.toInt = z_20.toInt + 0 := i_add ez_27 rfl (by decide) (by omega) (by omega)
      refine lv_istore (lv' := [(7, .int z_27), (6, .int r_9), (5, .int u_7), (4, .int z_5), (3, .int u_3), (2, .int u_2), (1, .int z_1), (0, .ref h)]) hx hb dX7_comes_79 hl (by decide) rfl (fun ls hl => ?_)
      exact lt_m_comes1_a l D cI cZ cS cR N0 g h dd t0 fa fta r_h r_fa n_fa r_fta n_fta kdd kt0 kw kfa kft l_dd u_dd l_t0 u_t0 hD_0 hat hw hB hr   g z_1 u_2 u_3 z_5 u_7 r_9 z_27 H locs ls hT hI hE hM (by omega) (by omega) (by omega) (by omega) (by omega) (by omega) (by omega) (by omega) (by omega) (by omega) (by omega) (by omega) kdd kt0 e_u_3.symm hD (by omega) (lv_sub hl [7, 6, 5, 4, 3, 2, 1, 0] rfl)
