theorem k_442 : Cond.methodLink RL 35 yX6_hold ∈ tb := mt 442 (by decide +kernel) rfl
theorem k_443 : Cond.instanceMethod yX6_hold ∈ tb := mt 443 (by decide +kernel) rfl
theorem k_444 : Cond.selects RX6 yX6_hold yX6_hold ∈ tb := mt 444 (by decide +kernel) rfl
set_option maxRecDepth 20000 in
theorem k_445 : Cond.code yX6_hold cX6_hold 4 (some .int) ∈ tb := mt 445 rfl rfl
theorem k_446 : Cond.methodLink RL 40 yX6_set ∈ tb := mt 446 (by decide +kernel) rfl
theorem k_447 : Cond.instanceMethod yX6_set ∈ tb := mt 447 (by decide +kernel) rfl
theorem k_448 : Cond.selects RX6 yX6_set yX6_set ∈ tb := mt 448 (by decide +kernel) rfl
set_option maxRecDepth 20000 in
theorem k_449 : Cond.code yX6_set cX6_set 5 (some .int) ∈ tb := mt 449 rfl rfl
theorem k_450 : Cond.methodLink RL 44 yX6_about ∈ tb := mt 450 (by decide +kernel) rfl
theorem k_451 : Cond.instanceMethod yX6_about ∈ tb := mt 451 (by decide +kernel) rfl
theorem k_452 : Cond.selects RX6 yX6_about yX6_about ∈ tb := mt 452 (by decide +kernel) rfl
set_option maxRecDepth 20000 in
theorem k_453 : Cond.code yX6_about cX6_about 4 (some .int) ∈ tb := mt 453 rfl rfl
theorem k_478 : Cond.methodLink RL 48 yX6_act ∈ tb := mt 478 (by decide +kernel) rfl
theorem k_479 : Cond.instanceMethod yX6_act ∈ tb := mt 479 (by decide +kernel) rfl
theorem k_480 : Cond.selects RX6 yX6_act yX6_act ∈ tb := mt 480 (by decide +kernel) rfl
set_option maxRecDepth 20000 in
theorem k_481 : Cond.code yX6_act cX6_act 5 (some .int) ∈ tb := mt 481 rfl rfl
theorem k_1000 : Cond.methodLink RL 39 yX7_hold ∈ tb := mt 1000 (by decide +kernel) rfl
theorem k_1001 : Cond.instanceMethod yX7_hold ∈ tb := mt 1001 (by decide +kernel) rfl
theorem k_1002 : Cond.selects RX7 yX7_hold yX7_hold ∈ tb := mt 1002 (by decide +kernel) rfl
set_option maxRecDepth 20000 in
theorem k_1003 : Cond.code yX7_hold cX7_hold 4 (some .int) ∈ tb := mt 1003 rfl rfl
theorem k_1004 : Cond.methodLink RL 43 yX7_set ∈ tb := mt 1004 (by decide +kernel) rfl
theorem k_1005 : Cond.instanceMethod yX7_set ∈ tb := mt 1005 (by decide +kernel) rfl
theorem k_1006 : Cond.selects RX7 yX7_set yX7_set ∈ tb := mt 1006 (by decide +kernel) rfl
set_option maxRecDepth 20000 in
theorem k_1007 : Cond.code yX7_set cX7_set 5 (some .int) ∈ tb := mt 1007 rfl rfl
theorem k_1008 : Cond.methodLink RL 47 yX7_about ∈ tb := mt 1008 (by decide +kernel) rfl
theorem k_1009 : Cond.instanceMethod yX7_about ∈ tb := mt 1009 (by decide +kernel) rfl
theorem k_1010 : Cond.selects RX7 yX7_about yX7_about ∈ tb := mt 1010 (by decide +kernel) rfl
set_option maxRecDepth 20000 in
theorem k_1011 : Cond.code yX7_about cX7_about 5 (some .int) ∈ tb := mt 1011 rfl rfl
theorem k_1024 : Cond.methodLink RL 51 yX7_act ∈ tb := mt 1024 (by decide +kernel) rfl
theorem k_1025 : Cond.instanceMethod yX7_act ∈ tb := mt 1025 (by decide +kernel) rfl
theorem k_1026 : Cond.selects RX7 yX7_act yX7_act ∈ tb := mt 1026 (by decide +kernel) rfl
set_option maxRecDepth 20000 in
theorem k_1027 : Cond.code yX7_act cX7_act 5 (some .int) ∈ tb := mt 1027 rfl rfl
theorem dL_law_282 : decode cL_law 282 = .ok (.aload_n 1, 1) := by decide +kernel
theorem dL_law_283 : decode cL_law 283 = .ok (.aload_n 0, 1) := by decide +kernel
theorem dL_law_284 : decode cL_law 284 = .ok (.iload_n 3, 1) := by decide +kernel
theorem dL_law_285 : decode cL_law 285 = .ok (.iconst 1, 1) := by decide +kernel
theorem dL_law_286 : decode cL_law 286 = .ok (.iadd, 1) := by decide +kernel
theorem dL_law_287 : decode cL_law 287 = .ok (.iaload, 1) := by decide +kernel
theorem dL_law_288 : decode cL_law 288 = .ok (.aload_n 0, 1) := by decide +kernel
theorem dL_law_289 : decode cL_law 289 = .ok (.iload_n 3, 1) := by decide +kernel
theorem dL_law_290 : decode cL_law 290 = .ok (.iconst 2, 1) := by decide +kernel
theorem dL_law_291 : decode cL_law 291 = .ok (.iadd, 1) := by decide +kernel
theorem dL_law_292 : decode cL_law 292 = .ok (.iaload, 1) := by decide +kernel
theorem dL_law_293 : decode cL_law 293 = .ok (.invokevirtual 35, 3) := by decide +kernel
theorem dL_law_296 : decode cL_law 296 = .ok (.pop, 1) := by decide +kernel
theorem dL_law_297 : decode cL_law 297 = .ok (.aload_n 2, 1) := by decide +kernel
theorem dL_law_298 : decode cL_law 298 = .ok (.aload_n 0, 1) := by decide +kernel
theorem dL_law_299 : decode cL_law 299 = .ok (.iload_n 3, 1) := by decide +kernel
theorem dL_law_300 : decode cL_law 300 = .ok (.iconst 1, 1) := by decide +kernel
theorem dL_law_301 : decode cL_law 301 = .ok (.iadd, 1) := by decide +kernel
theorem dL_law_302 : decode cL_law 302 = .ok (.iaload, 1) := by decide +kernel
theorem dL_law_303 : decode cL_law 303 = .ok (.aload_n 0, 1) := by decide +kernel
theorem dL_law_304 : decode cL_law 304 = .ok (.iload_n 3, 1) := by decide +kernel
theorem dL_law_305 : decode cL_law 305 = .ok (.iconst 2, 1) := by decide +kernel
theorem dL_law_306 : decode cL_law 306 = .ok (.iadd, 1) := by decide +kernel
theorem dL_law_307 : decode cL_law 307 = .ok (.iaload, 1) := by decide +kernel
theorem dL_law_308 : decode cL_law 308 = .ok (.invokevirtual 39, 3) := by decide +kernel
theorem dL_law_311 : decode cL_law 311 = .ok (.pop, 1) := by decide +kernel
theorem dL_law_312 : decode cL_law 312 = .ok (.goto 517, 3) := by decide +kernel
theorem dL_law_315 : decode cL_law 315 = .ok (.aload_n 1, 1) := by decide +kernel
theorem dL_law_316 : decode cL_law 316 = .ok (.aload_n 0, 1) := by decide +kernel
theorem dL_law_317 : decode cL_law 317 = .ok (.iload_n 3, 1) := by decide +kernel
theorem dL_law_318 : decode cL_law 318 = .ok (.iconst 1, 1) := by decide +kernel
theorem dL_law_319 : decode cL_law 319 = .ok (.iadd, 1) := by decide +kernel
theorem dL_law_320 : decode cL_law 320 = .ok (.iaload, 1) := by decide +kernel
theorem dL_law_321 : decode cL_law 321 = .ok (.aload_n 0, 1) := by decide +kernel
theorem dL_law_322 : decode cL_law 322 = .ok (.iload_n 3, 1) := by decide +kernel
theorem dL_law_323 : decode cL_law 323 = .ok (.iconst 2, 1) := by decide +kernel
theorem dL_law_324 : decode cL_law 324 = .ok (.iadd, 1) := by decide +kernel
theorem dL_law_325 : decode cL_law 325 = .ok (.iaload, 1) := by decide +kernel
theorem dL_law_326 : decode cL_law 326 = .ok (.aload_n 0, 1) := by decide +kernel
theorem dL_law_327 : decode cL_law 327 = .ok (.iload_n 3, 1) := by decide +kernel
theorem dL_law_328 : decode cL_law 328 = .ok (.iconst 3, 1) := by decide +kernel
theorem dL_law_329 : decode cL_law 329 = .ok (.iadd, 1) := by decide +kernel
theorem dL_law_330 : decode cL_law 330 = .ok (.iaload, 1) := by decide +kernel
theorem dL_law_331 : decode cL_law 331 = .ok (.invokevirtual 40, 3) := by decide +kernel
theorem dL_law_334 : decode cL_law 334 = .ok (.pop, 1) := by decide +kernel
theorem dL_law_335 : decode cL_law 335 = .ok (.aload_n 2, 1) := by decide +kernel
theorem dL_law_336 : decode cL_law 336 = .ok (.aload_n 0, 1) := by decide +kernel
theorem dL_law_337 : decode cL_law 337 = .ok (.iload_n 3, 1) := by decide +kernel
theorem dL_law_338 : decode cL_law 338 = .ok (.iconst 1, 1) := by decide +kernel
theorem dL_law_339 : decode cL_law 339 = .ok (.iadd, 1) := by decide +kernel
theorem dL_law_340 : decode cL_law 340 = .ok (.iaload, 1) := by decide +kernel
theorem dL_law_341 : decode cL_law 341 = .ok (.aload_n 0, 1) := by decide +kernel
theorem dL_law_342 : decode cL_law 342 = .ok (.iload_n 3, 1) := by decide +kernel
theorem dL_law_343 : decode cL_law 343 = .ok (.iconst 2, 1) := by decide +kernel
theorem dL_law_344 : decode cL_law 344 = .ok (.iadd, 1) := by decide +kernel
theorem dL_law_345 : decode cL_law 345 = .ok (.iaload, 1) := by decide +kernel
theorem dL_law_346 : decode cL_law 346 = .ok (.aload_n 0, 1) := by decide +kernel
theorem dL_law_347 : decode cL_law 347 = .ok (.iload_n 3, 1) := by decide +kernel
theorem dL_law_348 : decode cL_law 348 = .ok (.iconst 3, 1) := by decide +kernel
theorem dL_law_349 : decode cL_law 349 = .ok (.iadd, 1) := by decide +kernel
theorem dL_law_350 : decode cL_law 350 = .ok (.iaload, 1) := by decide +kernel
theorem dL_law_351 : decode cL_law 351 = .ok (.invokevirtual 43, 3) := by decide +kernel
theorem dL_law_354 : decode cL_law 354 = .ok (.pop, 1) := by decide +kernel
theorem dL_law_355 : decode cL_law 355 = .ok (.goto 474, 3) := by decide +kernel
theorem dL_law_358 : decode cL_law 358 = .ok (.aload_n 1, 1) := by decide +kernel
theorem dL_law_359 : decode cL_law 359 = .ok (.aload_n 0, 1) := by decide +kernel
theorem dL_law_360 : decode cL_law 360 = .ok (.iload_n 3, 1) := by decide +kernel
theorem dL_law_361 : decode cL_law 361 = .ok (.iconst 1, 1) := by decide +kernel
theorem dL_law_362 : decode cL_law 362 = .ok (.iadd, 1) := by decide +kernel
theorem dL_law_363 : decode cL_law 363 = .ok (.iaload, 1) := by decide +kernel
theorem dL_law_364 : decode cL_law 364 = .ok (.aload_n 0, 1) := by decide +kernel
theorem dL_law_365 : decode cL_law 365 = .ok (.iload_n 3, 1) := by decide +kernel
theorem dL_law_366 : decode cL_law 366 = .ok (.iconst 2, 1) := by decide +kernel
theorem dL_law_367 : decode cL_law 367 = .ok (.iadd, 1) := by decide +kernel
theorem dL_law_368 : decode cL_law 368 = .ok (.iaload, 1) := by decide +kernel
theorem dL_law_369 : decode cL_law 369 = .ok (.invokevirtual 44, 3) := by decide +kernel
theorem dL_law_372 : decode cL_law 372 = .ok (.pop, 1) := by decide +kernel
theorem dL_law_373 : decode cL_law 373 = .ok (.aload_n 2, 1) := by decide +kernel
theorem dL_law_374 : decode cL_law 374 = .ok (.aload_n 0, 1) := by decide +kernel
theorem dL_law_375 : decode cL_law 375 = .ok (.iload_n 3, 1) := by decide +kernel
theorem dL_law_376 : decode cL_law 376 = .ok (.iconst 1, 1) := by decide +kernel
theorem dL_law_377 : decode cL_law 377 = .ok (.iadd, 1) := by decide +kernel
theorem dL_law_378 : decode cL_law 378 = .ok (.iaload, 1) := by decide +kernel
theorem dL_law_379 : decode cL_law 379 = .ok (.aload_n 0, 1) := by decide +kernel
theorem dL_law_380 : decode cL_law 380 = .ok (.iload_n 3, 1) := by decide +kernel
theorem dL_law_381 : decode cL_law 381 = .ok (.iconst 2, 1) := by decide +kernel
theorem dL_law_382 : decode cL_law 382 = .ok (.iadd, 1) := by decide +kernel
theorem dL_law_383 : decode cL_law 383 = .ok (.iaload, 1) := by decide +kernel
theorem dL_law_384 : decode cL_law 384 = .ok (.invokevirtual 47, 3) := by decide +kernel
theorem dL_law_387 : decode cL_law 387 = .ok (.pop, 1) := by decide +kernel
theorem dL_law_388 : decode cL_law 388 = .ok (.goto 441, 3) := by decide +kernel
theorem dL_law_391 : decode cL_law 391 = .ok (.aload_n 1, 1) := by decide +kernel
theorem dL_law_392 : decode cL_law 392 = .ok (.aload_n 0, 1) := by decide +kernel
theorem dL_law_393 : decode cL_law 393 = .ok (.iload_n 3, 1) := by decide +kernel
theorem dL_law_394 : decode cL_law 394 = .ok (.iconst 1, 1) := by decide +kernel
theorem dL_law_395 : decode cL_law 395 = .ok (.iadd, 1) := by decide +kernel
theorem dL_law_396 : decode cL_law 396 = .ok (.iaload, 1) := by decide +kernel
theorem dL_law_397 : decode cL_law 397 = .ok (.aload_n 0, 1) := by decide +kernel
theorem dL_law_398 : decode cL_law 398 = .ok (.iload_n 3, 1) := by decide +kernel
theorem dL_law_399 : decode cL_law 399 = .ok (.iconst 2, 1) := by decide +kernel
theorem dL_law_400 : decode cL_law 400 = .ok (.iadd, 1) := by decide +kernel
theorem dL_law_401 : decode cL_law 401 = .ok (.iaload, 1) := by decide +kernel
theorem dL_law_402 : decode cL_law 402 = .ok (.aload_n 0, 1) := by decide +kernel
theorem dL_law_403 : decode cL_law 403 = .ok (.iload_n 3, 1) := by decide +kernel
theorem dL_law_404 : decode cL_law 404 = .ok (.iconst 3, 1) := by decide +kernel
theorem dL_law_405 : decode cL_law 405 = .ok (.iadd, 1) := by decide +kernel
theorem dL_law_406 : decode cL_law 406 = .ok (.iaload, 1) := by decide +kernel
theorem dL_law_407 : decode cL_law 407 = .ok (.invokevirtual 48, 3) := by decide +kernel
theorem dL_law_410 : decode cL_law 410 = .ok (.aload_n 2, 1) := by decide +kernel
theorem dL_law_411 : decode cL_law 411 = .ok (.aload_n 0, 1) := by decide +kernel
theorem dL_law_412 : decode cL_law 412 = .ok (.iload_n 3, 1) := by decide +kernel
theorem dL_law_413 : decode cL_law 413 = .ok (.iconst 1, 1) := by decide +kernel
theorem dL_law_414 : decode cL_law 414 = .ok (.iadd, 1) := by decide +kernel
theorem dL_law_415 : decode cL_law 415 = .ok (.iaload, 1) := by decide +kernel
theorem dL_law_416 : decode cL_law 416 = .ok (.aload_n 0, 1) := by decide +kernel
theorem dL_law_417 : decode cL_law 417 = .ok (.iload_n 3, 1) := by decide +kernel
theorem dL_law_418 : decode cL_law 418 = .ok (.iconst 2, 1) := by decide +kernel
theorem dL_law_419 : decode cL_law 419 = .ok (.iadd, 1) := by decide +kernel
theorem dL_law_420 : decode cL_law 420 = .ok (.iaload, 1) := by decide +kernel
theorem dL_law_421 : decode cL_law 421 = .ok (.aload_n 0, 1) := by decide +kernel
theorem dL_law_422 : decode cL_law 422 = .ok (.iload_n 3, 1) := by decide +kernel
theorem dL_law_423 : decode cL_law 423 = .ok (.iconst 3, 1) := by decide +kernel
theorem dL_law_424 : decode cL_law 424 = .ok (.iadd, 1) := by decide +kernel
theorem dL_law_425 : decode cL_law 425 = .ok (.iaload, 1) := by decide +kernel
theorem dL_law_426 : decode cL_law 426 = .ok (.invokevirtual 51, 3) := by decide +kernel
theorem dL_law_429 : decode cL_law 429 = .ok (.if_icmp .eq 400, 3) := by decide +kernel
set_option maxHeartbeats 4000000 in
set_option maxRecDepth 100000 in
/-- hold -/
theorem law_4 {p : Program} {l : Launch} {e : Env} {s : State} {m : MethodId} {below : List Frame} {meth : Method} {c : Code} {D : va_G} {cI cZ cS cR : ClassId} {N0 : NT} {b L : Nat} {xs : Nat → Int32} (hB : Tz p s m meth c #[Value.ref b] code 4 RL D cI cZ cS cR N0) (hAs : N0.1 = s.heap.size) (hX : va_X b L xs s s.heap) (hbl : b < s.heap.size) (hL : L ≤ 2560) (hr : meth.sig.returnType = ret) {cells slots : Nat} (hcl : cells + 4 ≤ 600000) (hsl : slots + 28 ≤ 7302250) {H : Heap} {locs : List Loc} {ls : Array Slot} (g : GS) (ox om : Nat) (tp : Nat) (nw : Nat) (rl : Nat) (ba : Nat) (ta : Nat) (wt : Nat) (sa : Nat) (aa : Nat) (wo : Nat) (pl : Nat) (wr : Nat) (i o1 tz sv rz : Int32) (hT : Tv D cI cZ cS cR N0 s.heap H locs g) (hI : Inv g) (l_i : 0 ≤ i.toInt) (u_i : i.toInt + 5 ≤ L) : g.1 ox = 7 → g.1 om = 8 → g.2.1 om 22 = .int o1 → 0 ≤ o1.toInt → o1.toInt ≤ 12 * i.toInt → PX 48 2 3 71 72 g om → PX 8 39 40 84 85 g om → g.2.1 ox 0 = .ref tp → g.1 tp = 5 → g.2.1 ox 1 = .ref nw → g.1 nw = 19 → g.2.1 ox 2 = .ref rl → g.1 rl = 1 → g.2.1 tp 0 = .ref ba → g.1 ba = 67 → g.2.2.1 ba = 100 → g.2.1 om 28 = .ref ta → g.1 ta = 79 → g.2.2.1 ta = 100 → g.2.1 om 42 = .ref wt → g.1 wt = 87 → g.2.2.1 wt = 24 → g.2.1 nw 0 = .ref sa → g.1 sa = 42 → g.2.2.1 sa = 6 → g.2.1 om 1 = .ref aa → g.1 aa = 88 → g.2.2.1 aa = 6 → g.2.1 om 2 = .ref wo → g.1 wo = 71 → g.2.2.1 wo = 48 → g.2.1 om 3 = .ref pl → g.1 pl = 72 → g.2.2.1 pl = 48 → g.2.1 om 4 = .ref wr → g.1 wr = 73 → g.2.2.1 wr = 48 → g.2.1 tp 1 = .int tz → g.2.1 om 29 = .int tz → 0 ≤ tz.toInt → tz.toInt ≤ 100 → g.2.1 nw 1 = .int sv → g.2.1 om 0 = .int sv → 0 ≤ sv.toInt → sv.toInt ≤ 6 → g.2.1 rl 3 = .int rz → g.2.1 om 30 = .int rz → 0 ≤ rz.toInt → rz.toInt ≤ 6 → TE g ba ta tz.toInt → WT g wt → PGI g sa aa wo pl wr sv.toInt → (hl : lv_has ls 4 [(3, .int i), (2, .ref om), (1, .ref ox), (0, .ref b)]) → (K : ∀ (g1 : GS) (o1_1 tz_1 sv_1 rz_1 : Int32) (H1 : Heap) (locs1 : List Loc), Tv D cI cZ cS cR N0 s.heap H1 locs1 g1 → Inv g1 → g1.1 ox = 7 → g1.1 om = 8 → g1.2.1 om 22 = .int o1_1 → 0 ≤ o1_1.toInt → o1_1.toInt ≤ 12 * i.toInt + 60 → PX 48 2 3 71 72 g1 om → PX 8 39 40 84 85 g1 om → g1.2.1 ox 0 = .ref tp → g1.1 tp = 5 → g1.2.1 ox 1 = .ref nw → g1.1 nw = 19 → g1.2.1 ox 2 = .ref rl → g1.1 rl = 1 → g1.2.1 tp 0 = .ref ba → g1.1 ba = 67 → g1.2.2.1 ba = 100 → g1.2.1 om 28 = .ref ta → g1.1 ta = 79 → g1.2.2.1 ta = 100 → g1.2.1 om 42 = .ref wt → g1.1 wt = 87 → g1.2.2.1 wt = 24 → g1.2.1 nw 0 = .ref sa → g1.1 sa = 42 → g1.2.2.1 sa = 6 → g1.2.1 om 1 = .ref aa → g1.1 aa = 88 → g1.2.2.1 aa = 6 → g1.2.1 om 2 = .ref wo → g1.1 wo = 71 → g1.2.2.1 wo = 48 → g1.2.1 om 3 = .ref pl → g1.1 pl = 72 → g1.2.2.1 pl = 48 → g1.2.1 om 4 = .ref wr → g1.1 wr = 73 → g1.2.2.1 wr = 48 → g1.2.1 tp 1 = .int tz_1 → g1.2.1 om 29 = .int tz_1 → 0 ≤ tz_1.toInt → tz_1.toInt ≤ 100 → g1.2.1 nw 1 = .int sv_1 → g1.2.1 om 0 = .int sv_1 → 0 ≤ sv_1.toInt → sv_1.toInt ≤ 6 → g1.2.1 rl 3 = .int rz_1 → g1.2.1 om 30 = .int rz_1 → 0 ≤ rz_1.toInt → rz_1.toInt ≤ 6 → TE g1 ba ta tz_1.toInt → WT g1 wt → PGI g1 sa aa wo pl wr sv_1.toInt → W p l e room_1 s m #[Value.ref b] below meth c H1 locs1 (cells + 4) (slots + 28) (lw_Z below #[Value.ref b] s) (F0 m 829 ls [])) → W p l e room_1 s m #[Value.ref b] below meth c H locs cells slots (lw_Z below #[Value.ref b] s) (F0 m 282 ls []) := by
  intro r_ox r_om ko l_o u_o hw hN0 k_tp r_tp k_nw r_nw k_rl r_rl k_ba r_ba n_ba k_ta r_ta n_ta k_wt r_wt n_wt k_sa r_sa n_sa k_aa r_aa n_aa k_wo r_wo n_wo k_pl r_pl n_pl k_wr r_wr n_wr kc_tz km_tz l_tz u_tz kc_sv km_sv l_sv u_sv kc_rz km_rz l_rz u_rz hTE hWT hPI hl K
  have hx := hB.1
  have hb := hB.2.1
  have hE : Ex g g := Ex.rf
  have hM : Sm mdA g g := sm_all
  have hTE0 := hTE
  have hI0_ := hI
  have hPI0_ := hPI
  refine lv_aload_n hx hb dL_law_282 rfl (lv_at hl 2 rfl) ?_
  refine lv_aload_n hx hb dL_law_283 rfl (lv_at hl 3 rfl) ?_
  refine lv_iload_n hx hb dL_law_284 rfl (lv_at hl 0 rfl) ?_
  refine lv_iconst (v := 1) hx hb dL_law_285 (by decide) ?_
  refine lv_iadd hx hb dL_law_286 ?_
  refine lv_topi (fun z_1 ez_1 => ?_)
  have e_z_1 : z_1.toInt = i.toInt + 1 := i_add ez_1 rfl (by decide) (by omega) (by omega)
  refine va_sld hx hb hX hbl (fun q => by have q_ : N0.1 ≤ b := q; omega) hT.2 (i_in (n := L) rfl (by omega) (by omega)) dL_law_287 ?_
  refine lv_topi (fun u_2 e_u_2 => ?_)
  refine lv_aload_n hx hb dL_law_288 rfl (lv_at hl 3 rfl) ?_
  refine lv_iload_n hx hb dL_law_289 rfl (lv_at hl 0 rfl) ?_
  refine lv_iconst (v := 2) hx hb dL_law_290 (by decide) ?_
  refine lv_iadd hx hb dL_law_291 ?_
  refine lv_topi (fun z_3 ez_3 => ?_)
  have e_z_3 : z_3.toInt = i.toInt + 2 := i_add ez_3 rfl (by decide) (by omega) (by omega)
  refine va_sld hx hb hX hbl (fun q => by have q_ : N0.1 ≤ b := q; omega) hT.2 (i_in (n := L) rfl (by omega) (by omega)) dL_law_292 ?_
  refine lv_topi (fun u_4 e_u_4 => ?_)
  refine t_callV (n := 2) (As := [.int u_2, .int u_4]) (rest := []) (ci := 6) hB hT hl.1 (P_hold l D cI cZ cS cR N0 g hI ox u_2 u_4 r_ox) (ro_ci r_ox rfl) rfl k_445 k_57 k_442 k_443 k_444 (by decide +kernel) ⟨(Nat.le_of_ble_eq_true rfl), (Nat.le_of_ble_eq_true rfl)⟩ rfl (Nat.le_of_ble_eq_true rfl) ⟨(by show _ ≤ _; first | exact Nat.le_of_ble_eq_true rfl | (simp only [room_1]; omega)), (by show _ ≤ _; first | exact Nat.le_of_ble_eq_true rfl | (simp only [room_1]; omega))⟩ dL_law_293 (fun v g_5 H locs hp hT => ?_)
  obtain ⟨r_6, rfl, hI, x_8, m_7⟩ := hp
  have hw : PX 48 2 3 71 72 g_5 om := hw.mono m_7 x_8 r_om (by decide) (by decide) rfl rfl rfl rfl
  have hN0 : PX 8 39 40 84 85 g_5 om := hN0.mono m_7 x_8 r_om (by decide) (by decide) rfl rfl rfl rfl
  have hTE : TE g_5 ba ta tz.toInt := hTE.sm m_7 r_ba (by decide) rfl r_ta (by decide) rfl
  have hWT : WT g_5 wt := hWT.sm m_7 r_wt (by decide) rfl
  have hPI : PGI g_5 sa aa wo pl wr sv.toInt := hPI.go (PK.sm m_7 x_8 r_sa rfl rfl rfl rfl rfl rfl rfl rfl rfl) (Sm.cf m_7 r_aa (by decide) rfl) (Sm.cf m_7 r_wo (by decide) rfl) (Sm.cf m_7 r_pl (by decide) rfl) (Sm.cf m_7 r_wr (by decide) rfl)
  have hM : Sm mdA g g_5 := sm_all
  have hE : Ex g g_5 := hE.tr x_8
  have r_9 : g_5.1 ox = 7 := (Ex.r x_8 r_ox (by decide))
  have r_10 : g_5.1 om = 8 := (Ex.r x_8 r_om (by decide))
  have r_11 : g_5.1 tp = 5 := (Ex.r x_8 r_tp (by decide))
  have r_12 : g_5.1 nw = 19 := (Ex.r x_8 r_nw (by decide))
  have r_13 : g_5.1 rl = 1 := (Ex.r x_8 r_rl (by decide))
  have r_14 : g_5.1 ba = 67 := (Ex.r x_8 r_ba (by decide))
  have r_15 : g_5.1 ta = 79 := (Ex.r x_8 r_ta (by decide))
  have r_16 : g_5.1 wt = 87 := (Ex.r x_8 r_wt (by decide))
  have r_17 : g_5.1 sa = 42 := (Ex.r x_8 r_sa (by decide))
  have r_18 : g_5.1 aa = 88 := (Ex.r x_8 r_aa (by decide))
  have r_19 : g_5.1 wo = 71 := (Ex.r x_8 r_wo (by decide))
  have r_20 : g_5.1 pl = 72 := (Ex.r x_8 r_pl (by decide))
  have r_21 : g_5.1 wr = 73 := (Ex.r x_8 r_wr (by decide))
  have n_22 : g_5.2.2.1 ba = 100 := (Ex.n x_8 r_ba (by decide) n_ba)
  have n_23 : g_5.2.2.1 ta = 100 := (Ex.n x_8 r_ta (by decide) n_ta)
  have n_24 : g_5.2.2.1 wt = 24 := (Ex.n x_8 r_wt (by decide) n_wt)
  have n_25 : g_5.2.2.1 sa = 6 := (Ex.n x_8 r_sa (by decide) n_sa)
  have n_26 : g_5.2.2.1 aa = 6 := (Ex.n x_8 r_aa (by decide) n_aa)
  have n_27 : g_5.2.2.1 wo = 48 := (Ex.n x_8 r_wo (by decide) n_wo)
  have n_28 : g_5.2.2.1 pl = 48 := (Ex.n x_8 r_pl (by decide) n_pl)
  have n_29 : g_5.2.2.1 wr = 48 := (Ex.n x_8 r_wr (by decide) n_wr)
  have kn_30 : g_5.2.1 om 22 = .int o1 := (Sm.v m_7 r_om (by decide) rfl ko)
  have kn_31 : g_5.2.1 ox 0 = .ref tp := (Sm.v m_7 r_ox (by decide) rfl k_tp)
  have kn_32 : g_5.2.1 ox 1 = .ref nw := (Sm.v m_7 r_ox (by decide) rfl k_nw)
  have kn_33 : g_5.2.1 ox 2 = .ref rl := (Sm.v m_7 r_ox (by decide) rfl k_rl)
  have kn_34 : g_5.2.1 tp 0 = .ref ba := (Sm.v m_7 r_tp (by decide) rfl k_ba)
  have kn_35 : g_5.2.1 om 28 = .ref ta := (Sm.v m_7 r_om (by decide) rfl k_ta)
  have kn_36 : g_5.2.1 om 42 = .ref wt := (Sm.v m_7 r_om (by decide) rfl k_wt)
  have kn_37 : g_5.2.1 nw 0 = .ref sa := (Sm.v m_7 r_nw (by decide) rfl k_sa)
  have kn_38 : g_5.2.1 om 1 = .ref aa := (Sm.v m_7 r_om (by decide) rfl k_aa)
  have kn_39 : g_5.2.1 om 2 = .ref wo := (Sm.v m_7 r_om (by decide) rfl k_wo)
  have kn_40 : g_5.2.1 om 3 = .ref pl := (Sm.v m_7 r_om (by decide) rfl k_pl)
  have kn_41 : g_5.2.1 om 4 = .ref wr := (Sm.v m_7 r_om (by decide) rfl k_wr)
  have kn_42 : g_5.2.1 tp 1 = .int tz := (Sm.v m_7 r_tp (by decide) rfl kc_tz)
  have kn_43 : g_5.2.1 om 29 = .int tz := (Sm.v m_7 r_om (by decide) rfl km_tz)
  have kn_44 : g_5.2.1 nw 1 = .int sv := (Sm.v m_7 r_nw (by decide) rfl kc_sv)
  have kn_45 : g_5.2.1 om 0 = .int sv := (Sm.v m_7 r_om (by decide) rfl km_sv)
  have kn_46 : g_5.2.1 rl 3 = .int rz := (Sm.v m_7 r_rl (by decide) rfl kc_rz)
  have kn_47 : g_5.2.1 om 30 = .int rz := (Sm.v m_7 r_om (by decide) rfl km_rz)
  refine W.eq (g2 := F0 m 296 ls [.int r_6]) rfl ?_
  refine lv_pop hx hb dL_law_296 rfl ?_
  refine lv_aload_n hx hb dL_law_297 rfl (lv_at hl 1 rfl) ?_
  refine lv_aload_n hx hb dL_law_298 rfl (lv_at hl 3 rfl) ?_
  refine lv_iload_n hx hb dL_law_299 rfl (lv_at hl 0 rfl) ?_
  refine lv_iconst (v := 1) hx hb dL_law_300 (by decide) ?_
  refine lv_iadd hx hb dL_law_301 ?_
  refine lv_topi (fun z_48 ez_48 => ?_)
  have e_z_48 : z_48.toInt = i.toInt + 1 := i_add ez_48 rfl (by decide) (by omega) (by omega)
  refine va_sld hx hb hX hbl (fun q => by have q_ : N0.1 ≤ b := q; omega) hT.2 (i_in (n := L) rfl (by omega) (by omega)) dL_law_302 ?_
  refine lv_topi (fun u_49 e_u_49 => ?_)
  refine lv_aload_n hx hb dL_law_303 rfl (lv_at hl 3 rfl) ?_
  refine lv_iload_n hx hb dL_law_304 rfl (lv_at hl 0 rfl) ?_
  refine lv_iconst (v := 2) hx hb dL_law_305 (by decide) ?_
  refine lv_iadd hx hb dL_law_306 ?_
  refine lv_topi (fun z_50 ez_50 => ?_)
  have e_z_50 : z_50.toInt = i.toInt + 2 := i_add ez_50 rfl (by decide) (by omega) (by omega)
  refine va_sld hx hb hX hbl (fun q => by have q_ : N0.1 ≤ b := q; omega) hT.2 (i_in (n := L) rfl (by omega) (by omega)) dL_law_307 ?_
  refine lv_topi (fun u_51 e_u_51 => ?_)
  refine t_callV (n := 2) (As := [.int u_49, .int u_51]) (rest := []) (ci := 7) hB hT hl.1 (m_hold l D cI cZ cS cR N0 g_5 hI om u_49 u_51 r_10) (ro_ci r_10 rfl) rfl k_1003 k_65 k_1000 k_1001 k_1002 (by decide +kernel) ⟨(Nat.le_of_ble_eq_true rfl), (Nat.le_of_ble_eq_true rfl)⟩ rfl (Nat.le_of_ble_eq_true rfl) ⟨(by show _ ≤ _; first | exact Nat.le_of_ble_eq_true rfl | (simp only [room_1]; omega)), (by show _ ≤ _; first | exact Nat.le_of_ble_eq_true rfl | (simp only [room_1]; omega))⟩ dL_law_308 (fun v g_52 H locs hp hT => ?_)
  obtain ⟨r_53, rfl, hI, x_55, m_54⟩ := hp
  have hw : PX 48 2 3 71 72 g_52 om := hw.mono m_54 x_55 r_10 (by decide) (by decide) rfl rfl rfl rfl
  have hN0 : PX 8 39 40 84 85 g_52 om := hN0.mono m_54 x_55 r_10 (by decide) (by decide) rfl rfl rfl rfl
  have hTE : TE g_52 ba ta tz.toInt := hTE.sm m_54 r_14 (by decide) rfl r_15 (by decide) rfl
  have hWT : WT g_52 wt := hWT.sm m_54 r_16 (by decide) rfl
  have hPI : PGI g_52 sa aa wo pl wr sv.toInt := hPI.go (PK.sm m_54 x_55 r_17 rfl rfl rfl rfl rfl rfl rfl rfl rfl) (Sm.cf m_54 r_18 (by decide) rfl) (Sm.cf m_54 r_19 (by decide) rfl) (Sm.cf m_54 r_20 (by decide) rfl) (Sm.cf m_54 r_21 (by decide) rfl)
  have hM : Sm mdA g g_52 := sm_all
  have hE : Ex g g_52 := hE.tr x_55
  have r_56 : g_52.1 ox = 7 := (Ex.r x_55 r_9 (by decide))
  have r_57 : g_52.1 om = 8 := (Ex.r x_55 r_10 (by decide))
  have r_58 : g_52.1 tp = 5 := (Ex.r x_55 r_11 (by decide))
  have r_59 : g_52.1 nw = 19 := (Ex.r x_55 r_12 (by decide))
  have r_60 : g_52.1 rl = 1 := (Ex.r x_55 r_13 (by decide))
  have r_61 : g_52.1 ba = 67 := (Ex.r x_55 r_14 (by decide))
  have r_62 : g_52.1 ta = 79 := (Ex.r x_55 r_15 (by decide))
  have r_63 : g_52.1 wt = 87 := (Ex.r x_55 r_16 (by decide))
  have r_64 : g_52.1 sa = 42 := (Ex.r x_55 r_17 (by decide))
  have r_65 : g_52.1 aa = 88 := (Ex.r x_55 r_18 (by decide))
  have r_66 : g_52.1 wo = 71 := (Ex.r x_55 r_19 (by decide))
  have r_67 : g_52.1 pl = 72 := (Ex.r x_55 r_20 (by decide))
  have r_68 : g_52.1 wr = 73 := (Ex.r x_55 r_21 (by decide))
  have n_69 : g_52.2.2.1 ba = 100 := (Ex.n x_55 r_14 (by decide) n_22)
  have n_70 : g_52.2.2.1 ta = 100 := (Ex.n x_55 r_15 (by decide) n_23)
  have n_71 : g_52.2.2.1 wt = 24 := (Ex.n x_55 r_16 (by decide) n_24)
  have n_72 : g_52.2.2.1 sa = 6 := (Ex.n x_55 r_17 (by decide) n_25)
  have n_73 : g_52.2.2.1 aa = 6 := (Ex.n x_55 r_18 (by decide) n_26)
  have n_74 : g_52.2.2.1 wo = 48 := (Ex.n x_55 r_19 (by decide) n_27)
  have n_75 : g_52.2.2.1 pl = 48 := (Ex.n x_55 r_20 (by decide) n_28)
  have n_76 : g_52.2.2.1 wr = 48 := (Ex.n x_55 r_21 (by decide) n_29)
  have kn_77 : g_52.2.1 om 22 = .int o1 := (Sm.v m_54 r_10 (by decide) rfl kn_30)
  have kn_78 : g_52.2.1 ox 0 = .ref tp := (Sm.v m_54 r_9 (by decide) rfl kn_31)
  have kn_79 : g_52.2.1 ox 1 = .ref nw := (Sm.v m_54 r_9 (by decide) rfl kn_32)
  have kn_80 : g_52.2.1 ox 2 = .ref rl := (Sm.v m_54 r_9 (by decide) rfl kn_33)
  have kn_81 : g_52.2.1 tp 0 = .ref ba := (Sm.v m_54 r_11 (by decide) rfl kn_34)
  have kn_82 : g_52.2.1 om 28 = .ref ta := (Sm.v m_54 r_10 (by decide) rfl kn_35)
  have kn_83 : g_52.2.1 om 42 = .ref wt := (Sm.v m_54 r_10 (by decide) rfl kn_36)
  have kn_84 : g_52.2.1 nw 0 = .ref sa := (Sm.v m_54 r_12 (by decide) rfl kn_37)
  have kn_85 : g_52.2.1 om 1 = .ref aa := (Sm.v m_54 r_10 (by decide) rfl kn_38)
  have kn_86 : g_52.2.1 om 2 = .ref wo := (Sm.v m_54 r_10 (by decide) rfl kn_39)
  have kn_87 : g_52.2.1 om 3 = .ref pl := (Sm.v m_54 r_10 (by decide) rfl kn_40)
  have kn_88 : g_52.2.1 om 4 = .ref wr := (Sm.v m_54 r_10 (by decide) rfl kn_41)
  have kn_89 : g_52.2.1 tp 1 = .int tz := (Sm.v m_54 r_11 (by decide) rfl kn_42)
  have kn_90 : g_52.2.1 om 29 = .int tz := (Sm.v m_54 r_10 (by decide) rfl kn_43)
  have kn_91 : g_52.2.1 nw 1 = .int sv := (Sm.v m_54 r_12 (by decide) rfl kn_44)
  have kn_92 : g_52.2.1 om 0 = .int sv := (Sm.v m_54 r_10 (by decide) rfl kn_45)
  have kn_93 : g_52.2.1 rl 3 = .int rz := (Sm.v m_54 r_13 (by decide) rfl kn_46)
  have kn_94 : g_52.2.1 om 30 = .int rz := (Sm.v m_54 r_10 (by decide) rfl kn_47)
  refine W.eq (g2 := F0 m 311 ls [.int r_53]) rfl ?_
  refine lv_pop hx hb dL_law_311 rfl ?_
  refine lv_goto (tgt := 829) hx hb dL_law_312 (by decide) ?_
  refine W.widen (k := cells + 4) (n := slots + 28) (by omega) (by omega) ?_
  exact K g_52 o1 tz sv rz H locs hT hI r_56 r_57 kn_77 (by have e0_ : (0 : Int32).toInt = 0 := (by decide); omega) (by have e0_ : (0 : Int32).toInt = 0 := (by decide); omega) hw hN0 kn_78 r_58 kn_79 r_59 kn_80 r_60 kn_81 r_61 n_69 kn_82 r_62 n_70 kn_83 r_63 n_71 kn_84 r_64 n_72 kn_85 r_65 n_73 kn_86 r_66 n_74 kn_87 r_67 n_75 kn_88 r_68 n_76 kn_89 kn_90 (by have e0_ : (0 : Int32).toInt = 0 := (by decide); omega) (by have e0_ : (0 : Int32).toInt = 0 := (by decide); omega) kn_91 kn_92 (by have e0_ : (0 : Int32).toInt = 0 := (by decide); omega) (by have e0_ : (0 : Int32).toInt = 0 := (by decide); omega) kn_93 kn_94 (by have e0_ : (0 : Int32).toInt = 0 := (by decide); omega) (by have e0_ : (0 : Int32).toInt = 0 := (by decide); omega) hTE hWT hPI
set_option maxHeartbeats 4000000 in
set_option maxRecDepth 100000 in
/-- set -/
theorem law_5 {p : Program} {l : Launch} {e : Env} {s : State} {m : MethodId} {below : List Frame} {meth : Method} {c : Code} {D : va_G} {cI cZ cS cR : ClassId} {N0 : NT} {b L : Nat} {xs : Nat → Int32} (hB : Tz p s m meth c #[Value.ref b] code 4 RL D cI cZ cS cR N0) (hAs : N0.1 = s.heap.size) (hX : va_X b L xs s s.heap) (hbl : b < s.heap.size) (hL : L ≤ 2560) (hr : meth.sig.returnType = ret) {cells slots : Nat} (hcl : cells + 4 ≤ 600000) (hsl : slots + 28 ≤ 7302250) {H : Heap} {locs : List Loc} {ls : Array Slot} (g : GS) (ox om : Nat) (tp : Nat) (nw : Nat) (rl : Nat) (ba : Nat) (ta : Nat) (wt : Nat) (sa : Nat) (aa : Nat) (wo : Nat) (pl : Nat) (wr : Nat) (i o1 tz sv rz : Int32) (hT : Tv D cI cZ cS cR N0 s.heap H locs g) (hI : Inv g) (l_i : 0 ≤ i.toInt) (u_i : i.toInt + 5 ≤ L) : g.1 ox = 7 → g.1 om = 8 → g.2.1 om 22 = .int o1 → 0 ≤ o1.toInt → o1.toInt ≤ 12 * i.toInt → PX 48 2 3 71 72 g om → PX 8 39 40 84 85 g om → g.2.1 ox 0 = .ref tp → g.1 tp = 5 → g.2.1 ox 1 = .ref nw → g.1 nw = 19 → g.2.1 ox 2 = .ref rl → g.1 rl = 1 → g.2.1 tp 0 = .ref ba → g.1 ba = 67 → g.2.2.1 ba = 100 → g.2.1 om 28 = .ref ta → g.1 ta = 79 → g.2.2.1 ta = 100 → g.2.1 om 42 = .ref wt → g.1 wt = 87 → g.2.2.1 wt = 24 → g.2.1 nw 0 = .ref sa → g.1 sa = 42 → g.2.2.1 sa = 6 → g.2.1 om 1 = .ref aa → g.1 aa = 88 → g.2.2.1 aa = 6 → g.2.1 om 2 = .ref wo → g.1 wo = 71 → g.2.2.1 wo = 48 → g.2.1 om 3 = .ref pl → g.1 pl = 72 → g.2.2.1 pl = 48 → g.2.1 om 4 = .ref wr → g.1 wr = 73 → g.2.2.1 wr = 48 → g.2.1 tp 1 = .int tz → g.2.1 om 29 = .int tz → 0 ≤ tz.toInt → tz.toInt ≤ 100 → g.2.1 nw 1 = .int sv → g.2.1 om 0 = .int sv → 0 ≤ sv.toInt → sv.toInt ≤ 6 → g.2.1 rl 3 = .int rz → g.2.1 om 30 = .int rz → 0 ≤ rz.toInt → rz.toInt ≤ 6 → TE g ba ta tz.toInt → WT g wt → PGI g sa aa wo pl wr sv.toInt → (hl : lv_has ls 4 [(3, .int i), (2, .ref om), (1, .ref ox), (0, .ref b)]) → (K : ∀ (g1 : GS) (o1_1 tz_1 sv_1 rz_1 : Int32) (H1 : Heap) (locs1 : List Loc), Tv D cI cZ cS cR N0 s.heap H1 locs1 g1 → Inv g1 → g1.1 ox = 7 → g1.1 om = 8 → g1.2.1 om 22 = .int o1_1 → 0 ≤ o1_1.toInt → o1_1.toInt ≤ 12 * i.toInt + 60 → PX 48 2 3 71 72 g1 om → PX 8 39 40 84 85 g1 om → g1.2.1 ox 0 = .ref tp → g1.1 tp = 5 → g1.2.1 ox 1 = .ref nw → g1.1 nw = 19 → g1.2.1 ox 2 = .ref rl → g1.1 rl = 1 → g1.2.1 tp 0 = .ref ba → g1.1 ba = 67 → g1.2.2.1 ba = 100 → g1.2.1 om 28 = .ref ta → g1.1 ta = 79 → g1.2.2.1 ta = 100 → g1.2.1 om 42 = .ref wt → g1.1 wt = 87 → g1.2.2.1 wt = 24 → g1.2.1 nw 0 = .ref sa → g1.1 sa = 42 → g1.2.2.1 sa = 6 → g1.2.1 om 1 = .ref aa → g1.1 aa = 88 → g1.2.2.1 aa = 6 → g1.2.1 om 2 = .ref wo → g1.1 wo = 71 → g1.2.2.1 wo = 48 → g1.2.1 om 3 = .ref pl → g1.1 pl = 72 → g1.2.2.1 pl = 48 → g1.2.1 om 4 = .ref wr → g1.1 wr = 73 → g1.2.2.1 wr = 48 → g1.2.1 tp 1 = .int tz_1 → g1.2.1 om 29 = .int tz_1 → 0 ≤ tz_1.toInt → tz_1.toInt ≤ 100 → g1.2.1 nw 1 = .int sv_1 → g1.2.1 om 0 = .int sv_1 → 0 ≤ sv_1.toInt → sv_1.toInt ≤ 6 → g1.2.1 rl 3 = .int rz_1 → g1.2.1 om 30 = .int rz_1 → 0 ≤ rz_1.toInt → rz_1.toInt ≤ 6 → TE g1 ba ta tz_1.toInt → WT g1 wt → PGI g1 sa aa wo pl wr sv_1.toInt → W p l e room_1 s m #[Value.ref b] below meth c H1 locs1 (cells + 4) (slots + 28) (lw_Z below #[Value.ref b] s) (F0 m 829 ls [])) → W p l e room_1 s m #[Value.ref b] below meth c H locs cells slots (lw_Z below #[Value.ref b] s) (F0 m 315 ls []) := by
  intro r_ox r_om ko l_o u_o hw hN0 k_tp r_tp k_nw r_nw k_rl r_rl k_ba r_ba n_ba k_ta r_ta n_ta k_wt r_wt n_wt k_sa r_sa n_sa k_aa r_aa n_aa k_wo r_wo n_wo k_pl r_pl n_pl k_wr r_wr n_wr kc_tz km_tz l_tz u_tz kc_sv km_sv l_sv u_sv kc_rz km_rz l_rz u_rz hTE hWT hPI hl K
  have hx := hB.1
  have hb := hB.2.1
  have hE : Ex g g := Ex.rf
  have hM : Sm mdA g g := sm_all
  have hTE0 := hTE
  have hI0_ := hI
  have hPI0_ := hPI
  refine lv_aload_n hx hb dL_law_315 rfl (lv_at hl 2 rfl) ?_
  refine lv_aload_n hx hb dL_law_316 rfl (lv_at hl 3 rfl) ?_
  refine lv_iload_n hx hb dL_law_317 rfl (lv_at hl 0 rfl) ?_
  refine lv_iconst (v := 1) hx hb dL_law_318 (by decide) ?_
  refine lv_iadd hx hb dL_law_319 ?_
  refine lv_topi (fun z_1 ez_1 => ?_)
  have e_z_1 : z_1.toInt = i.toInt + 1 := i_add ez_1 rfl (by decide) (by omega) (by omega)
  refine va_sld hx hb hX hbl (fun q => by have q_ : N0.1 ≤ b := q; omega) hT.2 (i_in (n := L) rfl (by omega) (by omega)) dL_law_320 ?_
  refine lv_topi (fun u_2 e_u_2 => ?_)
  refine lv_aload_n hx hb dL_law_321 rfl (lv_at hl 3 rfl) ?_
  refine lv_iload_n hx hb dL_law_322 rfl (lv_at hl 0 rfl) ?_
  refine lv_iconst (v := 2) hx hb dL_law_323 (by decide) ?_
  refine lv_iadd hx hb dL_law_324 ?_
  refine lv_topi (fun z_3 ez_3 => ?_)
  have e_z_3 : z_3.toInt = i.toInt + 2 := i_add ez_3 rfl (by decide) (by omega) (by omega)
  refine va_sld hx hb hX hbl (fun q => by have q_ : N0.1 ≤ b := q; omega) hT.2 (i_in (n := L) rfl (by omega) (by omega)) dL_law_325 ?_
  refine lv_topi (fun u_4 e_u_4 => ?_)
  refine lv_aload_n hx hb dL_law_326 rfl (lv_at hl 3 rfl) ?_
  refine lv_iload_n hx hb dL_law_327 rfl (lv_at hl 0 rfl) ?_
  refine lv_iconst (v := 3) hx hb dL_law_328 (by decide) ?_
  refine lv_iadd hx hb dL_law_329 ?_
  refine lv_topi (fun z_5 ez_5 => ?_)
  have e_z_5 : z_5.toInt = i.toInt + 3 := i_add ez_5 rfl (by decide) (by omega) (by omega)
  refine va_sld hx hb hX hbl (fun q => by have q_ : N0.1 ≤ b := q; omega) hT.2 (i_in (n := L) rfl (by omega) (by omega)) dL_law_330 ?_
  refine lv_topi (fun u_6 e_u_6 => ?_)
  refine t_callV (n := 3) (As := [.int u_2, .int u_4, .int u_6]) (rest := []) (ci := 6) hB hT hl.1 (P_set l D cI cZ cS cR N0 g hI ox u_2 u_4 u_6 r_ox) (ro_ci r_ox rfl) rfl k_449 k_57 k_446 k_447 k_448 (by decide +kernel) ⟨(Nat.le_of_ble_eq_true rfl), (Nat.le_of_ble_eq_true rfl)⟩ rfl (Nat.le_of_ble_eq_true rfl) ⟨(by show _ ≤ _; first | exact Nat.le_of_ble_eq_true rfl | (simp only [room_1]; omega)), (by show _ ≤ _; first | exact Nat.le_of_ble_eq_true rfl | (simp only [room_1]; omega))⟩ dL_law_331 (fun v g_7 H locs hp hT => ?_)
  obtain ⟨r_8, rfl, hI, x_10, m_9⟩ := hp
  have hw : PX 48 2 3 71 72 g_7 om := hw.mono m_9 x_10 r_om (by decide) (by decide) rfl rfl rfl rfl
  have hN0 : PX 8 39 40 84 85 g_7 om := hN0.mono m_9 x_10 r_om (by decide) (by decide) rfl rfl rfl rfl
  have hTE : TE g_7 ba ta tz.toInt := hTE.sm m_9 r_ba (by decide) rfl r_ta (by decide) rfl
  have hWT : WT g_7 wt := hWT.sm m_9 r_wt (by decide) rfl
  have hPI : PGI g_7 sa aa wo pl wr sv.toInt := hPI.go (PK.sm m_9 x_10 r_sa rfl rfl rfl rfl rfl rfl rfl rfl rfl) (Sm.cf m_9 r_aa (by decide) rfl) (Sm.cf m_9 r_wo (by decide) rfl) (Sm.cf m_9 r_pl (by decide) rfl) (Sm.cf m_9 r_wr (by decide) rfl)
  have hM : Sm mdA g g_7 := sm_all
  have hE : Ex g g_7 := hE.tr x_10
  have r_11 : g_7.1 ox = 7 := (Ex.r x_10 r_ox (by decide))
  have r_12 : g_7.1 om = 8 := (Ex.r x_10 r_om (by decide))
  have r_13 : g_7.1 tp = 5 := (Ex.r x_10 r_tp (by decide))
  have r_14 : g_7.1 nw = 19 := (Ex.r x_10 r_nw (by decide))
  have r_15 : g_7.1 rl = 1 := (Ex.r x_10 r_rl (by decide))
  have r_16 : g_7.1 ba = 67 := (Ex.r x_10 r_ba (by decide))
  have r_17 : g_7.1 ta = 79 := (Ex.r x_10 r_ta (by decide))
  have r_18 : g_7.1 wt = 87 := (Ex.r x_10 r_wt (by decide))
  have r_19 : g_7.1 sa = 42 := (Ex.r x_10 r_sa (by decide))
  have r_20 : g_7.1 aa = 88 := (Ex.r x_10 r_aa (by decide))
  have r_21 : g_7.1 wo = 71 := (Ex.r x_10 r_wo (by decide))
  have r_22 : g_7.1 pl = 72 := (Ex.r x_10 r_pl (by decide))
  have r_23 : g_7.1 wr = 73 := (Ex.r x_10 r_wr (by decide))
  have n_24 : g_7.2.2.1 ba = 100 := (Ex.n x_10 r_ba (by decide) n_ba)
  have n_25 : g_7.2.2.1 ta = 100 := (Ex.n x_10 r_ta (by decide) n_ta)
  have n_26 : g_7.2.2.1 wt = 24 := (Ex.n x_10 r_wt (by decide) n_wt)
  have n_27 : g_7.2.2.1 sa = 6 := (Ex.n x_10 r_sa (by decide) n_sa)
  have n_28 : g_7.2.2.1 aa = 6 := (Ex.n x_10 r_aa (by decide) n_aa)
  have n_29 : g_7.2.2.1 wo = 48 := (Ex.n x_10 r_wo (by decide) n_wo)
  have n_30 : g_7.2.2.1 pl = 48 := (Ex.n x_10 r_pl (by decide) n_pl)
  have n_31 : g_7.2.2.1 wr = 48 := (Ex.n x_10 r_wr (by decide) n_wr)
  have kn_32 : g_7.2.1 om 22 = .int o1 := (Sm.v m_9 r_om (by decide) rfl ko)
  have kn_33 : g_7.2.1 ox 0 = .ref tp := (Sm.v m_9 r_ox (by decide) rfl k_tp)
  have kn_34 : g_7.2.1 ox 1 = .ref nw := (Sm.v m_9 r_ox (by decide) rfl k_nw)
  have kn_35 : g_7.2.1 ox 2 = .ref rl := (Sm.v m_9 r_ox (by decide) rfl k_rl)
  have kn_36 : g_7.2.1 tp 0 = .ref ba := (Sm.v m_9 r_tp (by decide) rfl k_ba)
  have kn_37 : g_7.2.1 om 28 = .ref ta := (Sm.v m_9 r_om (by decide) rfl k_ta)
  have kn_38 : g_7.2.1 om 42 = .ref wt := (Sm.v m_9 r_om (by decide) rfl k_wt)
  have kn_39 : g_7.2.1 nw 0 = .ref sa := (Sm.v m_9 r_nw (by decide) rfl k_sa)
  have kn_40 : g_7.2.1 om 1 = .ref aa := (Sm.v m_9 r_om (by decide) rfl k_aa)
  have kn_41 : g_7.2.1 om 2 = .ref wo := (Sm.v m_9 r_om (by decide) rfl k_wo)
  have kn_42 : g_7.2.1 om 3 = .ref pl := (Sm.v m_9 r_om (by decide) rfl k_pl)
  have kn_43 : g_7.2.1 om 4 = .ref wr := (Sm.v m_9 r_om (by decide) rfl k_wr)
  have kn_44 : g_7.2.1 tp 1 = .int tz := (Sm.v m_9 r_tp (by decide) rfl kc_tz)
  have kn_45 : g_7.2.1 om 29 = .int tz := (Sm.v m_9 r_om (by decide) rfl km_tz)
  have kn_46 : g_7.2.1 nw 1 = .int sv := (Sm.v m_9 r_nw (by decide) rfl kc_sv)
  have kn_47 : g_7.2.1 om 0 = .int sv := (Sm.v m_9 r_om (by decide) rfl km_sv)
  have kn_48 : g_7.2.1 rl 3 = .int rz := (Sm.v m_9 r_rl (by decide) rfl kc_rz)
  have kn_49 : g_7.2.1 om 30 = .int rz := (Sm.v m_9 r_om (by decide) rfl km_rz)
  refine W.eq (g2 := F0 m 334 ls [.int r_8]) rfl ?_
  refine lv_pop hx hb dL_law_334 rfl ?_
  refine lv_aload_n hx hb dL_law_335 rfl (lv_at hl 1 rfl) ?_
  refine lv_aload_n hx hb dL_law_336 rfl (lv_at hl 3 rfl) ?_
  refine lv_iload_n hx hb dL_law_337 rfl (lv_at hl 0 rfl) ?_
  refine lv_iconst (v := 1) hx hb dL_law_338 (by decide) ?_
  refine lv_iadd hx hb dL_law_339 ?_
  refine lv_topi (fun z_50 ez_50 => ?_)
  have e_z_50 : z_50.toInt = i.toInt + 1 := i_add ez_50 rfl (by decide) (by omega) (by omega)
  refine va_sld hx hb hX hbl (fun q => by have q_ : N0.1 ≤ b := q; omega) hT.2 (i_in (n := L) rfl (by omega) (by omega)) dL_law_340 ?_
  refine lv_topi (fun u_51 e_u_51 => ?_)
  refine lv_aload_n hx hb dL_law_341 rfl (lv_at hl 3 rfl) ?_
  refine lv_iload_n hx hb dL_law_342 rfl (lv_at hl 0 rfl) ?_
  refine lv_iconst (v := 2) hx hb dL_law_343 (by decide) ?_
  refine lv_iadd hx hb dL_law_344 ?_
  refine lv_topi (fun z_52 ez_52 => ?_)
  have e_z_52 : z_52.toInt = i.toInt + 2 := i_add ez_52 rfl (by decide) (by omega) (by omega)
  refine va_sld hx hb hX hbl (fun q => by have q_ : N0.1 ≤ b := q; omega) hT.2 (i_in (n := L) rfl (by omega) (by omega)) dL_law_345 ?_
  refine lv_topi (fun u_53 e_u_53 => ?_)
  refine lv_aload_n hx hb dL_law_346 rfl (lv_at hl 3 rfl) ?_
  refine lv_iload_n hx hb dL_law_347 rfl (lv_at hl 0 rfl) ?_
  refine lv_iconst (v := 3) hx hb dL_law_348 (by decide) ?_
  refine lv_iadd hx hb dL_law_349 ?_
  refine lv_topi (fun z_54 ez_54 => ?_)
  have e_z_54 : z_54.toInt = i.toInt + 3 := i_add ez_54 rfl (by decide) (by omega) (by omega)
  refine va_sld hx hb hX hbl (fun q => by have q_ : N0.1 ≤ b := q; omega) hT.2 (i_in (n := L) rfl (by omega) (by omega)) dL_law_350 ?_
  refine lv_topi (fun u_55 e_u_55 => ?_)
  refine t_callV (n := 3) (As := [.int u_51, .int u_53, .int u_55]) (rest := []) (ci := 7) hB hT hl.1 (m_set l D cI cZ cS cR N0 g_7 hI om u_51 u_53 u_55 r_12) (ro_ci r_12 rfl) rfl k_1007 k_65 k_1004 k_1005 k_1006 (by decide +kernel) ⟨(Nat.le_of_ble_eq_true rfl), (Nat.le_of_ble_eq_true rfl)⟩ rfl (Nat.le_of_ble_eq_true rfl) ⟨(by show _ ≤ _; first | exact Nat.le_of_ble_eq_true rfl | (simp only [room_1]; omega)), (by show _ ≤ _; first | exact Nat.le_of_ble_eq_true rfl | (simp only [room_1]; omega))⟩ dL_law_351 (fun v g_56 H locs hp hT => ?_)
  obtain ⟨r_57, rfl, hI, x_59, m_58⟩ := hp
  have hw : PX 48 2 3 71 72 g_56 om := hw.mono m_58 x_59 r_12 (by decide) (by decide) rfl rfl rfl rfl
  have hN0 : PX 8 39 40 84 85 g_56 om := hN0.mono m_58 x_59 r_12 (by decide) (by decide) rfl rfl rfl rfl
  have hTE : TE g_56 ba ta tz.toInt := hTE.sm m_58 r_16 (by decide) rfl r_17 (by decide) rfl
  have hWT : WT g_56 wt := hWT.sm m_58 r_18 (by decide) rfl
  have hPI : PGI g_56 sa aa wo pl wr sv.toInt := hPI.go (PK.sm m_58 x_59 r_19 rfl rfl rfl rfl rfl rfl rfl rfl rfl) (Sm.cf m_58 r_20 (by decide) rfl) (Sm.cf m_58 r_21 (by decide) rfl) (Sm.cf m_58 r_22 (by decide) rfl) (Sm.cf m_58 r_23 (by decide) rfl)
  have hM : Sm mdA g g_56 := sm_all
  have hE : Ex g g_56 := hE.tr x_59
  have r_60 : g_56.1 ox = 7 := (Ex.r x_59 r_11 (by decide))
  have r_61 : g_56.1 om = 8 := (Ex.r x_59 r_12 (by decide))
  have r_62 : g_56.1 tp = 5 := (Ex.r x_59 r_13 (by decide))
  have r_63 : g_56.1 nw = 19 := (Ex.r x_59 r_14 (by decide))
  have r_64 : g_56.1 rl = 1 := (Ex.r x_59 r_15 (by decide))
  have r_65 : g_56.1 ba = 67 := (Ex.r x_59 r_16 (by decide))
  have r_66 : g_56.1 ta = 79 := (Ex.r x_59 r_17 (by decide))
  have r_67 : g_56.1 wt = 87 := (Ex.r x_59 r_18 (by decide))
  have r_68 : g_56.1 sa = 42 := (Ex.r x_59 r_19 (by decide))
  have r_69 : g_56.1 aa = 88 := (Ex.r x_59 r_20 (by decide))
  have r_70 : g_56.1 wo = 71 := (Ex.r x_59 r_21 (by decide))
  have r_71 : g_56.1 pl = 72 := (Ex.r x_59 r_22 (by decide))
  have r_72 : g_56.1 wr = 73 := (Ex.r x_59 r_23 (by decide))
  have n_73 : g_56.2.2.1 ba = 100 := (Ex.n x_59 r_16 (by decide) n_24)
  have n_74 : g_56.2.2.1 ta = 100 := (Ex.n x_59 r_17 (by decide) n_25)
  have n_75 : g_56.2.2.1 wt = 24 := (Ex.n x_59 r_18 (by decide) n_26)
  have n_76 : g_56.2.2.1 sa = 6 := (Ex.n x_59 r_19 (by decide) n_27)
  have n_77 : g_56.2.2.1 aa = 6 := (Ex.n x_59 r_20 (by decide) n_28)
  have n_78 : g_56.2.2.1 wo = 48 := (Ex.n x_59 r_21 (by decide) n_29)
  have n_79 : g_56.2.2.1 pl = 48 := (Ex.n x_59 r_22 (by decide) n_30)
  have n_80 : g_56.2.2.1 wr = 48 := (Ex.n x_59 r_23 (by decide) n_31)
  have kn_81 : g_56.2.1 om 22 = .int o1 := (Sm.v m_58 r_12 (by decide) rfl kn_32)
  have kn_82 : g_56.2.1 ox 0 = .ref tp := (Sm.v m_58 r_11 (by decide) rfl kn_33)
  have kn_83 : g_56.2.1 ox 1 = .ref nw := (Sm.v m_58 r_11 (by decide) rfl kn_34)
  have kn_84 : g_56.2.1 ox 2 = .ref rl := (Sm.v m_58 r_11 (by decide) rfl kn_35)
  have kn_85 : g_56.2.1 tp 0 = .ref ba := (Sm.v m_58 r_13 (by decide) rfl kn_36)
  have kn_86 : g_56.2.1 om 28 = .ref ta := (Sm.v m_58 r_12 (by decide) rfl kn_37)
  have kn_87 : g_56.2.1 om 42 = .ref wt := (Sm.v m_58 r_12 (by decide) rfl kn_38)
  have kn_88 : g_56.2.1 nw 0 = .ref sa := (Sm.v m_58 r_14 (by decide) rfl kn_39)
  have kn_89 : g_56.2.1 om 1 = .ref aa := (Sm.v m_58 r_12 (by decide) rfl kn_40)
  have kn_90 : g_56.2.1 om 2 = .ref wo := (Sm.v m_58 r_12 (by decide) rfl kn_41)
  have kn_91 : g_56.2.1 om 3 = .ref pl := (Sm.v m_58 r_12 (by decide) rfl kn_42)
  have kn_92 : g_56.2.1 om 4 = .ref wr := (Sm.v m_58 r_12 (by decide) rfl kn_43)
  have kn_93 : g_56.2.1 tp 1 = .int tz := (Sm.v m_58 r_13 (by decide) rfl kn_44)
  have kn_94 : g_56.2.1 om 29 = .int tz := (Sm.v m_58 r_12 (by decide) rfl kn_45)
  have kn_95 : g_56.2.1 nw 1 = .int sv := (Sm.v m_58 r_14 (by decide) rfl kn_46)
  have kn_96 : g_56.2.1 om 0 = .int sv := (Sm.v m_58 r_12 (by decide) rfl kn_47)
  have kn_97 : g_56.2.1 rl 3 = .int rz := (Sm.v m_58 r_15 (by decide) rfl kn_48)
  have kn_98 : g_56.2.1 om 30 = .int rz := (Sm.v m_58 r_12 (by decide) rfl kn_49)
  refine W.eq (g2 := F0 m 354 ls [.int r_57]) rfl ?_
  refine lv_pop hx hb dL_law_354 rfl ?_
  refine lv_goto (tgt := 829) hx hb dL_law_355 (by decide) ?_
  refine W.widen (k := cells + 4) (n := slots + 28) (by omega) (by omega) ?_
  exact K g_56 o1 tz sv rz H locs hT hI r_60 r_61 kn_81 (by have e0_ : (0 : Int32).toInt = 0 := (by decide); omega) (by have e0_ : (0 : Int32).toInt = 0 := (by decide); omega) hw hN0 kn_82 r_62 kn_83 r_63 kn_84 r_64 kn_85 r_65 n_73 kn_86 r_66 n_74 kn_87 r_67 n_75 kn_88 r_68 n_76 kn_89 r_69 n_77 kn_90 r_70 n_78 kn_91 r_71 n_79 kn_92 r_72 n_80 kn_93 kn_94 (by have e0_ : (0 : Int32).toInt = 0 := (by decide); omega) (by have e0_ : (0 : Int32).toInt = 0 := (by decide); omega) kn_95 kn_96 (by have e0_ : (0 : Int32).toInt = 0 := (by decide); omega) (by have e0_ : (0 : Int32).toInt = 0 := (by decide); omega) kn_97 kn_98 (by have e0_ : (0 : Int32).toInt = 0 := (by decide); omega) (by have e0_ : (0 : Int32).toInt = 0 := (by decide); omega) hTE hWT hPI
set_option maxHeartbeats 4000000 in
set_option maxRecDepth 100000 in
/-- about -/
theorem law_6 {p : Program} {l : Launch} {e : Env} {s : State} {m : MethodId} {below : List Frame} {meth : Method} {c : Code} {D : va_G} {cI cZ cS cR : ClassId} {N0 : NT} {b L : Nat} {xs : Nat → Int32} (hB : Tz p s m meth c #[Value.ref b] code 4 RL D cI cZ cS cR N0) (hAs : N0.1 = s.heap.size) (hX : va_X b L xs s s.heap) (hbl : b < s.heap.size) (hL : L ≤ 2560) (hr : meth.sig.returnType = ret) {cells slots : Nat} (hcl : cells + 4 ≤ 600000) (hsl : slots + 28 ≤ 7302250) {H : Heap} {locs : List Loc} {ls : Array Slot} (g : GS) (ox om : Nat) (tp : Nat) (nw : Nat) (rl : Nat) (ba : Nat) (ta : Nat) (wt : Nat) (sa : Nat) (aa : Nat) (wo : Nat) (pl : Nat) (wr : Nat) (i o1 tz sv rz : Int32) (hT : Tv D cI cZ cS cR N0 s.heap H locs g) (hI : Inv g) (l_i : 0 ≤ i.toInt) (u_i : i.toInt + 5 ≤ L) : g.1 ox = 7 → g.1 om = 8 → g.2.1 om 22 = .int o1 → 0 ≤ o1.toInt → o1.toInt ≤ 12 * i.toInt → PX 48 2 3 71 72 g om → PX 8 39 40 84 85 g om → g.2.1 ox 0 = .ref tp → g.1 tp = 5 → g.2.1 ox 1 = .ref nw → g.1 nw = 19 → g.2.1 ox 2 = .ref rl → g.1 rl = 1 → g.2.1 tp 0 = .ref ba → g.1 ba = 67 → g.2.2.1 ba = 100 → g.2.1 om 28 = .ref ta → g.1 ta = 79 → g.2.2.1 ta = 100 → g.2.1 om 42 = .ref wt → g.1 wt = 87 → g.2.2.1 wt = 24 → g.2.1 nw 0 = .ref sa → g.1 sa = 42 → g.2.2.1 sa = 6 → g.2.1 om 1 = .ref aa → g.1 aa = 88 → g.2.2.1 aa = 6 → g.2.1 om 2 = .ref wo → g.1 wo = 71 → g.2.2.1 wo = 48 → g.2.1 om 3 = .ref pl → g.1 pl = 72 → g.2.2.1 pl = 48 → g.2.1 om 4 = .ref wr → g.1 wr = 73 → g.2.2.1 wr = 48 → g.2.1 tp 1 = .int tz → g.2.1 om 29 = .int tz → 0 ≤ tz.toInt → tz.toInt ≤ 100 → g.2.1 nw 1 = .int sv → g.2.1 om 0 = .int sv → 0 ≤ sv.toInt → sv.toInt ≤ 6 → g.2.1 rl 3 = .int rz → g.2.1 om 30 = .int rz → 0 ≤ rz.toInt → rz.toInt ≤ 6 → TE g ba ta tz.toInt → WT g wt → PGI g sa aa wo pl wr sv.toInt → (hl : lv_has ls 4 [(3, .int i), (2, .ref om), (1, .ref ox), (0, .ref b)]) → (K : ∀ (g1 : GS) (o1_1 tz_1 sv_1 rz_1 : Int32) (H1 : Heap) (locs1 : List Loc), Tv D cI cZ cS cR N0 s.heap H1 locs1 g1 → Inv g1 → g1.1 ox = 7 → g1.1 om = 8 → g1.2.1 om 22 = .int o1_1 → 0 ≤ o1_1.toInt → o1_1.toInt ≤ 12 * i.toInt + 60 → PX 48 2 3 71 72 g1 om → PX 8 39 40 84 85 g1 om → g1.2.1 ox 0 = .ref tp → g1.1 tp = 5 → g1.2.1 ox 1 = .ref nw → g1.1 nw = 19 → g1.2.1 ox 2 = .ref rl → g1.1 rl = 1 → g1.2.1 tp 0 = .ref ba → g1.1 ba = 67 → g1.2.2.1 ba = 100 → g1.2.1 om 28 = .ref ta → g1.1 ta = 79 → g1.2.2.1 ta = 100 → g1.2.1 om 42 = .ref wt → g1.1 wt = 87 → g1.2.2.1 wt = 24 → g1.2.1 nw 0 = .ref sa → g1.1 sa = 42 → g1.2.2.1 sa = 6 → g1.2.1 om 1 = .ref aa → g1.1 aa = 88 → g1.2.2.1 aa = 6 → g1.2.1 om 2 = .ref wo → g1.1 wo = 71 → g1.2.2.1 wo = 48 → g1.2.1 om 3 = .ref pl → g1.1 pl = 72 → g1.2.2.1 pl = 48 → g1.2.1 om 4 = .ref wr → g1.1 wr = 73 → g1.2.2.1 wr = 48 → g1.2.1 tp 1 = .int tz_1 → g1.2.1 om 29 = .int tz_1 → 0 ≤ tz_1.toInt → tz_1.toInt ≤ 100 → g1.2.1 nw 1 = .int sv_1 → g1.2.1 om 0 = .int sv_1 → 0 ≤ sv_1.toInt → sv_1.toInt ≤ 6 → g1.2.1 rl 3 = .int rz_1 → g1.2.1 om 30 = .int rz_1 → 0 ≤ rz_1.toInt → rz_1.toInt ≤ 6 → TE g1 ba ta tz_1.toInt → WT g1 wt → PGI g1 sa aa wo pl wr sv_1.toInt → W p l e room_1 s m #[Value.ref b] below meth c H1 locs1 (cells + 4) (slots + 28) (lw_Z below #[Value.ref b] s) (F0 m 829 ls [])) → W p l e room_1 s m #[Value.ref b] below meth c H locs cells slots (lw_Z below #[Value.ref b] s) (F0 m 358 ls []) := by
  intro r_ox r_om ko l_o u_o hw hN0 k_tp r_tp k_nw r_nw k_rl r_rl k_ba r_ba n_ba k_ta r_ta n_ta k_wt r_wt n_wt k_sa r_sa n_sa k_aa r_aa n_aa k_wo r_wo n_wo k_pl r_pl n_pl k_wr r_wr n_wr kc_tz km_tz l_tz u_tz kc_sv km_sv l_sv u_sv kc_rz km_rz l_rz u_rz hTE hWT hPI hl K
  have hx := hB.1
  have hb := hB.2.1
  have hE : Ex g g := Ex.rf
  have hM : Sm mdA g g := sm_all
  have hTE0 := hTE
  have hI0_ := hI
  have hPI0_ := hPI
  refine lv_aload_n hx hb dL_law_358 rfl (lv_at hl 2 rfl) ?_
  refine lv_aload_n hx hb dL_law_359 rfl (lv_at hl 3 rfl) ?_
  refine lv_iload_n hx hb dL_law_360 rfl (lv_at hl 0 rfl) ?_
  refine lv_iconst (v := 1) hx hb dL_law_361 (by decide) ?_
  refine lv_iadd hx hb dL_law_362 ?_
  refine lv_topi (fun z_1 ez_1 => ?_)
  have e_z_1 : z_1.toInt = i.toInt + 1 := i_add ez_1 rfl (by decide) (by omega) (by omega)
  refine va_sld hx hb hX hbl (fun q => by have q_ : N0.1 ≤ b := q; omega) hT.2 (i_in (n := L) rfl (by omega) (by omega)) dL_law_363 ?_
  refine lv_topi (fun u_2 e_u_2 => ?_)
  refine lv_aload_n hx hb dL_law_364 rfl (lv_at hl 3 rfl) ?_
  refine lv_iload_n hx hb dL_law_365 rfl (lv_at hl 0 rfl) ?_
  refine lv_iconst (v := 2) hx hb dL_law_366 (by decide) ?_
  refine lv_iadd hx hb dL_law_367 ?_
  refine lv_topi (fun z_3 ez_3 => ?_)
  have e_z_3 : z_3.toInt = i.toInt + 2 := i_add ez_3 rfl (by decide) (by omega) (by omega)
  refine va_sld hx hb hX hbl (fun q => by have q_ : N0.1 ≤ b := q; omega) hT.2 (i_in (n := L) rfl (by omega) (by omega)) dL_law_368 ?_
  refine lv_topi (fun u_4 e_u_4 => ?_)
  refine t_callV (n := 2) (As := [.int u_2, .int u_4]) (rest := []) (ci := 6) hB hT hl.1 (P_about l D cI cZ cS cR N0 g hI ox u_2 u_4 r_ox) (ro_ci r_ox rfl) rfl k_453 k_57 k_450 k_451 k_452 (by decide +kernel) ⟨(Nat.le_of_ble_eq_true rfl), (Nat.le_of_ble_eq_true rfl)⟩ rfl (Nat.le_of_ble_eq_true rfl) ⟨(by show _ ≤ _; first | exact Nat.le_of_ble_eq_true rfl | (simp only [room_1]; omega)), (by show _ ≤ _; first | exact Nat.le_of_ble_eq_true rfl | (simp only [room_1]; omega))⟩ dL_law_369 (fun v g_5 H locs hp hT => ?_)
  obtain ⟨r_6, rfl, hI, x_8, m_7⟩ := hp
  have hw : PX 48 2 3 71 72 g_5 om := hw.mono m_7 x_8 r_om (by decide) (by decide) rfl rfl rfl rfl
  have hN0 : PX 8 39 40 84 85 g_5 om := hN0.mono m_7 x_8 r_om (by decide) (by decide) rfl rfl rfl rfl
  have hTE : TE g_5 ba ta tz.toInt := hTE.sm m_7 r_ba (by decide) rfl r_ta (by decide) rfl
  have hWT : WT g_5 wt := hWT.sm m_7 r_wt (by decide) rfl
  have hPI : PGI g_5 sa aa wo pl wr sv.toInt := hPI.go (PK.sm m_7 x_8 r_sa rfl rfl rfl rfl rfl rfl rfl rfl rfl) (Sm.cf m_7 r_aa (by decide) rfl) (Sm.cf m_7 r_wo (by decide) rfl) (Sm.cf m_7 r_pl (by decide) rfl) (Sm.cf m_7 r_wr (by decide) rfl)
  have hM : Sm mdA g g_5 := sm_all
  have hE : Ex g g_5 := hE.tr x_8
  have r_9 : g_5.1 ox = 7 := (Ex.r x_8 r_ox (by decide))
  have r_10 : g_5.1 om = 8 := (Ex.r x_8 r_om (by decide))
  have r_11 : g_5.1 tp = 5 := (Ex.r x_8 r_tp (by decide))
  have r_12 : g_5.1 nw = 19 := (Ex.r x_8 r_nw (by decide))
  have r_13 : g_5.1 rl = 1 := (Ex.r x_8 r_rl (by decide))
  have r_14 : g_5.1 ba = 67 := (Ex.r x_8 r_ba (by decide))
  have r_15 : g_5.1 ta = 79 := (Ex.r x_8 r_ta (by decide))
  have r_16 : g_5.1 wt = 87 := (Ex.r x_8 r_wt (by decide))
  have r_17 : g_5.1 sa = 42 := (Ex.r x_8 r_sa (by decide))
  have r_18 : g_5.1 aa = 88 := (Ex.r x_8 r_aa (by decide))
  have r_19 : g_5.1 wo = 71 := (Ex.r x_8 r_wo (by decide))
  have r_20 : g_5.1 pl = 72 := (Ex.r x_8 r_pl (by decide))
  have r_21 : g_5.1 wr = 73 := (Ex.r x_8 r_wr (by decide))
  have n_22 : g_5.2.2.1 ba = 100 := (Ex.n x_8 r_ba (by decide) n_ba)
  have n_23 : g_5.2.2.1 ta = 100 := (Ex.n x_8 r_ta (by decide) n_ta)
  have n_24 : g_5.2.2.1 wt = 24 := (Ex.n x_8 r_wt (by decide) n_wt)
  have n_25 : g_5.2.2.1 sa = 6 := (Ex.n x_8 r_sa (by decide) n_sa)
  have n_26 : g_5.2.2.1 aa = 6 := (Ex.n x_8 r_aa (by decide) n_aa)
  have n_27 : g_5.2.2.1 wo = 48 := (Ex.n x_8 r_wo (by decide) n_wo)
  have n_28 : g_5.2.2.1 pl = 48 := (Ex.n x_8 r_pl (by decide) n_pl)
  have n_29 : g_5.2.2.1 wr = 48 := (Ex.n x_8 r_wr (by decide) n_wr)
  have kn_30 : g_5.2.1 om 22 = .int o1 := (Sm.v m_7 r_om (by decide) rfl ko)
  have kn_31 : g_5.2.1 ox 0 = .ref tp := (Sm.v m_7 r_ox (by decide) rfl k_tp)
  have kn_32 : g_5.2.1 ox 1 = .ref nw := (Sm.v m_7 r_ox (by decide) rfl k_nw)
  have kn_33 : g_5.2.1 ox 2 = .ref rl := (Sm.v m_7 r_ox (by decide) rfl k_rl)
  have kn_34 : g_5.2.1 tp 0 = .ref ba := (Sm.v m_7 r_tp (by decide) rfl k_ba)
  have kn_35 : g_5.2.1 om 28 = .ref ta := (Sm.v m_7 r_om (by decide) rfl k_ta)
  have kn_36 : g_5.2.1 om 42 = .ref wt := (Sm.v m_7 r_om (by decide) rfl k_wt)
  have kn_37 : g_5.2.1 nw 0 = .ref sa := (Sm.v m_7 r_nw (by decide) rfl k_sa)
  have kn_38 : g_5.2.1 om 1 = .ref aa := (Sm.v m_7 r_om (by decide) rfl k_aa)
  have kn_39 : g_5.2.1 om 2 = .ref wo := (Sm.v m_7 r_om (by decide) rfl k_wo)
  have kn_40 : g_5.2.1 om 3 = .ref pl := (Sm.v m_7 r_om (by decide) rfl k_pl)
  have kn_41 : g_5.2.1 om 4 = .ref wr := (Sm.v m_7 r_om (by decide) rfl k_wr)
  have kn_42 : g_5.2.1 tp 1 = .int tz := (Sm.v m_7 r_tp (by decide) rfl kc_tz)
  have kn_43 : g_5.2.1 om 29 = .int tz := (Sm.v m_7 r_om (by decide) rfl km_tz)
  have kn_44 : g_5.2.1 nw 1 = .int sv := (Sm.v m_7 r_nw (by decide) rfl kc_sv)
  have kn_45 : g_5.2.1 om 0 = .int sv := (Sm.v m_7 r_om (by decide) rfl km_sv)
  have kn_46 : g_5.2.1 rl 3 = .int rz := (Sm.v m_7 r_rl (by decide) rfl kc_rz)
  have kn_47 : g_5.2.1 om 30 = .int rz := (Sm.v m_7 r_om (by decide) rfl km_rz)
  refine W.eq (g2 := F0 m 372 ls [.int r_6]) rfl ?_
  refine lv_pop hx hb dL_law_372 rfl ?_
  refine lv_aload_n hx hb dL_law_373 rfl (lv_at hl 1 rfl) ?_
  refine lv_aload_n hx hb dL_law_374 rfl (lv_at hl 3 rfl) ?_
  refine lv_iload_n hx hb dL_law_375 rfl (lv_at hl 0 rfl) ?_
  refine lv_iconst (v := 1) hx hb dL_law_376 (by decide) ?_
  refine lv_iadd hx hb dL_law_377 ?_
  refine lv_topi (fun z_48 ez_48 => ?_)
  have e_z_48 : z_48.toInt = i.toInt + 1 := i_add ez_48 rfl (by decide) (by omega) (by omega)
  refine va_sld hx hb hX hbl (fun q => by have q_ : N0.1 ≤ b := q; omega) hT.2 (i_in (n := L) rfl (by omega) (by omega)) dL_law_378 ?_
  refine lv_topi (fun u_49 e_u_49 => ?_)
  refine lv_aload_n hx hb dL_law_379 rfl (lv_at hl 3 rfl) ?_
  refine lv_iload_n hx hb dL_law_380 rfl (lv_at hl 0 rfl) ?_
  refine lv_iconst (v := 2) hx hb dL_law_381 (by decide) ?_
  refine lv_iadd hx hb dL_law_382 ?_
  refine lv_topi (fun z_50 ez_50 => ?_)
  have e_z_50 : z_50.toInt = i.toInt + 2 := i_add ez_50 rfl (by decide) (by omega) (by omega)
  refine va_sld hx hb hX hbl (fun q => by have q_ : N0.1 ≤ b := q; omega) hT.2 (i_in (n := L) rfl (by omega) (by omega)) dL_law_383 ?_
  refine lv_topi (fun u_51 e_u_51 => ?_)
  refine t_callV (n := 2) (As := [.int u_49, .int u_51]) (rest := []) (ci := 7) hB hT hl.1 (m_about l D cI cZ cS cR N0 g_5 hI om u_49 u_51 r_10) (ro_ci r_10 rfl) rfl k_1011 k_65 k_1008 k_1009 k_1010 (by decide +kernel) ⟨(Nat.le_of_ble_eq_true rfl), (Nat.le_of_ble_eq_true rfl)⟩ rfl (Nat.le_of_ble_eq_true rfl) ⟨(by show _ ≤ _; first | exact Nat.le_of_ble_eq_true rfl | (simp only [room_1]; omega)), (by show _ ≤ _; first | exact Nat.le_of_ble_eq_true rfl | (simp only [room_1]; omega))⟩ dL_law_384 (fun v g_52 H locs hp hT => ?_)
  obtain ⟨r_53, rfl, hI, x_55, m_54⟩ := hp
  have hw : PX 48 2 3 71 72 g_52 om := hw.mono m_54 x_55 r_10 (by decide) (by decide) rfl rfl rfl rfl
  have hN0 : PX 8 39 40 84 85 g_52 om := hN0.mono m_54 x_55 r_10 (by decide) (by decide) rfl rfl rfl rfl
  have hTE : TE g_52 ba ta tz.toInt := hTE.sm m_54 r_14 (by decide) rfl r_15 (by decide) rfl
  have hWT : WT g_52 wt := hWT.sm m_54 r_16 (by decide) rfl
  have hPI : PGI g_52 sa aa wo pl wr sv.toInt := hPI.go (PK.sm m_54 x_55 r_17 rfl rfl rfl rfl rfl rfl rfl rfl rfl) (Sm.cf m_54 r_18 (by decide) rfl) (Sm.cf m_54 r_19 (by decide) rfl) (Sm.cf m_54 r_20 (by decide) rfl) (Sm.cf m_54 r_21 (by decide) rfl)
  have hM : Sm mdA g g_52 := sm_all
  have hE : Ex g g_52 := hE.tr x_55
  have r_56 : g_52.1 ox = 7 := (Ex.r x_55 r_9 (by decide))
  have r_57 : g_52.1 om = 8 := (Ex.r x_55 r_10 (by decide))
  have r_58 : g_52.1 tp = 5 := (Ex.r x_55 r_11 (by decide))
  have r_59 : g_52.1 nw = 19 := (Ex.r x_55 r_12 (by decide))
  have r_60 : g_52.1 rl = 1 := (Ex.r x_55 r_13 (by decide))
  have r_61 : g_52.1 ba = 67 := (Ex.r x_55 r_14 (by decide))
  have r_62 : g_52.1 ta = 79 := (Ex.r x_55 r_15 (by decide))
  have r_63 : g_52.1 wt = 87 := (Ex.r x_55 r_16 (by decide))
  have r_64 : g_52.1 sa = 42 := (Ex.r x_55 r_17 (by decide))
  have r_65 : g_52.1 aa = 88 := (Ex.r x_55 r_18 (by decide))
  have r_66 : g_52.1 wo = 71 := (Ex.r x_55 r_19 (by decide))
  have r_67 : g_52.1 pl = 72 := (Ex.r x_55 r_20 (by decide))
  have r_68 : g_52.1 wr = 73 := (Ex.r x_55 r_21 (by decide))
  have n_69 : g_52.2.2.1 ba = 100 := (Ex.n x_55 r_14 (by decide) n_22)
  have n_70 : g_52.2.2.1 ta = 100 := (Ex.n x_55 r_15 (by decide) n_23)
  have n_71 : g_52.2.2.1 wt = 24 := (Ex.n x_55 r_16 (by decide) n_24)
  have n_72 : g_52.2.2.1 sa = 6 := (Ex.n x_55 r_17 (by decide) n_25)
  have n_73 : g_52.2.2.1 aa = 6 := (Ex.n x_55 r_18 (by decide) n_26)
  have n_74 : g_52.2.2.1 wo = 48 := (Ex.n x_55 r_19 (by decide) n_27)
  have n_75 : g_52.2.2.1 pl = 48 := (Ex.n x_55 r_20 (by decide) n_28)
  have n_76 : g_52.2.2.1 wr = 48 := (Ex.n x_55 r_21 (by decide) n_29)
  have kn_77 : g_52.2.1 om 22 = .int o1 := (Sm.v m_54 r_10 (by decide) rfl kn_30)
  have kn_78 : g_52.2.1 ox 0 = .ref tp := (Sm.v m_54 r_9 (by decide) rfl kn_31)
  have kn_79 : g_52.2.1 ox 1 = .ref nw := (Sm.v m_54 r_9 (by decide) rfl kn_32)
  have kn_80 : g_52.2.1 ox 2 = .ref rl := (Sm.v m_54 r_9 (by decide) rfl kn_33)
  have kn_81 : g_52.2.1 tp 0 = .ref ba := (Sm.v m_54 r_11 (by decide) rfl kn_34)
  have kn_82 : g_52.2.1 om 28 = .ref ta := (Sm.v m_54 r_10 (by decide) rfl kn_35)
  have kn_83 : g_52.2.1 om 42 = .ref wt := (Sm.v m_54 r_10 (by decide) rfl kn_36)
  have kn_84 : g_52.2.1 nw 0 = .ref sa := (Sm.v m_54 r_12 (by decide) rfl kn_37)
  have kn_85 : g_52.2.1 om 1 = .ref aa := (Sm.v m_54 r_10 (by decide) rfl kn_38)
  have kn_86 : g_52.2.1 om 2 = .ref wo := (Sm.v m_54 r_10 (by decide) rfl kn_39)
  have kn_87 : g_52.2.1 om 3 = .ref pl := (Sm.v m_54 r_10 (by decide) rfl kn_40)
  have kn_88 : g_52.2.1 om 4 = .ref wr := (Sm.v m_54 r_10 (by decide) rfl kn_41)
  have kn_89 : g_52.2.1 tp 1 = .int tz := (Sm.v m_54 r_11 (by decide) rfl kn_42)
  have kn_90 : g_52.2.1 om 29 = .int tz := (Sm.v m_54 r_10 (by decide) rfl kn_43)
  have kn_91 : g_52.2.1 nw 1 = .int sv := (Sm.v m_54 r_12 (by decide) rfl kn_44)
  have kn_92 : g_52.2.1 om 0 = .int sv := (Sm.v m_54 r_10 (by decide) rfl kn_45)
  have kn_93 : g_52.2.1 rl 3 = .int rz := (Sm.v m_54 r_13 (by decide) rfl kn_46)
  have kn_94 : g_52.2.1 om 30 = .int rz := (Sm.v m_54 r_10 (by decide) rfl kn_47)
  refine W.eq (g2 := F0 m 387 ls [.int r_53]) rfl ?_
  refine lv_pop hx hb dL_law_387 rfl ?_
  refine lv_goto (tgt := 829) hx hb dL_law_388 (by decide) ?_
  refine W.widen (k := cells + 4) (n := slots + 28) (by omega) (by omega) ?_
  exact K g_52 o1 tz sv rz H locs hT hI r_56 r_57 kn_77 (by have e0_ : (0 : Int32).toInt = 0 := (by decide); omega) (by have e0_ : (0 : Int32).toInt = 0 := (by decide); omega) hw hN0 kn_78 r_58 kn_79 r_59 kn_80 r_60 kn_81 r_61 n_69 kn_82 r_62 n_70 kn_83 r_63 n_71 kn_84 r_64 n_72 kn_85 r_65 n_73 kn_86 r_66 n_74 kn_87 r_67 n_75 kn_88 r_68 n_76 kn_89 kn_90 (by have e0_ : (0 : Int32).toInt = 0 := (by decide); omega) (by have e0_ : (0 : Int32).toInt = 0 := (by decide); omega) kn_91 kn_92 (by have e0_ : (0 : Int32).toInt = 0 := (by decide); omega) (by have e0_ : (0 : Int32).toInt = 0 := (by decide); omega) kn_93 kn_94 (by have e0_ : (0 : Int32).toInt = 0 := (by decide); omega) (by have e0_ : (0 : Int32).toInt = 0 := (by decide); omega) hTE hWT hPI
set_option maxHeartbeats 4000000 in
set_option maxRecDepth 100000 in
/-- act -/
theorem law_7 {p : Program} {l : Launch} {e : Env} {s : State} {m : MethodId} {below : List Frame} {meth : Method} {c : Code} {D : va_G} {cI cZ cS cR : ClassId} {N0 : NT} {b L : Nat} {xs : Nat → Int32} (hB : Tz p s m meth c #[Value.ref b] code 4 RL D cI cZ cS cR N0) (hAs : N0.1 = s.heap.size) (hX : va_X b L xs s s.heap) (hbl : b < s.heap.size) (hL : L ≤ 2560) (hr : meth.sig.returnType = ret) {cells slots : Nat} (hcl : cells + 4 ≤ 600000) (hsl : slots + 28 ≤ 7302250) {H : Heap} {locs : List Loc} {ls : Array Slot} (g : GS) (ox om : Nat) (tp : Nat) (nw : Nat) (rl : Nat) (ba : Nat) (ta : Nat) (wt : Nat) (sa : Nat) (aa : Nat) (wo : Nat) (pl : Nat) (wr : Nat) (i o1 tz sv rz : Int32) (hT : Tv D cI cZ cS cR N0 s.heap H locs g) (hI : Inv g) (l_i : 0 ≤ i.toInt) (u_i : i.toInt + 5 ≤ L) : g.1 ox = 7 → g.1 om = 8 → g.2.1 om 22 = .int o1 → 0 ≤ o1.toInt → o1.toInt ≤ 12 * i.toInt → PX 48 2 3 71 72 g om → PX 8 39 40 84 85 g om → g.2.1 ox 0 = .ref tp → g.1 tp = 5 → g.2.1 ox 1 = .ref nw → g.1 nw = 19 → g.2.1 ox 2 = .ref rl → g.1 rl = 1 → g.2.1 tp 0 = .ref ba → g.1 ba = 67 → g.2.2.1 ba = 100 → g.2.1 om 28 = .ref ta → g.1 ta = 79 → g.2.2.1 ta = 100 → g.2.1 om 42 = .ref wt → g.1 wt = 87 → g.2.2.1 wt = 24 → g.2.1 nw 0 = .ref sa → g.1 sa = 42 → g.2.2.1 sa = 6 → g.2.1 om 1 = .ref aa → g.1 aa = 88 → g.2.2.1 aa = 6 → g.2.1 om 2 = .ref wo → g.1 wo = 71 → g.2.2.1 wo = 48 → g.2.1 om 3 = .ref pl → g.1 pl = 72 → g.2.2.1 pl = 48 → g.2.1 om 4 = .ref wr → g.1 wr = 73 → g.2.2.1 wr = 48 → g.2.1 tp 1 = .int tz → g.2.1 om 29 = .int tz → 0 ≤ tz.toInt → tz.toInt ≤ 100 → g.2.1 nw 1 = .int sv → g.2.1 om 0 = .int sv → 0 ≤ sv.toInt → sv.toInt ≤ 6 → g.2.1 rl 3 = .int rz → g.2.1 om 30 = .int rz → 0 ≤ rz.toInt → rz.toInt ≤ 6 → TE g ba ta tz.toInt → WT g wt → PGI g sa aa wo pl wr sv.toInt → (hl : lv_has ls 4 [(3, .int i), (2, .ref om), (1, .ref ox), (0, .ref b)]) → (K : ∀ (g1 : GS) (o1_1 tz_1 sv_1 rz_1 : Int32) (H1 : Heap) (locs1 : List Loc), Tv D cI cZ cS cR N0 s.heap H1 locs1 g1 → Inv g1 → g1.1 ox = 7 → g1.1 om = 8 → g1.2.1 om 22 = .int o1_1 → 0 ≤ o1_1.toInt → o1_1.toInt ≤ 12 * i.toInt + 60 → PX 48 2 3 71 72 g1 om → PX 8 39 40 84 85 g1 om → g1.2.1 ox 0 = .ref tp → g1.1 tp = 5 → g1.2.1 ox 1 = .ref nw → g1.1 nw = 19 → g1.2.1 ox 2 = .ref rl → g1.1 rl = 1 → g1.2.1 tp 0 = .ref ba → g1.1 ba = 67 → g1.2.2.1 ba = 100 → g1.2.1 om 28 = .ref ta → g1.1 ta = 79 → g1.2.2.1 ta = 100 → g1.2.1 om 42 = .ref wt → g1.1 wt = 87 → g1.2.2.1 wt = 24 → g1.2.1 nw 0 = .ref sa → g1.1 sa = 42 → g1.2.2.1 sa = 6 → g1.2.1 om 1 = .ref aa → g1.1 aa = 88 → g1.2.2.1 aa = 6 → g1.2.1 om 2 = .ref wo → g1.1 wo = 71 → g1.2.2.1 wo = 48 → g1.2.1 om 3 = .ref pl → g1.1 pl = 72 → g1.2.2.1 pl = 48 → g1.2.1 om 4 = .ref wr → g1.1 wr = 73 → g1.2.2.1 wr = 48 → g1.2.1 tp 1 = .int tz_1 → g1.2.1 om 29 = .int tz_1 → 0 ≤ tz_1.toInt → tz_1.toInt ≤ 100 → g1.2.1 nw 1 = .int sv_1 → g1.2.1 om 0 = .int sv_1 → 0 ≤ sv_1.toInt → sv_1.toInt ≤ 6 → g1.2.1 rl 3 = .int rz_1 → g1.2.1 om 30 = .int rz_1 → 0 ≤ rz_1.toInt → rz_1.toInt ≤ 6 → TE g1 ba ta tz_1.toInt → WT g1 wt → PGI g1 sa aa wo pl wr sv_1.toInt → W p l e room_1 s m #[Value.ref b] below meth c H1 locs1 (cells + 4) (slots + 28) (lw_Z below #[Value.ref b] s) (F0 m 829 ls [])) → W p l e room_1 s m #[Value.ref b] below meth c H locs cells slots (lw_Z below #[Value.ref b] s) (F0 m 391 ls []) := by
  intro r_ox r_om ko l_o u_o hw hN0 k_tp r_tp k_nw r_nw k_rl r_rl k_ba r_ba n_ba k_ta r_ta n_ta k_wt r_wt n_wt k_sa r_sa n_sa k_aa r_aa n_aa k_wo r_wo n_wo k_pl r_pl n_pl k_wr r_wr n_wr kc_tz km_tz l_tz u_tz kc_sv km_sv l_sv u_sv kc_rz km_rz l_rz u_rz hTE hWT hPI hl K
  have hx := hB.1
  have hb := hB.2.1
  have hE : Ex g g := Ex.rf
  have hM : Sm mdA g g := sm_all
  have hTE0 := hTE
  have hI0_ := hI
  have hPI0_ := hPI
  refine lv_aload_n hx hb dL_law_391 rfl (lv_at hl 2 rfl) ?_
  refine lv_aload_n hx hb dL_law_392 rfl (lv_at hl 3 rfl) ?_
  refine lv_iload_n hx hb dL_law_393 rfl (lv_at hl 0 rfl) ?_
  refine lv_iconst (v := 1) hx hb dL_law_394 (by decide) ?_
  refine lv_iadd hx hb dL_law_395 ?_
  refine lv_topi (fun z_1 ez_1 => ?_)
  have e_z_1 : z_1.toInt = i.toInt + 1 := i_add ez_1 rfl (by decide) (by omega) (by omega)
  refine va_sld hx hb hX hbl (fun q => by have q_ : N0.1 ≤ b := q; omega) hT.2 (i_in (n := L) rfl (by omega) (by omega)) dL_law_396 ?_
  refine lv_topi (fun u_2 e_u_2 => ?_)
  refine lv_aload_n hx hb dL_law_397 rfl (lv_at hl 3 rfl) ?_
  refine lv_iload_n hx hb dL_law_398 rfl (lv_at hl 0 rfl) ?_
  refine lv_iconst (v := 2) hx hb dL_law_399 (by decide) ?_
  refine lv_iadd hx hb dL_law_400 ?_
  refine lv_topi (fun z_3 ez_3 => ?_)
  have e_z_3 : z_3.toInt = i.toInt + 2 := i_add ez_3 rfl (by decide) (by omega) (by omega)
  refine va_sld hx hb hX hbl (fun q => by have q_ : N0.1 ≤ b := q; omega) hT.2 (i_in (n := L) rfl (by omega) (by omega)) dL_law_401 ?_
  refine lv_topi (fun u_4 e_u_4 => ?_)
  refine lv_aload_n hx hb dL_law_402 rfl (lv_at hl 3 rfl) ?_
  refine lv_iload_n hx hb dL_law_403 rfl (lv_at hl 0 rfl) ?_
  refine lv_iconst (v := 3) hx hb dL_law_404 (by decide) ?_
  refine lv_iadd hx hb dL_law_405 ?_
  refine lv_topi (fun z_5 ez_5 => ?_)
  have e_z_5 : z_5.toInt = i.toInt + 3 := i_add ez_5 rfl (by decide) (by omega) (by omega)
  refine va_sld hx hb hX hbl (fun q => by have q_ : N0.1 ≤ b := q; omega) hT.2 (i_in (n := L) rfl (by omega) (by omega)) dL_law_406 ?_
  refine lv_topi (fun u_6 e_u_6 => ?_)
  refine t_callV (n := 3) (As := [.int u_2, .int u_4, .int u_6]) (rest := []) (ci := 6) hB hT hl.1 (P_act l D cI cZ cS cR N0 g hI ox u_2 u_4 u_6 nw sv sa r_ox r_nw r_sa n_sa k_nw kc_sv k_sa (by omega) (by omega)) (ro_ci r_ox rfl) rfl k_481 k_57 k_478 k_479 k_480 (by decide +kernel) ⟨(Nat.le_of_ble_eq_true rfl), (Nat.le_of_ble_eq_true rfl)⟩ rfl (Nat.le_of_ble_eq_true rfl) ⟨(by show _ ≤ _; first | exact Nat.le_of_ble_eq_true rfl | (simp only [room_1]; omega)), (by show _ ≤ _; first | exact Nat.le_of_ble_eq_true rfl | (simp only [room_1]; omega))⟩ dL_law_407 (fun v g_7 H locs hp hT => ?_)
  obtain ⟨r_8, rfl, hI, x_11, m_10, f_9⟩ := hp
  have hw : PX 48 2 3 71 72 g_7 om := hw.mono m_10 x_11 r_om (by decide) (by decide) rfl rfl rfl rfl
  have hN0 : PX 8 39 40 84 85 g_7 om := hN0.mono m_10 x_11 r_om (by decide) (by decide) rfl rfl rfl rfl
  have hTE : TE g_7 ba ta tz.toInt := hTE.sm m_10 r_ba (by decide) rfl r_ta (by decide) rfl
  have hWT : WT g_7 wt := hWT.sm m_10 r_wt (by decide) rfl
  have hPI : PGI g_7 sa aa wo pl wr sv.toInt := hPI.go (PK.sm m_10 x_11 r_sa rfl rfl rfl rfl rfl rfl rfl rfl rfl) (Sm.cf m_10 r_aa (by decide) rfl) (Sm.cf m_10 r_wo (by decide) rfl) (Sm.cf m_10 r_pl (by decide) rfl) (Sm.cf m_10 r_wr (by decide) rfl)
  have hM : Sm mdA g g_7 := sm_all
  have hE : Ex g g_7 := hE.tr x_11
  have r_12 : g_7.1 ox = 7 := (Ex.r x_11 r_ox (by decide))
  have r_13 : g_7.1 om = 8 := (Ex.r x_11 r_om (by decide))
  have r_14 : g_7.1 tp = 5 := (Ex.r x_11 r_tp (by decide))
  have r_15 : g_7.1 nw = 19 := (Ex.r x_11 r_nw (by decide))
  have r_16 : g_7.1 rl = 1 := (Ex.r x_11 r_rl (by decide))
  have r_17 : g_7.1 ba = 67 := (Ex.r x_11 r_ba (by decide))
  have r_18 : g_7.1 ta = 79 := (Ex.r x_11 r_ta (by decide))
  have r_19 : g_7.1 wt = 87 := (Ex.r x_11 r_wt (by decide))
  have r_20 : g_7.1 sa = 42 := (Ex.r x_11 r_sa (by decide))
  have r_21 : g_7.1 aa = 88 := (Ex.r x_11 r_aa (by decide))
  have r_22 : g_7.1 wo = 71 := (Ex.r x_11 r_wo (by decide))
  have r_23 : g_7.1 pl = 72 := (Ex.r x_11 r_pl (by decide))
  have r_24 : g_7.1 wr = 73 := (Ex.r x_11 r_wr (by decide))
  have n_25 : g_7.2.2.1 ba = 100 := (Ex.n x_11 r_ba (by decide) n_ba)
  have n_26 : g_7.2.2.1 ta = 100 := (Ex.n x_11 r_ta (by decide) n_ta)
  have n_27 : g_7.2.2.1 wt = 24 := (Ex.n x_11 r_wt (by decide) n_wt)
  have n_28 : g_7.2.2.1 sa = 6 := (Ex.n x_11 r_sa (by decide) n_sa)
  have n_29 : g_7.2.2.1 aa = 6 := (Ex.n x_11 r_aa (by decide) n_aa)
  have n_30 : g_7.2.2.1 wo = 48 := (Ex.n x_11 r_wo (by decide) n_wo)
  have n_31 : g_7.2.2.1 pl = 48 := (Ex.n x_11 r_pl (by decide) n_pl)
  have n_32 : g_7.2.2.1 wr = 48 := (Ex.n x_11 r_wr (by decide) n_wr)
  have kn_33 : g_7.2.1 om 22 = .int o1 := (Sm.v m_10 r_om (by decide) rfl ko)
  have kn_34 : g_7.2.1 ox 0 = .ref tp := (Sm.v m_10 r_ox (by decide) rfl k_tp)
  have kn_35 : g_7.2.1 ox 1 = .ref nw := (Sm.v m_10 r_ox (by decide) rfl k_nw)
  have kn_36 : g_7.2.1 ox 2 = .ref rl := (Sm.v m_10 r_ox (by decide) rfl k_rl)
  have kn_37 : g_7.2.1 tp 0 = .ref ba := (Sm.v m_10 r_tp (by decide) rfl k_ba)
  have kn_38 : g_7.2.1 om 28 = .ref ta := (Sm.v m_10 r_om (by decide) rfl k_ta)
  have kn_39 : g_7.2.1 om 42 = .ref wt := (Sm.v m_10 r_om (by decide) rfl k_wt)
  have kn_40 : g_7.2.1 nw 0 = .ref sa := (Sm.v m_10 r_nw (by decide) rfl k_sa)
  have kn_41 : g_7.2.1 om 1 = .ref aa := (Sm.v m_10 r_om (by decide) rfl k_aa)
  have kn_42 : g_7.2.1 om 2 = .ref wo := (Sm.v m_10 r_om (by decide) rfl k_wo)
  have kn_43 : g_7.2.1 om 3 = .ref pl := (Sm.v m_10 r_om (by decide) rfl k_pl)
  have kn_44 : g_7.2.1 om 4 = .ref wr := (Sm.v m_10 r_om (by decide) rfl k_wr)
  have kn_45 : g_7.2.1 tp 1 = .int tz := (Sm.v m_10 r_tp (by decide) rfl kc_tz)
  have kn_46 : g_7.2.1 om 29 = .int tz := (Sm.v m_10 r_om (by decide) rfl km_tz)
  have kn_47 : g_7.2.1 nw 1 = .int sv := (Sm.v m_10 r_nw (by decide) rfl kc_sv)
  have kn_48 : g_7.2.1 om 0 = .int sv := (Sm.v m_10 r_om (by decide) rfl km_sv)
  have kn_49 : g_7.2.1 rl 3 = .int rz := (Sm.v m_10 r_rl (by decide) rfl kc_rz)
  have kn_50 : g_7.2.1 om 30 = .int rz := (Sm.v m_10 r_om (by decide) rfl km_rz)
  refine W.eq (g2 := F0 m 410 ls [.int r_8]) rfl ?_
  refine lv_aload_n hx hb dL_law_410 rfl (lv_at hl 1 rfl) ?_
  refine lv_aload_n hx hb dL_law_411 rfl (lv_at hl 3 rfl) ?_
  refine lv_iload_n hx hb dL_law_412 rfl (lv_at hl 0 rfl) ?_
  refine lv_iconst (v := 1) hx hb dL_law_413 (by decide) ?_
  refine lv_iadd hx hb dL_law_414 ?_
  refine lv_topi (fun z_51 ez_51 => ?_)
  have e_z_51 : z_51.toInt = i.toInt + 1 := i_add ez_51 rfl (by decide) (by omega) (by omega)
  refine va_sld hx hb hX hbl (fun q => by have q_ : N0.1 ≤ b := q; omega) hT.2 (i_in (n := L) rfl (by omega) (by omega)) dL_law_415 ?_
  refine lv_topi (fun u_52 e_u_52 => ?_)
  refine lv_aload_n hx hb dL_law_416 rfl (lv_at hl 3 rfl) ?_
  refine lv_iload_n hx hb dL_law_417 rfl (lv_at hl 0 rfl) ?_
  refine lv_iconst (v := 2) hx hb dL_law_418 (by decide) ?_
  refine lv_iadd hx hb dL_law_419 ?_
  refine lv_topi (fun z_53 ez_53 => ?_)
  have e_z_53 : z_53.toInt = i.toInt + 2 := i_add ez_53 rfl (by decide) (by omega) (by omega)
  refine va_sld hx hb hX hbl (fun q => by have q_ : N0.1 ≤ b := q; omega) hT.2 (i_in (n := L) rfl (by omega) (by omega)) dL_law_420 ?_
  refine lv_topi (fun u_54 e_u_54 => ?_)
  refine lv_aload_n hx hb dL_law_421 rfl (lv_at hl 3 rfl) ?_
  refine lv_iload_n hx hb dL_law_422 rfl (lv_at hl 0 rfl) ?_
  refine lv_iconst (v := 3) hx hb dL_law_423 (by decide) ?_
  refine lv_iadd hx hb dL_law_424 ?_
  refine lv_topi (fun z_55 ez_55 => ?_)
  have e_z_55 : z_55.toInt = i.toInt + 3 := i_add ez_55 rfl (by decide) (by omega) (by omega)
  refine va_sld hx hb hX hbl (fun q => by have q_ : N0.1 ≤ b := q; omega) hT.2 (i_in (n := L) rfl (by omega) (by omega)) dL_law_425 ?_
  refine lv_topi (fun u_56 e_u_56 => ?_)
  refine t_callV (n := 3) (As := [.int u_52, .int u_54, .int u_56]) (rest := [.int r_8]) (ci := 7) hB hT hl.1 (m_act l D cI cZ cS cR N0 g_7 hI om u_52 u_54 u_56 sv aa wo pl wr r_13 r_21 n_29 r_22 n_30 r_23 n_31 r_24 n_32 kn_48 kn_41 kn_42 kn_43 kn_44 (by omega) (by omega)) (ro_ci r_13 rfl) rfl k_1027 k_65 k_1024 k_1025 k_1026 (by decide +kernel) ⟨(Nat.le_of_ble_eq_true rfl), (Nat.le_of_ble_eq_true rfl)⟩ rfl (Nat.le_of_ble_eq_true rfl) ⟨(by show _ ≤ _; first | exact Nat.le_of_ble_eq_true rfl | (simp only [room_1]; omega)), (by show _ ≤ _; first | exact Nat.le_of_ble_eq_true rfl | (simp only [room_1]; omega))⟩ dL_law_426 (fun v g_57 H locs hp hT => ?_)
  obtain ⟨r_58, rfl, hI, x_61, m_60, f_59⟩ := hp
  have hw : PX 48 2 3 71 72 g_57 om := hw.mono m_60 x_61 r_13 (by decide) (by decide) rfl rfl rfl rfl
  have hN0 : PX 8 39 40 84 85 g_57 om := hN0.mono m_60 x_61 r_13 (by decide) (by decide) rfl rfl rfl rfl
  have hTE : TE g_57 ba ta tz.toInt := hTE.sm m_60 r_17 (by decide) rfl r_18 (by decide) rfl
  have hWT : WT g_57 wt := hWT.sm m_60 r_19 (by decide) rfl
  have hPI : PGI g_57 sa aa wo pl wr sv.toInt := hPI.go (PK.sm m_60 x_61 r_20 rfl rfl rfl rfl rfl rfl rfl rfl rfl) (Sm.cf m_60 r_21 (by decide) rfl) (Sm.cf m_60 r_22 (by decide) rfl) (Sm.cf m_60 r_23 (by decide) rfl) (Sm.cf m_60 r_24 (by decide) rfl)
  have hM : Sm mdA g g_57 := sm_all
  have hE : Ex g g_57 := hE.tr x_61
  have r_62 : g_57.1 ox = 7 := (Ex.r x_61 r_12 (by decide))
  have r_63 : g_57.1 om = 8 := (Ex.r x_61 r_13 (by decide))
  have r_64 : g_57.1 tp = 5 := (Ex.r x_61 r_14 (by decide))
  have r_65 : g_57.1 nw = 19 := (Ex.r x_61 r_15 (by decide))
  have r_66 : g_57.1 rl = 1 := (Ex.r x_61 r_16 (by decide))
  have r_67 : g_57.1 ba = 67 := (Ex.r x_61 r_17 (by decide))
  have r_68 : g_57.1 ta = 79 := (Ex.r x_61 r_18 (by decide))
  have r_69 : g_57.1 wt = 87 := (Ex.r x_61 r_19 (by decide))
  have r_70 : g_57.1 sa = 42 := (Ex.r x_61 r_20 (by decide))
  have r_71 : g_57.1 aa = 88 := (Ex.r x_61 r_21 (by decide))
  have r_72 : g_57.1 wo = 71 := (Ex.r x_61 r_22 (by decide))
  have r_73 : g_57.1 pl = 72 := (Ex.r x_61 r_23 (by decide))
  have r_74 : g_57.1 wr = 73 := (Ex.r x_61 r_24 (by decide))
  have n_75 : g_57.2.2.1 ba = 100 := (Ex.n x_61 r_17 (by decide) n_25)
  have n_76 : g_57.2.2.1 ta = 100 := (Ex.n x_61 r_18 (by decide) n_26)
  have n_77 : g_57.2.2.1 wt = 24 := (Ex.n x_61 r_19 (by decide) n_27)
  have n_78 : g_57.2.2.1 sa = 6 := (Ex.n x_61 r_20 (by decide) n_28)
  have n_79 : g_57.2.2.1 aa = 6 := (Ex.n x_61 r_21 (by decide) n_29)
  have n_80 : g_57.2.2.1 wo = 48 := (Ex.n x_61 r_22 (by decide) n_30)
  have n_81 : g_57.2.2.1 pl = 48 := (Ex.n x_61 r_23 (by decide) n_31)
  have n_82 : g_57.2.2.1 wr = 48 := (Ex.n x_61 r_24 (by decide) n_32)
  have kn_83 : g_57.2.1 om 22 = .int o1 := (Sm.v m_60 r_13 (by decide) rfl kn_33)
  have kn_84 : g_57.2.1 ox 0 = .ref tp := (Sm.v m_60 r_12 (by decide) rfl kn_34)
  have kn_85 : g_57.2.1 ox 1 = .ref nw := (Sm.v m_60 r_12 (by decide) rfl kn_35)
  have kn_86 : g_57.2.1 ox 2 = .ref rl := (Sm.v m_60 r_12 (by decide) rfl kn_36)
  have kn_87 : g_57.2.1 tp 0 = .ref ba := (Sm.v m_60 r_14 (by decide) rfl kn_37)
  have kn_88 : g_57.2.1 om 28 = .ref ta := (Sm.v m_60 r_13 (by decide) rfl kn_38)
  have kn_89 : g_57.2.1 om 42 = .ref wt := (Sm.v m_60 r_13 (by decide) rfl kn_39)
  have kn_90 : g_57.2.1 nw 0 = .ref sa := (Sm.v m_60 r_15 (by decide) rfl kn_40)
  have kn_91 : g_57.2.1 om 1 = .ref aa := (Sm.v m_60 r_13 (by decide) rfl kn_41)
  have kn_92 : g_57.2.1 om 2 = .ref wo := (Sm.v m_60 r_13 (by decide) rfl kn_42)
  have kn_93 : g_57.2.1 om 3 = .ref pl := (Sm.v m_60 r_13 (by decide) rfl kn_43)
  have kn_94 : g_57.2.1 om 4 = .ref wr := (Sm.v m_60 r_13 (by decide) rfl kn_44)
  have kn_95 : g_57.2.1 tp 1 = .int tz := (Sm.v m_60 r_14 (by decide) rfl kn_45)
  have kn_96 : g_57.2.1 om 29 = .int tz := (Sm.v m_60 r_13 (by decide) rfl kn_46)
  have kn_97 : g_57.2.1 nw 1 = .int sv := (Sm.v m_60 r_15 (by decide) rfl kn_47)
  have kn_98 : g_57.2.1 om 0 = .int sv := (Sm.v m_60 r_13 (by decide) rfl kn_48)
  have kn_99 : g_57.2.1 rl 3 = .int rz := (Sm.v m_60 r_16 (by decide) rfl kn_49)
  have kn_100 : g_57.2.1 om 30 = .int rz := (Sm.v m_60 r_13 (by decide) rfl kn_50)
  refine W.eq (g2 := F0 m 429 ls [.int r_58, .int r_8]) rfl ?_
  have eq_u_52 : u_52 = u_2 := e_u_52.trans ((congrArg xs (i_nt (by omega))).trans e_u_2.symm)
  have eqi_u_52 : u_52.toInt = u_2.toInt := congrArg Int32.toInt eq_u_52
  have eq_u_54 : u_54 = u_4 := e_u_54.trans ((congrArg xs (i_nt (by omega))).trans e_u_4.symm)
  have eqi_u_54 : u_54.toInt = u_4.toInt := congrArg Int32.toInt eq_u_54
  have eq_u_56 : u_56 = u_6 := e_u_56.trans ((congrArg xs (i_nt (by omega))).trans e_u_6.symm)
  have eqi_u_56 : u_56.toInt = u_6.toInt := congrArg Int32.toInt eq_u_56
  have ham_ := f_59
  rw [eq_u_52] at ham_
  rw [eq_u_54] at ham_
  rw [eq_u_56] at ham_
  unfold amR at ham_
  rw [Sm.cf m_10 r_wo (by decide) rfl, Sm.cf m_10 r_pl (by decide) rfl, Sm.cf m_10 r_wr (by decide) rfl, Sm.cf m_10 r_aa (by decide) rfl] at ham_
  refine lv_icmp_eq (tgt := 829) hx hb dL_law_429 (by decide) (fun c_ => ?_) (fun c_ => absurd (PGI.act hPI0_ f_9 ham_) c_)
  refine W.widen (k := cells + 4) (n := slots + 28) (by omega) (by omega) ?_
  exact K g_57 o1 tz sv rz H locs hT hI r_62 r_63 kn_83 (by have e0_ : (0 : Int32).toInt = 0 := (by decide); omega) (by have e0_ : (0 : Int32).toInt = 0 := (by decide); omega) hw hN0 kn_84 r_64 kn_85 r_65 kn_86 r_66 kn_87 r_67 n_75 kn_88 r_68 n_76 kn_89 r_69 n_77 kn_90 r_70 n_78 kn_91 r_71 n_79 kn_92 r_72 n_80 kn_93 r_73 n_81 kn_94 r_74 n_82 kn_95 kn_96 (by have e0_ : (0 : Int32).toInt = 0 := (by decide); omega) (by have e0_ : (0 : Int32).toInt = 0 := (by decide); omega) kn_97 kn_98 (by have e0_ : (0 : Int32).toInt = 0 := (by decide); omega) (by have e0_ : (0 : Int32).toInt = 0 := (by decide); omega) kn_99 kn_100 (by have e0_ : (0 : Int32).toInt = 0 := (by decide); omega) (by have e0_ : (0 : Int32).toInt = 0 := (by decide); omega) hTE hWT hPI
