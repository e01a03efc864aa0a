theorem k_482 : Cond.methodLink RL 52 yX6_call ∈ tb := mt 482 (by decide +kernel) rfl
theorem k_483 : Cond.instanceMethod yX6_call ∈ tb := mt 483 (by decide +kernel) rfl
theorem k_484 : Cond.selects RX6 yX6_call yX6_call ∈ tb := mt 484 (by decide +kernel) rfl
set_option maxRecDepth 20000 in
theorem k_485 : Cond.code yX6_call cX6_call 5 (some .int) ∈ tb := mt 485 rfl rfl
theorem k_555 : Cond.methodLink RL 57 yX6_outside ∈ tb := mt 555 (by decide +kernel) rfl
theorem k_556 : Cond.instanceMethod yX6_outside ∈ tb := mt 556 (by decide +kernel) rfl
theorem k_557 : Cond.selects RX6 yX6_outside yX6_outside ∈ tb := mt 557 (by decide +kernel) rfl
set_option maxRecDepth 20000 in
theorem k_558 : Cond.code yX6_outside cX6_outside 2 (some .int) ∈ tb := mt 558 rfl rfl
theorem k_562 : Cond.methodLink RL 61 yX6_row ∈ tb := mt 562 (by decide +kernel) rfl
theorem k_563 : Cond.instanceMethod yX6_row ∈ tb := mt 563 (by decide +kernel) rfl
theorem k_564 : Cond.selects RX6 yX6_row yX6_row ∈ tb := mt 564 (by decide +kernel) rfl
set_option maxRecDepth 20000 in
theorem k_565 : Cond.code yX6_row cX6_row 4 (some .int) ∈ tb := mt 565 rfl rfl
theorem k_566 : Cond.methodLink RL 65 yX6_clear ∈ tb := mt 566 (by decide +kernel) rfl
theorem k_567 : Cond.instanceMethod yX6_clear ∈ tb := mt 567 (by decide +kernel) rfl
theorem k_568 : Cond.selects RX6 yX6_clear yX6_clear ∈ tb := mt 568 (by decide +kernel) rfl
set_option maxRecDepth 20000 in
theorem k_569 : Cond.code yX6_clear cX6_clear 2 (some .int) ∈ tb := mt 569 rfl rfl
theorem k_1028 : Cond.methodLink RL 56 yX7_call ∈ tb := mt 1028 (by decide +kernel) rfl
theorem k_1029 : Cond.instanceMethod yX7_call ∈ tb := mt 1029 (by decide +kernel) rfl
theorem k_1030 : Cond.selects RX7 yX7_call yX7_call ∈ tb := mt 1030 (by decide +kernel) rfl
set_option maxRecDepth 20000 in
theorem k_1031 : Cond.code yX7_call cX7_call 6 (some .int) ∈ tb := mt 1031 rfl rfl
theorem k_1080 : Cond.methodLink RL 60 yX7_outside ∈ tb := mt 1080 (by decide +kernel) rfl
theorem k_1081 : Cond.instanceMethod yX7_outside ∈ tb := mt 1081 (by decide +kernel) rfl
theorem k_1082 : Cond.selects RX7 yX7_outside yX7_outside ∈ tb := mt 1082 (by decide +kernel) rfl
set_option maxRecDepth 20000 in
theorem k_1083 : Cond.code yX7_outside cX7_outside 2 (some .int) ∈ tb := mt 1083 rfl rfl
theorem k_1084 : Cond.methodLink RL 64 yX7_row ∈ tb := mt 1084 (by decide +kernel) rfl
theorem k_1085 : Cond.instanceMethod yX7_row ∈ tb := mt 1085 (by decide +kernel) rfl
theorem k_1086 : Cond.selects RX7 yX7_row yX7_row ∈ tb := mt 1086 (by decide +kernel) rfl
set_option maxRecDepth 20000 in
theorem k_1087 : Cond.code yX7_row cX7_row 4 (some .int) ∈ tb := mt 1087 rfl rfl
theorem k_1088 : Cond.methodLink RL 68 yX7_clear ∈ tb := mt 1088 (by decide +kernel) rfl
theorem k_1089 : Cond.instanceMethod yX7_clear ∈ tb := mt 1089 (by decide +kernel) rfl
theorem k_1090 : Cond.selects RX7 yX7_clear yX7_clear ∈ tb := mt 1090 (by decide +kernel) rfl
set_option maxRecDepth 20000 in
theorem k_1091 : Cond.code yX7_clear cX7_clear 2 (some .int) ∈ tb := mt 1091 rfl rfl
theorem dL_law_434 : decode cL_law 434 = .ok (.aload_n 1, 1) := by decide +kernel
theorem dL_law_435 : decode cL_law 435 = .ok (.aload_n 0, 1) := by decide +kernel
theorem dL_law_436 : decode cL_law 436 = .ok (.iload_n 3, 1) := by decide +kernel
theorem dL_law_437 : decode cL_law 437 = .ok (.iconst 1, 1) := by decide +kernel
theorem dL_law_438 : decode cL_law 438 = .ok (.iadd, 1) := by decide +kernel
theorem dL_law_439 : decode cL_law 439 = .ok (.iaload, 1) := by decide +kernel
theorem dL_law_440 : decode cL_law 440 = .ok (.aload_n 0, 1) := by decide +kernel
theorem dL_law_441 : decode cL_law 441 = .ok (.iload_n 3, 1) := by decide +kernel
theorem dL_law_442 : decode cL_law 442 = .ok (.iconst 2, 1) := by decide +kernel
theorem dL_law_443 : decode cL_law 443 = .ok (.iadd, 1) := by decide +kernel
theorem dL_law_444 : decode cL_law 444 = .ok (.iaload, 1) := by decide +kernel
theorem dL_law_445 : decode cL_law 445 = .ok (.aload_n 0, 1) := by decide +kernel
theorem dL_law_446 : decode cL_law 446 = .ok (.iload_n 3, 1) := by decide +kernel
theorem dL_law_447 : decode cL_law 447 = .ok (.iconst 3, 1) := by decide +kernel
theorem dL_law_448 : decode cL_law 448 = .ok (.iadd, 1) := by decide +kernel
theorem dL_law_449 : decode cL_law 449 = .ok (.iaload, 1) := by decide +kernel
theorem dL_law_450 : decode cL_law 450 = .ok (.aload_n 0, 1) := by decide +kernel
theorem dL_law_451 : decode cL_law 451 = .ok (.iload_n 3, 1) := by decide +kernel
theorem dL_law_452 : decode cL_law 452 = .ok (.iconst 4, 1) := by decide +kernel
theorem dL_law_453 : decode cL_law 453 = .ok (.iadd, 1) := by decide +kernel
theorem dL_law_454 : decode cL_law 454 = .ok (.iaload, 1) := by decide +kernel
theorem dL_law_455 : decode cL_law 455 = .ok (.invokevirtual 52, 3) := by decide +kernel
theorem dL_law_458 : decode cL_law 458 = .ok (.pop, 1) := by decide +kernel
theorem dL_law_459 : decode cL_law 459 = .ok (.aload_n 2, 1) := by decide +kernel
theorem dL_law_460 : decode cL_law 460 = .ok (.aload_n 0, 1) := by decide +kernel
theorem dL_law_461 : decode cL_law 461 = .ok (.iload_n 3, 1) := by decide +kernel
theorem dL_law_462 : decode cL_law 462 = .ok (.iconst 1, 1) := by decide +kernel
theorem dL_law_463 : decode cL_law 463 = .ok (.iadd, 1) := by decide +kernel
theorem dL_law_464 : decode cL_law 464 = .ok (.iaload, 1) := by decide +kernel
theorem dL_law_465 : decode cL_law 465 = .ok (.aload_n 0, 1) := by decide +kernel
theorem dL_law_466 : decode cL_law 466 = .ok (.iload_n 3, 1) := by decide +kernel
theorem dL_law_467 : decode cL_law 467 = .ok (.iconst 2, 1) := by decide +kernel
theorem dL_law_468 : decode cL_law 468 = .ok (.iadd, 1) := by decide +kernel
theorem dL_law_469 : decode cL_law 469 = .ok (.iaload, 1) := by decide +kernel
theorem dL_law_470 : decode cL_law 470 = .ok (.aload_n 0, 1) := by decide +kernel
theorem dL_law_471 : decode cL_law 471 = .ok (.iload_n 3, 1) := by decide +kernel
theorem dL_law_472 : decode cL_law 472 = .ok (.iconst 3, 1) := by decide +kernel
theorem dL_law_473 : decode cL_law 473 = .ok (.iadd, 1) := by decide +kernel
theorem dL_law_474 : decode cL_law 474 = .ok (.iaload, 1) := by decide +kernel
theorem dL_law_475 : decode cL_law 475 = .ok (.aload_n 0, 1) := by decide +kernel
theorem dL_law_476 : decode cL_law 476 = .ok (.iload_n 3, 1) := by decide +kernel
theorem dL_law_477 : decode cL_law 477 = .ok (.iconst 4, 1) := by decide +kernel
theorem dL_law_478 : decode cL_law 478 = .ok (.iadd, 1) := by decide +kernel
theorem dL_law_479 : decode cL_law 479 = .ok (.iaload, 1) := by decide +kernel
theorem dL_law_480 : decode cL_law 480 = .ok (.invokevirtual 56, 3) := by decide +kernel
theorem dL_law_483 : decode cL_law 483 = .ok (.pop, 1) := by decide +kernel
theorem dL_law_484 : decode cL_law 484 = .ok (.goto 345, 3) := by decide +kernel
theorem dL_law_487 : decode cL_law 487 = .ok (.aload_n 1, 1) := by decide +kernel
theorem dL_law_488 : decode cL_law 488 = .ok (.aload_n 0, 1) := by decide +kernel
theorem dL_law_489 : decode cL_law 489 = .ok (.iload_n 3, 1) := by decide +kernel
theorem dL_law_490 : decode cL_law 490 = .ok (.iconst 1, 1) := by decide +kernel
theorem dL_law_491 : decode cL_law 491 = .ok (.iadd, 1) := by decide +kernel
theorem dL_law_492 : decode cL_law 492 = .ok (.iaload, 1) := by decide +kernel
theorem dL_law_493 : decode cL_law 493 = .ok (.invokevirtual 57, 3) := by decide +kernel
theorem dL_law_496 : decode cL_law 496 = .ok (.pop, 1) := by decide +kernel
theorem dL_law_497 : decode cL_law 497 = .ok (.aload_n 2, 1) := by decide +kernel
theorem dL_law_498 : decode cL_law 498 = .ok (.aload_n 0, 1) := by decide +kernel
theorem dL_law_499 : decode cL_law 499 = .ok (.iload_n 3, 1) := by decide +kernel
theorem dL_law_500 : decode cL_law 500 = .ok (.iconst 1, 1) := by decide +kernel
theorem dL_law_501 : decode cL_law 501 = .ok (.iadd, 1) := by decide +kernel
theorem dL_law_502 : decode cL_law 502 = .ok (.iaload, 1) := by decide +kernel
theorem dL_law_503 : decode cL_law 503 = .ok (.invokevirtual 60, 3) := by decide +kernel
theorem dL_law_506 : decode cL_law 506 = .ok (.pop, 1) := by decide +kernel
theorem dL_law_507 : decode cL_law 507 = .ok (.goto 322, 3) := by decide +kernel
theorem dL_law_510 : decode cL_law 510 = .ok (.aload_n 1, 1) := by decide +kernel
theorem dL_law_511 : decode cL_law 511 = .ok (.aload_n 0, 1) := by decide +kernel
theorem dL_law_512 : decode cL_law 512 = .ok (.iload_n 3, 1) := by decide +kernel
theorem dL_law_513 : decode cL_law 513 = .ok (.iconst 1, 1) := by decide +kernel
theorem dL_law_514 : decode cL_law 514 = .ok (.iadd, 1) := by decide +kernel
theorem dL_law_515 : decode cL_law 515 = .ok (.iaload, 1) := by decide +kernel
theorem dL_law_516 : decode cL_law 516 = .ok (.aload_n 0, 1) := by decide +kernel
theorem dL_law_517 : decode cL_law 517 = .ok (.iload_n 3, 1) := by decide +kernel
theorem dL_law_518 : decode cL_law 518 = .ok (.iconst 2, 1) := by decide +kernel
theorem dL_law_519 : decode cL_law 519 = .ok (.iadd, 1) := by decide +kernel
theorem dL_law_520 : decode cL_law 520 = .ok (.iaload, 1) := by decide +kernel
theorem dL_law_521 : decode cL_law 521 = .ok (.aload_n 0, 1) := by decide +kernel
theorem dL_law_522 : decode cL_law 522 = .ok (.iload_n 3, 1) := by decide +kernel
theorem dL_law_523 : decode cL_law 523 = .ok (.iconst 3, 1) := by decide +kernel
theorem dL_law_524 : decode cL_law 524 = .ok (.iadd, 1) := by decide +kernel
theorem dL_law_525 : decode cL_law 525 = .ok (.iaload, 1) := by decide +kernel
theorem dL_law_526 : decode cL_law 526 = .ok (.invokevirtual 61, 3) := by decide +kernel
theorem dL_law_529 : decode cL_law 529 = .ok (.pop, 1) := by decide +kernel
theorem dL_law_530 : decode cL_law 530 = .ok (.aload_n 2, 1) := by decide +kernel
theorem dL_law_531 : decode cL_law 531 = .ok (.aload_n 0, 1) := by decide +kernel
theorem dL_law_532 : decode cL_law 532 = .ok (.iload_n 3, 1) := by decide +kernel
theorem dL_law_533 : decode cL_law 533 = .ok (.iconst 1, 1) := by decide +kernel
theorem dL_law_534 : decode cL_law 534 = .ok (.iadd, 1) := by decide +kernel
theorem dL_law_535 : decode cL_law 535 = .ok (.iaload, 1) := by decide +kernel
theorem dL_law_536 : decode cL_law 536 = .ok (.aload_n 0, 1) := by decide +kernel
theorem dL_law_537 : decode cL_law 537 = .ok (.iload_n 3, 1) := by decide +kernel
theorem dL_law_538 : decode cL_law 538 = .ok (.iconst 2, 1) := by decide +kernel
theorem dL_law_539 : decode cL_law 539 = .ok (.iadd, 1) := by decide +kernel
theorem dL_law_540 : decode cL_law 540 = .ok (.iaload, 1) := by decide +kernel
theorem dL_law_541 : decode cL_law 541 = .ok (.aload_n 0, 1) := by decide +kernel
theorem dL_law_542 : decode cL_law 542 = .ok (.iload_n 3, 1) := by decide +kernel
theorem dL_law_543 : decode cL_law 543 = .ok (.iconst 3, 1) := by decide +kernel
theorem dL_law_544 : decode cL_law 544 = .ok (.iadd, 1) := by decide +kernel
theorem dL_law_545 : decode cL_law 545 = .ok (.iaload, 1) := by decide +kernel
theorem dL_law_546 : decode cL_law 546 = .ok (.invokevirtual 64, 3) := by decide +kernel
theorem dL_law_549 : decode cL_law 549 = .ok (.pop, 1) := by decide +kernel
theorem dL_law_550 : decode cL_law 550 = .ok (.goto 279, 3) := by decide +kernel
theorem dL_law_553 : decode cL_law 553 = .ok (.aload_n 1, 1) := by decide +kernel
theorem dL_law_554 : decode cL_law 554 = .ok (.invokevirtual 65, 3) := by decide +kernel
theorem dL_law_557 : decode cL_law 557 = .ok (.pop, 1) := by decide +kernel
theorem dL_law_558 : decode cL_law 558 = .ok (.aload_n 2, 1) := by decide +kernel
theorem dL_law_559 : decode cL_law 559 = .ok (.invokevirtual 68, 3) := by decide +kernel
theorem dL_law_562 : decode cL_law 562 = .ok (.pop, 1) := by decide +kernel
theorem dL_law_563 : decode cL_law 563 = .ok (.goto 266, 3) := by decide +kernel
set_option maxHeartbeats 4000000 in
set_option maxRecDepth 100000 in
/-- call -/
theorem law_8 {p : Program} {l : Launch} {e : Env} {s : State} {m : MethodId} {below : List Frame} {meth : Method} {c : Code} {D : va_G} {cI cZ cS cR : ClassId} {N0 : NT} {b L : Nat} {xs : Nat → Int32} (hB : Tz p s m meth c #[Value.ref b] code 4 RL D cI cZ cS cR N0) (hAs : N0.1 = s.heap.size) (hX : va_X b L xs s s.heap) (hbl : b < s.heap.size) (hL : L ≤ 2560) (hr : meth.sig.returnType = ret) {cells slots : Nat} (hcl : cells + 4 ≤ 600000) (hsl : slots + 28 ≤ 7302250) {H : Heap} {locs : List Loc} {ls : Array Slot} (g : GS) (ox om : Nat) (tp : Nat) (nw : Nat) (rl : Nat) (lg : Nat) (ba : Nat) (ta : Nat) (wt : Nat) (y0 : Nat) (y1 : Nat) (y2 : Nat) (m0 : Nat) (m1 : Nat) (m2 : Nat) (i o1 tz sv rz lz : Int32) (hT : Tv D cI cZ cS cR N0 s.heap H locs g) (hI : Inv g) (l_i : 0 ≤ i.toInt) (u_i : i.toInt + 5 ≤ L) : g.1 ox = 7 → g.1 om = 8 → g.2.1 om 22 = .int o1 → 0 ≤ o1.toInt → o1.toInt ≤ 12 * i.toInt → PX 48 2 3 71 72 g om → PX 8 39 40 84 85 g om → g.2.1 ox 0 = .ref tp → g.1 tp = 5 → g.2.1 ox 1 = .ref nw → g.1 nw = 19 → g.2.1 ox 2 = .ref rl → g.1 rl = 1 → g.2.1 ox 3 = .ref lg → g.1 lg = 9 → g.2.1 tp 0 = .ref ba → g.1 ba = 67 → g.2.2.1 ba = 100 → g.2.1 om 28 = .ref ta → g.1 ta = 79 → g.2.2.1 ta = 100 → g.2.1 om 42 = .ref wt → g.1 wt = 87 → g.2.2.1 wt = 24 → g.2.1 lg 0 = .ref y0 → g.1 y0 = 64 → g.2.2.1 y0 = 20 → g.2.1 lg 1 = .ref y1 → g.1 y1 = 65 → g.2.2.1 y1 = 20 → g.2.1 lg 2 = .ref y2 → g.1 y2 = 66 → g.2.2.1 y2 = 20 → g.2.1 om 25 = .ref m0 → g.1 m0 = 76 → g.2.2.1 m0 = 20 → g.2.1 om 26 = .ref m1 → g.1 m1 = 77 → g.2.2.1 m1 = 20 → g.2.1 om 27 = .ref m2 → g.1 m2 = 78 → g.2.2.1 m2 = 20 → g.2.1 tp 1 = .int tz → g.2.1 om 29 = .int tz → 0 ≤ tz.toInt → tz.toInt ≤ 100 → g.2.1 nw 1 = .int sv → g.2.1 om 0 = .int sv → 0 ≤ sv.toInt → sv.toInt ≤ 6 → g.2.1 rl 3 = .int rz → g.2.1 om 30 = .int rz → 0 ≤ rz.toInt → rz.toInt ≤ 6 → g.2.1 lg 3 = .int lz → g.2.1 om 24 = .int lz → 0 ≤ lz.toInt → lz.toInt ≤ 20 → TE g ba ta tz.toInt → WT g wt → TE g y0 m0 lz.toInt → TE g y1 m1 lz.toInt → TE g y2 m2 lz.toInt → (hl : lv_has ls 4 [(3, .int i), (2, .ref om), (1, .ref ox), (0, .ref b)]) → (K : ∀ (g1 : GS) (o1_1 tz_1 sv_1 rz_1 lz_1 : Int32) (H1 : Heap) (locs1 : List Loc), Tv D cI cZ cS cR N0 s.heap H1 locs1 g1 → Inv g1 → g1.1 ox = 7 → g1.1 om = 8 → g1.2.1 om 22 = .int o1_1 → 0 ≤ o1_1.toInt → o1_1.toInt ≤ 12 * i.toInt + 60 → PX 48 2 3 71 72 g1 om → PX 8 39 40 84 85 g1 om → g1.2.1 ox 0 = .ref tp → g1.1 tp = 5 → g1.2.1 ox 1 = .ref nw → g1.1 nw = 19 → g1.2.1 ox 2 = .ref rl → g1.1 rl = 1 → g1.2.1 ox 3 = .ref lg → g1.1 lg = 9 → g1.2.1 tp 0 = .ref ba → g1.1 ba = 67 → g1.2.2.1 ba = 100 → g1.2.1 om 28 = .ref ta → g1.1 ta = 79 → g1.2.2.1 ta = 100 → g1.2.1 om 42 = .ref wt → g1.1 wt = 87 → g1.2.2.1 wt = 24 → g1.2.1 lg 0 = .ref y0 → g1.1 y0 = 64 → g1.2.2.1 y0 = 20 → g1.2.1 lg 1 = .ref y1 → g1.1 y1 = 65 → g1.2.2.1 y1 = 20 → g1.2.1 lg 2 = .ref y2 → g1.1 y2 = 66 → g1.2.2.1 y2 = 20 → g1.2.1 om 25 = .ref m0 → g1.1 m0 = 76 → g1.2.2.1 m0 = 20 → g1.2.1 om 26 = .ref m1 → g1.1 m1 = 77 → g1.2.2.1 m1 = 20 → g1.2.1 om 27 = .ref m2 → g1.1 m2 = 78 → g1.2.2.1 m2 = 20 → g1.2.1 tp 1 = .int tz_1 → g1.2.1 om 29 = .int tz_1 → 0 ≤ tz_1.toInt → tz_1.toInt ≤ 100 → g1.2.1 nw 1 = .int sv_1 → g1.2.1 om 0 = .int sv_1 → 0 ≤ sv_1.toInt → sv_1.toInt ≤ 6 → g1.2.1 rl 3 = .int rz_1 → g1.2.1 om 30 = .int rz_1 → 0 ≤ rz_1.toInt → rz_1.toInt ≤ 6 → g1.2.1 lg 3 = .int lz_1 → g1.2.1 om 24 = .int lz_1 → 0 ≤ lz_1.toInt → lz_1.toInt ≤ 20 → TE g1 ba ta tz_1.toInt → WT g1 wt → TE g1 y0 m0 lz_1.toInt → TE g1 y1 m1 lz_1.toInt → TE g1 y2 m2 lz_1.toInt → W p l e room_1 s m #[Value.ref b] below meth c H1 locs1 (cells + 4) (slots + 28) (lw_Z below #[Value.ref b] s) (F0 m 829 ls [])) → W p l e room_1 s m #[Value.ref b] below meth c H locs cells slots (lw_Z below #[Value.ref b] s) (F0 m 434 ls []) := by
  intro r_ox r_om ko l_o u_o hw hN0 k_tp r_tp k_nw r_nw k_rl r_rl k_lg r_lg k_ba r_ba n_ba k_ta r_ta n_ta k_wt r_wt n_wt k_y0 r_y0 n_y0 k_y1 r_y1 n_y1 k_y2 r_y2 n_y2 k_m0 r_m0 n_m0 k_m1 r_m1 n_m1 k_m2 r_m2 n_m2 kc_tz km_tz l_tz u_tz kc_sv km_sv l_sv u_sv kc_rz km_rz l_rz u_rz kc_lz km_lz l_lz u_lz hTE hWT hL0 hL1 hL2 hl K
  have hx := hB.1
  have hb := hB.2.1
  have hE : Ex g g := Ex.rf
  have hM : Sm mdA g g := sm_all
  have hTE0 := hTE
  have hL00 := hL0
  have hL10 := hL1
  have hL20 := hL2
  refine lv_aload_n hx hb dL_law_434 rfl (lv_at hl 2 rfl) ?_
  refine lv_aload_n hx hb dL_law_435 rfl (lv_at hl 3 rfl) ?_
  refine lv_iload_n hx hb dL_law_436 rfl (lv_at hl 0 rfl) ?_
  refine lv_iconst (v := 1) hx hb dL_law_437 (by decide) ?_
  refine lv_iadd hx hb dL_law_438 ?_
  refine lv_topi (fun z_1 ez_1 => ?_)
  have e_z_1 : z_1.toInt = i.toInt + 1 := i_add ez_1 rfl (by decide) (by omega) (by omega)
  refine va_sld hx hb hX hbl (fun q => by have q_ : N0.1 ≤ b := q; omega) hT.2 (i_in (n := L) rfl (by omega) (by omega)) dL_law_439 ?_
  refine lv_topi (fun u_2 e_u_2 => ?_)
  refine lv_aload_n hx hb dL_law_440 rfl (lv_at hl 3 rfl) ?_
  refine lv_iload_n hx hb dL_law_441 rfl (lv_at hl 0 rfl) ?_
  refine lv_iconst (v := 2) hx hb dL_law_442 (by decide) ?_
  refine lv_iadd hx hb dL_law_443 ?_
  refine lv_topi (fun z_3 ez_3 => ?_)
  have e_z_3 : z_3.toInt = i.toInt + 2 := i_add ez_3 rfl (by decide) (by omega) (by omega)
  refine va_sld hx hb hX hbl (fun q => by have q_ : N0.1 ≤ b := q; omega) hT.2 (i_in (n := L) rfl (by omega) (by omega)) dL_law_444 ?_
  refine lv_topi (fun u_4 e_u_4 => ?_)
  refine lv_aload_n hx hb dL_law_445 rfl (lv_at hl 3 rfl) ?_
  refine lv_iload_n hx hb dL_law_446 rfl (lv_at hl 0 rfl) ?_
  refine lv_iconst (v := 3) hx hb dL_law_447 (by decide) ?_
  refine lv_iadd hx hb dL_law_448 ?_
  refine lv_topi (fun z_5 ez_5 => ?_)
  have e_z_5 : z_5.toInt = i.toInt + 3 := i_add ez_5 rfl (by decide) (by omega) (by omega)
  refine va_sld hx hb hX hbl (fun q => by have q_ : N0.1 ≤ b := q; omega) hT.2 (i_in (n := L) rfl (by omega) (by omega)) dL_law_449 ?_
  refine lv_topi (fun u_6 e_u_6 => ?_)
  refine lv_aload_n hx hb dL_law_450 rfl (lv_at hl 3 rfl) ?_
  refine lv_iload_n hx hb dL_law_451 rfl (lv_at hl 0 rfl) ?_
  refine lv_iconst (v := 4) hx hb dL_law_452 (by decide) ?_
  refine lv_iadd hx hb dL_law_453 ?_
  refine lv_topi (fun z_7 ez_7 => ?_)
  have e_z_7 : z_7.toInt = i.toInt + 4 := i_add ez_7 rfl (by decide) (by omega) (by omega)
  refine va_sld hx hb hX hbl (fun q => by have q_ : N0.1 ≤ b := q; omega) hT.2 (i_in (n := L) rfl (by omega) (by omega)) dL_law_454 ?_
  refine lv_topi (fun u_8 e_u_8 => ?_)
  refine t_callV (n := 4) (As := [.int u_2, .int u_4, .int u_6, .int u_8]) (rest := []) (ci := 6) hB hT hl.1 (P_call l D cI cZ cS cR N0 g hI ox u_2 u_4 u_6 u_8 nw sv lg lz y0 y1 y2 r_ox r_nw r_lg r_y0 n_y0 r_y1 n_y1 r_y2 n_y2 k_nw kc_sv k_lg kc_lz k_y0 k_y1 k_y2 (by omega) (by omega) (by omega) (by omega)) (ro_ci r_ox rfl) rfl k_485 k_57 k_482 k_483 k_484 (by decide +kernel) ⟨(Nat.le_of_ble_eq_true rfl), (Nat.le_of_ble_eq_true rfl)⟩ rfl (Nat.le_of_ble_eq_true rfl) ⟨(by show _ ≤ _; first | exact Nat.le_of_ble_eq_true rfl | (simp only [room_1]; omega)), (by show _ ≤ _; first | exact Nat.le_of_ble_eq_true rfl | (simp only [room_1]; omega))⟩ dL_law_455 (fun v g_9 H locs hp hT => ?_)
  obtain ⟨r_10, l2_11, rfl, hI, x_18, m_17, f_12, f_13, f_14, f_15, f_16⟩ := hp
  have hw : PX 48 2 3 71 72 g_9 om := hw.mono m_17 x_18 r_om (by decide) (by decide) rfl rfl rfl rfl
  have hN0 : PX 8 39 40 84 85 g_9 om := hN0.mono m_17 x_18 r_om (by decide) (by decide) rfl rfl rfl rfl
  have hTE : TE g_9 ba ta tz.toInt := hTE.sm m_17 r_ba (by decide) rfl r_ta (by decide) rfl
  have hWT : WT g_9 wt := hWT.sm m_17 r_wt (by decide) rfl
  have hM : Sm mdA g g_9 := sm_all
  have hE : Ex g g_9 := hE.tr x_18
  have r_19 : g_9.1 ox = 7 := (Ex.r x_18 r_ox (by decide))
  have r_20 : g_9.1 om = 8 := (Ex.r x_18 r_om (by decide))
  have r_21 : g_9.1 tp = 5 := (Ex.r x_18 r_tp (by decide))
  have r_22 : g_9.1 nw = 19 := (Ex.r x_18 r_nw (by decide))
  have r_23 : g_9.1 rl = 1 := (Ex.r x_18 r_rl (by decide))
  have r_24 : g_9.1 lg = 9 := (Ex.r x_18 r_lg (by decide))
  have r_25 : g_9.1 ba = 67 := (Ex.r x_18 r_ba (by decide))
  have r_26 : g_9.1 ta = 79 := (Ex.r x_18 r_ta (by decide))
  have r_27 : g_9.1 wt = 87 := (Ex.r x_18 r_wt (by decide))
  have r_28 : g_9.1 y0 = 64 := (Ex.r x_18 r_y0 (by decide))
  have r_29 : g_9.1 y1 = 65 := (Ex.r x_18 r_y1 (by decide))
  have r_30 : g_9.1 y2 = 66 := (Ex.r x_18 r_y2 (by decide))
  have r_31 : g_9.1 m0 = 76 := (Ex.r x_18 r_m0 (by decide))
  have r_32 : g_9.1 m1 = 77 := (Ex.r x_18 r_m1 (by decide))
  have r_33 : g_9.1 m2 = 78 := (Ex.r x_18 r_m2 (by decide))
  have n_34 : g_9.2.2.1 ba = 100 := (Ex.n x_18 r_ba (by decide) n_ba)
  have n_35 : g_9.2.2.1 ta = 100 := (Ex.n x_18 r_ta (by decide) n_ta)
  have n_36 : g_9.2.2.1 wt = 24 := (Ex.n x_18 r_wt (by decide) n_wt)
  have n_37 : g_9.2.2.1 y0 = 20 := (Ex.n x_18 r_y0 (by decide) n_y0)
  have n_38 : g_9.2.2.1 y1 = 20 := (Ex.n x_18 r_y1 (by decide) n_y1)
  have n_39 : g_9.2.2.1 y2 = 20 := (Ex.n x_18 r_y2 (by decide) n_y2)
  have n_40 : g_9.2.2.1 m0 = 20 := (Ex.n x_18 r_m0 (by decide) n_m0)
  have n_41 : g_9.2.2.1 m1 = 20 := (Ex.n x_18 r_m1 (by decide) n_m1)
  have n_42 : g_9.2.2.1 m2 = 20 := (Ex.n x_18 r_m2 (by decide) n_m2)
  have kn_43 : g_9.2.1 om 22 = .int o1 := (Sm.v m_17 r_om (by decide) rfl ko)
  have kn_44 : g_9.2.1 ox 0 = .ref tp := (Sm.v m_17 r_ox (by decide) rfl k_tp)
  have kn_45 : g_9.2.1 ox 1 = .ref nw := (Sm.v m_17 r_ox (by decide) rfl k_nw)
  have kn_46 : g_9.2.1 ox 2 = .ref rl := (Sm.v m_17 r_ox (by decide) rfl k_rl)
  have kn_47 : g_9.2.1 ox 3 = .ref lg := (Sm.v m_17 r_ox (by decide) rfl k_lg)
  have kn_48 : g_9.2.1 tp 0 = .ref ba := (Sm.v m_17 r_tp (by decide) rfl k_ba)
  have kn_49 : g_9.2.1 om 28 = .ref ta := (Sm.v m_17 r_om (by decide) rfl k_ta)
  have kn_50 : g_9.2.1 om 42 = .ref wt := (Sm.v m_17 r_om (by decide) rfl k_wt)
  have kn_51 : g_9.2.1 lg 0 = .ref y0 := (Sm.v m_17 r_lg (by decide) rfl k_y0)
  have kn_52 : g_9.2.1 lg 1 = .ref y1 := (Sm.v m_17 r_lg (by decide) rfl k_y1)
  have kn_53 : g_9.2.1 lg 2 = .ref y2 := (Sm.v m_17 r_lg (by decide) rfl k_y2)
  have kn_54 : g_9.2.1 om 25 = .ref m0 := (Sm.v m_17 r_om (by decide) rfl k_m0)
  have kn_55 : g_9.2.1 om 26 = .ref m1 := (Sm.v m_17 r_om (by decide) rfl k_m1)
  have kn_56 : g_9.2.1 om 27 = .ref m2 := (Sm.v m_17 r_om (by decide) rfl k_m2)
  have kn_57 : g_9.2.1 tp 1 = .int tz := (Sm.v m_17 r_tp (by decide) rfl kc_tz)
  have kn_58 : g_9.2.1 om 29 = .int tz := (Sm.v m_17 r_om (by decide) rfl km_tz)
  have kn_59 : g_9.2.1 nw 1 = .int sv := (Sm.v m_17 r_nw (by decide) rfl kc_sv)
  have kn_60 : g_9.2.1 om 0 = .int sv := (Sm.v m_17 r_om (by decide) rfl km_sv)
  have kn_61 : g_9.2.1 rl 3 = .int rz := (Sm.v m_17 r_rl (by decide) rfl kc_rz)
  have kn_62 : g_9.2.1 om 30 = .int rz := (Sm.v m_17 r_om (by decide) rfl km_rz)
  have kn_63 : g_9.2.1 om 24 = .int lz := (Sm.v m_17 r_om (by decide) rfl km_lz)
  refine W.eq (g2 := F0 m 458 ls [.int r_10]) rfl ?_
  refine lv_pop hx hb dL_law_458 rfl ?_
  refine lv_aload_n hx hb dL_law_459 rfl (lv_at hl 1 rfl) ?_
  refine lv_aload_n hx hb dL_law_460 rfl (lv_at hl 3 rfl) ?_
  refine lv_iload_n hx hb dL_law_461 rfl (lv_at hl 0 rfl) ?_
  refine lv_iconst (v := 1) hx hb dL_law_462 (by decide) ?_
  refine lv_iadd hx hb dL_law_463 ?_
  refine lv_topi (fun z_64 ez_64 => ?_)
  have e_z_64 : z_64.toInt = i.toInt + 1 := i_add ez_64 rfl (by decide) (by omega) (by omega)
  refine va_sld hx hb hX hbl (fun q => by have q_ : N0.1 ≤ b := q; omega) hT.2 (i_in (n := L) rfl (by omega) (by omega)) dL_law_464 ?_
  refine lv_topi (fun u_65 e_u_65 => ?_)
  refine lv_aload_n hx hb dL_law_465 rfl (lv_at hl 3 rfl) ?_
  refine lv_iload_n hx hb dL_law_466 rfl (lv_at hl 0 rfl) ?_
  refine lv_iconst (v := 2) hx hb dL_law_467 (by decide) ?_
  refine lv_iadd hx hb dL_law_468 ?_
  refine lv_topi (fun z_66 ez_66 => ?_)
  have e_z_66 : z_66.toInt = i.toInt + 2 := i_add ez_66 rfl (by decide) (by omega) (by omega)
  refine va_sld hx hb hX hbl (fun q => by have q_ : N0.1 ≤ b := q; omega) hT.2 (i_in (n := L) rfl (by omega) (by omega)) dL_law_469 ?_
  refine lv_topi (fun u_67 e_u_67 => ?_)
  refine lv_aload_n hx hb dL_law_470 rfl (lv_at hl 3 rfl) ?_
  refine lv_iload_n hx hb dL_law_471 rfl (lv_at hl 0 rfl) ?_
  refine lv_iconst (v := 3) hx hb dL_law_472 (by decide) ?_
  refine lv_iadd hx hb dL_law_473 ?_
  refine lv_topi (fun z_68 ez_68 => ?_)
  have e_z_68 : z_68.toInt = i.toInt + 3 := i_add ez_68 rfl (by decide) (by omega) (by omega)
  refine va_sld hx hb hX hbl (fun q => by have q_ : N0.1 ≤ b := q; omega) hT.2 (i_in (n := L) rfl (by omega) (by omega)) dL_law_474 ?_
  refine lv_topi (fun u_69 e_u_69 => ?_)
  refine lv_aload_n hx hb dL_law_475 rfl (lv_at hl 3 rfl) ?_
  refine lv_iload_n hx hb dL_law_476 rfl (lv_at hl 0 rfl) ?_
  refine lv_iconst (v := 4) hx hb dL_law_477 (by decide) ?_
  refine lv_iadd hx hb dL_law_478 ?_
  refine lv_topi (fun z_70 ez_70 => ?_)
  have e_z_70 : z_70.toInt = i.toInt + 4 := i_add ez_70 rfl (by decide) (by omega) (by omega)
  refine va_sld hx hb hX hbl (fun q => by have q_ : N0.1 ≤ b := q; omega) hT.2 (i_in (n := L) rfl (by omega) (by omega)) dL_law_479 ?_
  refine lv_topi (fun u_71 e_u_71 => ?_)
  refine t_callV (n := 4) (As := [.int u_65, .int u_67, .int u_69, .int u_71]) (rest := []) (ci := 7) hB hT hl.1 (m_call l D cI cZ cS cR N0 g_9 hI om u_65 u_67 u_69 u_71 o1 sv lz m0 m1 m2 r_20 r_31 n_40 r_32 n_41 r_33 n_42 kn_43 kn_60 kn_63 kn_54 kn_55 kn_56 (by omega) (by omega) (by omega) (by omega) (by omega) (by omega) hw) (ro_ci r_20 rfl) rfl k_1031 k_65 k_1028 k_1029 k_1030 (by decide +kernel) ⟨(Nat.le_of_ble_eq_true rfl), (Nat.le_of_ble_eq_true rfl)⟩ rfl (Nat.le_of_ble_eq_true rfl) ⟨(by show _ ≤ _; first | exact Nat.le_of_ble_eq_true rfl | (simp only [room_1]; omega)), (by show _ ≤ _; first | exact Nat.le_of_ble_eq_true rfl | (simp only [room_1]; omega))⟩ dL_law_480 (fun v g_72 H locs hp hT => ?_)
  obtain ⟨r_73, o2_74, l2_75, rfl, hI, x_84, m_83, f_76, f_77, f_78, f_79, f_80, f_81, f_82⟩ := hp
  have hw : PX 48 2 3 71 72 g_72 om := hw.mono m_83 x_84 r_20 (by decide) (by decide) rfl rfl rfl rfl
  have hN0 : PX 8 39 40 84 85 g_72 om := hN0.mono m_83 x_84 r_20 (by decide) (by decide) rfl rfl rfl rfl
  have hTE : TE g_72 ba ta tz.toInt := hTE.sm m_83 r_25 (by decide) rfl r_26 (by decide) rfl
  have hWT : WT g_72 wt := hWT.sm m_83 r_27 (by decide) rfl
  have hM : Sm mdA g g_72 := sm_all
  have hE : Ex g g_72 := hE.tr x_84
  have r_85 : g_72.1 ox = 7 := (Ex.r x_84 r_19 (by decide))
  have r_86 : g_72.1 om = 8 := (Ex.r x_84 r_20 (by decide))
  have r_87 : g_72.1 tp = 5 := (Ex.r x_84 r_21 (by decide))
  have r_88 : g_72.1 nw = 19 := (Ex.r x_84 r_22 (by decide))
  have r_89 : g_72.1 rl = 1 := (Ex.r x_84 r_23 (by decide))
  have r_90 : g_72.1 lg = 9 := (Ex.r x_84 r_24 (by decide))
  have r_91 : g_72.1 ba = 67 := (Ex.r x_84 r_25 (by decide))
  have r_92 : g_72.1 ta = 79 := (Ex.r x_84 r_26 (by decide))
  have r_93 : g_72.1 wt = 87 := (Ex.r x_84 r_27 (by decide))
  have r_94 : g_72.1 y0 = 64 := (Ex.r x_84 r_28 (by decide))
  have r_95 : g_72.1 y1 = 65 := (Ex.r x_84 r_29 (by decide))
  have r_96 : g_72.1 y2 = 66 := (Ex.r x_84 r_30 (by decide))
  have r_97 : g_72.1 m0 = 76 := (Ex.r x_84 r_31 (by decide))
  have r_98 : g_72.1 m1 = 77 := (Ex.r x_84 r_32 (by decide))
  have r_99 : g_72.1 m2 = 78 := (Ex.r x_84 r_33 (by decide))
  have n_100 : g_72.2.2.1 ba = 100 := (Ex.n x_84 r_25 (by decide) n_34)
  have n_101 : g_72.2.2.1 ta = 100 := (Ex.n x_84 r_26 (by decide) n_35)
  have n_102 : g_72.2.2.1 wt = 24 := (Ex.n x_84 r_27 (by decide) n_36)
  have n_103 : g_72.2.2.1 y0 = 20 := (Ex.n x_84 r_28 (by decide) n_37)
  have n_104 : g_72.2.2.1 y1 = 20 := (Ex.n x_84 r_29 (by decide) n_38)
  have n_105 : g_72.2.2.1 y2 = 20 := (Ex.n x_84 r_30 (by decide) n_39)
  have n_106 : g_72.2.2.1 m0 = 20 := (Ex.n x_84 r_31 (by decide) n_40)
  have n_107 : g_72.2.2.1 m1 = 20 := (Ex.n x_84 r_32 (by decide) n_41)
  have n_108 : g_72.2.2.1 m2 = 20 := (Ex.n x_84 r_33 (by decide) n_42)
  have kn_109 : g_72.2.1 ox 0 = .ref tp := (Sm.v m_83 r_19 (by decide) rfl kn_44)
  have kn_110 : g_72.2.1 ox 1 = .ref nw := (Sm.v m_83 r_19 (by decide) rfl kn_45)
  have kn_111 : g_72.2.1 ox 2 = .ref rl := (Sm.v m_83 r_19 (by decide) rfl kn_46)
  have kn_112 : g_72.2.1 ox 3 = .ref lg := (Sm.v m_83 r_19 (by decide) rfl kn_47)
  have kn_113 : g_72.2.1 tp 0 = .ref ba := (Sm.v m_83 r_21 (by decide) rfl kn_48)
  have kn_114 : g_72.2.1 om 28 = .ref ta := (Sm.v m_83 r_20 (by decide) rfl kn_49)
  have kn_115 : g_72.2.1 om 42 = .ref wt := (Sm.v m_83 r_20 (by decide) rfl kn_50)
  have kn_116 : g_72.2.1 lg 0 = .ref y0 := (Sm.v m_83 r_24 (by decide) rfl kn_51)
  have kn_117 : g_72.2.1 lg 1 = .ref y1 := (Sm.v m_83 r_24 (by decide) rfl kn_52)
  have kn_118 : g_72.2.1 lg 2 = .ref y2 := (Sm.v m_83 r_24 (by decide) rfl kn_53)
  have kn_119 : g_72.2.1 om 25 = .ref m0 := (Sm.v m_83 r_20 (by decide) rfl kn_54)
  have kn_120 : g_72.2.1 om 26 = .ref m1 := (Sm.v m_83 r_20 (by decide) rfl kn_55)
  have kn_121 : g_72.2.1 om 27 = .ref m2 := (Sm.v m_83 r_20 (by decide) rfl kn_56)
  have kn_122 : g_72.2.1 tp 1 = .int tz := (Sm.v m_83 r_21 (by decide) rfl kn_57)
  have kn_123 : g_72.2.1 om 29 = .int tz := (Sm.v m_83 r_20 (by decide) rfl kn_58)
  have kn_124 : g_72.2.1 nw 1 = .int sv := (Sm.v m_83 r_22 (by decide) rfl kn_59)
  have kn_125 : g_72.2.1 om 0 = .int sv := (Sm.v m_83 r_20 (by decide) rfl kn_60)
  have kn_126 : g_72.2.1 rl 3 = .int rz := (Sm.v m_83 r_23 (by decide) rfl kn_61)
  have kn_127 : g_72.2.1 om 30 = .int rz := (Sm.v m_83 r_20 (by decide) rfl kn_62)
  have kn_128 : g_72.2.1 lg 3 = .int l2_11 := (Sm.v m_83 r_24 (by decide) rfl f_12)
  refine W.eq (g2 := F0 m 483 ls [.int r_73]) rfl ?_
  refine lv_pop hx hb dL_law_483 rfl ?_
  refine lv_goto (tgt := 829) hx hb dL_law_484 (by decide) ?_
  have eq_u_65 : u_65 = u_2 := e_u_65.trans ((congrArg xs (i_nt (by omega))).trans e_u_2.symm)
  have eqi_u_65 : u_65.toInt = u_2.toInt := congrArg Int32.toInt eq_u_65
  have eq_u_67 : u_67 = u_4 := e_u_67.trans ((congrArg xs (i_nt (by omega))).trans e_u_4.symm)
  have eqi_u_67 : u_67.toInt = u_4.toInt := congrArg Int32.toInt eq_u_67
  have eq_u_69 : u_69 = u_6 := e_u_69.trans ((congrArg xs (i_nt (by omega))).trans e_u_6.symm)
  have eqi_u_69 : u_69.toInt = u_6.toInt := congrArg Int32.toInt eq_u_69
  have eq_u_71 : u_71 = u_8 := e_u_71.trans ((congrArg xs (i_nt (by omega))).trans e_u_8.symm)
  have eqi_u_71 : u_71.toInt = u_8.toInt := congrArg Int32.toInt eq_u_71
  have er_129 := f_79
  try rw [eq_u_65] at er_129
  try rw [eq_u_67] at er_129
  try rw [eq_u_69] at er_129
  try rw [eq_u_71] at er_129
  have hub_ : l2_11.toInt ≤ 20 ∧ 0 ≤ l2_11.toInt := (by have q_ := f_13; unfold caL at q_; omega)
  have er_130 := f_79
  try rw [eq_u_65] at er_130
  try rw [eq_u_67] at er_130
  try rw [eq_u_69] at er_130
  try rw [eq_u_71] at er_130
  have el_ : l2_75 = l2_11 := (i_inj (er_130.trans f_13.symm))
  have hcl_ := caB_l f_13
  have hcm0_ := f_80
  try rw [el_] at hcm0_
  try rw [eq_u_65] at hcm0_
  try rw [eq_u_67] at hcm0_
  try rw [eq_u_69] at hcm0_
  try rw [eq_u_71] at hcm0_
  have hcm1_ := f_81
  try rw [el_] at hcm1_
  try rw [eq_u_65] at hcm1_
  try rw [eq_u_67] at hcm1_
  try rw [eq_u_69] at hcm1_
  try rw [eq_u_71] at hcm1_
  have hcm2_ := f_82
  try rw [el_] at hcm2_
  try rw [eq_u_65] at hcm2_
  try rw [eq_u_67] at hcm2_
  try rw [eq_u_69] at hcm2_
  try rw [eq_u_71] at hcm2_
  refine W.widen (k := cells + 4) (n := slots + 28) (by omega) (by omega) ?_
  exact K g_72 o2_74 tz sv rz l2_11 H locs hT hI r_85 r_86 f_76 (by have e0_ : (0 : Int32).toInt = 0 := (by decide); omega) (by have e0_ : (0 : Int32).toInt = 0 := (by decide); omega) hw hN0 kn_109 r_87 kn_110 r_88 kn_111 r_89 kn_112 r_90 kn_113 r_91 n_100 kn_114 r_92 n_101 kn_115 r_93 n_102 kn_116 r_94 n_103 kn_117 r_95 n_104 kn_118 r_96 n_105 kn_119 r_97 n_106 kn_120 r_98 n_107 kn_121 r_99 n_108 kn_122 kn_123 (by have e0_ : (0 : Int32).toInt = 0 := (by decide); omega) (by have e0_ : (0 : Int32).toInt = 0 := (by decide); omega) kn_124 kn_125 (by have e0_ : (0 : Int32).toInt = 0 := (by decide); omega) (by have e0_ : (0 : Int32).toInt = 0 := (by decide); omega) kn_126 kn_127 (by have e0_ : (0 : Int32).toInt = 0 := (by decide); omega) (by have e0_ : (0 : Int32).toInt = 0 := (by decide); omega) kn_128 (f_78.trans (congrArg Value.int (i_inj (er_129.trans f_13.symm)))) (by have e0_ : (0 : Int32).toInt = 0 := (by decide); omega) (by have e0_ : (0 : Int32).toInt = 0 := (by decide); omega) hTE hWT (TE.call (fun i_ hi_ => (hL00 i_ hi_).trans (congrFun (Sm.cf m_17 r_m0 (by decide) rfl).symm i_)) u_lz f_14 (Sm.cf m_83 r_28 (by decide) rfl) hcm0_ ⟨hcl_.1, fun h_ => hcl_.2 h_ u_lz⟩) (TE.call (fun i_ hi_ => (hL10 i_ hi_).trans (congrFun (Sm.cf m_17 r_m1 (by decide) rfl).symm i_)) u_lz f_15 (Sm.cf m_83 r_29 (by decide) rfl) hcm1_ ⟨hcl_.1, fun h_ => hcl_.2 h_ u_lz⟩) (TE.call (fun i_ hi_ => (hL20 i_ hi_).trans (congrFun (Sm.cf m_17 r_m2 (by decide) rfl).symm i_)) u_lz f_16 (Sm.cf m_83 r_30 (by decide) rfl) hcm2_ ⟨hcl_.1, fun h_ => hcl_.2 h_ u_lz⟩)
set_option maxHeartbeats 4000000 in
set_option maxRecDepth 100000 in
/-- outside -/
theorem law_9 {p : Program} {l : Launch} {e : Env} {s : State} {m : MethodId} {below : List Frame} {meth : Method} {c : Code} {D : va_G} {cI cZ cS cR : ClassId} {N0 : NT} {b L : Nat} {xs : Nat → Int32} (hB : Tz p s m meth c #[Value.ref b] code 4 RL D cI cZ cS cR N0) (hAs : N0.1 = s.heap.size) (hX : va_X b L xs s s.heap) (hbl : b < s.heap.size) (hL : L ≤ 2560) (hr : meth.sig.returnType = ret) {cells slots : Nat} (hcl : cells + 4 ≤ 600000) (hsl : slots + 28 ≤ 7302250) {H : Heap} {locs : List Loc} {ls : Array Slot} (g : GS) (ox om : Nat) (tp : Nat) (nw : Nat) (rl : Nat) (lg : Nat) (ba : Nat) (ta : Nat) (wt : Nat) (y0 : Nat) (y1 : Nat) (y2 : Nat) (m0 : Nat) (m1 : Nat) (m2 : Nat) (i o1 tz sv rz lz : Int32) (hT : Tv D cI cZ cS cR N0 s.heap H locs g) (hI : Inv g) (l_i : 0 ≤ i.toInt) (u_i : i.toInt + 5 ≤ L) : g.1 ox = 7 → g.1 om = 8 → g.2.1 om 22 = .int o1 → 0 ≤ o1.toInt → o1.toInt ≤ 12 * i.toInt → PX 48 2 3 71 72 g om → PX 8 39 40 84 85 g om → g.2.1 ox 0 = .ref tp → g.1 tp = 5 → g.2.1 ox 1 = .ref nw → g.1 nw = 19 → g.2.1 ox 2 = .ref rl → g.1 rl = 1 → g.2.1 ox 3 = .ref lg → g.1 lg = 9 → g.2.1 tp 0 = .ref ba → g.1 ba = 67 → g.2.2.1 ba = 100 → g.2.1 om 28 = .ref ta → g.1 ta = 79 → g.2.2.1 ta = 100 → g.2.1 om 42 = .ref wt → g.1 wt = 87 → g.2.2.1 wt = 24 → g.2.1 lg 0 = .ref y0 → g.1 y0 = 64 → g.2.2.1 y0 = 20 → g.2.1 lg 1 = .ref y1 → g.1 y1 = 65 → g.2.2.1 y1 = 20 → g.2.1 lg 2 = .ref y2 → g.1 y2 = 66 → g.2.2.1 y2 = 20 → g.2.1 om 25 = .ref m0 → g.1 m0 = 76 → g.2.2.1 m0 = 20 → g.2.1 om 26 = .ref m1 → g.1 m1 = 77 → g.2.2.1 m1 = 20 → g.2.1 om 27 = .ref m2 → g.1 m2 = 78 → g.2.2.1 m2 = 20 → g.2.1 tp 1 = .int tz → g.2.1 om 29 = .int tz → 0 ≤ tz.toInt → tz.toInt ≤ 100 → g.2.1 nw 1 = .int sv → g.2.1 om 0 = .int sv → 0 ≤ sv.toInt → sv.toInt ≤ 6 → g.2.1 rl 3 = .int rz → g.2.1 om 30 = .int rz → 0 ≤ rz.toInt → rz.toInt ≤ 6 → g.2.1 lg 3 = .int lz → g.2.1 om 24 = .int lz → 0 ≤ lz.toInt → lz.toInt ≤ 20 → TE g ba ta tz.toInt → WT g wt → TE g y0 m0 lz.toInt → TE g y1 m1 lz.toInt → TE g y2 m2 lz.toInt → (hl : lv_has ls 4 [(3, .int i), (2, .ref om), (1, .ref ox), (0, .ref b)]) → (K : ∀ (g1 : GS) (o1_1 tz_1 sv_1 rz_1 lz_1 : Int32) (H1 : Heap) (locs1 : List Loc), Tv D cI cZ cS cR N0 s.heap H1 locs1 g1 → Inv g1 → g1.1 ox = 7 → g1.1 om = 8 → g1.2.1 om 22 = .int o1_1 → 0 ≤ o1_1.toInt → o1_1.toInt ≤ 12 * i.toInt + 60 → PX 48 2 3 71 72 g1 om → PX 8 39 40 84 85 g1 om → g1.2.1 ox 0 = .ref tp → g1.1 tp = 5 → g1.2.1 ox 1 = .ref nw → g1.1 nw = 19 → g1.2.1 ox 2 = .ref rl → g1.1 rl = 1 → g1.2.1 ox 3 = .ref lg → g1.1 lg = 9 → g1.2.1 tp 0 = .ref ba → g1.1 ba = 67 → g1.2.2.1 ba = 100 → g1.2.1 om 28 = .ref ta → g1.1 ta = 79 → g1.2.2.1 ta = 100 → g1.2.1 om 42 = .ref wt → g1.1 wt = 87 → g1.2.2.1 wt = 24 → g1.2.1 lg 0 = .ref y0 → g1.1 y0 = 64 → g1.2.2.1 y0 = 20 → g1.2.1 lg 1 = .ref y1 → g1.1 y1 = 65 → g1.2.2.1 y1 = 20 → g1.2.1 lg 2 = .ref y2 → g1.1 y2 = 66 → g1.2.2.1 y2 = 20 → g1.2.1 om 25 = .ref m0 → g1.1 m0 = 76 → g1.2.2.1 m0 = 20 → g1.2.1 om 26 = .ref m1 → g1.1 m1 = 77 → g1.2.2.1 m1 = 20 → g1.2.1 om 27 = .ref m2 → g1.1 m2 = 78 → g1.2.2.1 m2 = 20 → g1.2.1 tp 1 = .int tz_1 → g1.2.1 om 29 = .int tz_1 → 0 ≤ tz_1.toInt → tz_1.toInt ≤ 100 → g1.2.1 nw 1 = .int sv_1 → g1.2.1 om 0 = .int sv_1 → 0 ≤ sv_1.toInt → sv_1.toInt ≤ 6 → g1.2.1 rl 3 = .int rz_1 → g1.2.1 om 30 = .int rz_1 → 0 ≤ rz_1.toInt → rz_1.toInt ≤ 6 → g1.2.1 lg 3 = .int lz_1 → g1.2.1 om 24 = .int lz_1 → 0 ≤ lz_1.toInt → lz_1.toInt ≤ 20 → TE g1 ba ta tz_1.toInt → WT g1 wt → TE g1 y0 m0 lz_1.toInt → TE g1 y1 m1 lz_1.toInt → TE g1 y2 m2 lz_1.toInt → W p l e room_1 s m #[Value.ref b] below meth c H1 locs1 (cells + 4) (slots + 28) (lw_Z below #[Value.ref b] s) (F0 m 829 ls [])) → W p l e room_1 s m #[Value.ref b] below meth c H locs cells slots (lw_Z below #[Value.ref b] s) (F0 m 487 ls []) := by
  intro r_ox r_om ko l_o u_o hw hN0 k_tp r_tp k_nw r_nw k_rl r_rl k_lg r_lg k_ba r_ba n_ba k_ta r_ta n_ta k_wt r_wt n_wt k_y0 r_y0 n_y0 k_y1 r_y1 n_y1 k_y2 r_y2 n_y2 k_m0 r_m0 n_m0 k_m1 r_m1 n_m1 k_m2 r_m2 n_m2 kc_tz km_tz l_tz u_tz kc_sv km_sv l_sv u_sv kc_rz km_rz l_rz u_rz kc_lz km_lz l_lz u_lz hTE hWT hL0 hL1 hL2 hl K
  have hx := hB.1
  have hb := hB.2.1
  have hE : Ex g g := Ex.rf
  have hM : Sm mdA g g := sm_all
  have hTE0 := hTE
  have hL00 := hL0
  have hL10 := hL1
  have hL20 := hL2
  refine lv_aload_n hx hb dL_law_487 rfl (lv_at hl 2 rfl) ?_
  refine lv_aload_n hx hb dL_law_488 rfl (lv_at hl 3 rfl) ?_
  refine lv_iload_n hx hb dL_law_489 rfl (lv_at hl 0 rfl) ?_
  refine lv_iconst (v := 1) hx hb dL_law_490 (by decide) ?_
  refine lv_iadd hx hb dL_law_491 ?_
  refine lv_topi (fun z_1 ez_1 => ?_)
  have e_z_1 : z_1.toInt = i.toInt + 1 := i_add ez_1 rfl (by decide) (by omega) (by omega)
  refine va_sld hx hb hX hbl (fun q => by have q_ : N0.1 ≤ b := q; omega) hT.2 (i_in (n := L) rfl (by omega) (by omega)) dL_law_492 ?_
  refine lv_topi (fun u_2 e_u_2 => ?_)
  refine t_callV (n := 1) (As := [.int u_2]) (rest := []) (ci := 6) hB hT hl.1 (P_outside l D cI cZ cS cR N0 g hI ox u_2 r_ox) (ro_ci r_ox rfl) rfl k_558 k_57 k_555 k_556 k_557 (by decide +kernel) ⟨(Nat.le_of_ble_eq_true rfl), (Nat.le_of_ble_eq_true rfl)⟩ rfl (Nat.le_of_ble_eq_true rfl) ⟨(by show _ ≤ _; first | exact Nat.le_of_ble_eq_true rfl | (simp only [room_1]; omega)), (by show _ ≤ _; first | exact Nat.le_of_ble_eq_true rfl | (simp only [room_1]; omega))⟩ dL_law_493 (fun v g_3 H locs hp hT => ?_)
  obtain ⟨r_4, rfl, hI, x_6, m_5⟩ := hp
  have hw : PX 48 2 3 71 72 g_3 om := hw.mono m_5 x_6 r_om (by decide) (by decide) rfl rfl rfl rfl
  have hN0 : PX 8 39 40 84 85 g_3 om := hN0.mono m_5 x_6 r_om (by decide) (by decide) rfl rfl rfl rfl
  have hTE : TE g_3 ba ta tz.toInt := hTE.sm m_5 r_ba (by decide) rfl r_ta (by decide) rfl
  have hWT : WT g_3 wt := hWT.sm m_5 r_wt (by decide) rfl
  have hL0 : TE g_3 y0 m0 lz.toInt := hL0.sm m_5 r_y0 (by decide) rfl r_m0 (by decide) rfl
  have hL1 : TE g_3 y1 m1 lz.toInt := hL1.sm m_5 r_y1 (by decide) rfl r_m1 (by decide) rfl
  have hL2 : TE g_3 y2 m2 lz.toInt := hL2.sm m_5 r_y2 (by decide) rfl r_m2 (by decide) rfl
  have hM : Sm mdA g g_3 := sm_all
  have hE : Ex g g_3 := hE.tr x_6
  have r_7 : g_3.1 ox = 7 := (Ex.r x_6 r_ox (by decide))
  have r_8 : g_3.1 om = 8 := (Ex.r x_6 r_om (by decide))
  have r_9 : g_3.1 tp = 5 := (Ex.r x_6 r_tp (by decide))
  have r_10 : g_3.1 nw = 19 := (Ex.r x_6 r_nw (by decide))
  have r_11 : g_3.1 rl = 1 := (Ex.r x_6 r_rl (by decide))
  have r_12 : g_3.1 lg = 9 := (Ex.r x_6 r_lg (by decide))
  have r_13 : g_3.1 ba = 67 := (Ex.r x_6 r_ba (by decide))
  have r_14 : g_3.1 ta = 79 := (Ex.r x_6 r_ta (by decide))
  have r_15 : g_3.1 wt = 87 := (Ex.r x_6 r_wt (by decide))
  have r_16 : g_3.1 y0 = 64 := (Ex.r x_6 r_y0 (by decide))
  have r_17 : g_3.1 y1 = 65 := (Ex.r x_6 r_y1 (by decide))
  have r_18 : g_3.1 y2 = 66 := (Ex.r x_6 r_y2 (by decide))
  have r_19 : g_3.1 m0 = 76 := (Ex.r x_6 r_m0 (by decide))
  have r_20 : g_3.1 m1 = 77 := (Ex.r x_6 r_m1 (by decide))
  have r_21 : g_3.1 m2 = 78 := (Ex.r x_6 r_m2 (by decide))
  have n_22 : g_3.2.2.1 ba = 100 := (Ex.n x_6 r_ba (by decide) n_ba)
  have n_23 : g_3.2.2.1 ta = 100 := (Ex.n x_6 r_ta (by decide) n_ta)
  have n_24 : g_3.2.2.1 wt = 24 := (Ex.n x_6 r_wt (by decide) n_wt)
  have n_25 : g_3.2.2.1 y0 = 20 := (Ex.n x_6 r_y0 (by decide) n_y0)
  have n_26 : g_3.2.2.1 y1 = 20 := (Ex.n x_6 r_y1 (by decide) n_y1)
  have n_27 : g_3.2.2.1 y2 = 20 := (Ex.n x_6 r_y2 (by decide) n_y2)
  have n_28 : g_3.2.2.1 m0 = 20 := (Ex.n x_6 r_m0 (by decide) n_m0)
  have n_29 : g_3.2.2.1 m1 = 20 := (Ex.n x_6 r_m1 (by decide) n_m1)
  have n_30 : g_3.2.2.1 m2 = 20 := (Ex.n x_6 r_m2 (by decide) n_m2)
  have kn_31 : g_3.2.1 om 22 = .int o1 := (Sm.v m_5 r_om (by decide) rfl ko)
  have kn_32 : g_3.2.1 ox 0 = .ref tp := (Sm.v m_5 r_ox (by decide) rfl k_tp)
  have kn_33 : g_3.2.1 ox 1 = .ref nw := (Sm.v m_5 r_ox (by decide) rfl k_nw)
  have kn_34 : g_3.2.1 ox 2 = .ref rl := (Sm.v m_5 r_ox (by decide) rfl k_rl)
  have kn_35 : g_3.2.1 ox 3 = .ref lg := (Sm.v m_5 r_ox (by decide) rfl k_lg)
  have kn_36 : g_3.2.1 tp 0 = .ref ba := (Sm.v m_5 r_tp (by decide) rfl k_ba)
  have kn_37 : g_3.2.1 om 28 = .ref ta := (Sm.v m_5 r_om (by decide) rfl k_ta)
  have kn_38 : g_3.2.1 om 42 = .ref wt := (Sm.v m_5 r_om (by decide) rfl k_wt)
  have kn_39 : g_3.2.1 lg 0 = .ref y0 := (Sm.v m_5 r_lg (by decide) rfl k_y0)
  have kn_40 : g_3.2.1 lg 1 = .ref y1 := (Sm.v m_5 r_lg (by decide) rfl k_y1)
  have kn_41 : g_3.2.1 lg 2 = .ref y2 := (Sm.v m_5 r_lg (by decide) rfl k_y2)
  have kn_42 : g_3.2.1 om 25 = .ref m0 := (Sm.v m_5 r_om (by decide) rfl k_m0)
  have kn_43 : g_3.2.1 om 26 = .ref m1 := (Sm.v m_5 r_om (by decide) rfl k_m1)
  have kn_44 : g_3.2.1 om 27 = .ref m2 := (Sm.v m_5 r_om (by decide) rfl k_m2)
  have kn_45 : g_3.2.1 tp 1 = .int tz := (Sm.v m_5 r_tp (by decide) rfl kc_tz)
  have kn_46 : g_3.2.1 om 29 = .int tz := (Sm.v m_5 r_om (by decide) rfl km_tz)
  have kn_47 : g_3.2.1 nw 1 = .int sv := (Sm.v m_5 r_nw (by decide) rfl kc_sv)
  have kn_48 : g_3.2.1 om 0 = .int sv := (Sm.v m_5 r_om (by decide) rfl km_sv)
  have kn_49 : g_3.2.1 rl 3 = .int rz := (Sm.v m_5 r_rl (by decide) rfl kc_rz)
  have kn_50 : g_3.2.1 om 30 = .int rz := (Sm.v m_5 r_om (by decide) rfl km_rz)
  have kn_51 : g_3.2.1 lg 3 = .int lz := (Sm.v m_5 r_lg (by decide) rfl kc_lz)
  have kn_52 : g_3.2.1 om 24 = .int lz := (Sm.v m_5 r_om (by decide) rfl km_lz)
  refine W.eq (g2 := F0 m 496 ls [.int r_4]) rfl ?_
  refine lv_pop hx hb dL_law_496 rfl ?_
  refine lv_aload_n hx hb dL_law_497 rfl (lv_at hl 1 rfl) ?_
  refine lv_aload_n hx hb dL_law_498 rfl (lv_at hl 3 rfl) ?_
  refine lv_iload_n hx hb dL_law_499 rfl (lv_at hl 0 rfl) ?_
  refine lv_iconst (v := 1) hx hb dL_law_500 (by decide) ?_
  refine lv_iadd hx hb dL_law_501 ?_
  refine lv_topi (fun z_53 ez_53 => ?_)
  have e_z_53 : z_53.toInt = i.toInt + 1 := i_add ez_53 rfl (by decide) (by omega) (by omega)
  refine va_sld hx hb hX hbl (fun q => by have q_ : N0.1 ≤ b := q; omega) hT.2 (i_in (n := L) rfl (by omega) (by omega)) dL_law_502 ?_
  refine lv_topi (fun u_54 e_u_54 => ?_)
  refine t_callV (n := 1) (As := [.int u_54]) (rest := []) (ci := 7) hB hT hl.1 (m_outside l D cI cZ cS cR N0 g_3 hI om u_54 o1 r_8 kn_31 (by omega) (by omega)) (ro_ci r_8 rfl) rfl k_1083 k_65 k_1080 k_1081 k_1082 (by decide +kernel) ⟨(Nat.le_of_ble_eq_true rfl), (Nat.le_of_ble_eq_true rfl)⟩ rfl (Nat.le_of_ble_eq_true rfl) ⟨(by show _ ≤ _; first | exact Nat.le_of_ble_eq_true rfl | (simp only [room_1]; omega)), (by show _ ≤ _; first | exact Nat.le_of_ble_eq_true rfl | (simp only [room_1]; omega))⟩ dL_law_503 (fun v g_55 H locs hp hT => ?_)
  obtain ⟨r_56, rfl, hI, x_58, m_57⟩ := hp
  have hw : PX 48 2 3 71 72 g_55 om := hw.mono m_57 x_58 r_8 (by decide) (by decide) rfl rfl rfl rfl
  have hN0 : PX 8 39 40 84 85 g_55 om := hN0.mono m_57 x_58 r_8 (by decide) (by decide) rfl rfl rfl rfl
  have hTE : TE g_55 ba ta tz.toInt := hTE.sm m_57 r_13 (by decide) rfl r_14 (by decide) rfl
  have hWT : WT g_55 wt := hWT.sm m_57 r_15 (by decide) rfl
  have hL0 : TE g_55 y0 m0 lz.toInt := hL0.sm m_57 r_16 (by decide) rfl r_19 (by decide) rfl
  have hL1 : TE g_55 y1 m1 lz.toInt := hL1.sm m_57 r_17 (by decide) rfl r_20 (by decide) rfl
  have hL2 : TE g_55 y2 m2 lz.toInt := hL2.sm m_57 r_18 (by decide) rfl r_21 (by decide) rfl
  have hM : Sm mdA g g_55 := sm_all
  have hE : Ex g g_55 := hE.tr x_58
  have r_59 : g_55.1 ox = 7 := (Ex.r x_58 r_7 (by decide))
  have r_60 : g_55.1 om = 8 := (Ex.r x_58 r_8 (by decide))
  have r_61 : g_55.1 tp = 5 := (Ex.r x_58 r_9 (by decide))
  have r_62 : g_55.1 nw = 19 := (Ex.r x_58 r_10 (by decide))
  have r_63 : g_55.1 rl = 1 := (Ex.r x_58 r_11 (by decide))
  have r_64 : g_55.1 lg = 9 := (Ex.r x_58 r_12 (by decide))
  have r_65 : g_55.1 ba = 67 := (Ex.r x_58 r_13 (by decide))
  have r_66 : g_55.1 ta = 79 := (Ex.r x_58 r_14 (by decide))
  have r_67 : g_55.1 wt = 87 := (Ex.r x_58 r_15 (by decide))
  have r_68 : g_55.1 y0 = 64 := (Ex.r x_58 r_16 (by decide))
  have r_69 : g_55.1 y1 = 65 := (Ex.r x_58 r_17 (by decide))
  have r_70 : g_55.1 y2 = 66 := (Ex.r x_58 r_18 (by decide))
  have r_71 : g_55.1 m0 = 76 := (Ex.r x_58 r_19 (by decide))
  have r_72 : g_55.1 m1 = 77 := (Ex.r x_58 r_20 (by decide))
  have r_73 : g_55.1 m2 = 78 := (Ex.r x_58 r_21 (by decide))
  have n_74 : g_55.2.2.1 ba = 100 := (Ex.n x_58 r_13 (by decide) n_22)
  have n_75 : g_55.2.2.1 ta = 100 := (Ex.n x_58 r_14 (by decide) n_23)
  have n_76 : g_55.2.2.1 wt = 24 := (Ex.n x_58 r_15 (by decide) n_24)
  have n_77 : g_55.2.2.1 y0 = 20 := (Ex.n x_58 r_16 (by decide) n_25)
  have n_78 : g_55.2.2.1 y1 = 20 := (Ex.n x_58 r_17 (by decide) n_26)
  have n_79 : g_55.2.2.1 y2 = 20 := (Ex.n x_58 r_18 (by decide) n_27)
  have n_80 : g_55.2.2.1 m0 = 20 := (Ex.n x_58 r_19 (by decide) n_28)
  have n_81 : g_55.2.2.1 m1 = 20 := (Ex.n x_58 r_20 (by decide) n_29)
  have n_82 : g_55.2.2.1 m2 = 20 := (Ex.n x_58 r_21 (by decide) n_30)
  have kn_83 : g_55.2.1 om 22 = .int o1 := (Sm.v m_57 r_8 (by decide) rfl kn_31)
  have kn_84 : g_55.2.1 ox 0 = .ref tp := (Sm.v m_57 r_7 (by decide) rfl kn_32)
  have kn_85 : g_55.2.1 ox 1 = .ref nw := (Sm.v m_57 r_7 (by decide) rfl kn_33)
  have kn_86 : g_55.2.1 ox 2 = .ref rl := (Sm.v m_57 r_7 (by decide) rfl kn_34)
  have kn_87 : g_55.2.1 ox 3 = .ref lg := (Sm.v m_57 r_7 (by decide) rfl kn_35)
  have kn_88 : g_55.2.1 tp 0 = .ref ba := (Sm.v m_57 r_9 (by decide) rfl kn_36)
  have kn_89 : g_55.2.1 om 28 = .ref ta := (Sm.v m_57 r_8 (by decide) rfl kn_37)
  have kn_90 : g_55.2.1 om 42 = .ref wt := (Sm.v m_57 r_8 (by decide) rfl kn_38)
  have kn_91 : g_55.2.1 lg 0 = .ref y0 := (Sm.v m_57 r_12 (by decide) rfl kn_39)
  have kn_92 : g_55.2.1 lg 1 = .ref y1 := (Sm.v m_57 r_12 (by decide) rfl kn_40)
  have kn_93 : g_55.2.1 lg 2 = .ref y2 := (Sm.v m_57 r_12 (by decide) rfl kn_41)
  have kn_94 : g_55.2.1 om 25 = .ref m0 := (Sm.v m_57 r_8 (by decide) rfl kn_42)
  have kn_95 : g_55.2.1 om 26 = .ref m1 := (Sm.v m_57 r_8 (by decide) rfl kn_43)
  have kn_96 : g_55.2.1 om 27 = .ref m2 := (Sm.v m_57 r_8 (by decide) rfl kn_44)
  have kn_97 : g_55.2.1 tp 1 = .int tz := (Sm.v m_57 r_9 (by decide) rfl kn_45)
  have kn_98 : g_55.2.1 om 29 = .int tz := (Sm.v m_57 r_8 (by decide) rfl kn_46)
  have kn_99 : g_55.2.1 nw 1 = .int sv := (Sm.v m_57 r_10 (by decide) rfl kn_47)
  have kn_100 : g_55.2.1 om 0 = .int sv := (Sm.v m_57 r_8 (by decide) rfl kn_48)
  have kn_101 : g_55.2.1 rl 3 = .int rz := (Sm.v m_57 r_11 (by decide) rfl kn_49)
  have kn_102 : g_55.2.1 om 30 = .int rz := (Sm.v m_57 r_8 (by decide) rfl kn_50)
  have kn_103 : g_55.2.1 lg 3 = .int lz := (Sm.v m_57 r_12 (by decide) rfl kn_51)
  have kn_104 : g_55.2.1 om 24 = .int lz := (Sm.v m_57 r_8 (by decide) rfl kn_52)
  refine W.eq (g2 := F0 m 506 ls [.int r_56]) rfl ?_
  refine lv_pop hx hb dL_law_506 rfl ?_
  refine lv_goto (tgt := 829) hx hb dL_law_507 (by decide) ?_
  refine W.widen (k := cells + 4) (n := slots + 28) (by omega) (by omega) ?_
  exact K g_55 o1 tz sv rz lz H locs hT hI r_59 r_60 kn_83 (by have e0_ : (0 : Int32).toInt = 0 := (by decide); omega) (by have e0_ : (0 : Int32).toInt = 0 := (by decide); omega) hw hN0 kn_84 r_61 kn_85 r_62 kn_86 r_63 kn_87 r_64 kn_88 r_65 n_74 kn_89 r_66 n_75 kn_90 r_67 n_76 kn_91 r_68 n_77 kn_92 r_69 n_78 kn_93 r_70 n_79 kn_94 r_71 n_80 kn_95 r_72 n_81 kn_96 r_73 n_82 kn_97 kn_98 (by have e0_ : (0 : Int32).toInt = 0 := (by decide); omega) (by have e0_ : (0 : Int32).toInt = 0 := (by decide); omega) kn_99 kn_100 (by have e0_ : (0 : Int32).toInt = 0 := (by decide); omega) (by have e0_ : (0 : Int32).toInt = 0 := (by decide); omega) kn_101 kn_102 (by have e0_ : (0 : Int32).toInt = 0 := (by decide); omega) (by have e0_ : (0 : Int32).toInt = 0 := (by decide); omega) kn_103 kn_104 (by have e0_ : (0 : Int32).toInt = 0 := (by decide); omega) (by have e0_ : (0 : Int32).toInt = 0 := (by decide); omega) hTE hWT hL0 hL1 hL2
set_option maxHeartbeats 4000000 in
set_option maxRecDepth 100000 in
/-- row -/
theorem law_10 {p : Program} {l : Launch} {e : Env} {s : State} {m : MethodId} {below : List Frame} {meth : Method} {c : Code} {D : va_G} {cI cZ cS cR : ClassId} {N0 : NT} {b L : Nat} {xs : Nat → Int32} (hB : Tz p s m meth c #[Value.ref b] code 4 RL D cI cZ cS cR N0) (hAs : N0.1 = s.heap.size) (hX : va_X b L xs s s.heap) (hbl : b < s.heap.size) (hL : L ≤ 2560) (hr : meth.sig.returnType = ret) {cells slots : Nat} (hcl : cells + 4 ≤ 600000) (hsl : slots + 28 ≤ 7302250) {H : Heap} {locs : List Loc} {ls : Array Slot} (g : GS) (ox om : Nat) (tp : Nat) (nw : Nat) (rl : Nat) (lg : Nat) (ba : Nat) (ta : Nat) (wt : Nat) (y0 : Nat) (y1 : Nat) (y2 : Nat) (m0 : Nat) (m1 : Nat) (m2 : Nat) (i o1 tz sv rz lz : Int32) (hT : Tv D cI cZ cS cR N0 s.heap H locs g) (hI : Inv g) (l_i : 0 ≤ i.toInt) (u_i : i.toInt + 5 ≤ L) : g.1 ox = 7 → g.1 om = 8 → g.2.1 om 22 = .int o1 → 0 ≤ o1.toInt → o1.toInt ≤ 12 * i.toInt → PX 48 2 3 71 72 g om → PX 8 39 40 84 85 g om → g.2.1 ox 0 = .ref tp → g.1 tp = 5 → g.2.1 ox 1 = .ref nw → g.1 nw = 19 → g.2.1 ox 2 = .ref rl → g.1 rl = 1 → g.2.1 ox 3 = .ref lg → g.1 lg = 9 → g.2.1 tp 0 = .ref ba → g.1 ba = 67 → g.2.2.1 ba = 100 → g.2.1 om 28 = .ref ta → g.1 ta = 79 → g.2.2.1 ta = 100 → g.2.1 om 42 = .ref wt → g.1 wt = 87 → g.2.2.1 wt = 24 → g.2.1 lg 0 = .ref y0 → g.1 y0 = 64 → g.2.2.1 y0 = 20 → g.2.1 lg 1 = .ref y1 → g.1 y1 = 65 → g.2.2.1 y1 = 20 → g.2.1 lg 2 = .ref y2 → g.1 y2 = 66 → g.2.2.1 y2 = 20 → g.2.1 om 25 = .ref m0 → g.1 m0 = 76 → g.2.2.1 m0 = 20 → g.2.1 om 26 = .ref m1 → g.1 m1 = 77 → g.2.2.1 m1 = 20 → g.2.1 om 27 = .ref m2 → g.1 m2 = 78 → g.2.2.1 m2 = 20 → g.2.1 tp 1 = .int tz → g.2.1 om 29 = .int tz → 0 ≤ tz.toInt → tz.toInt ≤ 100 → g.2.1 nw 1 = .int sv → g.2.1 om 0 = .int sv → 0 ≤ sv.toInt → sv.toInt ≤ 6 → g.2.1 rl 3 = .int rz → g.2.1 om 30 = .int rz → 0 ≤ rz.toInt → rz.toInt ≤ 6 → g.2.1 lg 3 = .int lz → g.2.1 om 24 = .int lz → 0 ≤ lz.toInt → lz.toInt ≤ 20 → TE g ba ta tz.toInt → WT g wt → TE g y0 m0 lz.toInt → TE g y1 m1 lz.toInt → TE g y2 m2 lz.toInt → (hl : lv_has ls 4 [(3, .int i), (2, .ref om), (1, .ref ox), (0, .ref b)]) → (K : ∀ (g1 : GS) (o1_1 tz_1 sv_1 rz_1 lz_1 : Int32) (H1 : Heap) (locs1 : List Loc), Tv D cI cZ cS cR N0 s.heap H1 locs1 g1 → Inv g1 → g1.1 ox = 7 → g1.1 om = 8 → g1.2.1 om 22 = .int o1_1 → 0 ≤ o1_1.toInt → o1_1.toInt ≤ 12 * i.toInt + 60 → PX 48 2 3 71 72 g1 om → PX 8 39 40 84 85 g1 om → g1.2.1 ox 0 = .ref tp → g1.1 tp = 5 → g1.2.1 ox 1 = .ref nw → g1.1 nw = 19 → g1.2.1 ox 2 = .ref rl → g1.1 rl = 1 → g1.2.1 ox 3 = .ref lg → g1.1 lg = 9 → g1.2.1 tp 0 = .ref ba → g1.1 ba = 67 → g1.2.2.1 ba = 100 → g1.2.1 om 28 = .ref ta → g1.1 ta = 79 → g1.2.2.1 ta = 100 → g1.2.1 om 42 = .ref wt → g1.1 wt = 87 → g1.2.2.1 wt = 24 → g1.2.1 lg 0 = .ref y0 → g1.1 y0 = 64 → g1.2.2.1 y0 = 20 → g1.2.1 lg 1 = .ref y1 → g1.1 y1 = 65 → g1.2.2.1 y1 = 20 → g1.2.1 lg 2 = .ref y2 → g1.1 y2 = 66 → g1.2.2.1 y2 = 20 → g1.2.1 om 25 = .ref m0 → g1.1 m0 = 76 → g1.2.2.1 m0 = 20 → g1.2.1 om 26 = .ref m1 → g1.1 m1 = 77 → g1.2.2.1 m1 = 20 → g1.2.1 om 27 = .ref m2 → g1.1 m2 = 78 → g1.2.2.1 m2 = 20 → g1.2.1 tp 1 = .int tz_1 → g1.2.1 om 29 = .int tz_1 → 0 ≤ tz_1.toInt → tz_1.toInt ≤ 100 → g1.2.1 nw 1 = .int sv_1 → g1.2.1 om 0 = .int sv_1 → 0 ≤ sv_1.toInt → sv_1.toInt ≤ 6 → g1.2.1 rl 3 = .int rz_1 → g1.2.1 om 30 = .int rz_1 → 0 ≤ rz_1.toInt → rz_1.toInt ≤ 6 → g1.2.1 lg 3 = .int lz_1 → g1.2.1 om 24 = .int lz_1 → 0 ≤ lz_1.toInt → lz_1.toInt ≤ 20 → TE g1 ba ta tz_1.toInt → WT g1 wt → TE g1 y0 m0 lz_1.toInt → TE g1 y1 m1 lz_1.toInt → TE g1 y2 m2 lz_1.toInt → W p l e room_1 s m #[Value.ref b] below meth c H1 locs1 (cells + 4) (slots + 28) (lw_Z below #[Value.ref b] s) (F0 m 829 ls [])) → W p l e room_1 s m #[Value.ref b] below meth c H locs cells slots (lw_Z below #[Value.ref b] s) (F0 m 510 ls []) := by
  intro r_ox r_om ko l_o u_o hw hN0 k_tp r_tp k_nw r_nw k_rl r_rl k_lg r_lg k_ba r_ba n_ba k_ta r_ta n_ta k_wt r_wt n_wt k_y0 r_y0 n_y0 k_y1 r_y1 n_y1 k_y2 r_y2 n_y2 k_m0 r_m0 n_m0 k_m1 r_m1 n_m1 k_m2 r_m2 n_m2 kc_tz km_tz l_tz u_tz kc_sv km_sv l_sv u_sv kc_rz km_rz l_rz u_rz kc_lz km_lz l_lz u_lz hTE hWT hL0 hL1 hL2 hl K
  have hx := hB.1
  have hb := hB.2.1
  have hE : Ex g g := Ex.rf
  have hM : Sm mdA g g := sm_all
  have hTE0 := hTE
  have hL00 := hL0
  have hL10 := hL1
  have hL20 := hL2
  refine lv_aload_n hx hb dL_law_510 rfl (lv_at hl 2 rfl) ?_
  refine lv_aload_n hx hb dL_law_511 rfl (lv_at hl 3 rfl) ?_
  refine lv_iload_n hx hb dL_law_512 rfl (lv_at hl 0 rfl) ?_
  refine lv_iconst (v := 1) hx hb dL_law_513 (by decide) ?_
  refine lv_iadd hx hb dL_law_514 ?_
  refine lv_topi (fun z_1 ez_1 => ?_)
  have e_z_1 : z_1.toInt = i.toInt + 1 := i_add ez_1 rfl (by decide) (by omega) (by omega)
  refine va_sld hx hb hX hbl (fun q => by have q_ : N0.1 ≤ b := q; omega) hT.2 (i_in (n := L) rfl (by omega) (by omega)) dL_law_515 ?_
  refine lv_topi (fun u_2 e_u_2 => ?_)
  refine lv_aload_n hx hb dL_law_516 rfl (lv_at hl 3 rfl) ?_
  refine lv_iload_n hx hb dL_law_517 rfl (lv_at hl 0 rfl) ?_
  refine lv_iconst (v := 2) hx hb dL_law_518 (by decide) ?_
  refine lv_iadd hx hb dL_law_519 ?_
  refine lv_topi (fun z_3 ez_3 => ?_)
  have e_z_3 : z_3.toInt = i.toInt + 2 := i_add ez_3 rfl (by decide) (by omega) (by omega)
  refine va_sld hx hb hX hbl (fun q => by have q_ : N0.1 ≤ b := q; omega) hT.2 (i_in (n := L) rfl (by omega) (by omega)) dL_law_520 ?_
  refine lv_topi (fun u_4 e_u_4 => ?_)
  refine lv_aload_n hx hb dL_law_521 rfl (lv_at hl 3 rfl) ?_
  refine lv_iload_n hx hb dL_law_522 rfl (lv_at hl 0 rfl) ?_
  refine lv_iconst (v := 3) hx hb dL_law_523 (by decide) ?_
  refine lv_iadd hx hb dL_law_524 ?_
  refine lv_topi (fun z_5 ez_5 => ?_)
  have e_z_5 : z_5.toInt = i.toInt + 3 := i_add ez_5 rfl (by decide) (by omega) (by omega)
  refine va_sld hx hb hX hbl (fun q => by have q_ : N0.1 ≤ b := q; omega) hT.2 (i_in (n := L) rfl (by omega) (by omega)) dL_law_525 ?_
  refine lv_topi (fun u_6 e_u_6 => ?_)
  refine t_callV (n := 3) (As := [.int u_2, .int u_4, .int u_6]) (rest := []) (ci := 6) hB hT hl.1 (P_row l D cI cZ cS cR N0 g hI ox u_2 u_4 u_6 nw sv rl rz r_ox r_nw r_rl k_nw kc_sv k_rl kc_rz (by omega) (by omega) (by omega) (by omega)) (ro_ci r_ox rfl) rfl k_565 k_57 k_562 k_563 k_564 (by decide +kernel) ⟨(Nat.le_of_ble_eq_true rfl), (Nat.le_of_ble_eq_true rfl)⟩ rfl (Nat.le_of_ble_eq_true rfl) ⟨(by show _ ≤ _; first | exact Nat.le_of_ble_eq_true rfl | (simp only [room_1]; omega)), (by show _ ≤ _; first | exact Nat.le_of_ble_eq_true rfl | (simp only [room_1]; omega))⟩ dL_law_526 (fun v g_7 H locs hp hT => ?_)
  obtain ⟨r_8, q2_9, rfl, hI, x_14, m_13, f_10, f_11, f_12⟩ := hp
  have hw : PX 48 2 3 71 72 g_7 om := hw.mono m_13 x_14 r_om (by decide) (by decide) rfl rfl rfl rfl
  have hN0 : PX 8 39 40 84 85 g_7 om := hN0.mono m_13 x_14 r_om (by decide) (by decide) rfl rfl rfl rfl
  have hTE : TE g_7 ba ta tz.toInt := hTE.sm m_13 r_ba (by decide) rfl r_ta (by decide) rfl
  have hWT : WT g_7 wt := hWT.sm m_13 r_wt (by decide) rfl
  have hL0 : TE g_7 y0 m0 lz.toInt := hL0.sm m_13 r_y0 (by decide) rfl r_m0 (by decide) rfl
  have hL1 : TE g_7 y1 m1 lz.toInt := hL1.sm m_13 r_y1 (by decide) rfl r_m1 (by decide) rfl
  have hL2 : TE g_7 y2 m2 lz.toInt := hL2.sm m_13 r_y2 (by decide) rfl r_m2 (by decide) rfl
  have hM : Sm mdA g g_7 := sm_all
  have hE : Ex g g_7 := hE.tr x_14
  have r_15 : g_7.1 ox = 7 := (Ex.r x_14 r_ox (by decide))
  have r_16 : g_7.1 om = 8 := (Ex.r x_14 r_om (by decide))
  have r_17 : g_7.1 tp = 5 := (Ex.r x_14 r_tp (by decide))
  have r_18 : g_7.1 nw = 19 := (Ex.r x_14 r_nw (by decide))
  have r_19 : g_7.1 rl = 1 := (Ex.r x_14 r_rl (by decide))
  have r_20 : g_7.1 lg = 9 := (Ex.r x_14 r_lg (by decide))
  have r_21 : g_7.1 ba = 67 := (Ex.r x_14 r_ba (by decide))
  have r_22 : g_7.1 ta = 79 := (Ex.r x_14 r_ta (by decide))
  have r_23 : g_7.1 wt = 87 := (Ex.r x_14 r_wt (by decide))
  have r_24 : g_7.1 y0 = 64 := (Ex.r x_14 r_y0 (by decide))
  have r_25 : g_7.1 y1 = 65 := (Ex.r x_14 r_y1 (by decide))
  have r_26 : g_7.1 y2 = 66 := (Ex.r x_14 r_y2 (by decide))
  have r_27 : g_7.1 m0 = 76 := (Ex.r x_14 r_m0 (by decide))
  have r_28 : g_7.1 m1 = 77 := (Ex.r x_14 r_m1 (by decide))
  have r_29 : g_7.1 m2 = 78 := (Ex.r x_14 r_m2 (by decide))
  have n_30 : g_7.2.2.1 ba = 100 := (Ex.n x_14 r_ba (by decide) n_ba)
  have n_31 : g_7.2.2.1 ta = 100 := (Ex.n x_14 r_ta (by decide) n_ta)
  have n_32 : g_7.2.2.1 wt = 24 := (Ex.n x_14 r_wt (by decide) n_wt)
  have n_33 : g_7.2.2.1 y0 = 20 := (Ex.n x_14 r_y0 (by decide) n_y0)
  have n_34 : g_7.2.2.1 y1 = 20 := (Ex.n x_14 r_y1 (by decide) n_y1)
  have n_35 : g_7.2.2.1 y2 = 20 := (Ex.n x_14 r_y2 (by decide) n_y2)
  have n_36 : g_7.2.2.1 m0 = 20 := (Ex.n x_14 r_m0 (by decide) n_m0)
  have n_37 : g_7.2.2.1 m1 = 20 := (Ex.n x_14 r_m1 (by decide) n_m1)
  have n_38 : g_7.2.2.1 m2 = 20 := (Ex.n x_14 r_m2 (by decide) n_m2)
  have kn_39 : g_7.2.1 om 22 = .int o1 := (Sm.v m_13 r_om (by decide) rfl ko)
  have kn_40 : g_7.2.1 ox 0 = .ref tp := (Sm.v m_13 r_ox (by decide) rfl k_tp)
  have kn_41 : g_7.2.1 ox 1 = .ref nw := (Sm.v m_13 r_ox (by decide) rfl k_nw)
  have kn_42 : g_7.2.1 ox 2 = .ref rl := (Sm.v m_13 r_ox (by decide) rfl k_rl)
  have kn_43 : g_7.2.1 ox 3 = .ref lg := (Sm.v m_13 r_ox (by decide) rfl k_lg)
  have kn_44 : g_7.2.1 tp 0 = .ref ba := (Sm.v m_13 r_tp (by decide) rfl k_ba)
  have kn_45 : g_7.2.1 om 28 = .ref ta := (Sm.v m_13 r_om (by decide) rfl k_ta)
  have kn_46 : g_7.2.1 om 42 = .ref wt := (Sm.v m_13 r_om (by decide) rfl k_wt)
  have kn_47 : g_7.2.1 lg 0 = .ref y0 := (Sm.v m_13 r_lg (by decide) rfl k_y0)
  have kn_48 : g_7.2.1 lg 1 = .ref y1 := (Sm.v m_13 r_lg (by decide) rfl k_y1)
  have kn_49 : g_7.2.1 lg 2 = .ref y2 := (Sm.v m_13 r_lg (by decide) rfl k_y2)
  have kn_50 : g_7.2.1 om 25 = .ref m0 := (Sm.v m_13 r_om (by decide) rfl k_m0)
  have kn_51 : g_7.2.1 om 26 = .ref m1 := (Sm.v m_13 r_om (by decide) rfl k_m1)
  have kn_52 : g_7.2.1 om 27 = .ref m2 := (Sm.v m_13 r_om (by decide) rfl k_m2)
  have kn_53 : g_7.2.1 tp 1 = .int tz := (Sm.v m_13 r_tp (by decide) rfl kc_tz)
  have kn_54 : g_7.2.1 om 29 = .int tz := (Sm.v m_13 r_om (by decide) rfl km_tz)
  have kn_55 : g_7.2.1 nw 1 = .int sv := (Sm.v m_13 r_nw (by decide) rfl kc_sv)
  have kn_56 : g_7.2.1 om 0 = .int sv := (Sm.v m_13 r_om (by decide) rfl km_sv)
  have kn_57 : g_7.2.1 om 30 = .int rz := (Sm.v m_13 r_om (by decide) rfl km_rz)
  have kn_58 : g_7.2.1 lg 3 = .int lz := (Sm.v m_13 r_lg (by decide) rfl kc_lz)
  have kn_59 : g_7.2.1 om 24 = .int lz := (Sm.v m_13 r_om (by decide) rfl km_lz)
  refine W.eq (g2 := F0 m 529 ls [.int r_8]) rfl ?_
  refine lv_pop hx hb dL_law_529 rfl ?_
  refine lv_aload_n hx hb dL_law_530 rfl (lv_at hl 1 rfl) ?_
  refine lv_aload_n hx hb dL_law_531 rfl (lv_at hl 3 rfl) ?_
  refine lv_iload_n hx hb dL_law_532 rfl (lv_at hl 0 rfl) ?_
  refine lv_iconst (v := 1) hx hb dL_law_533 (by decide) ?_
  refine lv_iadd hx hb dL_law_534 ?_
  refine lv_topi (fun z_60 ez_60 => ?_)
  have e_z_60 : z_60.toInt = i.toInt + 1 := i_add ez_60 rfl (by decide) (by omega) (by omega)
  refine va_sld hx hb hX hbl (fun q => by have q_ : N0.1 ≤ b := q; omega) hT.2 (i_in (n := L) rfl (by omega) (by omega)) dL_law_535 ?_
  refine lv_topi (fun u_61 e_u_61 => ?_)
  refine lv_aload_n hx hb dL_law_536 rfl (lv_at hl 3 rfl) ?_
  refine lv_iload_n hx hb dL_law_537 rfl (lv_at hl 0 rfl) ?_
  refine lv_iconst (v := 2) hx hb dL_law_538 (by decide) ?_
  refine lv_iadd hx hb dL_law_539 ?_
  refine lv_topi (fun z_62 ez_62 => ?_)
  have e_z_62 : z_62.toInt = i.toInt + 2 := i_add ez_62 rfl (by decide) (by omega) (by omega)
  refine va_sld hx hb hX hbl (fun q => by have q_ : N0.1 ≤ b := q; omega) hT.2 (i_in (n := L) rfl (by omega) (by omega)) dL_law_540 ?_
  refine lv_topi (fun u_63 e_u_63 => ?_)
  refine lv_aload_n hx hb dL_law_541 rfl (lv_at hl 3 rfl) ?_
  refine lv_iload_n hx hb dL_law_542 rfl (lv_at hl 0 rfl) ?_
  refine lv_iconst (v := 3) hx hb dL_law_543 (by decide) ?_
  refine lv_iadd hx hb dL_law_544 ?_
  refine lv_topi (fun z_64 ez_64 => ?_)
  have e_z_64 : z_64.toInt = i.toInt + 3 := i_add ez_64 rfl (by decide) (by omega) (by omega)
  refine va_sld hx hb hX hbl (fun q => by have q_ : N0.1 ≤ b := q; omega) hT.2 (i_in (n := L) rfl (by omega) (by omega)) dL_law_545 ?_
  refine lv_topi (fun u_65 e_u_65 => ?_)
  refine t_callV (n := 3) (As := [.int u_61, .int u_63, .int u_65]) (rest := []) (ci := 7) hB hT hl.1 (m_row l D cI cZ cS cR N0 g_7 hI om u_61 u_63 u_65 sv rz r_16 kn_56 kn_57 (by omega) (by omega) (by omega) (by omega)) (ro_ci r_16 rfl) rfl k_1087 k_65 k_1084 k_1085 k_1086 (by decide +kernel) ⟨(Nat.le_of_ble_eq_true rfl), (Nat.le_of_ble_eq_true rfl)⟩ rfl (Nat.le_of_ble_eq_true rfl) ⟨(by show _ ≤ _; first | exact Nat.le_of_ble_eq_true rfl | (simp only [room_1]; omega)), (by show _ ≤ _; first | exact Nat.le_of_ble_eq_true rfl | (simp only [room_1]; omega))⟩ dL_law_546 (fun v g_66 H locs hp hT => ?_)
  obtain ⟨r_67, q2_68, rfl, hI, x_73, m_72, f_69, f_70, f_71⟩ := hp
  have hw : PX 48 2 3 71 72 g_66 om := hw.mono m_72 x_73 r_16 (by decide) (by decide) rfl rfl rfl rfl
  have hN0 : PX 8 39 40 84 85 g_66 om := hN0.mono m_72 x_73 r_16 (by decide) (by decide) rfl rfl rfl rfl
  have hTE : TE g_66 ba ta tz.toInt := hTE.sm m_72 r_21 (by decide) rfl r_22 (by decide) rfl
  have hWT : WT g_66 wt := hWT.sm m_72 r_23 (by decide) rfl
  have hL0 : TE g_66 y0 m0 lz.toInt := hL0.sm m_72 r_24 (by decide) rfl r_27 (by decide) rfl
  have hL1 : TE g_66 y1 m1 lz.toInt := hL1.sm m_72 r_25 (by decide) rfl r_28 (by decide) rfl
  have hL2 : TE g_66 y2 m2 lz.toInt := hL2.sm m_72 r_26 (by decide) rfl r_29 (by decide) rfl
  have hM : Sm mdA g g_66 := sm_all
  have hE : Ex g g_66 := hE.tr x_73
  have r_74 : g_66.1 ox = 7 := (Ex.r x_73 r_15 (by decide))
  have r_75 : g_66.1 om = 8 := (Ex.r x_73 r_16 (by decide))
  have r_76 : g_66.1 tp = 5 := (Ex.r x_73 r_17 (by decide))
  have r_77 : g_66.1 nw = 19 := (Ex.r x_73 r_18 (by decide))
  have r_78 : g_66.1 rl = 1 := (Ex.r x_73 r_19 (by decide))
  have r_79 : g_66.1 lg = 9 := (Ex.r x_73 r_20 (by decide))
  have r_80 : g_66.1 ba = 67 := (Ex.r x_73 r_21 (by decide))
  have r_81 : g_66.1 ta = 79 := (Ex.r x_73 r_22 (by decide))
  have r_82 : g_66.1 wt = 87 := (Ex.r x_73 r_23 (by decide))
  have r_83 : g_66.1 y0 = 64 := (Ex.r x_73 r_24 (by decide))
  have r_84 : g_66.1 y1 = 65 := (Ex.r x_73 r_25 (by decide))
  have r_85 : g_66.1 y2 = 66 := (Ex.r x_73 r_26 (by decide))
  have r_86 : g_66.1 m0 = 76 := (Ex.r x_73 r_27 (by decide))
  have r_87 : g_66.1 m1 = 77 := (Ex.r x_73 r_28 (by decide))
  have r_88 : g_66.1 m2 = 78 := (Ex.r x_73 r_29 (by decide))
  have n_89 : g_66.2.2.1 ba = 100 := (Ex.n x_73 r_21 (by decide) n_30)
  have n_90 : g_66.2.2.1 ta = 100 := (Ex.n x_73 r_22 (by decide) n_31)
  have n_91 : g_66.2.2.1 wt = 24 := (Ex.n x_73 r_23 (by decide) n_32)
  have n_92 : g_66.2.2.1 y0 = 20 := (Ex.n x_73 r_24 (by decide) n_33)
  have n_93 : g_66.2.2.1 y1 = 20 := (Ex.n x_73 r_25 (by decide) n_34)
  have n_94 : g_66.2.2.1 y2 = 20 := (Ex.n x_73 r_26 (by decide) n_35)
  have n_95 : g_66.2.2.1 m0 = 20 := (Ex.n x_73 r_27 (by decide) n_36)
  have n_96 : g_66.2.2.1 m1 = 20 := (Ex.n x_73 r_28 (by decide) n_37)
  have n_97 : g_66.2.2.1 m2 = 20 := (Ex.n x_73 r_29 (by decide) n_38)
  have kn_98 : g_66.2.1 om 22 = .int o1 := (Sm.v m_72 r_16 (by decide) rfl kn_39)
  have kn_99 : g_66.2.1 ox 0 = .ref tp := (Sm.v m_72 r_15 (by decide) rfl kn_40)
  have kn_100 : g_66.2.1 ox 1 = .ref nw := (Sm.v m_72 r_15 (by decide) rfl kn_41)
  have kn_101 : g_66.2.1 ox 2 = .ref rl := (Sm.v m_72 r_15 (by decide) rfl kn_42)
  have kn_102 : g_66.2.1 ox 3 = .ref lg := (Sm.v m_72 r_15 (by decide) rfl kn_43)
  have kn_103 : g_66.2.1 tp 0 = .ref ba := (Sm.v m_72 r_17 (by decide) rfl kn_44)
  have kn_104 : g_66.2.1 om 28 = .ref ta := (Sm.v m_72 r_16 (by decide) rfl kn_45)
  have kn_105 : g_66.2.1 om 42 = .ref wt := (Sm.v m_72 r_16 (by decide) rfl kn_46)
  have kn_106 : g_66.2.1 lg 0 = .ref y0 := (Sm.v m_72 r_20 (by decide) rfl kn_47)
  have kn_107 : g_66.2.1 lg 1 = .ref y1 := (Sm.v m_72 r_20 (by decide) rfl kn_48)
  have kn_108 : g_66.2.1 lg 2 = .ref y2 := (Sm.v m_72 r_20 (by decide) rfl kn_49)
  have kn_109 : g_66.2.1 om 25 = .ref m0 := (Sm.v m_72 r_16 (by decide) rfl kn_50)
  have kn_110 : g_66.2.1 om 26 = .ref m1 := (Sm.v m_72 r_16 (by decide) rfl kn_51)
  have kn_111 : g_66.2.1 om 27 = .ref m2 := (Sm.v m_72 r_16 (by decide) rfl kn_52)
  have kn_112 : g_66.2.1 tp 1 = .int tz := (Sm.v m_72 r_17 (by decide) rfl kn_53)
  have kn_113 : g_66.2.1 om 29 = .int tz := (Sm.v m_72 r_16 (by decide) rfl kn_54)
  have kn_114 : g_66.2.1 nw 1 = .int sv := (Sm.v m_72 r_18 (by decide) rfl kn_55)
  have kn_115 : g_66.2.1 om 0 = .int sv := (Sm.v m_72 r_16 (by decide) rfl kn_56)
  have kn_116 : g_66.2.1 lg 3 = .int lz := (Sm.v m_72 r_20 (by decide) rfl kn_58)
  have kn_117 : g_66.2.1 om 24 = .int lz := (Sm.v m_72 r_16 (by decide) rfl kn_59)
  have kn_118 : g_66.2.1 rl 3 = .int q2_9 := (Sm.v m_72 r_19 (by decide) rfl f_10)
  refine W.eq (g2 := F0 m 549 ls [.int r_67]) rfl ?_
  refine lv_pop hx hb dL_law_549 rfl ?_
  refine lv_goto (tgt := 829) hx hb dL_law_550 (by decide) ?_
  have eq_u_61 : u_61 = u_2 := e_u_61.trans ((congrArg xs (i_nt (by omega))).trans e_u_2.symm)
  have eqi_u_61 : u_61.toInt = u_2.toInt := congrArg Int32.toInt eq_u_61
  have eq_u_63 : u_63 = u_4 := e_u_63.trans ((congrArg xs (i_nt (by omega))).trans e_u_4.symm)
  have eqi_u_63 : u_63.toInt = u_4.toInt := congrArg Int32.toInt eq_u_63
  have eq_u_65 : u_65 = u_6 := e_u_65.trans ((congrArg xs (i_nt (by omega))).trans e_u_6.symm)
  have eqi_u_65 : u_65.toInt = u_6.toInt := congrArg Int32.toInt eq_u_65
  have er_119 := f_71
  try rw [eq_u_61] at er_119
  try rw [eq_u_63] at er_119
  try rw [eq_u_65] at er_119
  have hub_ : q2_9.toInt ≤ 6 ∧ 0 ≤ q2_9.toInt := (by have q_ := f_12; unfold roQ at q_; omega)
  refine W.widen (k := cells + 4) (n := slots + 28) (by omega) (by omega) ?_
  exact K g_66 o1 tz sv q2_9 lz H locs hT hI r_74 r_75 kn_98 (by have e0_ : (0 : Int32).toInt = 0 := (by decide); omega) (by have e0_ : (0 : Int32).toInt = 0 := (by decide); omega) hw hN0 kn_99 r_76 kn_100 r_77 kn_101 r_78 kn_102 r_79 kn_103 r_80 n_89 kn_104 r_81 n_90 kn_105 r_82 n_91 kn_106 r_83 n_92 kn_107 r_84 n_93 kn_108 r_85 n_94 kn_109 r_86 n_95 kn_110 r_87 n_96 kn_111 r_88 n_97 kn_112 kn_113 (by have e0_ : (0 : Int32).toInt = 0 := (by decide); omega) (by have e0_ : (0 : Int32).toInt = 0 := (by decide); omega) kn_114 kn_115 (by have e0_ : (0 : Int32).toInt = 0 := (by decide); omega) (by have e0_ : (0 : Int32).toInt = 0 := (by decide); omega) kn_118 (f_69.trans (congrArg Value.int (i_inj (er_119.trans f_12.symm)))) (by have e0_ : (0 : Int32).toInt = 0 := (by decide); omega) (by have e0_ : (0 : Int32).toInt = 0 := (by decide); omega) kn_116 kn_117 (by have e0_ : (0 : Int32).toInt = 0 := (by decide); omega) (by have e0_ : (0 : Int32).toInt = 0 := (by decide); omega) hTE hWT hL0 hL1 hL2
set_option maxHeartbeats 4000000 in
set_option maxRecDepth 100000 in
/-- clear -/
theorem law_11 {p : Program} {l : Launch} {e : Env} {s : State} {m : MethodId} {below : List Frame} {meth : Method} {c : Code} {D : va_G} {cI cZ cS cR : ClassId} {N0 : NT} {b L : Nat} {xs : Nat → Int32} (hB : Tz p s m meth c #[Value.ref b] code 4 RL D cI cZ cS cR N0) (hAs : N0.1 = s.heap.size) (hX : va_X b L xs s s.heap) (hbl : b < s.heap.size) (hL : L ≤ 2560) (hr : meth.sig.returnType = ret) {cells slots : Nat} (hcl : cells + 4 ≤ 600000) (hsl : slots + 28 ≤ 7302250) {H : Heap} {locs : List Loc} {ls : Array Slot} (g : GS) (ox om : Nat) (tp : Nat) (nw : Nat) (rl : Nat) (lg : Nat) (ba : Nat) (ta : Nat) (wt : Nat) (y0 : Nat) (y1 : Nat) (y2 : Nat) (m0 : Nat) (m1 : Nat) (m2 : Nat) (i o1 tz sv rz lz : Int32) (hT : Tv D cI cZ cS cR N0 s.heap H locs g) (hI : Inv g) (l_i : 0 ≤ i.toInt) (u_i : i.toInt + 5 ≤ L) : g.1 ox = 7 → g.1 om = 8 → g.2.1 om 22 = .int o1 → 0 ≤ o1.toInt → o1.toInt ≤ 12 * i.toInt → PX 48 2 3 71 72 g om → PX 8 39 40 84 85 g om → g.2.1 ox 0 = .ref tp → g.1 tp = 5 → g.2.1 ox 1 = .ref nw → g.1 nw = 19 → g.2.1 ox 2 = .ref rl → g.1 rl = 1 → g.2.1 ox 3 = .ref lg → g.1 lg = 9 → g.2.1 tp 0 = .ref ba → g.1 ba = 67 → g.2.2.1 ba = 100 → g.2.1 om 28 = .ref ta → g.1 ta = 79 → g.2.2.1 ta = 100 → g.2.1 om 42 = .ref wt → g.1 wt = 87 → g.2.2.1 wt = 24 → g.2.1 lg 0 = .ref y0 → g.1 y0 = 64 → g.2.2.1 y0 = 20 → g.2.1 lg 1 = .ref y1 → g.1 y1 = 65 → g.2.2.1 y1 = 20 → g.2.1 lg 2 = .ref y2 → g.1 y2 = 66 → g.2.2.1 y2 = 20 → g.2.1 om 25 = .ref m0 → g.1 m0 = 76 → g.2.2.1 m0 = 20 → g.2.1 om 26 = .ref m1 → g.1 m1 = 77 → g.2.2.1 m1 = 20 → g.2.1 om 27 = .ref m2 → g.1 m2 = 78 → g.2.2.1 m2 = 20 → g.2.1 tp 1 = .int tz → g.2.1 om 29 = .int tz → 0 ≤ tz.toInt → tz.toInt ≤ 100 → g.2.1 nw 1 = .int sv → g.2.1 om 0 = .int sv → 0 ≤ sv.toInt → sv.toInt ≤ 6 → g.2.1 rl 3 = .int rz → g.2.1 om 30 = .int rz → 0 ≤ rz.toInt → rz.toInt ≤ 6 → g.2.1 lg 3 = .int lz → g.2.1 om 24 = .int lz → 0 ≤ lz.toInt → lz.toInt ≤ 20 → TE g ba ta tz.toInt → WT g wt → TE g y0 m0 lz.toInt → TE g y1 m1 lz.toInt → TE g y2 m2 lz.toInt → (hl : lv_has ls 4 [(3, .int i), (2, .ref om), (1, .ref ox), (0, .ref b)]) → (K : ∀ (g1 : GS) (o1_1 tz_1 sv_1 rz_1 lz_1 : Int32) (H1 : Heap) (locs1 : List Loc), Tv D cI cZ cS cR N0 s.heap H1 locs1 g1 → Inv g1 → g1.1 ox = 7 → g1.1 om = 8 → g1.2.1 om 22 = .int o1_1 → 0 ≤ o1_1.toInt → o1_1.toInt ≤ 12 * i.toInt + 60 → PX 48 2 3 71 72 g1 om → PX 8 39 40 84 85 g1 om → g1.2.1 ox 0 = .ref tp → g1.1 tp = 5 → g1.2.1 ox 1 = .ref nw → g1.1 nw = 19 → g1.2.1 ox 2 = .ref rl → g1.1 rl = 1 → g1.2.1 ox 3 = .ref lg → g1.1 lg = 9 → g1.2.1 tp 0 = .ref ba → g1.1 ba = 67 → g1.2.2.1 ba = 100 → g1.2.1 om 28 = .ref ta → g1.1 ta = 79 → g1.2.2.1 ta = 100 → g1.2.1 om 42 = .ref wt → g1.1 wt = 87 → g1.2.2.1 wt = 24 → g1.2.1 lg 0 = .ref y0 → g1.1 y0 = 64 → g1.2.2.1 y0 = 20 → g1.2.1 lg 1 = .ref y1 → g1.1 y1 = 65 → g1.2.2.1 y1 = 20 → g1.2.1 lg 2 = .ref y2 → g1.1 y2 = 66 → g1.2.2.1 y2 = 20 → g1.2.1 om 25 = .ref m0 → g1.1 m0 = 76 → g1.2.2.1 m0 = 20 → g1.2.1 om 26 = .ref m1 → g1.1 m1 = 77 → g1.2.2.1 m1 = 20 → g1.2.1 om 27 = .ref m2 → g1.1 m2 = 78 → g1.2.2.1 m2 = 20 → g1.2.1 tp 1 = .int tz_1 → g1.2.1 om 29 = .int tz_1 → 0 ≤ tz_1.toInt → tz_1.toInt ≤ 100 → g1.2.1 nw 1 = .int sv_1 → g1.2.1 om 0 = .int sv_1 → 0 ≤ sv_1.toInt → sv_1.toInt ≤ 6 → g1.2.1 rl 3 = .int rz_1 → g1.2.1 om 30 = .int rz_1 → 0 ≤ rz_1.toInt → rz_1.toInt ≤ 6 → g1.2.1 lg 3 = .int lz_1 → g1.2.1 om 24 = .int lz_1 → 0 ≤ lz_1.toInt → lz_1.toInt ≤ 20 → TE g1 ba ta tz_1.toInt → WT g1 wt → TE g1 y0 m0 lz_1.toInt → TE g1 y1 m1 lz_1.toInt → TE g1 y2 m2 lz_1.toInt → W p l e room_1 s m #[Value.ref b] below meth c H1 locs1 (cells + 4) (slots + 28) (lw_Z below #[Value.ref b] s) (F0 m 829 ls [])) → W p l e room_1 s m #[Value.ref b] below meth c H locs cells slots (lw_Z below #[Value.ref b] s) (F0 m 553 ls []) := by
  intro r_ox r_om ko l_o u_o hw hN0 k_tp r_tp k_nw r_nw k_rl r_rl k_lg r_lg k_ba r_ba n_ba k_ta r_ta n_ta k_wt r_wt n_wt k_y0 r_y0 n_y0 k_y1 r_y1 n_y1 k_y2 r_y2 n_y2 k_m0 r_m0 n_m0 k_m1 r_m1 n_m1 k_m2 r_m2 n_m2 kc_tz km_tz l_tz u_tz kc_sv km_sv l_sv u_sv kc_rz km_rz l_rz u_rz kc_lz km_lz l_lz u_lz hTE hWT hL0 hL1 hL2 hl K
  have hx := hB.1
  have hb := hB.2.1
  have hE : Ex g g := Ex.rf
  have hM : Sm mdA g g := sm_all
  have hTE0 := hTE
  have hL00 := hL0
  have hL10 := hL1
  have hL20 := hL2
  refine lv_aload_n hx hb dL_law_553 rfl (lv_at hl 2 rfl) ?_
  refine t_callV (n := 0) (As := []) (rest := []) (ci := 6) hB hT hl.1 (P_clear l D cI cZ cS cR N0 g hI ox rl rz r_ox r_rl k_rl kc_rz (by omega) (by omega)) (ro_ci r_ox rfl) rfl k_569 k_57 k_566 k_567 k_568 (by decide +kernel) ⟨(Nat.le_of_ble_eq_true rfl), (Nat.le_of_ble_eq_true rfl)⟩ rfl (Nat.le_of_ble_eq_true rfl) ⟨(by show _ ≤ _; first | exact Nat.le_of_ble_eq_true rfl | (simp only [room_1]; omega)), (by show _ ≤ _; first | exact Nat.le_of_ble_eq_true rfl | (simp only [room_1]; omega))⟩ dL_law_554 (fun v g_1 H locs hp hT => ?_)
  obtain ⟨r_2, rfl, hI, x_6, m_5, f_3, f_4⟩ := hp
  have hw : PX 48 2 3 71 72 g_1 om := hw.mono m_5 x_6 r_om (by decide) (by decide) rfl rfl rfl rfl
  have hN0 : PX 8 39 40 84 85 g_1 om := hN0.mono m_5 x_6 r_om (by decide) (by decide) rfl rfl rfl rfl
  have hTE : TE g_1 ba ta tz.toInt := hTE.sm m_5 r_ba (by decide) rfl r_ta (by decide) rfl
  have hWT : WT g_1 wt := hWT.sm m_5 r_wt (by decide) rfl
  have hL0 : TE g_1 y0 m0 lz.toInt := hL0.sm m_5 r_y0 (by decide) rfl r_m0 (by decide) rfl
  have hL1 : TE g_1 y1 m1 lz.toInt := hL1.sm m_5 r_y1 (by decide) rfl r_m1 (by decide) rfl
  have hL2 : TE g_1 y2 m2 lz.toInt := hL2.sm m_5 r_y2 (by decide) rfl r_m2 (by decide) rfl
  have hM : Sm mdA g g_1 := sm_all
  have hE : Ex g g_1 := hE.tr x_6
  have r_7 : g_1.1 ox = 7 := (Ex.r x_6 r_ox (by decide))
  have r_8 : g_1.1 om = 8 := (Ex.r x_6 r_om (by decide))
  have r_9 : g_1.1 tp = 5 := (Ex.r x_6 r_tp (by decide))
  have r_10 : g_1.1 nw = 19 := (Ex.r x_6 r_nw (by decide))
  have r_11 : g_1.1 rl = 1 := (Ex.r x_6 r_rl (by decide))
  have r_12 : g_1.1 lg = 9 := (Ex.r x_6 r_lg (by decide))
  have r_13 : g_1.1 ba = 67 := (Ex.r x_6 r_ba (by decide))
  have r_14 : g_1.1 ta = 79 := (Ex.r x_6 r_ta (by decide))
  have r_15 : g_1.1 wt = 87 := (Ex.r x_6 r_wt (by decide))
  have r_16 : g_1.1 y0 = 64 := (Ex.r x_6 r_y0 (by decide))
  have r_17 : g_1.1 y1 = 65 := (Ex.r x_6 r_y1 (by decide))
  have r_18 : g_1.1 y2 = 66 := (Ex.r x_6 r_y2 (by decide))
  have r_19 : g_1.1 m0 = 76 := (Ex.r x_6 r_m0 (by decide))
  have r_20 : g_1.1 m1 = 77 := (Ex.r x_6 r_m1 (by decide))
  have r_21 : g_1.1 m2 = 78 := (Ex.r x_6 r_m2 (by decide))
  have n_22 : g_1.2.2.1 ba = 100 := (Ex.n x_6 r_ba (by decide) n_ba)
  have n_23 : g_1.2.2.1 ta = 100 := (Ex.n x_6 r_ta (by decide) n_ta)
  have n_24 : g_1.2.2.1 wt = 24 := (Ex.n x_6 r_wt (by decide) n_wt)
  have n_25 : g_1.2.2.1 y0 = 20 := (Ex.n x_6 r_y0 (by decide) n_y0)
  have n_26 : g_1.2.2.1 y1 = 20 := (Ex.n x_6 r_y1 (by decide) n_y1)
  have n_27 : g_1.2.2.1 y2 = 20 := (Ex.n x_6 r_y2 (by decide) n_y2)
  have n_28 : g_1.2.2.1 m0 = 20 := (Ex.n x_6 r_m0 (by decide) n_m0)
  have n_29 : g_1.2.2.1 m1 = 20 := (Ex.n x_6 r_m1 (by decide) n_m1)
  have n_30 : g_1.2.2.1 m2 = 20 := (Ex.n x_6 r_m2 (by decide) n_m2)
  have kn_31 : g_1.2.1 om 22 = .int o1 := (Sm.v m_5 r_om (by decide) rfl ko)
  have kn_32 : g_1.2.1 ox 0 = .ref tp := (Sm.v m_5 r_ox (by decide) rfl k_tp)
  have kn_33 : g_1.2.1 ox 1 = .ref nw := (Sm.v m_5 r_ox (by decide) rfl k_nw)
  have kn_34 : g_1.2.1 ox 2 = .ref rl := (Sm.v m_5 r_ox (by decide) rfl k_rl)
  have kn_35 : g_1.2.1 ox 3 = .ref lg := (Sm.v m_5 r_ox (by decide) rfl k_lg)
  have kn_36 : g_1.2.1 tp 0 = .ref ba := (Sm.v m_5 r_tp (by decide) rfl k_ba)
  have kn_37 : g_1.2.1 om 28 = .ref ta := (Sm.v m_5 r_om (by decide) rfl k_ta)
  have kn_38 : g_1.2.1 om 42 = .ref wt := (Sm.v m_5 r_om (by decide) rfl k_wt)
  have kn_39 : g_1.2.1 lg 0 = .ref y0 := (Sm.v m_5 r_lg (by decide) rfl k_y0)
  have kn_40 : g_1.2.1 lg 1 = .ref y1 := (Sm.v m_5 r_lg (by decide) rfl k_y1)
  have kn_41 : g_1.2.1 lg 2 = .ref y2 := (Sm.v m_5 r_lg (by decide) rfl k_y2)
  have kn_42 : g_1.2.1 om 25 = .ref m0 := (Sm.v m_5 r_om (by decide) rfl k_m0)
  have kn_43 : g_1.2.1 om 26 = .ref m1 := (Sm.v m_5 r_om (by decide) rfl k_m1)
  have kn_44 : g_1.2.1 om 27 = .ref m2 := (Sm.v m_5 r_om (by decide) rfl k_m2)
  have kn_45 : g_1.2.1 tp 1 = .int tz := (Sm.v m_5 r_tp (by decide) rfl kc_tz)
  have kn_46 : g_1.2.1 om 29 = .int tz := (Sm.v m_5 r_om (by decide) rfl km_tz)
  have kn_47 : g_1.2.1 nw 1 = .int sv := (Sm.v m_5 r_nw (by decide) rfl kc_sv)
  have kn_48 : g_1.2.1 om 0 = .int sv := (Sm.v m_5 r_om (by decide) rfl km_sv)
  have kn_49 : g_1.2.1 om 30 = .int rz := (Sm.v m_5 r_om (by decide) rfl km_rz)
  have kn_50 : g_1.2.1 lg 3 = .int lz := (Sm.v m_5 r_lg (by decide) rfl kc_lz)
  have kn_51 : g_1.2.1 om 24 = .int lz := (Sm.v m_5 r_om (by decide) rfl km_lz)
  refine W.eq (g2 := F0 m 557 ls [.int r_2]) rfl ?_
  refine lv_pop hx hb dL_law_557 rfl ?_
  refine lv_aload_n hx hb dL_law_558 rfl (lv_at hl 1 rfl) ?_
  refine t_callV (n := 0) (As := []) (rest := []) (ci := 7) hB hT hl.1 (m_clear l D cI cZ cS cR N0 g_1 hI om rz r_8 kn_49 (by omega) (by omega)) (ro_ci r_8 rfl) rfl k_1091 k_65 k_1088 k_1089 k_1090 (by decide +kernel) ⟨(Nat.le_of_ble_eq_true rfl), (Nat.le_of_ble_eq_true rfl)⟩ rfl (Nat.le_of_ble_eq_true rfl) ⟨(by show _ ≤ _; first | exact Nat.le_of_ble_eq_true rfl | (simp only [room_1]; omega)), (by show _ ≤ _; first | exact Nat.le_of_ble_eq_true rfl | (simp only [room_1]; omega))⟩ dL_law_559 (fun v g_52 H locs hp hT => ?_)
  obtain ⟨r_53, rfl, hI, x_57, m_56, f_54, f_55⟩ := hp
  have hw : PX 48 2 3 71 72 g_52 om := hw.mono m_56 x_57 r_8 (by decide) (by decide) rfl rfl rfl rfl
  have hN0 : PX 8 39 40 84 85 g_52 om := hN0.mono m_56 x_57 r_8 (by decide) (by decide) rfl rfl rfl rfl
  have hTE : TE g_52 ba ta tz.toInt := hTE.sm m_56 r_13 (by decide) rfl r_14 (by decide) rfl
  have hWT : WT g_52 wt := hWT.sm m_56 r_15 (by decide) rfl
  have hL0 : TE g_52 y0 m0 lz.toInt := hL0.sm m_56 r_16 (by decide) rfl r_19 (by decide) rfl
  have hL1 : TE g_52 y1 m1 lz.toInt := hL1.sm m_56 r_17 (by decide) rfl r_20 (by decide) rfl
  have hL2 : TE g_52 y2 m2 lz.toInt := hL2.sm m_56 r_18 (by decide) rfl r_21 (by decide) rfl
  have hM : Sm mdA g g_52 := sm_all
  have hE : Ex g g_52 := hE.tr x_57
  have r_58 : g_52.1 ox = 7 := (Ex.r x_57 r_7 (by decide))
  have r_59 : g_52.1 om = 8 := (Ex.r x_57 r_8 (by decide))
  have r_60 : g_52.1 tp = 5 := (Ex.r x_57 r_9 (by decide))
  have r_61 : g_52.1 nw = 19 := (Ex.r x_57 r_10 (by decide))
  have r_62 : g_52.1 rl = 1 := (Ex.r x_57 r_11 (by decide))
  have r_63 : g_52.1 lg = 9 := (Ex.r x_57 r_12 (by decide))
  have r_64 : g_52.1 ba = 67 := (Ex.r x_57 r_13 (by decide))
  have r_65 : g_52.1 ta = 79 := (Ex.r x_57 r_14 (by decide))
  have r_66 : g_52.1 wt = 87 := (Ex.r x_57 r_15 (by decide))
  have r_67 : g_52.1 y0 = 64 := (Ex.r x_57 r_16 (by decide))
  have r_68 : g_52.1 y1 = 65 := (Ex.r x_57 r_17 (by decide))
  have r_69 : g_52.1 y2 = 66 := (Ex.r x_57 r_18 (by decide))
  have r_70 : g_52.1 m0 = 76 := (Ex.r x_57 r_19 (by decide))
  have r_71 : g_52.1 m1 = 77 := (Ex.r x_57 r_20 (by decide))
  have r_72 : g_52.1 m2 = 78 := (Ex.r x_57 r_21 (by decide))
  have n_73 : g_52.2.2.1 ba = 100 := (Ex.n x_57 r_13 (by decide) n_22)
  have n_74 : g_52.2.2.1 ta = 100 := (Ex.n x_57 r_14 (by decide) n_23)
  have n_75 : g_52.2.2.1 wt = 24 := (Ex.n x_57 r_15 (by decide) n_24)
  have n_76 : g_52.2.2.1 y0 = 20 := (Ex.n x_57 r_16 (by decide) n_25)
  have n_77 : g_52.2.2.1 y1 = 20 := (Ex.n x_57 r_17 (by decide) n_26)
  have n_78 : g_52.2.2.1 y2 = 20 := (Ex.n x_57 r_18 (by decide) n_27)
  have n_79 : g_52.2.2.1 m0 = 20 := (Ex.n x_57 r_19 (by decide) n_28)
  have n_80 : g_52.2.2.1 m1 = 20 := (Ex.n x_57 r_20 (by decide) n_29)
  have n_81 : g_52.2.2.1 m2 = 20 := (Ex.n x_57 r_21 (by decide) n_30)
  have kn_82 : g_52.2.1 om 22 = .int o1 := (Sm.v m_56 r_8 (by decide) rfl kn_31)
  have kn_83 : g_52.2.1 ox 0 = .ref tp := (Sm.v m_56 r_7 (by decide) rfl kn_32)
  have kn_84 : g_52.2.1 ox 1 = .ref nw := (Sm.v m_56 r_7 (by decide) rfl kn_33)
  have kn_85 : g_52.2.1 ox 2 = .ref rl := (Sm.v m_56 r_7 (by decide) rfl kn_34)
  have kn_86 : g_52.2.1 ox 3 = .ref lg := (Sm.v m_56 r_7 (by decide) rfl kn_35)
  have kn_87 : g_52.2.1 tp 0 = .ref ba := (Sm.v m_56 r_9 (by decide) rfl kn_36)
  have kn_88 : g_52.2.1 om 28 = .ref ta := (Sm.v m_56 r_8 (by decide) rfl kn_37)
  have kn_89 : g_52.2.1 om 42 = .ref wt := (Sm.v m_56 r_8 (by decide) rfl kn_38)
  have kn_90 : g_52.2.1 lg 0 = .ref y0 := (Sm.v m_56 r_12 (by decide) rfl kn_39)
  have kn_91 : g_52.2.1 lg 1 = .ref y1 := (Sm.v m_56 r_12 (by decide) rfl kn_40)
  have kn_92 : g_52.2.1 lg 2 = .ref y2 := (Sm.v m_56 r_12 (by decide) rfl kn_41)
  have kn_93 : g_52.2.1 om 25 = .ref m0 := (Sm.v m_56 r_8 (by decide) rfl kn_42)
  have kn_94 : g_52.2.1 om 26 = .ref m1 := (Sm.v m_56 r_8 (by decide) rfl kn_43)
  have kn_95 : g_52.2.1 om 27 = .ref m2 := (Sm.v m_56 r_8 (by decide) rfl kn_44)
  have kn_96 : g_52.2.1 tp 1 = .int tz := (Sm.v m_56 r_9 (by decide) rfl kn_45)
  have kn_97 : g_52.2.1 om 29 = .int tz := (Sm.v m_56 r_8 (by decide) rfl kn_46)
  have kn_98 : g_52.2.1 nw 1 = .int sv := (Sm.v m_56 r_10 (by decide) rfl kn_47)
  have kn_99 : g_52.2.1 om 0 = .int sv := (Sm.v m_56 r_8 (by decide) rfl kn_48)
  have kn_100 : g_52.2.1 lg 3 = .int lz := (Sm.v m_56 r_12 (by decide) rfl kn_50)
  have kn_101 : g_52.2.1 om 24 = .int lz := (Sm.v m_56 r_8 (by decide) rfl kn_51)
  have kn_102 : g_52.2.1 rl 3 = .int 0 := (Sm.v m_56 r_11 (by decide) rfl f_3)
  refine W.eq (g2 := F0 m 562 ls [.int r_53]) rfl ?_
  refine lv_pop hx hb dL_law_562 rfl ?_
  refine lv_goto (tgt := 829) hx hb dL_law_563 (by decide) ?_
  refine W.widen (k := cells + 4) (n := slots + 28) (by omega) (by omega) ?_
  exact K g_52 o1 tz sv (0 : Int32) lz H locs hT hI r_58 r_59 kn_82 (by have e0_ : (0 : Int32).toInt = 0 := (by decide); omega) (by have e0_ : (0 : Int32).toInt = 0 := (by decide); omega) hw hN0 kn_83 r_60 kn_84 r_61 kn_85 r_62 kn_86 r_63 kn_87 r_64 n_73 kn_88 r_65 n_74 kn_89 r_66 n_75 kn_90 r_67 n_76 kn_91 r_68 n_77 kn_92 r_69 n_78 kn_93 r_70 n_79 kn_94 r_71 n_80 kn_95 r_72 n_81 kn_96 kn_97 (by have e0_ : (0 : Int32).toInt = 0 := (by decide); omega) (by have e0_ : (0 : Int32).toInt = 0 := (by decide); omega) kn_98 kn_99 (by have e0_ : (0 : Int32).toInt = 0 := (by decide); omega) (by have e0_ : (0 : Int32).toInt = 0 := (by decide); omega) kn_102 f_54 (by have e0_ : (0 : Int32).toInt = 0 := (by decide); omega) (by have e0_ : (0 : Int32).toInt = 0 := (by decide); omega) kn_100 kn_101 (by have e0_ : (0 : Int32).toInt = 0 := (by decide); omega) (by have e0_ : (0 : Int32).toInt = 0 := (by decide); omega) hTE hWT hL0 hL1 hL2
