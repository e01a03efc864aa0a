theorem k_482 : Cond.methodLink RL 52 yX6_call ∈ tb := mt 482 (by decide +kernel) rfl
theorem k_483 : Cond.instanceMethod yX6_call ∈ tb := mt 483 (by decide +kernel) rfl
theorem k_484 : Cond.selects RX6 yX6_call yX6_call ∈ tb := mt 484 (by decide +kernel) rfl
set_option maxRecDepth 20000 in
theorem k_485 : Cond.code yX6_call cX6_call 5 (some .int) ∈ tb := mt 485 rfl rfl
theorem k_555 : Cond.methodLink RL 57 yX6_outside ∈ tb := mt 555 (by decide +kernel) rfl
theorem k_556 : Cond.instanceMethod yX6_outside ∈ tb := mt 556 (by decide +kernel) rfl
theorem k_557 : Cond.selects RX6 yX6_outside yX6_outside ∈ tb := mt 557 (by decide +kernel) rfl
set_option maxRecDepth 20000 in
theorem k_558 : Cond.code yX6_outside cX6_outside 2 (some .int) ∈ tb := mt 558 rfl rfl
theorem k_562 : Cond.methodLink RL 61 yX6_row ∈ tb := mt 562 (by decide +kernel) rfl
theorem k_563 : Cond.instanceMethod yX6_row ∈ tb := mt 563 (by decide +kernel) rfl
theorem k_564 : Cond.selects RX6 yX6_row yX6_row ∈ tb := mt 564 (by decide +kernel) rfl
set_option maxRecDepth 20000 in
theorem k_565 : Cond.code yX6_row cX6_row 4 (some .int) ∈ tb := mt 565 rfl rfl
theorem k_566 : Cond.methodLink RL 65 yX6_clear ∈ tb := mt 566 (by decide +kernel) rfl
theorem k_567 : Cond.instanceMethod yX6_clear ∈ tb := mt 567 (by decide +kernel) rfl
theorem k_568 : Cond.selects RX6 yX6_clear yX6_clear ∈ tb := mt 568 (by decide +kernel) rfl
set_option maxRecDepth 20000 in
theorem k_569 : Cond.code yX6_clear cX6_clear 2 (some .int) ∈ tb := mt 569 rfl rfl
theorem k_1028 : Cond.methodLink RL 56 yX7_call ∈ tb := mt 1028 (by decide +kernel) rfl
theorem k_1029 : Cond.instanceMethod yX7_call ∈ tb := mt 1029 (by decide +kernel) rfl
theorem k_1030 : Cond.selects RX7 yX7_call yX7_call ∈ tb := mt 1030 (by decide +kernel) rfl
set_option maxRecDepth 20000 in
theorem k_1031 : Cond.code yX7_call cX7_call 6 (some .int) ∈ tb := mt 1031 rfl rfl
theorem k_1080 : Cond.methodLink RL 60 yX7_outside ∈ tb := mt 1080 (by decide +kernel) rfl
theorem k_1081 : Cond.instanceMethod yX7_outside ∈ tb := mt 1081 (by decide +kernel) rfl
theorem k_1082 : Cond.selects RX7 yX7_outside yX7_outside ∈ tb := mt 1082 (by decide +kernel) rfl
set_option maxRecDepth 20000 in
theorem k_1083 : Cond.code yX7_outside cX7_outside 2 (some .int) ∈ tb := mt 1083 rfl rfl
theorem k_1084 : Cond.methodLink RL 64 yX7_row ∈ tb := mt 1084 (by decide +kernel) rfl
theorem k_1085 : Cond.instanceMethod yX7_row ∈ tb := mt 1085 (by decide +kernel) rfl
theorem k_1086 : Cond.selects RX7 yX7_row yX7_row ∈ tb := mt 1086 (by decide +kernel) rfl
set_option maxRecDepth 20000 in
theorem k_1087 : Cond.code yX7_row cX7_row 4 (some .int) ∈ tb := mt 1087 rfl rfl
theorem k_1088 : Cond.methodLink RL 68 yX7_clear ∈ tb := mt 1088 (by decide +kernel) rfl
theorem k_1089 : Cond.instanceMethod yX7_clear ∈ tb := mt 1089 (by decide +kernel) rfl
theorem k_1090 : Cond.selects RX7 yX7_clear yX7_clear ∈ tb := mt 1090 (by decide +kernel) rfl
set_option maxRecDepth 20000 in
theorem k_1091 : Cond.code yX7_clear cX7_clear 2 (some .int) ∈ tb := mt 1091 rfl rfl
theorem dL_law_434 : decode cL_law 434 = .ok (.aload_n 1, 1) := by decide +kernel
theorem dL_law_435 : decode cL_law 435 = .ok (.aload_n 0, 1) := by decide +kernel
theorem dL_law_436 : decode cL_law 436 = .ok (.iload_n 3, 1) := by decide +kernel
theorem dL_law_437 : decode cL_law 437 = .ok (.iconst 1, 1) := by decide +kernel
theorem dL_law_438 : decode cL_law 438 = .ok (.iadd, 1) := by decide +kernel
theorem dL_law_439 : decode cL_law 439 = .ok (.iaload, 1) := by decide +kernel
theorem dL_law_440 : decode cL_law 440 = .ok (.aload_n 0, 1) := by decide +kernel
theorem dL_law_441 : decode cL_law 441 = .ok (.iload_n 3, 1) := by decide +kernel
theorem dL_law_442 : decode cL_law 442 = .ok (.iconst 2, 1) := by decide +kernel
theorem dL_law_443 : decode cL_law 443 = .ok (.iadd, 1) := by decide +kernel
theorem dL_law_444 : decode cL_law 444 = .ok (.iaload, 1) := by decide +kernel
theorem dL_law_445 : decode cL_law 445 = .ok (.aload_n 0, 1) := by decide +kernel
theorem dL_law_446 : decode cL_law 446 = .ok (.iload_n 3, 1) := by decide +kernel
theorem dL_law_447 : decode cL_law 447 = .ok (.iconst 3, 1) := by decide +kernel
theorem dL_law_448 : decode cL_law 448 = .ok (.iadd, 1) := by decide +kernel
theorem dL_law_449 : decode cL_law 449 = .ok (.iaload, 1) := by decide +kernel
theorem dL_law_450 : decode cL_law 450 = .ok (.aload_n 0, 1) := by decide +kernel
theorem dL_law_451 : decode cL_law 451 = .ok (.iload_n 3, 1) := by decide +kernel
theorem dL_law_452 : decode cL_law 452 = .ok (.iconst 4, 1) := by decide +kernel
theorem dL_law_453 : decode cL_law 453 = .ok (.iadd, 1) := by decide +kernel
theorem dL_law_454 : decode cL_law 454 = .ok (.iaload, 1) := by decide +kernel
theorem dL_law_455 : decode cL_law 455 = .ok (.invokevirtual 52, 3) := by decide +kernel
theorem dL_law_458 : decode cL_law 458 = .ok (.pop, 1) := by decide +kernel
theorem dL_law_459 : decode cL_law 459 = .ok (.aload_n 2, 1) := by decide +kernel
theorem dL_law_460 : decode cL_law 460 = .ok (.aload_n 0, 1) := by decide +kernel
theorem dL_law_461 : decode cL_law 461 = .ok (.iload_n 3, 1) := by decide +kernel
theorem dL_law_462 : decode cL_law 462 = .ok (.iconst 1, 1) := by decide +kernel
theorem dL_law_463 : decode cL_law 463 = .ok (.iadd, 1) := by decide +kernel
theorem dL_law_464 : decode cL_law 464 = .ok (.iaload, 1) := by decide +kernel
theorem dL_law_465 : decode cL_law 465 = .ok (.aload_n 0, 1) := by decide +kernel
theorem dL_law_466 : decode cL_law 466 = .ok (.iload_n 3, 1) := by decide +kernel
theorem dL_law_467 : decode cL_law 467 = .ok (.iconst 2, 1) := by decide +kernel
theorem dL_law_468 : decode cL_law 468 = .ok (.iadd, 1) := by decide +kernel
theorem dL_law_469 : decode cL_law 469 = .ok (.iaload, 1) := by decide +kernel
theorem dL_law_470 : decode cL_law 470 = .ok (.aload_n 0, 1) := by decide +kernel
theorem dL_law_471 : decode cL_law 471 = .ok (.iload_n 3, 1) := by decide +kernel
theorem dL_law_472 : decode cL_law 472 = .ok (.iconst 3, 1) := by decide +kernel
theorem dL_law_473 : decode cL_law 473 = .ok (.iadd, 1) := by decide +kernel
theorem dL_law_474 : decode cL_law 474 = .ok (.iaload, 1) := by decide +kernel
theorem dL_law_475 : decode cL_law 475 = .ok (.aload_n 0, 1) := by decide +kernel
theorem dL_law_476 : decode cL_law 476 = .ok (.iload_n 3, 1) := by decide +kernel
theorem dL_law_477 : decode cL_law 477 = .ok (.iconst 4, 1) := by decide +kernel
theorem dL_law_478 : decode cL_law 478 = .ok (.iadd, 1) := by decide +kernel
theorem dL_law_479 : decode cL_law 479 = .ok (.iaload, 1) := by decide +kernel
theorem dL_law_480 : decode cL_law 480 = .ok (.invokevirtual 56, 3) := by decide +kernel
theorem dL_law_483 : decode cL_law 483 = .ok (.pop, 1) := by decide +kernel
theorem dL_law_484 : decode cL_law 484 = .ok (.goto 345, 3) := by decide +kernel
theorem dL_law_487 : decode cL_law 487 = .ok (.aload_n 1, 1) := by decide +kernel
theorem dL_law_488 : decode cL_law 488 = .ok (.aload_n 0, 1) := by decide +kernel
theorem dL_law_489 : decode cL_law 489 = .ok (.iload_n 3, 1) := by decide +kernel
theorem dL_law_490 : decode cL_law 490 = .ok (.iconst 1, 1) := by decide +kernel
theorem dL_law_491 : decode cL_law 491 = .ok (.iadd, 1) := by decide +kernel
theorem dL_law_492 : decode cL_law 492 = .ok (.iaload, 1) := by decide +kernel
theorem dL_law_493 : decode cL_law 493 = .ok (.invokevirtual 57, 3) := by decide +kernel
theorem dL_law_496 : decode cL_law 496 = .ok (.pop, 1) := by decide +kernel
theorem dL_law_497 : decode cL_law 497 = .ok (.aload_n 2, 1) := by decide +kernel
theorem dL_law_498 : decode cL_law 498 = .ok (.aload_n 0, 1) := by decide +kernel
theorem dL_law_499 : decode cL_law 499 = .ok (.iload_n 3, 1) := by decide +kernel
theorem dL_law_500 : decode cL_law 500 = .ok (.iconst 1, 1) := by decide +kernel
theorem dL_law_501 : decode cL_law 501 = .ok (.iadd, 1) := by decide +kernel
theorem dL_law_502 : decode cL_law 502 = .ok (.iaload, 1) := by decide +kernel
theorem dL_law_503 : decode cL_law 503 = .ok (.invokevirtual 60, 3) := by decide +kernel
theorem dL_law_506 : decode cL_law 506 = .ok (.pop, 1) := by decide +kernel
theorem dL_law_507 : decode cL_law 507 = .ok (.goto 322, 3) := by decide +kernel
theorem dL_law_510 : decode cL_law 510 = .ok (.aload_n 1, 1) := by decide +kernel
theorem dL_law_511 : decode cL_law 511 = .ok (.aload_n 0, 1) := by decide +kernel
theorem dL_law_512 : decode cL_law 512 = .ok (.iload_n 3, 1) := by decide +kernel
theorem dL_law_513 : decode cL_law 513 = .ok (.iconst 1, 1) := by decide +kernel
theorem dL_law_514 : decode cL_law 514 = .ok (.iadd, 1) := by decide +kernel
theorem dL_law_515 : decode cL_law 515 = .ok (.iaload, 1) := by decide +kernel
theorem dL_law_516 : decode cL_law 516 = .ok (.aload_n 0, 1) := by decide +kernel
theorem dL_law_517 : decode cL_law 517 = .ok (.iload_n 3, 1) := by decide +kernel
theorem dL_law_518 : decode cL_law 518 = .ok (.iconst 2, 1) := by decide +kernel
theorem dL_law_519 : decode cL_law 519 = .ok (.iadd, 1) := by decide +kernel
theorem dL_law_520 : decode cL_law 520 = .ok (.iaload, 1) := by decide +kernel
theorem dL_law_521 : decode cL_law 521 = .ok (.aload_n 0, 1) := by decide +kernel
theorem dL_law_522 : decode cL_law 522 = .ok (.iload_n 3, 1) := by decide +kernel
theorem dL_law_523 : decode cL_law 523 = .ok (.iconst 3, 1) := by decide +kernel
theorem dL_law_524 : decode cL_law 524 = .ok (.iadd, 1) := by decide +kernel
theorem dL_law_525 : decode cL_law 525 = .ok (.iaload, 1) := by decide +kernel
theorem dL_law_526 : decode cL_law 526 = .ok (.invokevirtual 61, 3) := by decide +kernel
theorem dL_law_529 : decode cL_law 529 = .ok (.pop, 1) := by decide +kernel
theorem dL_law_530 : decode cL_law 530 = .ok (.aload_n 2, 1) := by decide +kernel
theorem dL_law_531 : decode cL_law 531 = .ok (.aload_n 0, 1) := by decide +kernel
theorem dL_law_532 : decode cL_law 532 = .ok (.iload_n 3, 1) := by decide +kernel
theorem dL_law_533 : decode cL_law 533 = .ok (.iconst 1, 1) := by decide +kernel
theorem dL_law_534 : decode cL_law 534 = .ok (.iadd, 1) := by decide +kernel
theorem dL_law_535 : decode cL_law 535 = .ok (.iaload, 1) := by decide +kernel
theorem dL_law_536 : decode cL_law 536 = .ok (.aload_n 0, 1) := by decide +kernel
theorem dL_law_537 : decode cL_law 537 = .ok (.iload_n 3, 1) := by decide +kernel
theorem dL_law_538 : decode cL_law 538 = .ok (.iconst 2, 1) := by decide +kernel
theorem dL_law_539 : decode cL_law 539 = .ok (.iadd, 1) := by decide +kernel
theorem dL_law_540 : decode cL_law 540 = .ok (.iaload, 1) := by decide +kernel
theorem dL_law_541 : decode cL_law 541 = .ok (.aload_n 0, 1) := by decide +kernel
theorem dL_law_542 : decode cL_law 542 = .ok (.iload_n 3, 1) := by decide +kernel
theorem dL_law_543 : decode cL_law 543 = .ok (.iconst 3, 1) := by decide +kernel
theorem dL_law_544 : decode cL_law 544 = .ok (.iadd, 1) := by decide +kernel
theorem dL_law_545 : decode cL_law 545 = .ok (.iaload, 1) := by decide +kernel
theorem dL_law_546 : decode cL_law 546 = .ok (.invokevirtual 64, 3) := by decide +kernel
theorem dL_law_549 : decode cL_law 549 = .ok (.pop, 1) := by decide +kernel
theorem dL_law_550 : decode cL_law 550 = .ok (.goto 279, 3) := by decide +kernel
theorem dL_law_553 : decode cL_law 553 = .ok (.aload_n 1, 1) := by decide +kernel
theorem dL_law_554 : decode cL_law 554 = .ok (.invokevirtual 65, 3) := by decide +kernel
theorem dL_law_557 : decode cL_law 557 = .ok (.pop, 1) := by decide +kernel
theorem dL_law_558 : decode cL_law 558 = .ok (.aload_n 2, 1) := by decide +kernel
theorem dL_law_559 : decode cL_law 559 = .ok (.invokevirtual 68, 3) := by decide +kernel
theorem dL_law_562 : decode cL_law 562 = .ok (.pop, 1) := by decide +kernel
theorem dL_law_563 : decode cL_law 563 = .ok (.goto 266, 3) := by decide +kernel
set_option maxHeartbeats 4000000 in
set_option maxRecDepth 100000 in
/-- call -/
theorem law_8 {p : Program} {l : Launch} {e : Env} {s : State} {m : MethodId} {below : List Frame} {meth : Method} {c : Code} {D : va_G} {cI cZ cS cR : ClassId} {N0 : NT} {b L : Nat} {xs : Nat → Int32} (hB : Tz p s m meth c #[Value.ref b] code 4 RL D cI cZ cS cR N0) (hAs : N0.1 = s.heap.size) (hX : va_X b L xs s s.heap) (hbl : b < s.heap.size) (hL : L ≤ 2560) (hr : meth.sig.returnType = ret) {cells slots : Nat} (hcl : cells + 4 ≤ 600000) (hsl : slots + 28 ≤ 7302250) {H : Heap} {locs : List Loc} {ls : Array Slot} (g : GS) (ox om : Nat) (tp : Nat) (nw : Nat) (rl : Nat) (ba : Nat) (ta : Nat) (wt : Nat) (sa : Nat) (aa : Nat) (wo : Nat) (pl : Nat) (wr : Nat) (i o1 tz sv rz : Int32) (hT : Tv D cI cZ cS cR N0 s.heap H locs g) (hI : Inv g) (l_i : 0 ≤ i.toInt) (u_i : i.toInt + 5 ≤ L) : g.1 ox = 7 → g.1 om = 8 → g.2.1 om 22 = .int o1 → 0 ≤ o1.toInt → o1.toInt ≤ 12 * i.toInt → PX 48 2 3 71 72 g om → PX 8 39 40 84 85 g om → g.2.1 ox 0 = .ref tp → g.1 tp = 5 → g.2.1 ox 1 = .ref nw → g.1 nw = 19 → g.2.1 ox 2 = .ref rl → g.1 rl = 1 → g.2.1 tp 0 = .ref ba → g.1 ba = 67 → g.2.2.1 ba = 100 → g.2.1 om 28 = .ref ta → g.1 ta = 79 → g.2.2.1 ta = 100 → g.2.1 om 42 = .ref wt → g.1 wt = 87 → g.2.2.1 wt = 24 → g.2.1 nw 0 = .ref sa → g.1 sa = 42 → g.2.2.1 sa = 6 → g.2.1 om 1 = .ref aa → g.1 aa = 88 → g.2.2.1 aa = 6 → g.2.1 om 2 = .ref wo → g.1 wo = 71 → g.2.2.1 wo = 48 → g.2.1 om 3 = .ref pl → g.1 pl = 72 → g.2.2.1 pl = 48 → g.2.1 om 4 = .ref wr → g.1 wr = 73 → g.2.2.1 wr = 48 → g.2.1 tp 1 = .int tz → g.2.1 om 29 = .int tz → 0 ≤ tz.toInt → tz.toInt ≤ 100 → g.2.1 nw 1 = .int sv → g.2.1 om 0 = .int sv → 0 ≤ sv.toInt → sv.toInt ≤ 6 → g.2.1 rl 3 = .int rz → g.2.1 om 30 = .int rz → 0 ≤ rz.toInt → rz.toInt ≤ 6 → TE g ba ta tz.toInt → WT g wt → PGI g sa aa wo pl wr sv.toInt → (hl : lv_has ls 4 [(3, .int i), (2, .ref om), (1, .ref ox), (0, .ref b)]) → (K : ∀ (g1 : GS) (o1_1 tz_1 sv_1 rz_1 : Int32) (H1 : Heap) (locs1 : List Loc), Tv D cI cZ cS cR N0 s.heap H1 locs1 g1 → Inv g1 → g1.1 ox = 7 → g1.1 om = 8 → g1.2.1 om 22 = .int o1_1 → 0 ≤ o1_1.toInt → o1_1.toInt ≤ 12 * i.toInt + 60 → PX 48 2 3 71 72 g1 om → PX 8 39 40 84 85 g1 om → g1.2.1 ox 0 = .ref tp → g1.1 tp = 5 → g1.2.1 ox 1 = .ref nw → g1.1 nw = 19 → g1.2.1 ox 2 = .ref rl → g1.1 rl = 1 → g1.2.1 tp 0 = .ref ba → g1.1 ba = 67 → g1.2.2.1 ba = 100 → g1.2.1 om 28 = .ref ta → g1.1 ta = 79 → g1.2.2.1 ta = 100 → g1.2.1 om 42 = .ref wt → g1.1 wt = 87 → g1.2.2.1 wt = 24 → g1.2.1 nw 0 = .ref sa → g1.1 sa = 42 → g1.2.2.1 sa = 6 → g1.2.1 om 1 = .ref aa → g1.1 aa = 88 → g1.2.2.1 aa = 6 → g1.2.1 om 2 = .ref wo → g1.1 wo = 71 → g1.2.2.1 wo = 48 → g1.2.1 om 3 = .ref pl → g1.1 pl = 72 → g1.2.2.1 pl = 48 → g1.2.1 om 4 = .ref wr → g1.1 wr = 73 → g1.2.2.1 wr = 48 → g1.2.1 tp 1 = .int tz_1 → g1.2.1 om 29 = .int tz_1 → 0 ≤ tz_1.toInt → tz_1.toInt ≤ 100 → g1.2.1 nw 1 = .int sv_1 → g1.2.1 om 0 = .int sv_1 → 0 ≤ sv_1.toInt → sv_1.toInt ≤ 6 → g1.2.1 rl 3 = .int rz_1 → g1.2.1 om 30 = .int rz_1 → 0 ≤ rz_1.toInt → rz_1.toInt ≤ 6 → TE g1 ba ta tz_1.toInt → WT g1 wt → PGI g1 sa aa wo pl wr sv_1.toInt → W p l e room_1 s m #[Value.ref b] below meth c H1 locs1 (cells + 4) (slots + 28) (lw_Z below #[Value.ref b] s) (F0 m 829 ls [])) → W p l e room_1 s m #[Value.ref b] below meth c H locs cells slots (lw_Z below #[Value.ref b] s) (F0 m 434 ls []) := by
  intro r_ox r_om ko l_o u_o hw hN0 k_tp r_tp k_nw r_nw k_rl r_rl k_ba r_ba n_ba k_ta r_ta n_ta k_wt r_wt n_wt k_sa r_sa n_sa k_aa r_aa n_aa k_wo r_wo n_wo k_pl r_pl n_pl k_wr r_wr n_wr kc_tz km_tz l_tz u_tz kc_sv km_sv l_sv u_sv kc_rz km_rz l_rz u_rz hTE hWT hPI hl K
  have hx := hB.1
  have hb := hB.2.1
  have hE : Ex g g := Ex.rf
  have hM : Sm mdA g g := sm_all
  have hTE0 := hTE
  have hI0_ := hI
  have hPI0_ := hPI
  refine lv_aload_n hx hb dL_law_434 rfl (lv_at hl 2 rfl) ?_
  refine lv_aload_n hx hb dL_law_435 rfl (lv_at hl 3 rfl) ?_
  refine lv_iload_n hx hb dL_law_436 rfl (lv_at hl 0 rfl) ?_
  refine lv_iconst (v := 1) hx hb dL_law_437 (by decide) ?_
  refine lv_iadd hx hb dL_law_438 ?_
  refine lv_topi (fun z_1 ez_1 => ?_)
  have e_z_1 : z_1.toInt = i.toInt + 1 := i_add ez_1 rfl (by decide) (by omega) (by omega)
  refine va_sld hx hb hX hbl (fun q => by have q_ : N0.1 ≤ b := q; omega) hT.2 (i_in (n := L) rfl (by omega) (by omega)) dL_law_439 ?_
  refine lv_topi (fun u_2 e_u_2 => ?_)
  refine lv_aload_n hx hb dL_law_440 rfl (lv_at hl 3 rfl) ?_
  refine lv_iload_n hx hb dL_law_441 rfl (lv_at hl 0 rfl) ?_
  refine lv_iconst (v := 2) hx hb dL_law_442 (by decide) ?_
  refine lv_iadd hx hb dL_law_443 ?_
  refine lv_topi (fun z_3 ez_3 => ?_)
  have e_z_3 : z_3.toInt = i.toInt + 2 := i_add ez_3 rfl (by decide) (by omega) (by omega)
  refine va_sld hx hb hX hbl (fun q => by have q_ : N0.1 ≤ b := q; omega) hT.2 (i_in (n := L) rfl (by omega) (by omega)) dL_law_444 ?_
  refine lv_topi (fun u_4 e_u_4 => ?_)
  refine lv_aload_n hx hb dL_law_445 rfl (lv_at hl 3 rfl) ?_
  refine lv_iload_n hx hb dL_law_446 rfl (lv_at hl 0 rfl) ?_
  refine lv_iconst (v := 3) hx hb dL_law_447 (by decide) ?_
  refine lv_iadd hx hb dL_law_448 ?_
  refine lv_topi (fun z_5 ez_5 => ?_)
  have e_z_5 : z_5.toInt = i.toInt + 3 := i_add ez_5 rfl (by decide) (by omega) (by omega)
  refine va_sld hx hb hX hbl (fun q => by have q_ : N0.1 ≤ b := q; omega) hT.2 (i_in (n := L) rfl (by omega) (by omega)) dL_law_449 ?_
  refine lv_topi (fun u_6 e_u_6 => ?_)
  refine lv_aload_n hx hb dL_law_450 rfl (lv_at hl 3 rfl) ?_
  refine lv_iload_n hx hb dL_law_451 rfl (lv_at hl 0 rfl) ?_
  refine lv_iconst (v := 4) hx hb dL_law_452 (by decide) ?_
  refine lv_iadd hx hb dL_law_453 ?_
  refine lv_topi (fun z_7 ez_7 => ?_)
  have e_z_7 : z_7.toInt = i.toInt + 4 := i_add ez_7 rfl (by decide) (by omega) (by omega)
  refine va_sld hx hb hX hbl (fun q => by have q_ : N0.1 ≤ b := q; omega) hT.2 (i_in (n := L) rfl (by omega) (by omega)) dL_law_454 ?_
  refine lv_topi (fun u_8 e_u_8 => ?_)
  refine t_callV (n := 4) (As := [.int u_2, .int u_4, .int u_6, .int u_8]) (rest := []) (ci := 6) hB hT hl.1 (P_call l D cI cZ cS cR N0 g hI ox u_2 u_4 u_6 u_8 r_ox) (ro_ci r_ox rfl) rfl k_485 k_57 k_482 k_483 k_484 (by decide +kernel) ⟨(Nat.le_of_ble_eq_true rfl), (Nat.le_of_ble_eq_true rfl)⟩ rfl (Nat.le_of_ble_eq_true rfl) ⟨(by show _ ≤ _; first | exact Nat.le_of_ble_eq_true rfl | (simp only [room_1]; omega)), (by show _ ≤ _; first | exact Nat.le_of_ble_eq_true rfl | (simp only [room_1]; omega))⟩ dL_law_455 (fun v g_9 H locs hp hT => ?_)
  obtain ⟨r_10, rfl, hI, x_12, m_11⟩ := hp
  have hw : PX 48 2 3 71 72 g_9 om := hw.mono m_11 x_12 r_om (by decide) (by decide) rfl rfl rfl rfl
  have hN0 : PX 8 39 40 84 85 g_9 om := hN0.mono m_11 x_12 r_om (by decide) (by decide) rfl rfl rfl rfl
  have hTE : TE g_9 ba ta tz.toInt := hTE.sm m_11 r_ba (by decide) rfl r_ta (by decide) rfl
  have hWT : WT g_9 wt := hWT.sm m_11 r_wt (by decide) rfl
  have hPI : PGI g_9 sa aa wo pl wr sv.toInt := hPI.go (PK.sm m_11 x_12 r_sa rfl rfl rfl rfl rfl rfl rfl rfl rfl) (Sm.cf m_11 r_aa (by decide) rfl) (Sm.cf m_11 r_wo (by decide) rfl) (Sm.cf m_11 r_pl (by decide) rfl) (Sm.cf m_11 r_wr (by decide) rfl)
  have hM : Sm mdA g g_9 := sm_all
  have hE : Ex g g_9 := hE.tr x_12
  have r_13 : g_9.1 ox = 7 := (Ex.r x_12 r_ox (by decide))
  have r_14 : g_9.1 om = 8 := (Ex.r x_12 r_om (by decide))
  have r_15 : g_9.1 tp = 5 := (Ex.r x_12 r_tp (by decide))
  have r_16 : g_9.1 nw = 19 := (Ex.r x_12 r_nw (by decide))
  have r_17 : g_9.1 rl = 1 := (Ex.r x_12 r_rl (by decide))
  have r_18 : g_9.1 ba = 67 := (Ex.r x_12 r_ba (by decide))
  have r_19 : g_9.1 ta = 79 := (Ex.r x_12 r_ta (by decide))
  have r_20 : g_9.1 wt = 87 := (Ex.r x_12 r_wt (by decide))
  have r_21 : g_9.1 sa = 42 := (Ex.r x_12 r_sa (by decide))
  have r_22 : g_9.1 aa = 88 := (Ex.r x_12 r_aa (by decide))
  have r_23 : g_9.1 wo = 71 := (Ex.r x_12 r_wo (by decide))
  have r_24 : g_9.1 pl = 72 := (Ex.r x_12 r_pl (by decide))
  have r_25 : g_9.1 wr = 73 := (Ex.r x_12 r_wr (by decide))
  have n_26 : g_9.2.2.1 ba = 100 := (Ex.n x_12 r_ba (by decide) n_ba)
  have n_27 : g_9.2.2.1 ta = 100 := (Ex.n x_12 r_ta (by decide) n_ta)
  have n_28 : g_9.2.2.1 wt = 24 := (Ex.n x_12 r_wt (by decide) n_wt)
  have n_29 : g_9.2.2.1 sa = 6 := (Ex.n x_12 r_sa (by decide) n_sa)
  have n_30 : g_9.2.2.1 aa = 6 := (Ex.n x_12 r_aa (by decide) n_aa)
  have n_31 : g_9.2.2.1 wo = 48 := (Ex.n x_12 r_wo (by decide) n_wo)
  have n_32 : g_9.2.2.1 pl = 48 := (Ex.n x_12 r_pl (by decide) n_pl)
  have n_33 : g_9.2.2.1 wr = 48 := (Ex.n x_12 r_wr (by decide) n_wr)
  have kn_34 : g_9.2.1 om 22 = .int o1 := (Sm.v m_11 r_om (by decide) rfl ko)
  have kn_35 : g_9.2.1 ox 0 = .ref tp := (Sm.v m_11 r_ox (by decide) rfl k_tp)
  have kn_36 : g_9.2.1 ox 1 = .ref nw := (Sm.v m_11 r_ox (by decide) rfl k_nw)
  have kn_37 : g_9.2.1 ox 2 = .ref rl := (Sm.v m_11 r_ox (by decide) rfl k_rl)
  have kn_38 : g_9.2.1 tp 0 = .ref ba := (Sm.v m_11 r_tp (by decide) rfl k_ba)
  have kn_39 : g_9.2.1 om 28 = .ref ta := (Sm.v m_11 r_om (by decide) rfl k_ta)
  have kn_40 : g_9.2.1 om 42 = .ref wt := (Sm.v m_11 r_om (by decide) rfl k_wt)
  have kn_41 : g_9.2.1 nw 0 = .ref sa := (Sm.v m_11 r_nw (by decide) rfl k_sa)
  have kn_42 : g_9.2.1 om 1 = .ref aa := (Sm.v m_11 r_om (by decide) rfl k_aa)
  have kn_43 : g_9.2.1 om 2 = .ref wo := (Sm.v m_11 r_om (by decide) rfl k_wo)
  have kn_44 : g_9.2.1 om 3 = .ref pl := (Sm.v m_11 r_om (by decide) rfl k_pl)
  have kn_45 : g_9.2.1 om 4 = .ref wr := (Sm.v m_11 r_om (by decide) rfl k_wr)
  have kn_46 : g_9.2.1 tp 1 = .int tz := (Sm.v m_11 r_tp (by decide) rfl kc_tz)
  have kn_47 : g_9.2.1 om 29 = .int tz := (Sm.v m_11 r_om (by decide) rfl km_tz)
  have kn_48 : g_9.2.1 nw 1 = .int sv := (Sm.v m_11 r_nw (by decide) rfl kc_sv)
  have kn_49 : g_9.2.1 om 0 = .int sv := (Sm.v m_11 r_om (by decide) rfl km_sv)
  have kn_50 : g_9.2.1 rl 3 = .int rz := (Sm.v m_11 r_rl (by decide) rfl kc_rz)
  have kn_51 : g_9.2.1 om 30 = .int rz := (Sm.v m_11 r_om (by decide) rfl km_rz)
  refine W.eq (g2 := F0 m 458 ls [.int r_10]) rfl ?_
  refine lv_pop hx hb dL_law_458 rfl ?_
  refine lv_aload_n hx hb dL_law_459 rfl (lv_at hl 1 rfl) ?_
  refine lv_aload_n hx hb dL_law_460 rfl (lv_at hl 3 rfl) ?_
  refine lv_iload_n hx hb dL_law_461 rfl (lv_at hl 0 rfl) ?_
  refine lv_iconst (v := 1) hx hb dL_law_462 (by decide) ?_
  refine lv_iadd hx hb dL_law_463 ?_
  refine lv_topi (fun z_52 ez_52 => ?_)
  have e_z_52 : z_52.toInt = i.toInt + 1 := i_add ez_52 rfl (by decide) (by omega) (by omega)
  refine va_sld hx hb hX hbl (fun q => by have q_ : N0.1 ≤ b := q; omega) hT.2 (i_in (n := L) rfl (by omega) (by omega)) dL_law_464 ?_
  refine lv_topi (fun u_53 e_u_53 => ?_)
  refine lv_aload_n hx hb dL_law_465 rfl (lv_at hl 3 rfl) ?_
  refine lv_iload_n hx hb dL_law_466 rfl (lv_at hl 0 rfl) ?_
  refine lv_iconst (v := 2) hx hb dL_law_467 (by decide) ?_
  refine lv_iadd hx hb dL_law_468 ?_
  refine lv_topi (fun z_54 ez_54 => ?_)
  have e_z_54 : z_54.toInt = i.toInt + 2 := i_add ez_54 rfl (by decide) (by omega) (by omega)
  refine va_sld hx hb hX hbl (fun q => by have q_ : N0.1 ≤ b := q; omega) hT.2 (i_in (n := L) rfl (by omega) (by omega)) dL_law_469 ?_
  refine lv_topi (fun u_55 e_u_55 => ?_)
  refine lv_aload_n hx hb dL_law_470 rfl (lv_at hl 3 rfl) ?_
  refine lv_iload_n hx hb dL_law_471 rfl (lv_at hl 0 rfl) ?_
  refine lv_iconst (v := 3) hx hb dL_law_472 (by decide) ?_
  refine lv_iadd hx hb dL_law_473 ?_
  refine lv_topi (fun z_56 ez_56 => ?_)
  have e_z_56 : z_56.toInt = i.toInt + 3 := i_add ez_56 rfl (by decide) (by omega) (by omega)
  refine va_sld hx hb hX hbl (fun q => by have q_ : N0.1 ≤ b := q; omega) hT.2 (i_in (n := L) rfl (by omega) (by omega)) dL_law_474 ?_
  refine lv_topi (fun u_57 e_u_57 => ?_)
  refine lv_aload_n hx hb dL_law_475 rfl (lv_at hl 3 rfl) ?_
  refine lv_iload_n hx hb dL_law_476 rfl (lv_at hl 0 rfl) ?_
  refine lv_iconst (v := 4) hx hb dL_law_477 (by decide) ?_
  refine lv_iadd hx hb dL_law_478 ?_
  refine lv_topi (fun z_58 ez_58 => ?_)
  have e_z_58 : z_58.toInt = i.toInt + 4 := i_add ez_58 rfl (by decide) (by omega) (by omega)
  refine va_sld hx hb hX hbl (fun q => by have q_ : N0.1 ≤ b := q; omega) hT.2 (i_in (n := L) rfl (by omega) (by omega)) dL_law_479 ?_
  refine lv_topi (fun u_59 e_u_59 => ?_)
  refine t_callV (n := 4) (As := [.int u_53, .int u_55, .int u_57, .int u_59]) (rest := []) (ci := 7) hB hT hl.1 (m_call l D cI cZ cS cR N0 g_9 hI om u_53 u_55 u_57 u_59 o1 r_14 kn_34 (by omega) (by omega) hw) (ro_ci r_14 rfl) rfl k_1031 k_65 k_1028 k_1029 k_1030 (by decide +kernel) ⟨(Nat.le_of_ble_eq_true rfl), (Nat.le_of_ble_eq_true rfl)⟩ rfl (Nat.le_of_ble_eq_true rfl) ⟨(by show _ ≤ _; first | exact Nat.le_of_ble_eq_true rfl | (simp only [room_1]; omega)), (by show _ ≤ _; first | exact Nat.le_of_ble_eq_true rfl | (simp only [room_1]; omega))⟩ dL_law_480 (fun v g_60 H locs hp hT => ?_)
  obtain ⟨r_61, o2_62, rfl, hI, x_66, m_65, f_63, f_64⟩ := hp
  have hw : PX 48 2 3 71 72 g_60 om := hw.mono m_65 x_66 r_14 (by decide) (by decide) rfl rfl rfl rfl
  have hN0 : PX 8 39 40 84 85 g_60 om := hN0.mono m_65 x_66 r_14 (by decide) (by decide) rfl rfl rfl rfl
  have hTE : TE g_60 ba ta tz.toInt := hTE.sm m_65 r_18 (by decide) rfl r_19 (by decide) rfl
  have hWT : WT g_60 wt := hWT.sm m_65 r_20 (by decide) rfl
  have hPI : PGI g_60 sa aa wo pl wr sv.toInt := hPI.go (PK.sm m_65 x_66 r_21 rfl rfl rfl rfl rfl rfl rfl rfl rfl) (Sm.cf m_65 r_22 (by decide) rfl) (Sm.cf m_65 r_23 (by decide) rfl) (Sm.cf m_65 r_24 (by decide) rfl) (Sm.cf m_65 r_25 (by decide) rfl)
  have hM : Sm mdA g g_60 := sm_all
  have hE : Ex g g_60 := hE.tr x_66
  have r_67 : g_60.1 ox = 7 := (Ex.r x_66 r_13 (by decide))
  have r_68 : g_60.1 om = 8 := (Ex.r x_66 r_14 (by decide))
  have r_69 : g_60.1 tp = 5 := (Ex.r x_66 r_15 (by decide))
  have r_70 : g_60.1 nw = 19 := (Ex.r x_66 r_16 (by decide))
  have r_71 : g_60.1 rl = 1 := (Ex.r x_66 r_17 (by decide))
  have r_72 : g_60.1 ba = 67 := (Ex.r x_66 r_18 (by decide))
  have r_73 : g_60.1 ta = 79 := (Ex.r x_66 r_19 (by decide))
  have r_74 : g_60.1 wt = 87 := (Ex.r x_66 r_20 (by decide))
  have r_75 : g_60.1 sa = 42 := (Ex.r x_66 r_21 (by decide))
  have r_76 : g_60.1 aa = 88 := (Ex.r x_66 r_22 (by decide))
  have r_77 : g_60.1 wo = 71 := (Ex.r x_66 r_23 (by decide))
  have r_78 : g_60.1 pl = 72 := (Ex.r x_66 r_24 (by decide))
  have r_79 : g_60.1 wr = 73 := (Ex.r x_66 r_25 (by decide))
  have n_80 : g_60.2.2.1 ba = 100 := (Ex.n x_66 r_18 (by decide) n_26)
  have n_81 : g_60.2.2.1 ta = 100 := (Ex.n x_66 r_19 (by decide) n_27)
  have n_82 : g_60.2.2.1 wt = 24 := (Ex.n x_66 r_20 (by decide) n_28)
  have n_83 : g_60.2.2.1 sa = 6 := (Ex.n x_66 r_21 (by decide) n_29)
  have n_84 : g_60.2.2.1 aa = 6 := (Ex.n x_66 r_22 (by decide) n_30)
  have n_85 : g_60.2.2.1 wo = 48 := (Ex.n x_66 r_23 (by decide) n_31)
  have n_86 : g_60.2.2.1 pl = 48 := (Ex.n x_66 r_24 (by decide) n_32)
  have n_87 : g_60.2.2.1 wr = 48 := (Ex.n x_66 r_25 (by decide) n_33)
  have kn_88 : g_60.2.1 ox 0 = .ref tp := (Sm.v m_65 r_13 (by decide) rfl kn_35)
  have kn_89 : g_60.2.1 ox 1 = .ref nw := (Sm.v m_65 r_13 (by decide) rfl kn_36)
  have kn_90 : g_60.2.1 ox 2 = .ref rl := (Sm.v m_65 r_13 (by decide) rfl kn_37)
  have kn_91 : g_60.2.1 tp 0 = .ref ba := (Sm.v m_65 r_15 (by decide) rfl kn_38)
  have kn_92 : g_60.2.1 om 28 = .ref ta := (Sm.v m_65 r_14 (by decide) rfl kn_39)
  have kn_93 : g_60.2.1 om 42 = .ref wt := (Sm.v m_65 r_14 (by decide) rfl kn_40)
  have kn_94 : g_60.2.1 nw 0 = .ref sa := (Sm.v m_65 r_16 (by decide) rfl kn_41)
  have kn_95 : g_60.2.1 om 1 = .ref aa := (Sm.v m_65 r_14 (by decide) rfl kn_42)
  have kn_96 : g_60.2.1 om 2 = .ref wo := (Sm.v m_65 r_14 (by decide) rfl kn_43)
  have kn_97 : g_60.2.1 om 3 = .ref pl := (Sm.v m_65 r_14 (by decide) rfl kn_44)
  have kn_98 : g_60.2.1 om 4 = .ref wr := (Sm.v m_65 r_14 (by decide) rfl kn_45)
  have kn_99 : g_60.2.1 tp 1 = .int tz := (Sm.v m_65 r_15 (by decide) rfl kn_46)
  have kn_100 : g_60.2.1 om 29 = .int tz := (Sm.v m_65 r_14 (by decide) rfl kn_47)
  have kn_101 : g_60.2.1 nw 1 = .int sv := (Sm.v m_65 r_16 (by decide) rfl kn_48)
  have kn_102 : g_60.2.1 om 0 = .int sv := (Sm.v m_65 r_14 (by decide) rfl kn_49)
  have kn_103 : g_60.2.1 rl 3 = .int rz := (Sm.v m_65 r_17 (by decide) rfl kn_50)
  have kn_104 : g_60.2.1 om 30 = .int rz := (Sm.v m_65 r_14 (by decide) rfl kn_51)
  refine W.eq (g2 := F0 m 483 ls [.int r_61]) rfl ?_
  refine lv_pop hx hb dL_law_483 rfl ?_
  refine lv_goto (tgt := 829) hx hb dL_law_484 (by decide) ?_
  refine W.widen (k := cells + 4) (n := slots + 28) (by omega) (by omega) ?_
  exact K g_60 o2_62 tz sv rz H locs hT hI r_67 r_68 f_63 (by have e0_ : (0 : Int32).toInt = 0 := (by decide); omega) (by have e0_ : (0 : Int32).toInt = 0 := (by decide); omega) hw hN0 kn_88 r_69 kn_89 r_70 kn_90 r_71 kn_91 r_72 n_80 kn_92 r_73 n_81 kn_93 r_74 n_82 kn_94 r_75 n_83 kn_95 r_76 n_84 kn_96 r_77 n_85 kn_97 r_78 n_86 kn_98 r_79 n_87 kn_99 kn_100 (by have e0_ : (0 : Int32).toInt = 0 := (by decide); omega) (by have e0_ : (0 : Int32).toInt = 0 := (by decide); omega) kn_101 kn_102 (by have e0_ : (0 : Int32).toInt = 0 := (by decide); omega) (by have e0_ : (0 : Int32).toInt = 0 := (by decide); omega) kn_103 kn_104 (by have e0_ : (0 : Int32).toInt = 0 := (by decide); omega) (by have e0_ : (0 : Int32).toInt = 0 := (by decide); omega) hTE hWT hPI
set_option maxHeartbeats 4000000 in
set_option maxRecDepth 100000 in
/-- outside -/
theorem law_9 {p : Program} {l : Launch} {e : Env} {s : State} {m : MethodId} {below : List Frame} {meth : Method} {c : Code} {D : va_G} {cI cZ cS cR : ClassId} {N0 : NT} {b L : Nat} {xs : Nat → Int32} (hB : Tz p s m meth c #[Value.ref b] code 4 RL D cI cZ cS cR N0) (hAs : N0.1 = s.heap.size) (hX : va_X b L xs s s.heap) (hbl : b < s.heap.size) (hL : L ≤ 2560) (hr : meth.sig.returnType = ret) {cells slots : Nat} (hcl : cells + 4 ≤ 600000) (hsl : slots + 28 ≤ 7302250) {H : Heap} {locs : List Loc} {ls : Array Slot} (g : GS) (ox om : Nat) (tp : Nat) (nw : Nat) (rl : Nat) (ba : Nat) (ta : Nat) (wt : Nat) (sa : Nat) (aa : Nat) (wo : Nat) (pl : Nat) (wr : Nat) (i o1 tz sv rz : Int32) (hT : Tv D cI cZ cS cR N0 s.heap H locs g) (hI : Inv g) (l_i : 0 ≤ i.toInt) (u_i : i.toInt + 5 ≤ L) : g.1 ox = 7 → g.1 om = 8 → g.2.1 om 22 = .int o1 → 0 ≤ o1.toInt → o1.toInt ≤ 12 * i.toInt → PX 48 2 3 71 72 g om → PX 8 39 40 84 85 g om → g.2.1 ox 0 = .ref tp → g.1 tp = 5 → g.2.1 ox 1 = .ref nw → g.1 nw = 19 → g.2.1 ox 2 = .ref rl → g.1 rl = 1 → g.2.1 tp 0 = .ref ba → g.1 ba = 67 → g.2.2.1 ba = 100 → g.2.1 om 28 = .ref ta → g.1 ta = 79 → g.2.2.1 ta = 100 → g.2.1 om 42 = .ref wt → g.1 wt = 87 → g.2.2.1 wt = 24 → g.2.1 nw 0 = .ref sa → g.1 sa = 42 → g.2.2.1 sa = 6 → g.2.1 om 1 = .ref aa → g.1 aa = 88 → g.2.2.1 aa = 6 → g.2.1 om 2 = .ref wo → g.1 wo = 71 → g.2.2.1 wo = 48 → g.2.1 om 3 = .ref pl → g.1 pl = 72 → g.2.2.1 pl = 48 → g.2.1 om 4 = .ref wr → g.1 wr = 73 → g.2.2.1 wr = 48 → g.2.1 tp 1 = .int tz → g.2.1 om 29 = .int tz → 0 ≤ tz.toInt → tz.toInt ≤ 100 → g.2.1 nw 1 = .int sv → g.2.1 om 0 = .int sv → 0 ≤ sv.toInt → sv.toInt ≤ 6 → g.2.1 rl 3 = .int rz → g.2.1 om 30 = .int rz → 0 ≤ rz.toInt → rz.toInt ≤ 6 → TE g ba ta tz.toInt → WT g wt → PGI g sa aa wo pl wr sv.toInt → (hl : lv_has ls 4 [(3, .int i), (2, .ref om), (1, .ref ox), (0, .ref b)]) → (K : ∀ (g1 : GS) (o1_1 tz_1 sv_1 rz_1 : Int32) (H1 : Heap) (locs1 : List Loc), Tv D cI cZ cS cR N0 s.heap H1 locs1 g1 → Inv g1 → g1.1 ox = 7 → g1.1 om = 8 → g1.2.1 om 22 = .int o1_1 → 0 ≤ o1_1.toInt → o1_1.toInt ≤ 12 * i.toInt + 60 → PX 48 2 3 71 72 g1 om → PX 8 39 40 84 85 g1 om → g1.2.1 ox 0 = .ref tp → g1.1 tp = 5 → g1.2.1 ox 1 = .ref nw → g1.1 nw = 19 → g1.2.1 ox 2 = .ref rl → g1.1 rl = 1 → g1.2.1 tp 0 = .ref ba → g1.1 ba = 67 → g1.2.2.1 ba = 100 → g1.2.1 om 28 = .ref ta → g1.1 ta = 79 → g1.2.2.1 ta = 100 → g1.2.1 om 42 = .ref wt → g1.1 wt = 87 → g1.2.2.1 wt = 24 → g1.2.1 nw 0 = .ref sa → g1.1 sa = 42 → g1.2.2.1 sa = 6 → g1.2.1 om 1 = .ref aa → g1.1 aa = 88 → g1.2.2.1 aa = 6 → g1.2.1 om 2 = .ref wo → g1.1 wo = 71 → g1.2.2.1 wo = 48 → g1.2.1 om 3 = .ref pl → g1.1 pl = 72 → g1.2.2.1 pl = 48 → g1.2.1 om 4 = .ref wr → g1.1 wr = 73 → g1.2.2.1 wr = 48 → g1.2.1 tp 1 = .int tz_1 → g1.2.1 om 29 = .int tz_1 → 0 ≤ tz_1.toInt → tz_1.toInt ≤ 100 → g1.2.1 nw 1 = .int sv_1 → g1.2.1 om 0 = .int sv_1 → 0 ≤ sv_1.toInt → sv_1.toInt ≤ 6 → g1.2.1 rl 3 = .int rz_1 → g1.2.1 om 30 = .int rz_1 → 0 ≤ rz_1.toInt → rz_1.toInt ≤ 6 → TE g1 ba ta tz_1.toInt → WT g1 wt → PGI g1 sa aa wo pl wr sv_1.toInt → W p l e room_1 s m #[Value.ref b] below meth c H1 locs1 (cells + 4) (slots + 28) (lw_Z below #[Value.ref b] s) (F0 m 829 ls [])) → W p l e room_1 s m #[Value.ref b] below meth c H locs cells slots (lw_Z below #[Value.ref b] s) (F0 m 487 ls []) := by
  intro r_ox r_om ko l_o u_o hw hN0 k_tp r_tp k_nw r_nw k_rl r_rl k_ba r_ba n_ba k_ta r_ta n_ta k_wt r_wt n_wt k_sa r_sa n_sa k_aa r_aa n_aa k_wo r_wo n_wo k_pl r_pl n_pl k_wr r_wr n_wr kc_tz km_tz l_tz u_tz kc_sv km_sv l_sv u_sv kc_rz km_rz l_rz u_rz hTE hWT hPI hl K
  have hx := hB.1
  have hb := hB.2.1
  have hE : Ex g g := Ex.rf
  have hM : Sm mdA g g := sm_all
  have hTE0 := hTE
  have hI0_ := hI
  have hPI0_ := hPI
  refine lv_aload_n hx hb dL_law_487 rfl (lv_at hl 2 rfl) ?_
  refine lv_aload_n hx hb dL_law_488 rfl (lv_at hl 3 rfl) ?_
  refine lv_iload_n hx hb dL_law_489 rfl (lv_at hl 0 rfl) ?_
  refine lv_iconst (v := 1) hx hb dL_law_490 (by decide) ?_
  refine lv_iadd hx hb dL_law_491 ?_
  refine lv_topi (fun z_1 ez_1 => ?_)
  have e_z_1 : z_1.toInt = i.toInt + 1 := i_add ez_1 rfl (by decide) (by omega) (by omega)
  refine va_sld hx hb hX hbl (fun q => by have q_ : N0.1 ≤ b := q; omega) hT.2 (i_in (n := L) rfl (by omega) (by omega)) dL_law_492 ?_
  refine lv_topi (fun u_2 e_u_2 => ?_)
  refine t_callV (n := 1) (As := [.int u_2]) (rest := []) (ci := 6) hB hT hl.1 (P_outside l D cI cZ cS cR N0 g hI ox u_2 r_ox) (ro_ci r_ox rfl) rfl k_558 k_57 k_555 k_556 k_557 (by decide +kernel) ⟨(Nat.le_of_ble_eq_true rfl), (Nat.le_of_ble_eq_true rfl)⟩ rfl (Nat.le_of_ble_eq_true rfl) ⟨(by show _ ≤ _; first | exact Nat.le_of_ble_eq_true rfl | (simp only [room_1]; omega)), (by show _ ≤ _; first | exact Nat.le_of_ble_eq_true rfl | (simp only [room_1]; omega))⟩ dL_law_493 (fun v g_3 H locs hp hT => ?_)
  obtain ⟨r_4, rfl, hI, x_6, m_5⟩ := hp
  have hw : PX 48 2 3 71 72 g_3 om := hw.mono m_5 x_6 r_om (by decide) (by decide) rfl rfl rfl rfl
  have hN0 : PX 8 39 40 84 85 g_3 om := hN0.mono m_5 x_6 r_om (by decide) (by decide) rfl rfl rfl rfl
  have hTE : TE g_3 ba ta tz.toInt := hTE.sm m_5 r_ba (by decide) rfl r_ta (by decide) rfl
  have hWT : WT g_3 wt := hWT.sm m_5 r_wt (by decide) rfl
  have hPI : PGI g_3 sa aa wo pl wr sv.toInt := hPI.go (PK.sm m_5 x_6 r_sa rfl rfl rfl rfl rfl rfl rfl rfl rfl) (Sm.cf m_5 r_aa (by decide) rfl) (Sm.cf m_5 r_wo (by decide) rfl) (Sm.cf m_5 r_pl (by decide) rfl) (Sm.cf m_5 r_wr (by decide) rfl)
  have hM : Sm mdA g g_3 := sm_all
  have hE : Ex g g_3 := hE.tr x_6
  have r_7 : g_3.1 ox = 7 := (Ex.r x_6 r_ox (by decide))
  have r_8 : g_3.1 om = 8 := (Ex.r x_6 r_om (by decide))
  have r_9 : g_3.1 tp = 5 := (Ex.r x_6 r_tp (by decide))
  have r_10 : g_3.1 nw = 19 := (Ex.r x_6 r_nw (by decide))
  have r_11 : g_3.1 rl = 1 := (Ex.r x_6 r_rl (by decide))
  have r_12 : g_3.1 ba = 67 := (Ex.r x_6 r_ba (by decide))
  have r_13 : g_3.1 ta = 79 := (Ex.r x_6 r_ta (by decide))
  have r_14 : g_3.1 wt = 87 := (Ex.r x_6 r_wt (by decide))
  have r_15 : g_3.1 sa = 42 := (Ex.r x_6 r_sa (by decide))
  have r_16 : g_3.1 aa = 88 := (Ex.r x_6 r_aa (by decide))
  have r_17 : g_3.1 wo = 71 := (Ex.r x_6 r_wo (by decide))
  have r_18 : g_3.1 pl = 72 := (Ex.r x_6 r_pl (by decide))
  have r_19 : g_3.1 wr = 73 := (Ex.r x_6 r_wr (by decide))
  have n_20 : g_3.2.2.1 ba = 100 := (Ex.n x_6 r_ba (by decide) n_ba)
  have n_21 : g_3.2.2.1 ta = 100 := (Ex.n x_6 r_ta (by decide) n_ta)
  have n_22 : g_3.2.2.1 wt = 24 := (Ex.n x_6 r_wt (by decide) n_wt)
  have n_23 : g_3.2.2.1 sa = 6 := (Ex.n x_6 r_sa (by decide) n_sa)
  have n_24 : g_3.2.2.1 aa = 6 := (Ex.n x_6 r_aa (by decide) n_aa)
  have n_25 : g_3.2.2.1 wo = 48 := (Ex.n x_6 r_wo (by decide) n_wo)
  have n_26 : g_3.2.2.1 pl = 48 := (Ex.n x_6 r_pl (by decide) n_pl)
  have n_27 : g_3.2.2.1 wr = 48 := (Ex.n x_6 r_wr (by decide) n_wr)
  have kn_28 : g_3.2.1 om 22 = .int o1 := (Sm.v m_5 r_om (by decide) rfl ko)
  have kn_29 : g_3.2.1 ox 0 = .ref tp := (Sm.v m_5 r_ox (by decide) rfl k_tp)
  have kn_30 : g_3.2.1 ox 1 = .ref nw := (Sm.v m_5 r_ox (by decide) rfl k_nw)
  have kn_31 : g_3.2.1 ox 2 = .ref rl := (Sm.v m_5 r_ox (by decide) rfl k_rl)
  have kn_32 : g_3.2.1 tp 0 = .ref ba := (Sm.v m_5 r_tp (by decide) rfl k_ba)
  have kn_33 : g_3.2.1 om 28 = .ref ta := (Sm.v m_5 r_om (by decide) rfl k_ta)
  have kn_34 : g_3.2.1 om 42 = .ref wt := (Sm.v m_5 r_om (by decide) rfl k_wt)
  have kn_35 : g_3.2.1 nw 0 = .ref sa := (Sm.v m_5 r_nw (by decide) rfl k_sa)
  have kn_36 : g_3.2.1 om 1 = .ref aa := (Sm.v m_5 r_om (by decide) rfl k_aa)
  have kn_37 : g_3.2.1 om 2 = .ref wo := (Sm.v m_5 r_om (by decide) rfl k_wo)
  have kn_38 : g_3.2.1 om 3 = .ref pl := (Sm.v m_5 r_om (by decide) rfl k_pl)
  have kn_39 : g_3.2.1 om 4 = .ref wr := (Sm.v m_5 r_om (by decide) rfl k_wr)
  have kn_40 : g_3.2.1 tp 1 = .int tz := (Sm.v m_5 r_tp (by decide) rfl kc_tz)
  have kn_41 : g_3.2.1 om 29 = .int tz := (Sm.v m_5 r_om (by decide) rfl km_tz)
  have kn_42 : g_3.2.1 nw 1 = .int sv := (Sm.v m_5 r_nw (by decide) rfl kc_sv)
  have kn_43 : g_3.2.1 om 0 = .int sv := (Sm.v m_5 r_om (by decide) rfl km_sv)
  have kn_44 : g_3.2.1 rl 3 = .int rz := (Sm.v m_5 r_rl (by decide) rfl kc_rz)
  have kn_45 : g_3.2.1 om 30 = .int rz := (Sm.v m_5 r_om (by decide) rfl km_rz)
  refine W.eq (g2 := F0 m 496 ls [.int r_4]) rfl ?_
  refine lv_pop hx hb dL_law_496 rfl ?_
  refine lv_aload_n hx hb dL_law_497 rfl (lv_at hl 1 rfl) ?_
  refine lv_aload_n hx hb dL_law_498 rfl (lv_at hl 3 rfl) ?_
  refine lv_iload_n hx hb dL_law_499 rfl (lv_at hl 0 rfl) ?_
  refine lv_iconst (v := 1) hx hb dL_law_500 (by decide) ?_
  refine lv_iadd hx hb dL_law_501 ?_
  refine lv_topi (fun z_46 ez_46 => ?_)
  have e_z_46 : z_46.toInt = i.toInt + 1 := i_add ez_46 rfl (by decide) (by omega) (by omega)
  refine va_sld hx hb hX hbl (fun q => by have q_ : N0.1 ≤ b := q; omega) hT.2 (i_in (n := L) rfl (by omega) (by omega)) dL_law_502 ?_
  refine lv_topi (fun u_47 e_u_47 => ?_)
  refine t_callV (n := 1) (As := [.int u_47]) (rest := []) (ci := 7) hB hT hl.1 (m_outside l D cI cZ cS cR N0 g_3 hI om u_47 o1 r_8 kn_28 (by omega) (by omega)) (ro_ci r_8 rfl) rfl k_1083 k_65 k_1080 k_1081 k_1082 (by decide +kernel) ⟨(Nat.le_of_ble_eq_true rfl), (Nat.le_of_ble_eq_true rfl)⟩ rfl (Nat.le_of_ble_eq_true rfl) ⟨(by show _ ≤ _; first | exact Nat.le_of_ble_eq_true rfl | (simp only [room_1]; omega)), (by show _ ≤ _; first | exact Nat.le_of_ble_eq_true rfl | (simp only [room_1]; omega))⟩ dL_law_503 (fun v g_48 H locs hp hT => ?_)
  obtain ⟨r_49, rfl, hI, x_51, m_50⟩ := hp
  have hw : PX 48 2 3 71 72 g_48 om := hw.mono m_50 x_51 r_8 (by decide) (by decide) rfl rfl rfl rfl
  have hN0 : PX 8 39 40 84 85 g_48 om := hN0.mono m_50 x_51 r_8 (by decide) (by decide) rfl rfl rfl rfl
  have hTE : TE g_48 ba ta tz.toInt := hTE.sm m_50 r_12 (by decide) rfl r_13 (by decide) rfl
  have hWT : WT g_48 wt := hWT.sm m_50 r_14 (by decide) rfl
  have hPI : PGI g_48 sa aa wo pl wr sv.toInt := hPI.go (PK.sm m_50 x_51 r_15 rfl rfl rfl rfl rfl rfl rfl rfl rfl) (Sm.cf m_50 r_16 (by decide) rfl) (Sm.cf m_50 r_17 (by decide) rfl) (Sm.cf m_50 r_18 (by decide) rfl) (Sm.cf m_50 r_19 (by decide) rfl)
  have hM : Sm mdA g g_48 := sm_all
  have hE : Ex g g_48 := hE.tr x_51
  have r_52 : g_48.1 ox = 7 := (Ex.r x_51 r_7 (by decide))
  have r_53 : g_48.1 om = 8 := (Ex.r x_51 r_8 (by decide))
  have r_54 : g_48.1 tp = 5 := (Ex.r x_51 r_9 (by decide))
  have r_55 : g_48.1 nw = 19 := (Ex.r x_51 r_10 (by decide))
  have r_56 : g_48.1 rl = 1 := (Ex.r x_51 r_11 (by decide))
  have r_57 : g_48.1 ba = 67 := (Ex.r x_51 r_12 (by decide))
  have r_58 : g_48.1 ta = 79 := (Ex.r x_51 r_13 (by decide))
  have r_59 : g_48.1 wt = 87 := (Ex.r x_51 r_14 (by decide))
  have r_60 : g_48.1 sa = 42 := (Ex.r x_51 r_15 (by decide))
  have r_61 : g_48.1 aa = 88 := (Ex.r x_51 r_16 (by decide))
  have r_62 : g_48.1 wo = 71 := (Ex.r x_51 r_17 (by decide))
  have r_63 : g_48.1 pl = 72 := (Ex.r x_51 r_18 (by decide))
  have r_64 : g_48.1 wr = 73 := (Ex.r x_51 r_19 (by decide))
  have n_65 : g_48.2.2.1 ba = 100 := (Ex.n x_51 r_12 (by decide) n_20)
  have n_66 : g_48.2.2.1 ta = 100 := (Ex.n x_51 r_13 (by decide) n_21)
  have n_67 : g_48.2.2.1 wt = 24 := (Ex.n x_51 r_14 (by decide) n_22)
  have n_68 : g_48.2.2.1 sa = 6 := (Ex.n x_51 r_15 (by decide) n_23)
  have n_69 : g_48.2.2.1 aa = 6 := (Ex.n x_51 r_16 (by decide) n_24)
  have n_70 : g_48.2.2.1 wo = 48 := (Ex.n x_51 r_17 (by decide) n_25)
  have n_71 : g_48.2.2.1 pl = 48 := (Ex.n x_51 r_18 (by decide) n_26)
  have n_72 : g_48.2.2.1 wr = 48 := (Ex.n x_51 r_19 (by decide) n_27)
  have kn_73 : g_48.2.1 om 22 = .int o1 := (Sm.v m_50 r_8 (by decide) rfl kn_28)
  have kn_74 : g_48.2.1 ox 0 = .ref tp := (Sm.v m_50 r_7 (by decide) rfl kn_29)
  have kn_75 : g_48.2.1 ox 1 = .ref nw := (Sm.v m_50 r_7 (by decide) rfl kn_30)
  have kn_76 : g_48.2.1 ox 2 = .ref rl := (Sm.v m_50 r_7 (by decide) rfl kn_31)
  have kn_77 : g_48.2.1 tp 0 = .ref ba := (Sm.v m_50 r_9 (by decide) rfl kn_32)
  have kn_78 : g_48.2.1 om 28 = .ref ta := (Sm.v m_50 r_8 (by decide) rfl kn_33)
  have kn_79 : g_48.2.1 om 42 = .ref wt := (Sm.v m_50 r_8 (by decide) rfl kn_34)
  have kn_80 : g_48.2.1 nw 0 = .ref sa := (Sm.v m_50 r_10 (by decide) rfl kn_35)
  have kn_81 : g_48.2.1 om 1 = .ref aa := (Sm.v m_50 r_8 (by decide) rfl kn_36)
  have kn_82 : g_48.2.1 om 2 = .ref wo := (Sm.v m_50 r_8 (by decide) rfl kn_37)
  have kn_83 : g_48.2.1 om 3 = .ref pl := (Sm.v m_50 r_8 (by decide) rfl kn_38)
  have kn_84 : g_48.2.1 om 4 = .ref wr := (Sm.v m_50 r_8 (by decide) rfl kn_39)
  have kn_85 : g_48.2.1 tp 1 = .int tz := (Sm.v m_50 r_9 (by decide) rfl kn_40)
  have kn_86 : g_48.2.1 om 29 = .int tz := (Sm.v m_50 r_8 (by decide) rfl kn_41)
  have kn_87 : g_48.2.1 nw 1 = .int sv := (Sm.v m_50 r_10 (by decide) rfl kn_42)
  have kn_88 : g_48.2.1 om 0 = .int sv := (Sm.v m_50 r_8 (by decide) rfl kn_43)
  have kn_89 : g_48.2.1 rl 3 = .int rz := (Sm.v m_50 r_11 (by decide) rfl kn_44)
  have kn_90 : g_48.2.1 om 30 = .int rz := (Sm.v m_50 r_8 (by decide) rfl kn_45)
  refine W.eq (g2 := F0 m 506 ls [.int r_49]) rfl ?_
  refine lv_pop hx hb dL_law_506 rfl ?_
  refine lv_goto (tgt := 829) hx hb dL_law_507 (by decide) ?_
  refine W.widen (k := cells + 4) (n := slots + 28) (by omega) (by omega) ?_
  exact K g_48 o1 tz sv rz H locs hT hI r_52 r_53 kn_73 (by have e0_ : (0 : Int32).toInt = 0 := (by decide); omega) (by have e0_ : (0 : Int32).toInt = 0 := (by decide); omega) hw hN0 kn_74 r_54 kn_75 r_55 kn_76 r_56 kn_77 r_57 n_65 kn_78 r_58 n_66 kn_79 r_59 n_67 kn_80 r_60 n_68 kn_81 r_61 n_69 kn_82 r_62 n_70 kn_83 r_63 n_71 kn_84 r_64 n_72 kn_85 kn_86 (by have e0_ : (0 : Int32).toInt = 0 := (by decide); omega) (by have e0_ : (0 : Int32).toInt = 0 := (by decide); omega) kn_87 kn_88 (by have e0_ : (0 : Int32).toInt = 0 := (by decide); omega) (by have e0_ : (0 : Int32).toInt = 0 := (by decide); omega) kn_89 kn_90 (by have e0_ : (0 : Int32).toInt = 0 := (by decide); omega) (by have e0_ : (0 : Int32).toInt = 0 := (by decide); omega) hTE hWT hPI
set_option maxHeartbeats 4000000 in
set_option maxRecDepth 100000 in
/-- row -/
theorem law_10 {p : Program} {l : Launch} {e : Env} {s : State} {m : MethodId} {below : List Frame} {meth : Method} {c : Code} {D : va_G} {cI cZ cS cR : ClassId} {N0 : NT} {b L : Nat} {xs : Nat → Int32} (hB : Tz p s m meth c #[Value.ref b] code 4 RL D cI cZ cS cR N0) (hAs : N0.1 = s.heap.size) (hX : va_X b L xs s s.heap) (hbl : b < s.heap.size) (hL : L ≤ 2560) (hr : meth.sig.returnType = ret) {cells slots : Nat} (hcl : cells + 4 ≤ 600000) (hsl : slots + 28 ≤ 7302250) {H : Heap} {locs : List Loc} {ls : Array Slot} (g : GS) (ox om : Nat) (tp : Nat) (nw : Nat) (rl : Nat) (ba : Nat) (ta : Nat) (wt : Nat) (sa : Nat) (aa : Nat) (wo : Nat) (pl : Nat) (wr : Nat) (i o1 tz sv rz : Int32) (hT : Tv D cI cZ cS cR N0 s.heap H locs g) (hI : Inv g) (l_i : 0 ≤ i.toInt) (u_i : i.toInt + 5 ≤ L) : g.1 ox = 7 → g.1 om = 8 → g.2.1 om 22 = .int o1 → 0 ≤ o1.toInt → o1.toInt ≤ 12 * i.toInt → PX 48 2 3 71 72 g om → PX 8 39 40 84 85 g om → g.2.1 ox 0 = .ref tp → g.1 tp = 5 → g.2.1 ox 1 = .ref nw → g.1 nw = 19 → g.2.1 ox 2 = .ref rl → g.1 rl = 1 → g.2.1 tp 0 = .ref ba → g.1 ba = 67 → g.2.2.1 ba = 100 → g.2.1 om 28 = .ref ta → g.1 ta = 79 → g.2.2.1 ta = 100 → g.2.1 om 42 = .ref wt → g.1 wt = 87 → g.2.2.1 wt = 24 → g.2.1 nw 0 = .ref sa → g.1 sa = 42 → g.2.2.1 sa = 6 → g.2.1 om 1 = .ref aa → g.1 aa = 88 → g.2.2.1 aa = 6 → g.2.1 om 2 = .ref wo → g.1 wo = 71 → g.2.2.1 wo = 48 → g.2.1 om 3 = .ref pl → g.1 pl = 72 → g.2.2.1 pl = 48 → g.2.1 om 4 = .ref wr → g.1 wr = 73 → g.2.2.1 wr = 48 → g.2.1 tp 1 = .int tz → g.2.1 om 29 = .int tz → 0 ≤ tz.toInt → tz.toInt ≤ 100 → g.2.1 nw 1 = .int sv → g.2.1 om 0 = .int sv → 0 ≤ sv.toInt → sv.toInt ≤ 6 → g.2.1 rl 3 = .int rz → g.2.1 om 30 = .int rz → 0 ≤ rz.toInt → rz.toInt ≤ 6 → TE g ba ta tz.toInt → WT g wt → PGI g sa aa wo pl wr sv.toInt → (hl : lv_has ls 4 [(3, .int i), (2, .ref om), (1, .ref ox), (0, .ref b)]) → (K : ∀ (g1 : GS) (o1_1 tz_1 sv_1 rz_1 : Int32) (H1 : Heap) (locs1 : List Loc), Tv D cI cZ cS cR N0 s.heap H1 locs1 g1 → Inv g1 → g1.1 ox = 7 → g1.1 om = 8 → g1.2.1 om 22 = .int o1_1 → 0 ≤ o1_1.toInt → o1_1.toInt ≤ 12 * i.toInt + 60 → PX 48 2 3 71 72 g1 om → PX 8 39 40 84 85 g1 om → g1.2.1 ox 0 = .ref tp → g1.1 tp = 5 → g1.2.1 ox 1 = .ref nw → g1.1 nw = 19 → g1.2.1 ox 2 = .ref rl → g1.1 rl = 1 → g1.2.1 tp 0 = .ref ba → g1.1 ba = 67 → g1.2.2.1 ba = 100 → g1.2.1 om 28 = .ref ta → g1.1 ta = 79 → g1.2.2.1 ta = 100 → g1.2.1 om 42 = .ref wt → g1.1 wt = 87 → g1.2.2.1 wt = 24 → g1.2.1 nw 0 = .ref sa → g1.1 sa = 42 → g1.2.2.1 sa = 6 → g1.2.1 om 1 = .ref aa → g1.1 aa = 88 → g1.2.2.1 aa = 6 → g1.2.1 om 2 = .ref wo → g1.1 wo = 71 → g1.2.2.1 wo = 48 → g1.2.1 om 3 = .ref pl → g1.1 pl = 72 → g1.2.2.1 pl = 48 → g1.2.1 om 4 = .ref wr → g1.1 wr = 73 → g1.2.2.1 wr = 48 → g1.2.1 tp 1 = .int tz_1 → g1.2.1 om 29 = .int tz_1 → 0 ≤ tz_1.toInt → tz_1.toInt ≤ 100 → g1.2.1 nw 1 = .int sv_1 → g1.2.1 om 0 = .int sv_1 → 0 ≤ sv_1.toInt → sv_1.toInt ≤ 6 → g1.2.1 rl 3 = .int rz_1 → g1.2.1 om 30 = .int rz_1 → 0 ≤ rz_1.toInt → rz_1.toInt ≤ 6 → TE g1 ba ta tz_1.toInt → WT g1 wt → PGI g1 sa aa wo pl wr sv_1.toInt → W p l e room_1 s m #[Value.ref b] below meth c H1 locs1 (cells + 4) (slots + 28) (lw_Z below #[Value.ref b] s) (F0 m 829 ls [])) → W p l e room_1 s m #[Value.ref b] below meth c H locs cells slots (lw_Z below #[Value.ref b] s) (F0 m 510 ls []) := by
  intro r_ox r_om ko l_o u_o hw hN0 k_tp r_tp k_nw r_nw k_rl r_rl k_ba r_ba n_ba k_ta r_ta n_ta k_wt r_wt n_wt k_sa r_sa n_sa k_aa r_aa n_aa k_wo r_wo n_wo k_pl r_pl n_pl k_wr r_wr n_wr kc_tz km_tz l_tz u_tz kc_sv km_sv l_sv u_sv kc_rz km_rz l_rz u_rz hTE hWT hPI hl K
  have hx := hB.1
  have hb := hB.2.1
  have hE : Ex g g := Ex.rf
  have hM : Sm mdA g g := sm_all
  have hTE0 := hTE
  have hI0_ := hI
  have hPI0_ := hPI
  refine lv_aload_n hx hb dL_law_510 rfl (lv_at hl 2 rfl) ?_
  refine lv_aload_n hx hb dL_law_511 rfl (lv_at hl 3 rfl) ?_
  refine lv_iload_n hx hb dL_law_512 rfl (lv_at hl 0 rfl) ?_
  refine lv_iconst (v := 1) hx hb dL_law_513 (by decide) ?_
  refine lv_iadd hx hb dL_law_514 ?_
  refine lv_topi (fun z_1 ez_1 => ?_)
  have e_z_1 : z_1.toInt = i.toInt + 1 := i_add ez_1 rfl (by decide) (by omega) (by omega)
  refine va_sld hx hb hX hbl (fun q => by have q_ : N0.1 ≤ b := q; omega) hT.2 (i_in (n := L) rfl (by omega) (by omega)) dL_law_515 ?_
  refine lv_topi (fun u_2 e_u_2 => ?_)
  refine lv_aload_n hx hb dL_law_516 rfl (lv_at hl 3 rfl) ?_
  refine lv_iload_n hx hb dL_law_517 rfl (lv_at hl 0 rfl) ?_
  refine lv_iconst (v := 2) hx hb dL_law_518 (by decide) ?_
  refine lv_iadd hx hb dL_law_519 ?_
  refine lv_topi (fun z_3 ez_3 => ?_)
  have e_z_3 : z_3.toInt = i.toInt + 2 := i_add ez_3 rfl (by decide) (by omega) (by omega)
  refine va_sld hx hb hX hbl (fun q => by have q_ : N0.1 ≤ b := q; omega) hT.2 (i_in (n := L) rfl (by omega) (by omega)) dL_law_520 ?_
  refine lv_topi (fun u_4 e_u_4 => ?_)
  refine lv_aload_n hx hb dL_law_521 rfl (lv_at hl 3 rfl) ?_
  refine lv_iload_n hx hb dL_law_522 rfl (lv_at hl 0 rfl) ?_
  refine lv_iconst (v := 3) hx hb dL_law_523 (by decide) ?_
  refine lv_iadd hx hb dL_law_524 ?_
  refine lv_topi (fun z_5 ez_5 => ?_)
  have e_z_5 : z_5.toInt = i.toInt + 3 := i_add ez_5 rfl (by decide) (by omega) (by omega)
  refine va_sld hx hb hX hbl (fun q => by have q_ : N0.1 ≤ b := q; omega) hT.2 (i_in (n := L) rfl (by omega) (by omega)) dL_law_525 ?_
  refine lv_topi (fun u_6 e_u_6 => ?_)
  refine t_callV (n := 3) (As := [.int u_2, .int u_4, .int u_6]) (rest := []) (ci := 6) hB hT hl.1 (P_row l D cI cZ cS cR N0 g hI ox u_2 u_4 u_6 nw sv rl rz r_ox r_nw r_rl k_nw kc_sv k_rl kc_rz (by omega) (by omega) (by omega) (by omega)) (ro_ci r_ox rfl) rfl k_565 k_57 k_562 k_563 k_564 (by decide +kernel) ⟨(Nat.le_of_ble_eq_true rfl), (Nat.le_of_ble_eq_true rfl)⟩ rfl (Nat.le_of_ble_eq_true rfl) ⟨(by show _ ≤ _; first | exact Nat.le_of_ble_eq_true rfl | (simp only [room_1]; omega)), (by show _ ≤ _; first | exact Nat.le_of_ble_eq_true rfl | (simp only [room_1]; omega))⟩ dL_law_526 (fun v g_7 H locs hp hT => ?_)
  obtain ⟨r_8, q2_9, rfl, hI, x_14, m_13, f_10, f_11, f_12⟩ := hp
  have hw : PX 48 2 3 71 72 g_7 om := hw.mono m_13 x_14 r_om (by decide) (by decide) rfl rfl rfl rfl
  have hN0 : PX 8 39 40 84 85 g_7 om := hN0.mono m_13 x_14 r_om (by decide) (by decide) rfl rfl rfl rfl
  have hTE : TE g_7 ba ta tz.toInt := hTE.sm m_13 r_ba (by decide) rfl r_ta (by decide) rfl
  have hWT : WT g_7 wt := hWT.sm m_13 r_wt (by decide) rfl
  have hPI : PGI g_7 sa aa wo pl wr sv.toInt := hPI.go (PK.sm m_13 x_14 r_sa rfl rfl rfl rfl rfl rfl rfl rfl rfl) (Sm.cf m_13 r_aa (by decide) rfl) (Sm.cf m_13 r_wo (by decide) rfl) (Sm.cf m_13 r_pl (by decide) rfl) (Sm.cf m_13 r_wr (by decide) rfl)
  have hM : Sm mdA g g_7 := sm_all
  have hE : Ex g g_7 := hE.tr x_14
  have r_15 : g_7.1 ox = 7 := (Ex.r x_14 r_ox (by decide))
  have r_16 : g_7.1 om = 8 := (Ex.r x_14 r_om (by decide))
  have r_17 : g_7.1 tp = 5 := (Ex.r x_14 r_tp (by decide))
  have r_18 : g_7.1 nw = 19 := (Ex.r x_14 r_nw (by decide))
  have r_19 : g_7.1 rl = 1 := (Ex.r x_14 r_rl (by decide))
  have r_20 : g_7.1 ba = 67 := (Ex.r x_14 r_ba (by decide))
  have r_21 : g_7.1 ta = 79 := (Ex.r x_14 r_ta (by decide))
  have r_22 : g_7.1 wt = 87 := (Ex.r x_14 r_wt (by decide))
  have r_23 : g_7.1 sa = 42 := (Ex.r x_14 r_sa (by decide))
  have r_24 : g_7.1 aa = 88 := (Ex.r x_14 r_aa (by decide))
  have r_25 : g_7.1 wo = 71 := (Ex.r x_14 r_wo (by decide))
  have r_26 : g_7.1 pl = 72 := (Ex.r x_14 r_pl (by decide))
  have r_27 : g_7.1 wr = 73 := (Ex.r x_14 r_wr (by decide))
  have n_28 : g_7.2.2.1 ba = 100 := (Ex.n x_14 r_ba (by decide) n_ba)
  have n_29 : g_7.2.2.1 ta = 100 := (Ex.n x_14 r_ta (by decide) n_ta)
  have n_30 : g_7.2.2.1 wt = 24 := (Ex.n x_14 r_wt (by decide) n_wt)
  have n_31 : g_7.2.2.1 sa = 6 := (Ex.n x_14 r_sa (by decide) n_sa)
  have n_32 : g_7.2.2.1 aa = 6 := (Ex.n x_14 r_aa (by decide) n_aa)
  have n_33 : g_7.2.2.1 wo = 48 := (Ex.n x_14 r_wo (by decide) n_wo)
  have n_34 : g_7.2.2.1 pl = 48 := (Ex.n x_14 r_pl (by decide) n_pl)
  have n_35 : g_7.2.2.1 wr = 48 := (Ex.n x_14 r_wr (by decide) n_wr)
  have kn_36 : g_7.2.1 om 22 = .int o1 := (Sm.v m_13 r_om (by decide) rfl ko)
  have kn_37 : g_7.2.1 ox 0 = .ref tp := (Sm.v m_13 r_ox (by decide) rfl k_tp)
  have kn_38 : g_7.2.1 ox 1 = .ref nw := (Sm.v m_13 r_ox (by decide) rfl k_nw)
  have kn_39 : g_7.2.1 ox 2 = .ref rl := (Sm.v m_13 r_ox (by decide) rfl k_rl)
  have kn_40 : g_7.2.1 tp 0 = .ref ba := (Sm.v m_13 r_tp (by decide) rfl k_ba)
  have kn_41 : g_7.2.1 om 28 = .ref ta := (Sm.v m_13 r_om (by decide) rfl k_ta)
  have kn_42 : g_7.2.1 om 42 = .ref wt := (Sm.v m_13 r_om (by decide) rfl k_wt)
  have kn_43 : g_7.2.1 nw 0 = .ref sa := (Sm.v m_13 r_nw (by decide) rfl k_sa)
  have kn_44 : g_7.2.1 om 1 = .ref aa := (Sm.v m_13 r_om (by decide) rfl k_aa)
  have kn_45 : g_7.2.1 om 2 = .ref wo := (Sm.v m_13 r_om (by decide) rfl k_wo)
  have kn_46 : g_7.2.1 om 3 = .ref pl := (Sm.v m_13 r_om (by decide) rfl k_pl)
  have kn_47 : g_7.2.1 om 4 = .ref wr := (Sm.v m_13 r_om (by decide) rfl k_wr)
  have kn_48 : g_7.2.1 tp 1 = .int tz := (Sm.v m_13 r_tp (by decide) rfl kc_tz)
  have kn_49 : g_7.2.1 om 29 = .int tz := (Sm.v m_13 r_om (by decide) rfl km_tz)
  have kn_50 : g_7.2.1 nw 1 = .int sv := (Sm.v m_13 r_nw (by decide) rfl kc_sv)
  have kn_51 : g_7.2.1 om 0 = .int sv := (Sm.v m_13 r_om (by decide) rfl km_sv)
  have kn_52 : g_7.2.1 om 30 = .int rz := (Sm.v m_13 r_om (by decide) rfl km_rz)
  refine W.eq (g2 := F0 m 529 ls [.int r_8]) rfl ?_
  refine lv_pop hx hb dL_law_529 rfl ?_
  refine lv_aload_n hx hb dL_law_530 rfl (lv_at hl 1 rfl) ?_
  refine lv_aload_n hx hb dL_law_531 rfl (lv_at hl 3 rfl) ?_
  refine lv_iload_n hx hb dL_law_532 rfl (lv_at hl 0 rfl) ?_
  refine lv_iconst (v := 1) hx hb dL_law_533 (by decide) ?_
  refine lv_iadd hx hb dL_law_534 ?_
  refine lv_topi (fun z_53 ez_53 => ?_)
  have e_z_53 : z_53.toInt = i.toInt + 1 := i_add ez_53 rfl (by decide) (by omega) (by omega)
  refine va_sld hx hb hX hbl (fun q => by have q_ : N0.1 ≤ b := q; omega) hT.2 (i_in (n := L) rfl (by omega) (by omega)) dL_law_535 ?_
  refine lv_topi (fun u_54 e_u_54 => ?_)
  refine lv_aload_n hx hb dL_law_536 rfl (lv_at hl 3 rfl) ?_
  refine lv_iload_n hx hb dL_law_537 rfl (lv_at hl 0 rfl) ?_
  refine lv_iconst (v := 2) hx hb dL_law_538 (by decide) ?_
  refine lv_iadd hx hb dL_law_539 ?_
  refine lv_topi (fun z_55 ez_55 => ?_)
  have e_z_55 : z_55.toInt = i.toInt + 2 := i_add ez_55 rfl (by decide) (by omega) (by omega)
  refine va_sld hx hb hX hbl (fun q => by have q_ : N0.1 ≤ b := q; omega) hT.2 (i_in (n := L) rfl (by omega) (by omega)) dL_law_540 ?_
  refine lv_topi (fun u_56 e_u_56 => ?_)
  refine lv_aload_n hx hb dL_law_541 rfl (lv_at hl 3 rfl) ?_
  refine lv_iload_n hx hb dL_law_542 rfl (lv_at hl 0 rfl) ?_
  refine lv_iconst (v := 3) hx hb dL_law_543 (by decide) ?_
  refine lv_iadd hx hb dL_law_544 ?_
  refine lv_topi (fun z_57 ez_57 => ?_)
  have e_z_57 : z_57.toInt = i.toInt + 3 := i_add ez_57 rfl (by decide) (by omega) (by omega)
  refine va_sld hx hb hX hbl (fun q => by have q_ : N0.1 ≤ b := q; omega) hT.2 (i_in (n := L) rfl (by omega) (by omega)) dL_law_545 ?_
  refine lv_topi (fun u_58 e_u_58 => ?_)
  refine t_callV (n := 3) (As := [.int u_54, .int u_56, .int u_58]) (rest := []) (ci := 7) hB hT hl.1 (m_row l D cI cZ cS cR N0 g_7 hI om u_54 u_56 u_58 sv rz r_16 kn_51 kn_52 (by omega) (by omega) (by omega) (by omega)) (ro_ci r_16 rfl) rfl k_1087 k_65 k_1084 k_1085 k_1086 (by decide +kernel) ⟨(Nat.le_of_ble_eq_true rfl), (Nat.le_of_ble_eq_true rfl)⟩ rfl (Nat.le_of_ble_eq_true rfl) ⟨(by show _ ≤ _; first | exact Nat.le_of_ble_eq_true rfl | (simp only [room_1]; omega)), (by show _ ≤ _; first | exact Nat.le_of_ble_eq_true rfl | (simp only [room_1]; omega))⟩ dL_law_546 (fun v g_59 H locs hp hT => ?_)
  obtain ⟨r_60, q2_61, rfl, hI, x_66, m_65, f_62, f_63, f_64⟩ := hp
  have hw : PX 48 2 3 71 72 g_59 om := hw.mono m_65 x_66 r_16 (by decide) (by decide) rfl rfl rfl rfl
  have hN0 : PX 8 39 40 84 85 g_59 om := hN0.mono m_65 x_66 r_16 (by decide) (by decide) rfl rfl rfl rfl
  have hTE : TE g_59 ba ta tz.toInt := hTE.sm m_65 r_20 (by decide) rfl r_21 (by decide) rfl
  have hWT : WT g_59 wt := hWT.sm m_65 r_22 (by decide) rfl
  have hPI : PGI g_59 sa aa wo pl wr sv.toInt := hPI.go (PK.sm m_65 x_66 r_23 rfl rfl rfl rfl rfl rfl rfl rfl rfl) (Sm.cf m_65 r_24 (by decide) rfl) (Sm.cf m_65 r_25 (by decide) rfl) (Sm.cf m_65 r_26 (by decide) rfl) (Sm.cf m_65 r_27 (by decide) rfl)
  have hM : Sm mdA g g_59 := sm_all
  have hE : Ex g g_59 := hE.tr x_66
  have r_67 : g_59.1 ox = 7 := (Ex.r x_66 r_15 (by decide))
  have r_68 : g_59.1 om = 8 := (Ex.r x_66 r_16 (by decide))
  have r_69 : g_59.1 tp = 5 := (Ex.r x_66 r_17 (by decide))
  have r_70 : g_59.1 nw = 19 := (Ex.r x_66 r_18 (by decide))
  have r_71 : g_59.1 rl = 1 := (Ex.r x_66 r_19 (by decide))
  have r_72 : g_59.1 ba = 67 := (Ex.r x_66 r_20 (by decide))
  have r_73 : g_59.1 ta = 79 := (Ex.r x_66 r_21 (by decide))
  have r_74 : g_59.1 wt = 87 := (Ex.r x_66 r_22 (by decide))
  have r_75 : g_59.1 sa = 42 := (Ex.r x_66 r_23 (by decide))
  have r_76 : g_59.1 aa = 88 := (Ex.r x_66 r_24 (by decide))
  have r_77 : g_59.1 wo = 71 := (Ex.r x_66 r_25 (by decide))
  have r_78 : g_59.1 pl = 72 := (Ex.r x_66 r_26 (by decide))
  have r_79 : g_59.1 wr = 73 := (Ex.r x_66 r_27 (by decide))
  have n_80 : g_59.2.2.1 ba = 100 := (Ex.n x_66 r_20 (by decide) n_28)
  have n_81 : g_59.2.2.1 ta = 100 := (Ex.n x_66 r_21 (by decide) n_29)
  have n_82 : g_59.2.2.1 wt = 24 := (Ex.n x_66 r_22 (by decide) n_30)
  have n_83 : g_59.2.2.1 sa = 6 := (Ex.n x_66 r_23 (by decide) n_31)
  have n_84 : g_59.2.2.1 aa = 6 := (Ex.n x_66 r_24 (by decide) n_32)
  have n_85 : g_59.2.2.1 wo = 48 := (Ex.n x_66 r_25 (by decide) n_33)
  have n_86 : g_59.2.2.1 pl = 48 := (Ex.n x_66 r_26 (by decide) n_34)
  have n_87 : g_59.2.2.1 wr = 48 := (Ex.n x_66 r_27 (by decide) n_35)
  have kn_88 : g_59.2.1 om 22 = .int o1 := (Sm.v m_65 r_16 (by decide) rfl kn_36)
  have kn_89 : g_59.2.1 ox 0 = .ref tp := (Sm.v m_65 r_15 (by decide) rfl kn_37)
  have kn_90 : g_59.2.1 ox 1 = .ref nw := (Sm.v m_65 r_15 (by decide) rfl kn_38)
  have kn_91 : g_59.2.1 ox 2 = .ref rl := (Sm.v m_65 r_15 (by decide) rfl kn_39)
  have kn_92 : g_59.2.1 tp 0 = .ref ba := (Sm.v m_65 r_17 (by decide) rfl kn_40)
  have kn_93 : g_59.2.1 om 28 = .ref ta := (Sm.v m_65 r_16 (by decide) rfl kn_41)
  have kn_94 : g_59.2.1 om 42 = .ref wt := (Sm.v m_65 r_16 (by decide) rfl kn_42)
  have kn_95 : g_59.2.1 nw 0 = .ref sa := (Sm.v m_65 r_18 (by decide) rfl kn_43)
  have kn_96 : g_59.2.1 om 1 = .ref aa := (Sm.v m_65 r_16 (by decide) rfl kn_44)
  have kn_97 : g_59.2.1 om 2 = .ref wo := (Sm.v m_65 r_16 (by decide) rfl kn_45)
  have kn_98 : g_59.2.1 om 3 = .ref pl := (Sm.v m_65 r_16 (by decide) rfl kn_46)
  have kn_99 : g_59.2.1 om 4 = .ref wr := (Sm.v m_65 r_16 (by decide) rfl kn_47)
  have kn_100 : g_59.2.1 tp 1 = .int tz := (Sm.v m_65 r_17 (by decide) rfl kn_48)
  have kn_101 : g_59.2.1 om 29 = .int tz := (Sm.v m_65 r_16 (by decide) rfl kn_49)
  have kn_102 : g_59.2.1 nw 1 = .int sv := (Sm.v m_65 r_18 (by decide) rfl kn_50)
  have kn_103 : g_59.2.1 om 0 = .int sv := (Sm.v m_65 r_16 (by decide) rfl kn_51)
  have kn_104 : g_59.2.1 rl 3 = .int q2_9 := (Sm.v m_65 r_19 (by decide) rfl f_10)
  refine W.eq (g2 := F0 m 549 ls [.int r_60]) rfl ?_
  refine lv_pop hx hb dL_law_549 rfl ?_
  refine lv_goto (tgt := 829) hx hb dL_law_550 (by decide) ?_
  have eq_u_54 : u_54 = u_2 := e_u_54.trans ((congrArg xs (i_nt (by omega))).trans e_u_2.symm)
  have eqi_u_54 : u_54.toInt = u_2.toInt := congrArg Int32.toInt eq_u_54
  have eq_u_56 : u_56 = u_4 := e_u_56.trans ((congrArg xs (i_nt (by omega))).trans e_u_4.symm)
  have eqi_u_56 : u_56.toInt = u_4.toInt := congrArg Int32.toInt eq_u_56
  have eq_u_58 : u_58 = u_6 := e_u_58.trans ((congrArg xs (i_nt (by omega))).trans e_u_6.symm)
  have eqi_u_58 : u_58.toInt = u_6.toInt := congrArg Int32.toInt eq_u_58
  have er_105 := f_64
  try rw [eq_u_54] at er_105
  try rw [eq_u_56] at er_105
  try rw [eq_u_58] at er_105
  have hub_ : q2_9.toInt ≤ 6 ∧ 0 ≤ q2_9.toInt := (by have q_ := f_12; unfold roQ at q_; omega)
  refine W.widen (k := cells + 4) (n := slots + 28) (by omega) (by omega) ?_
  exact K g_59 o1 tz sv q2_9 H locs hT hI r_67 r_68 kn_88 (by have e0_ : (0 : Int32).toInt = 0 := (by decide); omega) (by have e0_ : (0 : Int32).toInt = 0 := (by decide); omega) hw hN0 kn_89 r_69 kn_90 r_70 kn_91 r_71 kn_92 r_72 n_80 kn_93 r_73 n_81 kn_94 r_74 n_82 kn_95 r_75 n_83 kn_96 r_76 n_84 kn_97 r_77 n_85 kn_98 r_78 n_86 kn_99 r_79 n_87 kn_100 kn_101 (by have e0_ : (0 : Int32).toInt = 0 := (by decide); omega) (by have e0_ : (0 : Int32).toInt = 0 := (by decide); omega) kn_102 kn_103 (by have e0_ : (0 : Int32).toInt = 0 := (by decide); omega) (by have e0_ : (0 : Int32).toInt = 0 := (by decide); omega) kn_104 (f_62.trans (congrArg Value.int (i_inj (er_105.trans f_12.symm)))) (by have e0_ : (0 : Int32).toInt = 0 := (by decide); omega) (by have e0_ : (0 : Int32).toInt = 0 := (by decide); omega) hTE hWT hPI
set_option maxHeartbeats 4000000 in
set_option maxRecDepth 100000 in
/-- clear -/
theorem law_11 {p : Program} {l : Launch} {e : Env} {s : State} {m : MethodId} {below : List Frame} {meth : Method} {c : Code} {D : va_G} {cI cZ cS cR : ClassId} {N0 : NT} {b L : Nat} {xs : Nat → Int32} (hB : Tz p s m meth c #[Value.ref b] code 4 RL D cI cZ cS cR N0) (hAs : N0.1 = s.heap.size) (hX : va_X b L xs s s.heap) (hbl : b < s.heap.size) (hL : L ≤ 2560) (hr : meth.sig.returnType = ret) {cells slots : Nat} (hcl : cells + 4 ≤ 600000) (hsl : slots + 28 ≤ 7302250) {H : Heap} {locs : List Loc} {ls : Array Slot} (g : GS) (ox om : Nat) (tp : Nat) (nw : Nat) (rl : Nat) (ba : Nat) (ta : Nat) (wt : Nat) (sa : Nat) (aa : Nat) (wo : Nat) (pl : Nat) (wr : Nat) (i o1 tz sv rz : Int32) (hT : Tv D cI cZ cS cR N0 s.heap H locs g) (hI : Inv g) (l_i : 0 ≤ i.toInt) (u_i : i.toInt + 5 ≤ L) : g.1 ox = 7 → g.1 om = 8 → g.2.1 om 22 = .int o1 → 0 ≤ o1.toInt → o1.toInt ≤ 12 * i.toInt → PX 48 2 3 71 72 g om → PX 8 39 40 84 85 g om → g.2.1 ox 0 = .ref tp → g.1 tp = 5 → g.2.1 ox 1 = .ref nw → g.1 nw = 19 → g.2.1 ox 2 = .ref rl → g.1 rl = 1 → g.2.1 tp 0 = .ref ba → g.1 ba = 67 → g.2.2.1 ba = 100 → g.2.1 om 28 = .ref ta → g.1 ta = 79 → g.2.2.1 ta = 100 → g.2.1 om 42 = .ref wt → g.1 wt = 87 → g.2.2.1 wt = 24 → g.2.1 nw 0 = .ref sa → g.1 sa = 42 → g.2.2.1 sa = 6 → g.2.1 om 1 = .ref aa → g.1 aa = 88 → g.2.2.1 aa = 6 → g.2.1 om 2 = .ref wo → g.1 wo = 71 → g.2.2.1 wo = 48 → g.2.1 om 3 = .ref pl → g.1 pl = 72 → g.2.2.1 pl = 48 → g.2.1 om 4 = .ref wr → g.1 wr = 73 → g.2.2.1 wr = 48 → g.2.1 tp 1 = .int tz → g.2.1 om 29 = .int tz → 0 ≤ tz.toInt → tz.toInt ≤ 100 → g.2.1 nw 1 = .int sv → g.2.1 om 0 = .int sv → 0 ≤ sv.toInt → sv.toInt ≤ 6 → g.2.1 rl 3 = .int rz → g.2.1 om 30 = .int rz → 0 ≤ rz.toInt → rz.toInt ≤ 6 → TE g ba ta tz.toInt → WT g wt → PGI g sa aa wo pl wr sv.toInt → (hl : lv_has ls 4 [(3, .int i), (2, .ref om), (1, .ref ox), (0, .ref b)]) → (K : ∀ (g1 : GS) (o1_1 tz_1 sv_1 rz_1 : Int32) (H1 : Heap) (locs1 : List Loc), Tv D cI cZ cS cR N0 s.heap H1 locs1 g1 → Inv g1 → g1.1 ox = 7 → g1.1 om = 8 → g1.2.1 om 22 = .int o1_1 → 0 ≤ o1_1.toInt → o1_1.toInt ≤ 12 * i.toInt + 60 → PX 48 2 3 71 72 g1 om → PX 8 39 40 84 85 g1 om → g1.2.1 ox 0 = .ref tp → g1.1 tp = 5 → g1.2.1 ox 1 = .ref nw → g1.1 nw = 19 → g1.2.1 ox 2 = .ref rl → g1.1 rl = 1 → g1.2.1 tp 0 = .ref ba → g1.1 ba = 67 → g1.2.2.1 ba = 100 → g1.2.1 om 28 = .ref ta → g1.1 ta = 79 → g1.2.2.1 ta = 100 → g1.2.1 om 42 = .ref wt → g1.1 wt = 87 → g1.2.2.1 wt = 24 → g1.2.1 nw 0 = .ref sa → g1.1 sa = 42 → g1.2.2.1 sa = 6 → g1.2.1 om 1 = .ref aa → g1.1 aa = 88 → g1.2.2.1 aa = 6 → g1.2.1 om 2 = .ref wo → g1.1 wo = 71 → g1.2.2.1 wo = 48 → g1.2.1 om 3 = .ref pl → g1.1 pl = 72 → g1.2.2.1 pl = 48 → g1.2.1 om 4 = .ref wr → g1.1 wr = 73 → g1.2.2.1 wr = 48 → g1.2.1 tp 1 = .int tz_1 → g1.2.1 om 29 = .int tz_1 → 0 ≤ tz_1.toInt → tz_1.toInt ≤ 100 → g1.2.1 nw 1 = .int sv_1 → g1.2.1 om 0 = .int sv_1 → 0 ≤ sv_1.toInt → sv_1.toInt ≤ 6 → g1.2.1 rl 3 = .int rz_1 → g1.2.1 om 30 = .int rz_1 → 0 ≤ rz_1.toInt → rz_1.toInt ≤ 6 → TE g1 ba ta tz_1.toInt → WT g1 wt → PGI g1 sa aa wo pl wr sv_1.toInt → W p l e room_1 s m #[Value.ref b] below meth c H1 locs1 (cells + 4) (slots + 28) (lw_Z below #[Value.ref b] s) (F0 m 829 ls [])) → W p l e room_1 s m #[Value.ref b] below meth c H locs cells slots (lw_Z below #[Value.ref b] s) (F0 m 553 ls []) := by
  intro r_ox r_om ko l_o u_o hw hN0 k_tp r_tp k_nw r_nw k_rl r_rl k_ba r_ba n_ba k_ta r_ta n_ta k_wt r_wt n_wt k_sa r_sa n_sa k_aa r_aa n_aa k_wo r_wo n_wo k_pl r_pl n_pl k_wr r_wr n_wr kc_tz km_tz l_tz u_tz kc_sv km_sv l_sv u_sv kc_rz km_rz l_rz u_rz hTE hWT hPI hl K
  have hx := hB.1
  have hb := hB.2.1
  have hE : Ex g g := Ex.rf
  have hM : Sm mdA g g := sm_all
  have hTE0 := hTE
  have hI0_ := hI
  have hPI0_ := hPI
  refine lv_aload_n hx hb dL_law_553 rfl (lv_at hl 2 rfl) ?_
  refine t_callV (n := 0) (As := []) (rest := []) (ci := 6) hB hT hl.1 (P_clear l D cI cZ cS cR N0 g hI ox rl rz r_ox r_rl k_rl kc_rz (by omega) (by omega)) (ro_ci r_ox rfl) rfl k_569 k_57 k_566 k_567 k_568 (by decide +kernel) ⟨(Nat.le_of_ble_eq_true rfl), (Nat.le_of_ble_eq_true rfl)⟩ rfl (Nat.le_of_ble_eq_true rfl) ⟨(by show _ ≤ _; first | exact Nat.le_of_ble_eq_true rfl | (simp only [room_1]; omega)), (by show _ ≤ _; first | exact Nat.le_of_ble_eq_true rfl | (simp only [room_1]; omega))⟩ dL_law_554 (fun v g_1 H locs hp hT => ?_)
  obtain ⟨r_2, rfl, hI, x_6, m_5, f_3, f_4⟩ := hp
  have hw : PX 48 2 3 71 72 g_1 om := hw.mono m_5 x_6 r_om (by decide) (by decide) rfl rfl rfl rfl
  have hN0 : PX 8 39 40 84 85 g_1 om := hN0.mono m_5 x_6 r_om (by decide) (by decide) rfl rfl rfl rfl
  have hTE : TE g_1 ba ta tz.toInt := hTE.sm m_5 r_ba (by decide) rfl r_ta (by decide) rfl
  have hWT : WT g_1 wt := hWT.sm m_5 r_wt (by decide) rfl
  have hPI : PGI g_1 sa aa wo pl wr sv.toInt := hPI.go (PK.sm m_5 x_6 r_sa rfl rfl rfl rfl rfl rfl rfl rfl rfl) (Sm.cf m_5 r_aa (by decide) rfl) (Sm.cf m_5 r_wo (by decide) rfl) (Sm.cf m_5 r_pl (by decide) rfl) (Sm.cf m_5 r_wr (by decide) rfl)
  have hM : Sm mdA g g_1 := sm_all
  have hE : Ex g g_1 := hE.tr x_6
  have r_7 : g_1.1 ox = 7 := (Ex.r x_6 r_ox (by decide))
  have r_8 : g_1.1 om = 8 := (Ex.r x_6 r_om (by decide))
  have r_9 : g_1.1 tp = 5 := (Ex.r x_6 r_tp (by decide))
  have r_10 : g_1.1 nw = 19 := (Ex.r x_6 r_nw (by decide))
  have r_11 : g_1.1 rl = 1 := (Ex.r x_6 r_rl (by decide))
  have r_12 : g_1.1 ba = 67 := (Ex.r x_6 r_ba (by decide))
  have r_13 : g_1.1 ta = 79 := (Ex.r x_6 r_ta (by decide))
  have r_14 : g_1.1 wt = 87 := (Ex.r x_6 r_wt (by decide))
  have r_15 : g_1.1 sa = 42 := (Ex.r x_6 r_sa (by decide))
  have r_16 : g_1.1 aa = 88 := (Ex.r x_6 r_aa (by decide))
  have r_17 : g_1.1 wo = 71 := (Ex.r x_6 r_wo (by decide))
  have r_18 : g_1.1 pl = 72 := (Ex.r x_6 r_pl (by decide))
  have r_19 : g_1.1 wr = 73 := (Ex.r x_6 r_wr (by decide))
  have n_20 : g_1.2.2.1 ba = 100 := (Ex.n x_6 r_ba (by decide) n_ba)
  have n_21 : g_1.2.2.1 ta = 100 := (Ex.n x_6 r_ta (by decide) n_ta)
  have n_22 : g_1.2.2.1 wt = 24 := (Ex.n x_6 r_wt (by decide) n_wt)
  have n_23 : g_1.2.2.1 sa = 6 := (Ex.n x_6 r_sa (by decide) n_sa)
  have n_24 : g_1.2.2.1 aa = 6 := (Ex.n x_6 r_aa (by decide) n_aa)
  have n_25 : g_1.2.2.1 wo = 48 := (Ex.n x_6 r_wo (by decide) n_wo)
  have n_26 : g_1.2.2.1 pl = 48 := (Ex.n x_6 r_pl (by decide) n_pl)
  have n_27 : g_1.2.2.1 wr = 48 := (Ex.n x_6 r_wr (by decide) n_wr)
  have kn_28 : g_1.2.1 om 22 = .int o1 := (Sm.v m_5 r_om (by decide) rfl ko)
  have kn_29 : g_1.2.1 ox 0 = .ref tp := (Sm.v m_5 r_ox (by decide) rfl k_tp)
  have kn_30 : g_1.2.1 ox 1 = .ref nw := (Sm.v m_5 r_ox (by decide) rfl k_nw)
  have kn_31 : g_1.2.1 ox 2 = .ref rl := (Sm.v m_5 r_ox (by decide) rfl k_rl)
  have kn_32 : g_1.2.1 tp 0 = .ref ba := (Sm.v m_5 r_tp (by decide) rfl k_ba)
  have kn_33 : g_1.2.1 om 28 = .ref ta := (Sm.v m_5 r_om (by decide) rfl k_ta)
  have kn_34 : g_1.2.1 om 42 = .ref wt := (Sm.v m_5 r_om (by decide) rfl k_wt)
  have kn_35 : g_1.2.1 nw 0 = .ref sa := (Sm.v m_5 r_nw (by decide) rfl k_sa)
  have kn_36 : g_1.2.1 om 1 = .ref aa := (Sm.v m_5 r_om (by decide) rfl k_aa)
  have kn_37 : g_1.2.1 om 2 = .ref wo := (Sm.v m_5 r_om (by decide) rfl k_wo)
  have kn_38 : g_1.2.1 om 3 = .ref pl := (Sm.v m_5 r_om (by decide) rfl k_pl)
  have kn_39 : g_1.2.1 om 4 = .ref wr := (Sm.v m_5 r_om (by decide) rfl k_wr)
  have kn_40 : g_1.2.1 tp 1 = .int tz := (Sm.v m_5 r_tp (by decide) rfl kc_tz)
  have kn_41 : g_1.2.1 om 29 = .int tz := (Sm.v m_5 r_om (by decide) rfl km_tz)
  have kn_42 : g_1.2.1 nw 1 = .int sv := (Sm.v m_5 r_nw (by decide) rfl kc_sv)
  have kn_43 : g_1.2.1 om 0 = .int sv := (Sm.v m_5 r_om (by decide) rfl km_sv)
  have kn_44 : g_1.2.1 om 30 = .int rz := (Sm.v m_5 r_om (by decide) rfl km_rz)
  refine W.eq (g2 := F0 m 557 ls [.int r_2]) rfl ?_
  refine lv_pop hx hb dL_law_557 rfl ?_
  refine lv_aload_n hx hb dL_law_558 rfl (lv_at hl 1 rfl) ?_
  refine t_callV (n := 0) (As := []) (rest := []) (ci := 7) hB hT hl.1 (m_clear l D cI cZ cS cR N0 g_1 hI om rz r_8 kn_44 (by omega) (by omega)) (ro_ci r_8 rfl) rfl k_1091 k_65 k_1088 k_1089 k_1090 (by decide +kernel) ⟨(Nat.le_of_ble_eq_true rfl), (Nat.le_of_ble_eq_true rfl)⟩ rfl (Nat.le_of_ble_eq_true rfl) ⟨(by show _ ≤ _; first | exact Nat.le_of_ble_eq_true rfl | (simp only [room_1]; omega)), (by show _ ≤ _; first | exact Nat.le_of_ble_eq_true rfl | (simp only [room_1]; omega))⟩ dL_law_559 (fun v g_45 H locs hp hT => ?_)
  obtain ⟨r_46, rfl, hI, x_50, m_49, f_47, f_48⟩ := hp
  have hw : PX 48 2 3 71 72 g_45 om := hw.mono m_49 x_50 r_8 (by decide) (by decide) rfl rfl rfl rfl
  have hN0 : PX 8 39 40 84 85 g_45 om := hN0.mono m_49 x_50 r_8 (by decide) (by decide) rfl rfl rfl rfl
  have hTE : TE g_45 ba ta tz.toInt := hTE.sm m_49 r_12 (by decide) rfl r_13 (by decide) rfl
  have hWT : WT g_45 wt := hWT.sm m_49 r_14 (by decide) rfl
  have hPI : PGI g_45 sa aa wo pl wr sv.toInt := hPI.go (PK.sm m_49 x_50 r_15 rfl rfl rfl rfl rfl rfl rfl rfl rfl) (Sm.cf m_49 r_16 (by decide) rfl) (Sm.cf m_49 r_17 (by decide) rfl) (Sm.cf m_49 r_18 (by decide) rfl) (Sm.cf m_49 r_19 (by decide) rfl)
  have hM : Sm mdA g g_45 := sm_all
  have hE : Ex g g_45 := hE.tr x_50
  have r_51 : g_45.1 ox = 7 := (Ex.r x_50 r_7 (by decide))
  have r_52 : g_45.1 om = 8 := (Ex.r x_50 r_8 (by decide))
  have r_53 : g_45.1 tp = 5 := (Ex.r x_50 r_9 (by decide))
  have r_54 : g_45.1 nw = 19 := (Ex.r x_50 r_10 (by decide))
  have r_55 : g_45.1 rl = 1 := (Ex.r x_50 r_11 (by decide))
  have r_56 : g_45.1 ba = 67 := (Ex.r x_50 r_12 (by decide))
  have r_57 : g_45.1 ta = 79 := (Ex.r x_50 r_13 (by decide))
  have r_58 : g_45.1 wt = 87 := (Ex.r x_50 r_14 (by decide))
  have r_59 : g_45.1 sa = 42 := (Ex.r x_50 r_15 (by decide))
  have r_60 : g_45.1 aa = 88 := (Ex.r x_50 r_16 (by decide))
  have r_61 : g_45.1 wo = 71 := (Ex.r x_50 r_17 (by decide))
  have r_62 : g_45.1 pl = 72 := (Ex.r x_50 r_18 (by decide))
  have r_63 : g_45.1 wr = 73 := (Ex.r x_50 r_19 (by decide))
  have n_64 : g_45.2.2.1 ba = 100 := (Ex.n x_50 r_12 (by decide) n_20)
  have n_65 : g_45.2.2.1 ta = 100 := (Ex.n x_50 r_13 (by decide) n_21)
  have n_66 : g_45.2.2.1 wt = 24 := (Ex.n x_50 r_14 (by decide) n_22)
  have n_67 : g_45.2.2.1 sa = 6 := (Ex.n x_50 r_15 (by decide) n_23)
  have n_68 : g_45.2.2.1 aa = 6 := (Ex.n x_50 r_16 (by decide) n_24)
  have n_69 : g_45.2.2.1 wo = 48 := (Ex.n x_50 r_17 (by decide) n_25)
  have n_70 : g_45.2.2.1 pl = 48 := (Ex.n x_50 r_18 (by decide) n_26)
  have n_71 : g_45.2.2.1 wr = 48 := (Ex.n x_50 r_19 (by decide) n_27)
  have kn_72 : g_45.2.1 om 22 = .int o1 := (Sm.v m_49 r_8 (by decide) rfl kn_28)
  have kn_73 : g_45.2.1 ox 0 = .ref tp := (Sm.v m_49 r_7 (by decide) rfl kn_29)
  have kn_74 : g_45.2.1 ox 1 = .ref nw := (Sm.v m_49 r_7 (by decide) rfl kn_30)
  have kn_75 : g_45.2.1 ox 2 = .ref rl := (Sm.v m_49 r_7 (by decide) rfl kn_31)
  have kn_76 : g_45.2.1 tp 0 = .ref ba := (Sm.v m_49 r_9 (by decide) rfl kn_32)
  have kn_77 : g_45.2.1 om 28 = .ref ta := (Sm.v m_49 r_8 (by decide) rfl kn_33)
  have kn_78 : g_45.2.1 om 42 = .ref wt := (Sm.v m_49 r_8 (by decide) rfl kn_34)
  have kn_79 : g_45.2.1 nw 0 = .ref sa := (Sm.v m_49 r_10 (by decide) rfl kn_35)
  have kn_80 : g_45.2.1 om 1 = .ref aa := (Sm.v m_49 r_8 (by decide) rfl kn_36)
  have kn_81 : g_45.2.1 om 2 = .ref wo := (Sm.v m_49 r_8 (by decide) rfl kn_37)
  have kn_82 : g_45.2.1 om 3 = .ref pl := (Sm.v m_49 r_8 (by decide) rfl kn_38)
  have kn_83 : g_45.2.1 om 4 = .ref wr := (Sm.v m_49 r_8 (by decide) rfl kn_39)
  have kn_84 : g_45.2.1 tp 1 = .int tz := (Sm.v m_49 r_9 (by decide) rfl kn_40)
  have kn_85 : g_45.2.1 om 29 = .int tz := (Sm.v m_49 r_8 (by decide) rfl kn_41)
  have kn_86 : g_45.2.1 nw 1 = .int sv := (Sm.v m_49 r_10 (by decide) rfl kn_42)
  have kn_87 : g_45.2.1 om 0 = .int sv := (Sm.v m_49 r_8 (by decide) rfl kn_43)
  have kn_88 : g_45.2.1 rl 3 = .int 0 := (Sm.v m_49 r_11 (by decide) rfl f_3)
  refine W.eq (g2 := F0 m 562 ls [.int r_46]) rfl ?_
  refine lv_pop hx hb dL_law_562 rfl ?_
  refine lv_goto (tgt := 829) hx hb dL_law_563 (by decide) ?_
  refine W.widen (k := cells + 4) (n := slots + 28) (by omega) (by omega) ?_
  exact K g_45 o1 tz sv (0 : Int32) H locs hT hI r_51 r_52 kn_72 (by have e0_ : (0 : Int32).toInt = 0 := (by decide); omega) (by have e0_ : (0 : Int32).toInt = 0 := (by decide); omega) hw hN0 kn_73 r_53 kn_74 r_54 kn_75 r_55 kn_76 r_56 n_64 kn_77 r_57 n_65 kn_78 r_58 n_66 kn_79 r_59 n_67 kn_80 r_60 n_68 kn_81 r_61 n_69 kn_82 r_62 n_70 kn_83 r_63 n_71 kn_84 kn_85 (by have e0_ : (0 : Int32).toInt = 0 := (by decide); omega) (by have e0_ : (0 : Int32).toInt = 0 := (by decide); omega) kn_86 kn_87 (by have e0_ : (0 : Int32).toInt = 0 := (by decide); omega) (by have e0_ : (0 : Int32).toInt = 0 := (by decide); omega) kn_88 f_47 (by have e0_ : (0 : Int32).toInt = 0 := (by decide); omega) (by have e0_ : (0 : Int32).toInt = 0 := (by decide); omega) hTE hWT hPI
