theorem k_482 : Cond.methodLink RL 52 yX6_call ∈ tb := mt 482 (by decide +kernel) rfl
theorem k_483 : Cond.instanceMethod yX6_call ∈ tb := mt 483 (by decide +kernel) rfl
theorem k_484 : Cond.selects RX6 yX6_call yX6_call ∈ tb := mt 484 (by decide +kernel) rfl
set_option maxRecDepth 20000 in
theorem k_485 : Cond.code yX6_call cX6_call 5 (some .int) ∈ tb := mt 485 rfl rfl
theorem k_555 : Cond.methodLink RL 57 yX6_outside ∈ tb := mt 555 (by decide +kernel) rfl
theorem k_556 : Cond.instanceMethod yX6_outside ∈ tb := mt 556 (by decide +kernel) rfl
theorem k_557 : Cond.selects RX6 yX6_outside yX6_outside ∈ tb := mt 557 (by decide +kernel) rfl
set_option maxRecDepth 20000 in
theorem k_558 : Cond.code yX6_outside cX6_outside 2 (some .int) ∈ tb := mt 558 rfl rfl
theorem k_562 : Cond.methodLink RL 61 yX6_row ∈ tb := mt 562 (by decide +kernel) rfl
theorem k_563 : Cond.instanceMethod yX6_row ∈ tb := mt 563 (by decide +kernel) rfl
theorem k_564 : Cond.selects RX6 yX6_row yX6_row ∈ tb := mt 564 (by decide +kernel) rfl
set_option maxRecDepth 20000 in
theorem k_565 : Cond.code yX6_row cX6_row 4 (some .int) ∈ tb := mt 565 rfl rfl
theorem k_566 : Cond.methodLink RL 65 yX6_clear ∈ tb := mt 566 (by decide +kernel) rfl
theorem k_567 : Cond.instanceMethod yX6_clear ∈ tb := mt 567 (by decide +kernel) rfl
theorem k_568 : Cond.selects RX6 yX6_clear yX6_clear ∈ tb := mt 568 (by decide +kernel) rfl
set_option maxRecDepth 20000 in
theorem k_569 : Cond.code yX6_clear cX6_clear 2 (some .int) ∈ tb := mt 569 rfl rfl
theorem k_1028 : Cond.methodLink RL 56 yX7_call ∈ tb := mt 1028 (by decide +kernel) rfl
theorem k_1029 : Cond.instanceMethod yX7_call ∈ tb := mt 1029 (by decide +kernel) rfl
theorem k_1030 : Cond.selects RX7 yX7_call yX7_call ∈ tb := mt 1030 (by decide +kernel) rfl
set_option maxRecDepth 20000 in
theorem k_1031 : Cond.code yX7_call cX7_call 6 (some .int) ∈ tb := mt 1031 rfl rfl
theorem k_1080 : Cond.methodLink RL 60 yX7_outside ∈ tb := mt 1080 (by decide +kernel) rfl
theorem k_1081 : Cond.instanceMethod yX7_outside ∈ tb := mt 1081 (by decide +kernel) rfl
theorem k_1082 : Cond.selects RX7 yX7_outside yX7_outside ∈ tb := mt 1082 (by decide +kernel) rfl
set_option maxRecDepth 20000 in
theorem k_1083 : Cond.code yX7_outside cX7_outside 2 (some .int) ∈ tb := mt 1083 rfl rfl
theorem k_1084 : Cond.methodLink RL 64 yX7_row ∈ tb := mt 1084 (by decide +kernel) rfl
theorem k_1085 : Cond.instanceMethod yX7_row ∈ tb := mt 1085 (by decide +kernel) rfl
theorem k_1086 : Cond.selects RX7 yX7_row yX7_row ∈ tb := mt 1086 (by decide +kernel) rfl
set_option maxRecDepth 20000 in
theorem k_1087 : Cond.code yX7_row cX7_row 4 (some .int) ∈ tb := mt 1087 rfl rfl
theorem k_1088 : Cond.methodLink RL 68 yX7_clear ∈ tb := mt 1088 (by decide +kernel) rfl
theorem k_1089 : Cond.instanceMethod yX7_clear ∈ tb := mt 1089 (by decide +kernel) rfl
theorem k_1090 : Cond.selects RX7 yX7_clear yX7_clear ∈ tb := mt 1090 (by decide +kernel) rfl
set_option maxRecDepth 20000 in
theorem k_1091 : Cond.code yX7_clear cX7_clear 2 (some .int) ∈ tb := mt 1091 rfl rfl
theorem dL_law_434 : decode cL_law 434 = .ok (.aload_n 1, 1) := by decide +kernel
theorem dL_law_435 : decode cL_law 435 = .ok (.aload_n 0, 1) := by decide +kernel
theorem dL_law_436 : decode cL_law 436 = .ok (.iload_n 3, 1) := by decide +kernel
theorem dL_law_437 : decode cL_law 437 = .ok (.iconst 1, 1) := by decide +kernel
theorem dL_law_438 : decode cL_law 438 = .ok (.iadd, 1) := by decide +kernel
theorem dL_law_439 : decode cL_law 439 = .ok (.iaload, 1) := by decide +kernel
theorem dL_law_440 : decode cL_law 440 = .ok (.aload_n 0, 1) := by decide +kernel
theorem dL_law_441 : decode cL_law 441 = .ok (.iload_n 3, 1) := by decide +kernel
theorem dL_law_442 : decode cL_law 442 = .ok (.iconst 2, 1) := by decide +kernel
theorem dL_law_443 : decode cL_law 443 = .ok (.iadd, 1) := by decide +kernel
theorem dL_law_444 : decode cL_law 444 = .ok (.iaload, 1) := by decide +kernel
theorem dL_law_445 : decode cL_law 445 = .ok (.aload_n 0, 1) := by decide +kernel
theorem dL_law_446 : decode cL_law 446 = .ok (.iload_n 3, 1) := by decide +kernel
theorem dL_law_447 : decode cL_law 447 = .ok (.iconst 3, 1) := by decide +kernel
theorem dL_law_448 : decode cL_law 448 = .ok (.iadd, 1) := by decide +kernel
theorem dL_law_449 : decode cL_law 449 = .ok (.iaload, 1) := by decide +kernel
theorem dL_law_450 : decode cL_law 450 = .ok (.aload_n 0, 1) := by decide +kernel
theorem dL_law_451 : decode cL_law 451 = .ok (.iload_n 3, 1) := by decide +kernel
theorem dL_law_452 : decode cL_law 452 = .ok (.iconst 4, 1) := by decide +kernel
theorem dL_law_453 : decode cL_law 453 = .ok (.iadd, 1) := by decide +kernel
theorem dL_law_454 : decode cL_law 454 = .ok (.iaload, 1) := by decide +kernel
theorem dL_law_455 : decode cL_law 455 = .ok (.invokevirtual 52, 3) := by decide +kernel
theorem dL_law_458 : decode cL_law 458 = .ok (.pop, 1) := by decide +kernel
theorem dL_law_459 : decode cL_law 459 = .ok (.aload_n 2, 1) := by decide +kernel
theorem dL_law_460 : decode cL_law 460 = .ok (.aload_n 0, 1) := by decide +kernel
theorem dL_law_461 : decode cL_law 461 = .ok (.iload_n 3, 1) := by decide +kernel
theorem dL_law_462 : decode cL_law 462 = .ok (.iconst 1, 1) := by decide +kernel
theorem dL_law_463 : decode cL_law 463 = .ok (.iadd, 1) := by decide +kernel
theorem dL_law_464 : decode cL_law 464 = .ok (.iaload, 1) := by decide +kernel
theorem dL_law_465 : decode cL_law 465 = .ok (.aload_n 0, 1) := by decide +kernel
theorem dL_law_466 : decode cL_law 466 = .ok (.iload_n 3, 1) := by decide +kernel
theorem dL_law_467 : decode cL_law 467 = .ok (.iconst 2, 1) := by decide +kernel
theorem dL_law_468 : decode cL_law 468 = .ok (.iadd, 1) := by decide +kernel
theorem dL_law_469 : decode cL_law 469 = .ok (.iaload, 1) := by decide +kernel
theorem dL_law_470 : decode cL_law 470 = .ok (.aload_n 0, 1) := by decide +kernel
theorem dL_law_471 : decode cL_law 471 = .ok (.iload_n 3, 1) := by decide +kernel
theorem dL_law_472 : decode cL_law 472 = .ok (.iconst 3, 1) := by decide +kernel
theorem dL_law_473 : decode cL_law 473 = .ok (.iadd, 1) := by decide +kernel
theorem dL_law_474 : decode cL_law 474 = .ok (.iaload, 1) := by decide +kernel
theorem dL_law_475 : decode cL_law 475 = .ok (.aload_n 0, 1) := by decide +kernel
theorem dL_law_476 : decode cL_law 476 = .ok (.iload_n 3, 1) := by decide +kernel
theorem dL_law_477 : decode cL_law 477 = .ok (.iconst 4, 1) := by decide +kernel
theorem dL_law_478 : decode cL_law 478 = .ok (.iadd, 1) := by decide +kernel
theorem dL_law_479 : decode cL_law 479 = .ok (.iaload, 1) := by decide +kernel
theorem dL_law_480 : decode cL_law 480 = .ok (.invokevirtual 56, 3) := by decide +kernel
theorem dL_law_483 : decode cL_law 483 = .ok (.pop, 1) := by decide +kernel
theorem dL_law_484 : decode cL_law 484 = .ok (.goto 345, 3) := by decide +kernel
theorem dL_law_487 : decode cL_law 487 = .ok (.aload_n 1, 1) := by decide +kernel
theorem dL_law_488 : decode cL_law 488 = .ok (.aload_n 0, 1) := by decide +kernel
theorem dL_law_489 : decode cL_law 489 = .ok (.iload_n 3, 1) := by decide +kernel
theorem dL_law_490 : decode cL_law 490 = .ok (.iconst 1, 1) := by decide +kernel
theorem dL_law_491 : decode cL_law 491 = .ok (.iadd, 1) := by decide +kernel
theorem dL_law_492 : decode cL_law 492 = .ok (.iaload, 1) := by decide +kernel
theorem dL_law_493 : decode cL_law 493 = .ok (.invokevirtual 57, 3) := by decide +kernel
theorem dL_law_496 : decode cL_law 496 = .ok (.pop, 1) := by decide +kernel
theorem dL_law_497 : decode cL_law 497 = .ok (.aload_n 2, 1) := by decide +kernel
theorem dL_law_498 : decode cL_law 498 = .ok (.aload_n 0, 1) := by decide +kernel
theorem dL_law_499 : decode cL_law 499 = .ok (.iload_n 3, 1) := by decide +kernel
theorem dL_law_500 : decode cL_law 500 = .ok (.iconst 1, 1) := by decide +kernel
theorem dL_law_501 : decode cL_law 501 = .ok (.iadd, 1) := by decide +kernel
theorem dL_law_502 : decode cL_law 502 = .ok (.iaload, 1) := by decide +kernel
theorem dL_law_503 : decode cL_law 503 = .ok (.invokevirtual 60, 3) := by decide +kernel
theorem dL_law_506 : decode cL_law 506 = .ok (.pop, 1) := by decide +kernel
theorem dL_law_507 : decode cL_law 507 = .ok (.goto 322, 3) := by decide +kernel
theorem dL_law_510 : decode cL_law 510 = .ok (.aload_n 1, 1) := by decide +kernel
theorem dL_law_511 : decode cL_law 511 = .ok (.aload_n 0, 1) := by decide +kernel
theorem dL_law_512 : decode cL_law 512 = .ok (.iload_n 3, 1) := by decide +kernel
theorem dL_law_513 : decode cL_law 513 = .ok (.iconst 1, 1) := by decide +kernel
theorem dL_law_514 : decode cL_law 514 = .ok (.iadd, 1) := by decide +kernel
theorem dL_law_515 : decode cL_law 515 = .ok (.iaload, 1) := by decide +kernel
theorem dL_law_516 : decode cL_law 516 = .ok (.aload_n 0, 1) := by decide +kernel
theorem dL_law_517 : decode cL_law 517 = .ok (.iload_n 3, 1) := by decide +kernel
theorem dL_law_518 : decode cL_law 518 = .ok (.iconst 2, 1) := by decide +kernel
theorem dL_law_519 : decode cL_law 519 = .ok (.iadd, 1) := by decide +kernel
theorem dL_law_520 : decode cL_law 520 = .ok (.iaload, 1) := by decide +kernel
theorem dL_law_521 : decode cL_law 521 = .ok (.aload_n 0, 1) := by decide +kernel
theorem dL_law_522 : decode cL_law 522 = .ok (.iload_n 3, 1) := by decide +kernel
theorem dL_law_523 : decode cL_law 523 = .ok (.iconst 3, 1) := by decide +kernel
theorem dL_law_524 : decode cL_law 524 = .ok (.iadd, 1) := by decide +kernel
theorem dL_law_525 : decode cL_law 525 = .ok (.iaload, 1) := by decide +kernel
theorem dL_law_526 : decode cL_law 526 = .ok (.invokevirtual 61, 3) := by decide +kernel
theorem dL_law_529 : decode cL_law 529 = .ok (.pop, 1) := by decide +kernel
theorem dL_law_530 : decode cL_law 530 = .ok (.aload_n 2, 1) := by decide +kernel
theorem dL_law_531 : decode cL_law 531 = .ok (.aload_n 0, 1) := by decide +kernel
theorem dL_law_532 : decode cL_law 532 = .ok (.iload_n 3, 1) := by decide +kernel
theorem dL_law_533 : decode cL_law 533 = .ok (.iconst 1, 1) := by decide +kernel
theorem dL_law_534 : decode cL_law 534 = .ok (.iadd, 1) := by decide +kernel
theorem dL_law_535 : decode cL_law 535 = .ok (.iaload, 1) := by decide +kernel
theorem dL_law_536 : decode cL_law 536 = .ok (.aload_n 0, 1) := by decide +kernel
theorem dL_law_537 : decode cL_law 537 = .ok (.iload_n 3, 1) := by decide +kernel
theorem dL_law_538 : decode cL_law 538 = .ok (.iconst 2, 1) := by decide +kernel
theorem dL_law_539 : decode cL_law 539 = .ok (.iadd, 1) := by decide +kernel
theorem dL_law_540 : decode cL_law 540 = .ok (.iaload, 1) := by decide +kernel
theorem dL_law_541 : decode cL_law 541 = .ok (.aload_n 0, 1) := by decide +kernel
theorem dL_law_542 : decode cL_law 542 = .ok (.iload_n 3, 1) := by decide +kernel
theorem dL_law_543 : decode cL_law 543 = .ok (.iconst 3, 1) := by decide +kernel
theorem dL_law_544 : decode cL_law 544 = .ok (.iadd, 1) := by decide +kernel
theorem dL_law_545 : decode cL_law 545 = .ok (.iaload, 1) := by decide +kernel
theorem dL_law_546 : decode cL_law 546 = .ok (.invokevirtual 64, 3) := by decide +kernel
theorem dL_law_549 : decode cL_law 549 = .ok (.pop, 1) := by decide +kernel
theorem dL_law_550 : decode cL_law 550 = .ok (.goto 279, 3) := by decide +kernel
theorem dL_law_553 : decode cL_law 553 = .ok (.aload_n 1, 1) := by decide +kernel
theorem dL_law_554 : decode cL_law 554 = .ok (.invokevirtual 65, 3) := by decide +kernel
theorem dL_law_557 : decode cL_law 557 = .ok (.pop, 1) := by decide +kernel
theorem dL_law_558 : decode cL_law 558 = .ok (.aload_n 2, 1) := by decide +kernel
theorem dL_law_559 : decode cL_law 559 = .ok (.invokevirtual 68, 3) := by decide +kernel
theorem dL_law_562 : decode cL_law 562 = .ok (.pop, 1) := by decide +kernel
theorem dL_law_563 : decode cL_law 563 = .ok (.goto 266, 3) := by decide +kernel
set_option maxHeartbeats 4000000 in
set_option maxRecDepth 100000 in
/-- call -/
theorem law_8 {p : Program} {l : Launch} {e : Env} {s : State} {m : MethodId} {below : List Frame} {meth : Method} {c : Code} {D : va_G} {cI cZ cS cR : ClassId} {N0 : NT} {b L : Nat} {xs : Nat → Int32} (hB : Tz p s m meth c #[Value.ref b] code 4 RL D cI cZ cS cR N0) (hAs : N0.1 = s.heap.size) (hX : va_X b L xs s s.heap) (hbl : b < s.heap.size) (hL : L ≤ 2560) (hr : meth.sig.returnType = ret) {cells slots : Nat} (hcl : cells + 4 ≤ 600000) (hsl : slots + 28 ≤ 7302250) {H : Heap} {locs : List Loc} {ls : Array Slot} (g : GS) (ox om : Nat) (tp : Nat) (nw : Nat) (rl : Nat) (ba : Nat) (ta : Nat) (wt : Nat) (sa : Nat) (ha : Nat) (i o1 tz sv rz : Int32) (hT : Tv D cI cZ cS cR N0 s.heap H locs g) (hI : Inv g) (l_i : 0 ≤ i.toInt) (u_i : i.toInt + 5 ≤ L) : g.1 ox = 7 → g.1 om = 8 → g.2.1 om 22 = .int o1 → 0 ≤ o1.toInt → o1.toInt ≤ 12 * i.toInt → PX 48 2 3 71 72 g om → PX 8 39 40 84 85 g om → g.2.1 ox 0 = .ref tp → g.1 tp = 5 → g.2.1 ox 1 = .ref nw → g.1 nw = 19 → g.2.1 ox 2 = .ref rl → g.1 rl = 1 → g.2.1 tp 0 = .ref ba → g.1 ba = 67 → g.2.2.1 ba = 100 → g.2.1 om 28 = .ref ta → g.1 ta = 79 → g.2.2.1 ta = 100 → g.2.1 om 42 = .ref wt → g.1 wt = 87 → g.2.2.1 wt = 24 → g.2.1 nw 0 = .ref sa → g.1 sa = 42 → g.2.2.1 sa = 6 → g.2.1 om 5 = .ref ha → g.1 ha = 74 → g.2.2.1 ha = 6 → g.2.1 tp 1 = .int tz → g.2.1 om 29 = .int tz → 0 ≤ tz.toInt → tz.toInt ≤ 100 → g.2.1 nw 1 = .int sv → g.2.1 om 0 = .int sv → 0 ≤ sv.toInt → sv.toInt ≤ 6 → g.2.1 rl 3 = .int rz → g.2.1 om 30 = .int rz → 0 ≤ rz.toInt → rz.toInt ≤ 6 → TE g ba ta tz.toInt → WT g wt → HO 3 0 g sa ha sv.toInt → (hl : lv_has ls 4 [(3, .int i), (2, .ref om), (1, .ref ox), (0, .ref b)]) → (K : ∀ (g1 : GS) (o1_1 tz_1 sv_1 rz_1 : Int32) (H1 : Heap) (locs1 : List Loc), Tv D cI cZ cS cR N0 s.heap H1 locs1 g1 → Inv g1 → g1.1 ox = 7 → g1.1 om = 8 → g1.2.1 om 22 = .int o1_1 → 0 ≤ o1_1.toInt → o1_1.toInt ≤ 12 * i.toInt + 60 → PX 48 2 3 71 72 g1 om → PX 8 39 40 84 85 g1 om → g1.2.1 ox 0 = .ref tp → g1.1 tp = 5 → g1.2.1 ox 1 = .ref nw → g1.1 nw = 19 → g1.2.1 ox 2 = .ref rl → g1.1 rl = 1 → g1.2.1 tp 0 = .ref ba → g1.1 ba = 67 → g1.2.2.1 ba = 100 → g1.2.1 om 28 = .ref ta → g1.1 ta = 79 → g1.2.2.1 ta = 100 → g1.2.1 om 42 = .ref wt → g1.1 wt = 87 → g1.2.2.1 wt = 24 → g1.2.1 nw 0 = .ref sa → g1.1 sa = 42 → g1.2.2.1 sa = 6 → g1.2.1 om 5 = .ref ha → g1.1 ha = 74 → g1.2.2.1 ha = 6 → g1.2.1 tp 1 = .int tz_1 → g1.2.1 om 29 = .int tz_1 → 0 ≤ tz_1.toInt → tz_1.toInt ≤ 100 → g1.2.1 nw 1 = .int sv_1 → g1.2.1 om 0 = .int sv_1 → 0 ≤ sv_1.toInt → sv_1.toInt ≤ 6 → g1.2.1 rl 3 = .int rz_1 → g1.2.1 om 30 = .int rz_1 → 0 ≤ rz_1.toInt → rz_1.toInt ≤ 6 → TE g1 ba ta tz_1.toInt → WT g1 wt → HO 3 0 g1 sa ha sv_1.toInt → W p l e room_1 s m #[Value.ref b] below meth c H1 locs1 (cells + 4) (slots + 28) (lw_Z below #[Value.ref b] s) (F0 m 829 ls [])) → W p l e room_1 s m #[Value.ref b] below meth c H locs cells slots (lw_Z below #[Value.ref b] s) (F0 m 434 ls []) := by
  intro r_ox r_om ko l_o u_o hw hN0 k_tp r_tp k_nw r_nw k_rl r_rl k_ba r_ba n_ba k_ta r_ta n_ta k_wt r_wt n_wt k_sa r_sa n_sa k_ha r_ha n_ha kc_tz km_tz l_tz u_tz kc_sv km_sv l_sv u_sv kc_rz km_rz l_rz u_rz hTE hWT hHO hl K
  have hx := hB.1
  have hb := hB.2.1
  have hE : Ex g g := Ex.rf
  have hM : Sm mdA g g := sm_all
  have hTE0 := hTE
  refine lv_aload_n hx hb dL_law_434 rfl (lv_at hl 2 rfl) ?_
  refine lv_aload_n hx hb dL_law_435 rfl (lv_at hl 3 rfl) ?_
  refine lv_iload_n hx hb dL_law_436 rfl (lv_at hl 0 rfl) ?_
  refine lv_iconst (v := 1) hx hb dL_law_437 (by decide) ?_
  refine lv_iadd hx hb dL_law_438 ?_
  refine lv_topi (fun z_1 ez_1 => ?_)
  have e_z_1 : z_1.toInt = i.toInt + 1 := i_add ez_1 rfl (by decide) (by omega) (by omega)
  refine va_sld hx hb hX hbl (fun q => by have q_ : N0.1 ≤ b := q; omega) hT.2 (i_in (n := L) rfl (by omega) (by omega)) dL_law_439 ?_
  refine lv_topi (fun u_2 e_u_2 => ?_)
  refine lv_aload_n hx hb dL_law_440 rfl (lv_at hl 3 rfl) ?_
  refine lv_iload_n hx hb dL_law_441 rfl (lv_at hl 0 rfl) ?_
  refine lv_iconst (v := 2) hx hb dL_law_442 (by decide) ?_
  refine lv_iadd hx hb dL_law_443 ?_
  refine lv_topi (fun z_3 ez_3 => ?_)
  have e_z_3 : z_3.toInt = i.toInt + 2 := i_add ez_3 rfl (by decide) (by omega) (by omega)
  refine va_sld hx hb hX hbl (fun q => by have q_ : N0.1 ≤ b := q; omega) hT.2 (i_in (n := L) rfl (by omega) (by omega)) dL_law_444 ?_
  refine lv_topi (fun u_4 e_u_4 => ?_)
  refine lv_aload_n hx hb dL_law_445 rfl (lv_at hl 3 rfl) ?_
  refine lv_iload_n hx hb dL_law_446 rfl (lv_at hl 0 rfl) ?_
  refine lv_iconst (v := 3) hx hb dL_law_447 (by decide) ?_
  refine lv_iadd hx hb dL_law_448 ?_
  refine lv_topi (fun z_5 ez_5 => ?_)
  have e_z_5 : z_5.toInt = i.toInt + 3 := i_add ez_5 rfl (by decide) (by omega) (by omega)
  refine va_sld hx hb hX hbl (fun q => by have q_ : N0.1 ≤ b := q; omega) hT.2 (i_in (n := L) rfl (by omega) (by omega)) dL_law_449 ?_
  refine lv_topi (fun u_6 e_u_6 => ?_)
  refine lv_aload_n hx hb dL_law_450 rfl (lv_at hl 3 rfl) ?_
  refine lv_iload_n hx hb dL_law_451 rfl (lv_at hl 0 rfl) ?_
  refine lv_iconst (v := 4) hx hb dL_law_452 (by decide) ?_
  refine lv_iadd hx hb dL_law_453 ?_
  refine lv_topi (fun z_7 ez_7 => ?_)
  have e_z_7 : z_7.toInt = i.toInt + 4 := i_add ez_7 rfl (by decide) (by omega) (by omega)
  refine va_sld hx hb hX hbl (fun q => by have q_ : N0.1 ≤ b := q; omega) hT.2 (i_in (n := L) rfl (by omega) (by omega)) dL_law_454 ?_
  refine lv_topi (fun u_8 e_u_8 => ?_)
  refine t_callV (n := 4) (As := [.int u_2, .int u_4, .int u_6, .int u_8]) (rest := []) (ci := 6) hB hT hl.1 (P_call l D cI cZ cS cR N0 g hI ox u_2 u_4 u_6 u_8 r_ox) (ro_ci r_ox rfl) rfl k_485 k_57 k_482 k_483 k_484 (by decide +kernel) ⟨(Nat.le_of_ble_eq_true rfl), (Nat.le_of_ble_eq_true rfl)⟩ rfl (Nat.le_of_ble_eq_true rfl) ⟨(by show _ ≤ _; first | exact Nat.le_of_ble_eq_true rfl | (simp only [room_1]; omega)), (by show _ ≤ _; first | exact Nat.le_of_ble_eq_true rfl | (simp only [room_1]; omega))⟩ dL_law_455 (fun v g_9 H locs hp hT => ?_)
  obtain ⟨r_10, rfl, hI, x_12, m_11⟩ := hp
  have hw : PX 48 2 3 71 72 g_9 om := hw.mono m_11 x_12 r_om (by decide) (by decide) rfl rfl rfl rfl
  have hN0 : PX 8 39 40 84 85 g_9 om := hN0.mono m_11 x_12 r_om (by decide) (by decide) rfl rfl rfl rfl
  have hTE : TE g_9 ba ta tz.toInt := hTE.sm m_11 r_ba (by decide) rfl r_ta (by decide) rfl
  have hWT : WT g_9 wt := hWT.sm m_11 r_wt (by decide) rfl
  have hHO : HO 3 0 g_9 sa ha sv.toInt := hHO.mono m_11 x_12 r_sa r_ha (by decide) rfl rfl rfl
  have hM : Sm mdA g g_9 := sm_all
  have hE : Ex g g_9 := hE.tr x_12
  have r_13 : g_9.1 ox = 7 := (Ex.r x_12 r_ox (by decide))
  have r_14 : g_9.1 om = 8 := (Ex.r x_12 r_om (by decide))
  have r_15 : g_9.1 tp = 5 := (Ex.r x_12 r_tp (by decide))
  have r_16 : g_9.1 nw = 19 := (Ex.r x_12 r_nw (by decide))
  have r_17 : g_9.1 rl = 1 := (Ex.r x_12 r_rl (by decide))
  have r_18 : g_9.1 ba = 67 := (Ex.r x_12 r_ba (by decide))
  have r_19 : g_9.1 ta = 79 := (Ex.r x_12 r_ta (by decide))
  have r_20 : g_9.1 wt = 87 := (Ex.r x_12 r_wt (by decide))
  have r_21 : g_9.1 sa = 42 := (Ex.r x_12 r_sa (by decide))
  have r_22 : g_9.1 ha = 74 := (Ex.r x_12 r_ha (by decide))
  have n_23 : g_9.2.2.1 ba = 100 := (Ex.n x_12 r_ba (by decide) n_ba)
  have n_24 : g_9.2.2.1 ta = 100 := (Ex.n x_12 r_ta (by decide) n_ta)
  have n_25 : g_9.2.2.1 wt = 24 := (Ex.n x_12 r_wt (by decide) n_wt)
  have n_26 : g_9.2.2.1 sa = 6 := (Ex.n x_12 r_sa (by decide) n_sa)
  have n_27 : g_9.2.2.1 ha = 6 := (Ex.n x_12 r_ha (by decide) n_ha)
  have kn_28 : g_9.2.1 om 22 = .int o1 := (Sm.v m_11 r_om (by decide) rfl ko)
  have kn_29 : g_9.2.1 ox 0 = .ref tp := (Sm.v m_11 r_ox (by decide) rfl k_tp)
  have kn_30 : g_9.2.1 ox 1 = .ref nw := (Sm.v m_11 r_ox (by decide) rfl k_nw)
  have kn_31 : g_9.2.1 ox 2 = .ref rl := (Sm.v m_11 r_ox (by decide) rfl k_rl)
  have kn_32 : g_9.2.1 tp 0 = .ref ba := (Sm.v m_11 r_tp (by decide) rfl k_ba)
  have kn_33 : g_9.2.1 om 28 = .ref ta := (Sm.v m_11 r_om (by decide) rfl k_ta)
  have kn_34 : g_9.2.1 om 42 = .ref wt := (Sm.v m_11 r_om (by decide) rfl k_wt)
  have kn_35 : g_9.2.1 nw 0 = .ref sa := (Sm.v m_11 r_nw (by decide) rfl k_sa)
  have kn_36 : g_9.2.1 om 5 = .ref ha := (Sm.v m_11 r_om (by decide) rfl k_ha)
  have kn_37 : g_9.2.1 tp 1 = .int tz := (Sm.v m_11 r_tp (by decide) rfl kc_tz)
  have kn_38 : g_9.2.1 om 29 = .int tz := (Sm.v m_11 r_om (by decide) rfl km_tz)
  have kn_39 : g_9.2.1 nw 1 = .int sv := (Sm.v m_11 r_nw (by decide) rfl kc_sv)
  have kn_40 : g_9.2.1 om 0 = .int sv := (Sm.v m_11 r_om (by decide) rfl km_sv)
  have kn_41 : g_9.2.1 rl 3 = .int rz := (Sm.v m_11 r_rl (by decide) rfl kc_rz)
  have kn_42 : g_9.2.1 om 30 = .int rz := (Sm.v m_11 r_om (by decide) rfl km_rz)
  refine W.eq (g2 := F0 m 458 ls [.int r_10]) rfl ?_
  refine lv_pop hx hb dL_law_458 rfl ?_
  refine lv_aload_n hx hb dL_law_459 rfl (lv_at hl 1 rfl) ?_
  refine lv_aload_n hx hb dL_law_460 rfl (lv_at hl 3 rfl) ?_
  refine lv_iload_n hx hb dL_law_461 rfl (lv_at hl 0 rfl) ?_
  refine lv_iconst (v := 1) hx hb dL_law_462 (by decide) ?_
  refine lv_iadd hx hb dL_law_463 ?_
  refine lv_topi (fun z_43 ez_43 => ?_)
  have e_z_43 : z_43.toInt = i.toInt + 1 := i_add ez_43 rfl (by decide) (by omega) (by omega)
  refine va_sld hx hb hX hbl (fun q => by have q_ : N0.1 ≤ b := q; omega) hT.2 (i_in (n := L) rfl (by omega) (by omega)) dL_law_464 ?_
  refine lv_topi (fun u_44 e_u_44 => ?_)
  refine lv_aload_n hx hb dL_law_465 rfl (lv_at hl 3 rfl) ?_
  refine lv_iload_n hx hb dL_law_466 rfl (lv_at hl 0 rfl) ?_
  refine lv_iconst (v := 2) hx hb dL_law_467 (by decide) ?_
  refine lv_iadd hx hb dL_law_468 ?_
  refine lv_topi (fun z_45 ez_45 => ?_)
  have e_z_45 : z_45.toInt = i.toInt + 2 := i_add ez_45 rfl (by decide) (by omega) (by omega)
  refine va_sld hx hb hX hbl (fun q => by have q_ : N0.1 ≤ b := q; omega) hT.2 (i_in (n := L) rfl (by omega) (by omega)) dL_law_469 ?_
  refine lv_topi (fun u_46 e_u_46 => ?_)
  refine lv_aload_n hx hb dL_law_470 rfl (lv_at hl 3 rfl) ?_
  refine lv_iload_n hx hb dL_law_471 rfl (lv_at hl 0 rfl) ?_
  refine lv_iconst (v := 3) hx hb dL_law_472 (by decide) ?_
  refine lv_iadd hx hb dL_law_473 ?_
  refine lv_topi (fun z_47 ez_47 => ?_)
  have e_z_47 : z_47.toInt = i.toInt + 3 := i_add ez_47 rfl (by decide) (by omega) (by omega)
  refine va_sld hx hb hX hbl (fun q => by have q_ : N0.1 ≤ b := q; omega) hT.2 (i_in (n := L) rfl (by omega) (by omega)) dL_law_474 ?_
  refine lv_topi (fun u_48 e_u_48 => ?_)
  refine lv_aload_n hx hb dL_law_475 rfl (lv_at hl 3 rfl) ?_
  refine lv_iload_n hx hb dL_law_476 rfl (lv_at hl 0 rfl) ?_
  refine lv_iconst (v := 4) hx hb dL_law_477 (by decide) ?_
  refine lv_iadd hx hb dL_law_478 ?_
  refine lv_topi (fun z_49 ez_49 => ?_)
  have e_z_49 : z_49.toInt = i.toInt + 4 := i_add ez_49 rfl (by decide) (by omega) (by omega)
  refine va_sld hx hb hX hbl (fun q => by have q_ : N0.1 ≤ b := q; omega) hT.2 (i_in (n := L) rfl (by omega) (by omega)) dL_law_479 ?_
  refine lv_topi (fun u_50 e_u_50 => ?_)
  refine t_callV (n := 4) (As := [.int u_44, .int u_46, .int u_48, .int u_50]) (rest := []) (ci := 7) hB hT hl.1 (m_call l D cI cZ cS cR N0 g_9 hI om u_44 u_46 u_48 u_50 o1 r_14 kn_28 (by omega) (by omega) hw) (ro_ci r_14 rfl) rfl k_1031 k_65 k_1028 k_1029 k_1030 (by decide +kernel) ⟨(Nat.le_of_ble_eq_true rfl), (Nat.le_of_ble_eq_true rfl)⟩ rfl (Nat.le_of_ble_eq_true rfl) ⟨(by show _ ≤ _; first | exact Nat.le_of_ble_eq_true rfl | (simp only [room_1]; omega)), (by show _ ≤ _; first | exact Nat.le_of_ble_eq_true rfl | (simp only [room_1]; omega))⟩ dL_law_480 (fun v g_51 H locs hp hT => ?_)
  obtain ⟨r_52, o2_53, rfl, hI, x_57, m_56, f_54, f_55⟩ := hp
  have hw : PX 48 2 3 71 72 g_51 om := hw.mono m_56 x_57 r_14 (by decide) (by decide) rfl rfl rfl rfl
  have hN0 : PX 8 39 40 84 85 g_51 om := hN0.mono m_56 x_57 r_14 (by decide) (by decide) rfl rfl rfl rfl
  have hTE : TE g_51 ba ta tz.toInt := hTE.sm m_56 r_18 (by decide) rfl r_19 (by decide) rfl
  have hWT : WT g_51 wt := hWT.sm m_56 r_20 (by decide) rfl
  have hHO : HO 3 0 g_51 sa ha sv.toInt := hHO.mono m_56 x_57 r_21 r_22 (by decide) rfl rfl rfl
  have hM : Sm mdA g g_51 := sm_all
  have hE : Ex g g_51 := hE.tr x_57
  have r_58 : g_51.1 ox = 7 := (Ex.r x_57 r_13 (by decide))
  have r_59 : g_51.1 om = 8 := (Ex.r x_57 r_14 (by decide))
  have r_60 : g_51.1 tp = 5 := (Ex.r x_57 r_15 (by decide))
  have r_61 : g_51.1 nw = 19 := (Ex.r x_57 r_16 (by decide))
  have r_62 : g_51.1 rl = 1 := (Ex.r x_57 r_17 (by decide))
  have r_63 : g_51.1 ba = 67 := (Ex.r x_57 r_18 (by decide))
  have r_64 : g_51.1 ta = 79 := (Ex.r x_57 r_19 (by decide))
  have r_65 : g_51.1 wt = 87 := (Ex.r x_57 r_20 (by decide))
  have r_66 : g_51.1 sa = 42 := (Ex.r x_57 r_21 (by decide))
  have r_67 : g_51.1 ha = 74 := (Ex.r x_57 r_22 (by decide))
  have n_68 : g_51.2.2.1 ba = 100 := (Ex.n x_57 r_18 (by decide) n_23)
  have n_69 : g_51.2.2.1 ta = 100 := (Ex.n x_57 r_19 (by decide) n_24)
  have n_70 : g_51.2.2.1 wt = 24 := (Ex.n x_57 r_20 (by decide) n_25)
  have n_71 : g_51.2.2.1 sa = 6 := (Ex.n x_57 r_21 (by decide) n_26)
  have n_72 : g_51.2.2.1 ha = 6 := (Ex.n x_57 r_22 (by decide) n_27)
  have kn_73 : g_51.2.1 ox 0 = .ref tp := (Sm.v m_56 r_13 (by decide) rfl kn_29)
  have kn_74 : g_51.2.1 ox 1 = .ref nw := (Sm.v m_56 r_13 (by decide) rfl kn_30)
  have kn_75 : g_51.2.1 ox 2 = .ref rl := (Sm.v m_56 r_13 (by decide) rfl kn_31)
  have kn_76 : g_51.2.1 tp 0 = .ref ba := (Sm.v m_56 r_15 (by decide) rfl kn_32)
  have kn_77 : g_51.2.1 om 28 = .ref ta := (Sm.v m_56 r_14 (by decide) rfl kn_33)
  have kn_78 : g_51.2.1 om 42 = .ref wt := (Sm.v m_56 r_14 (by decide) rfl kn_34)
  have kn_79 : g_51.2.1 nw 0 = .ref sa := (Sm.v m_56 r_16 (by decide) rfl kn_35)
  have kn_80 : g_51.2.1 om 5 = .ref ha := (Sm.v m_56 r_14 (by decide) rfl kn_36)
  have kn_81 : g_51.2.1 tp 1 = .int tz := (Sm.v m_56 r_15 (by decide) rfl kn_37)
  have kn_82 : g_51.2.1 om 29 = .int tz := (Sm.v m_56 r_14 (by decide) rfl kn_38)
  have kn_83 : g_51.2.1 nw 1 = .int sv := (Sm.v m_56 r_16 (by decide) rfl kn_39)
  have kn_84 : g_51.2.1 om 0 = .int sv := (Sm.v m_56 r_14 (by decide) rfl kn_40)
  have kn_85 : g_51.2.1 rl 3 = .int rz := (Sm.v m_56 r_17 (by decide) rfl kn_41)
  have kn_86 : g_51.2.1 om 30 = .int rz := (Sm.v m_56 r_14 (by decide) rfl kn_42)
  refine W.eq (g2 := F0 m 483 ls [.int r_52]) rfl ?_
  refine lv_pop hx hb dL_law_483 rfl ?_
  refine lv_goto (tgt := 829) hx hb dL_law_484 (by decide) ?_
  refine W.widen (k := cells + 4) (n := slots + 28) (by omega) (by omega) ?_
  exact K g_51 o2_53 tz sv rz H locs hT hI r_58 r_59 f_54 (by have e0_ : (0 : Int32).toInt = 0 := (by decide); omega) (by have e0_ : (0 : Int32).toInt = 0 := (by decide); omega) hw hN0 kn_73 r_60 kn_74 r_61 kn_75 r_62 kn_76 r_63 n_68 kn_77 r_64 n_69 kn_78 r_65 n_70 kn_79 r_66 n_71 kn_80 r_67 n_72 kn_81 kn_82 (by have e0_ : (0 : Int32).toInt = 0 := (by decide); omega) (by have e0_ : (0 : Int32).toInt = 0 := (by decide); omega) kn_83 kn_84 (by have e0_ : (0 : Int32).toInt = 0 := (by decide); omega) (by have e0_ : (0 : Int32).toInt = 0 := (by decide); omega) kn_85 kn_86 (by have e0_ : (0 : Int32).toInt = 0 := (by decide); omega) (by have e0_ : (0 : Int32).toInt = 0 := (by decide); omega) hTE hWT hHO
set_option maxHeartbeats 4000000 in
set_option maxRecDepth 100000 in
/-- outside -/
theorem law_9 {p : Program} {l : Launch} {e : Env} {s : State} {m : MethodId} {below : List Frame} {meth : Method} {c : Code} {D : va_G} {cI cZ cS cR : ClassId} {N0 : NT} {b L : Nat} {xs : Nat → Int32} (hB : Tz p s m meth c #[Value.ref b] code 4 RL D cI cZ cS cR N0) (hAs : N0.1 = s.heap.size) (hX : va_X b L xs s s.heap) (hbl : b < s.heap.size) (hL : L ≤ 2560) (hr : meth.sig.returnType = ret) {cells slots : Nat} (hcl : cells + 4 ≤ 600000) (hsl : slots + 28 ≤ 7302250) {H : Heap} {locs : List Loc} {ls : Array Slot} (g : GS) (ox om : Nat) (tp : Nat) (nw : Nat) (rl : Nat) (ba : Nat) (ta : Nat) (wt : Nat) (sa : Nat) (ha : Nat) (i o1 tz sv rz : Int32) (hT : Tv D cI cZ cS cR N0 s.heap H locs g) (hI : Inv g) (l_i : 0 ≤ i.toInt) (u_i : i.toInt + 5 ≤ L) : g.1 ox = 7 → g.1 om = 8 → g.2.1 om 22 = .int o1 → 0 ≤ o1.toInt → o1.toInt ≤ 12 * i.toInt → PX 48 2 3 71 72 g om → PX 8 39 40 84 85 g om → g.2.1 ox 0 = .ref tp → g.1 tp = 5 → g.2.1 ox 1 = .ref nw → g.1 nw = 19 → g.2.1 ox 2 = .ref rl → g.1 rl = 1 → g.2.1 tp 0 = .ref ba → g.1 ba = 67 → g.2.2.1 ba = 100 → g.2.1 om 28 = .ref ta → g.1 ta = 79 → g.2.2.1 ta = 100 → g.2.1 om 42 = .ref wt → g.1 wt = 87 → g.2.2.1 wt = 24 → g.2.1 nw 0 = .ref sa → g.1 sa = 42 → g.2.2.1 sa = 6 → g.2.1 om 5 = .ref ha → g.1 ha = 74 → g.2.2.1 ha = 6 → g.2.1 tp 1 = .int tz → g.2.1 om 29 = .int tz → 0 ≤ tz.toInt → tz.toInt ≤ 100 → g.2.1 nw 1 = .int sv → g.2.1 om 0 = .int sv → 0 ≤ sv.toInt → sv.toInt ≤ 6 → g.2.1 rl 3 = .int rz → g.2.1 om 30 = .int rz → 0 ≤ rz.toInt → rz.toInt ≤ 6 → TE g ba ta tz.toInt → WT g wt → HO 3 0 g sa ha sv.toInt → (hl : lv_has ls 4 [(3, .int i), (2, .ref om), (1, .ref ox), (0, .ref b)]) → (K : ∀ (g1 : GS) (o1_1 tz_1 sv_1 rz_1 : Int32) (H1 : Heap) (locs1 : List Loc), Tv D cI cZ cS cR N0 s.heap H1 locs1 g1 → Inv g1 → g1.1 ox = 7 → g1.1 om = 8 → g1.2.1 om 22 = .int o1_1 → 0 ≤ o1_1.toInt → o1_1.toInt ≤ 12 * i.toInt + 60 → PX 48 2 3 71 72 g1 om → PX 8 39 40 84 85 g1 om → g1.2.1 ox 0 = .ref tp → g1.1 tp = 5 → g1.2.1 ox 1 = .ref nw → g1.1 nw = 19 → g1.2.1 ox 2 = .ref rl → g1.1 rl = 1 → g1.2.1 tp 0 = .ref ba → g1.1 ba = 67 → g1.2.2.1 ba = 100 → g1.2.1 om 28 = .ref ta → g1.1 ta = 79 → g1.2.2.1 ta = 100 → g1.2.1 om 42 = .ref wt → g1.1 wt = 87 → g1.2.2.1 wt = 24 → g1.2.1 nw 0 = .ref sa → g1.1 sa = 42 → g1.2.2.1 sa = 6 → g1.2.1 om 5 = .ref ha → g1.1 ha = 74 → g1.2.2.1 ha = 6 → g1.2.1 tp 1 = .int tz_1 → g1.2.1 om 29 = .int tz_1 → 0 ≤ tz_1.toInt → tz_1.toInt ≤ 100 → g1.2.1 nw 1 = .int sv_1 → g1.2.1 om 0 = .int sv_1 → 0 ≤ sv_1.toInt → sv_1.toInt ≤ 6 → g1.2.1 rl 3 = .int rz_1 → g1.2.1 om 30 = .int rz_1 → 0 ≤ rz_1.toInt → rz_1.toInt ≤ 6 → TE g1 ba ta tz_1.toInt → WT g1 wt → HO 3 0 g1 sa ha sv_1.toInt → W p l e room_1 s m #[Value.ref b] below meth c H1 locs1 (cells + 4) (slots + 28) (lw_Z below #[Value.ref b] s) (F0 m 829 ls [])) → W p l e room_1 s m #[Value.ref b] below meth c H locs cells slots (lw_Z below #[Value.ref b] s) (F0 m 487 ls []) := by
  intro r_ox r_om ko l_o u_o hw hN0 k_tp r_tp k_nw r_nw k_rl r_rl k_ba r_ba n_ba k_ta r_ta n_ta k_wt r_wt n_wt k_sa r_sa n_sa k_ha r_ha n_ha kc_tz km_tz l_tz u_tz kc_sv km_sv l_sv u_sv kc_rz km_rz l_rz u_rz hTE hWT hHO hl K
  have hx := hB.1
  have hb := hB.2.1
  have hE : Ex g g := Ex.rf
  have hM : Sm mdA g g := sm_all
  have hTE0 := hTE
  refine lv_aload_n hx hb dL_law_487 rfl (lv_at hl 2 rfl) ?_
  refine lv_aload_n hx hb dL_law_488 rfl (lv_at hl 3 rfl) ?_
  refine lv_iload_n hx hb dL_law_489 rfl (lv_at hl 0 rfl) ?_
  refine lv_iconst (v := 1) hx hb dL_law_490 (by decide) ?_
  refine lv_iadd hx hb dL_law_491 ?_
  refine lv_topi (fun z_1 ez_1 => ?_)
  have e_z_1 : z_1.toInt = i.toInt + 1 := i_add ez_1 rfl (by decide) (by omega) (by omega)
  refine va_sld hx hb hX hbl (fun q => by have q_ : N0.1 ≤ b := q; omega) hT.2 (i_in (n := L) rfl (by omega) (by omega)) dL_law_492 ?_
  refine lv_topi (fun u_2 e_u_2 => ?_)
  refine t_callV (n := 1) (As := [.int u_2]) (rest := []) (ci := 6) hB hT hl.1 (P_outside l D cI cZ cS cR N0 g hI ox u_2 r_ox) (ro_ci r_ox rfl) rfl k_558 k_57 k_555 k_556 k_557 (by decide +kernel) ⟨(Nat.le_of_ble_eq_true rfl), (Nat.le_of_ble_eq_true rfl)⟩ rfl (Nat.le_of_ble_eq_true rfl) ⟨(by show _ ≤ _; first | exact Nat.le_of_ble_eq_true rfl | (simp only [room_1]; omega)), (by show _ ≤ _; first | exact Nat.le_of_ble_eq_true rfl | (simp only [room_1]; omega))⟩ dL_law_493 (fun v g_3 H locs hp hT => ?_)
  obtain ⟨r_4, rfl, hI, x_6, m_5⟩ := hp
  have hw : PX 48 2 3 71 72 g_3 om := hw.mono m_5 x_6 r_om (by decide) (by decide) rfl rfl rfl rfl
  have hN0 : PX 8 39 40 84 85 g_3 om := hN0.mono m_5 x_6 r_om (by decide) (by decide) rfl rfl rfl rfl
  have hTE : TE g_3 ba ta tz.toInt := hTE.sm m_5 r_ba (by decide) rfl r_ta (by decide) rfl
  have hWT : WT g_3 wt := hWT.sm m_5 r_wt (by decide) rfl
  have hHO : HO 3 0 g_3 sa ha sv.toInt := hHO.mono m_5 x_6 r_sa r_ha (by decide) rfl rfl rfl
  have hM : Sm mdA g g_3 := sm_all
  have hE : Ex g g_3 := hE.tr x_6
  have r_7 : g_3.1 ox = 7 := (Ex.r x_6 r_ox (by decide))
  have r_8 : g_3.1 om = 8 := (Ex.r x_6 r_om (by decide))
  have r_9 : g_3.1 tp = 5 := (Ex.r x_6 r_tp (by decide))
  have r_10 : g_3.1 nw = 19 := (Ex.r x_6 r_nw (by decide))
  have r_11 : g_3.1 rl = 1 := (Ex.r x_6 r_rl (by decide))
  have r_12 : g_3.1 ba = 67 := (Ex.r x_6 r_ba (by decide))
  have r_13 : g_3.1 ta = 79 := (Ex.r x_6 r_ta (by decide))
  have r_14 : g_3.1 wt = 87 := (Ex.r x_6 r_wt (by decide))
  have r_15 : g_3.1 sa = 42 := (Ex.r x_6 r_sa (by decide))
  have r_16 : g_3.1 ha = 74 := (Ex.r x_6 r_ha (by decide))
  have n_17 : g_3.2.2.1 ba = 100 := (Ex.n x_6 r_ba (by decide) n_ba)
  have n_18 : g_3.2.2.1 ta = 100 := (Ex.n x_6 r_ta (by decide) n_ta)
  have n_19 : g_3.2.2.1 wt = 24 := (Ex.n x_6 r_wt (by decide) n_wt)
  have n_20 : g_3.2.2.1 sa = 6 := (Ex.n x_6 r_sa (by decide) n_sa)
  have n_21 : g_3.2.2.1 ha = 6 := (Ex.n x_6 r_ha (by decide) n_ha)
  have kn_22 : g_3.2.1 om 22 = .int o1 := (Sm.v m_5 r_om (by decide) rfl ko)
  have kn_23 : g_3.2.1 ox 0 = .ref tp := (Sm.v m_5 r_ox (by decide) rfl k_tp)
  have kn_24 : g_3.2.1 ox 1 = .ref nw := (Sm.v m_5 r_ox (by decide) rfl k_nw)
  have kn_25 : g_3.2.1 ox 2 = .ref rl := (Sm.v m_5 r_ox (by decide) rfl k_rl)
  have kn_26 : g_3.2.1 tp 0 = .ref ba := (Sm.v m_5 r_tp (by decide) rfl k_ba)
  have kn_27 : g_3.2.1 om 28 = .ref ta := (Sm.v m_5 r_om (by decide) rfl k_ta)
  have kn_28 : g_3.2.1 om 42 = .ref wt := (Sm.v m_5 r_om (by decide) rfl k_wt)
  have kn_29 : g_3.2.1 nw 0 = .ref sa := (Sm.v m_5 r_nw (by decide) rfl k_sa)
  have kn_30 : g_3.2.1 om 5 = .ref ha := (Sm.v m_5 r_om (by decide) rfl k_ha)
  have kn_31 : g_3.2.1 tp 1 = .int tz := (Sm.v m_5 r_tp (by decide) rfl kc_tz)
  have kn_32 : g_3.2.1 om 29 = .int tz := (Sm.v m_5 r_om (by decide) rfl km_tz)
  have kn_33 : g_3.2.1 nw 1 = .int sv := (Sm.v m_5 r_nw (by decide) rfl kc_sv)
  have kn_34 : g_3.2.1 om 0 = .int sv := (Sm.v m_5 r_om (by decide) rfl km_sv)
  have kn_35 : g_3.2.1 rl 3 = .int rz := (Sm.v m_5 r_rl (by decide) rfl kc_rz)
  have kn_36 : g_3.2.1 om 30 = .int rz := (Sm.v m_5 r_om (by decide) rfl km_rz)
  refine W.eq (g2 := F0 m 496 ls [.int r_4]) rfl ?_
  refine lv_pop hx hb dL_law_496 rfl ?_
  refine lv_aload_n hx hb dL_law_497 rfl (lv_at hl 1 rfl) ?_
  refine lv_aload_n hx hb dL_law_498 rfl (lv_at hl 3 rfl) ?_
  refine lv_iload_n hx hb dL_law_499 rfl (lv_at hl 0 rfl) ?_
  refine lv_iconst (v := 1) hx hb dL_law_500 (by decide) ?_
  refine lv_iadd hx hb dL_law_501 ?_
  refine lv_topi (fun z_37 ez_37 => ?_)
  have e_z_37 : z_37.toInt = i.toInt + 1 := i_add ez_37 rfl (by decide) (by omega) (by omega)
  refine va_sld hx hb hX hbl (fun q => by have q_ : N0.1 ≤ b := q; omega) hT.2 (i_in (n := L) rfl (by omega) (by omega)) dL_law_502 ?_
  refine lv_topi (fun u_38 e_u_38 => ?_)
  refine t_callV (n := 1) (As := [.int u_38]) (rest := []) (ci := 7) hB hT hl.1 (m_outside l D cI cZ cS cR N0 g_3 hI om u_38 o1 r_8 kn_22 (by omega) (by omega)) (ro_ci r_8 rfl) rfl k_1083 k_65 k_1080 k_1081 k_1082 (by decide +kernel) ⟨(Nat.le_of_ble_eq_true rfl), (Nat.le_of_ble_eq_true rfl)⟩ rfl (Nat.le_of_ble_eq_true rfl) ⟨(by show _ ≤ _; first | exact Nat.le_of_ble_eq_true rfl | (simp only [room_1]; omega)), (by show _ ≤ _; first | exact Nat.le_of_ble_eq_true rfl | (simp only [room_1]; omega))⟩ dL_law_503 (fun v g_39 H locs hp hT => ?_)
  obtain ⟨r_40, rfl, hI, x_42, m_41⟩ := hp
  have hw : PX 48 2 3 71 72 g_39 om := hw.mono m_41 x_42 r_8 (by decide) (by decide) rfl rfl rfl rfl
  have hN0 : PX 8 39 40 84 85 g_39 om := hN0.mono m_41 x_42 r_8 (by decide) (by decide) rfl rfl rfl rfl
  have hTE : TE g_39 ba ta tz.toInt := hTE.sm m_41 r_12 (by decide) rfl r_13 (by decide) rfl
  have hWT : WT g_39 wt := hWT.sm m_41 r_14 (by decide) rfl
  have hHO : HO 3 0 g_39 sa ha sv.toInt := hHO.mono m_41 x_42 r_15 r_16 (by decide) rfl rfl rfl
  have hM : Sm mdA g g_39 := sm_all
  have hE : Ex g g_39 := hE.tr x_42
  have r_43 : g_39.1 ox = 7 := (Ex.r x_42 r_7 (by decide))
  have r_44 : g_39.1 om = 8 := (Ex.r x_42 r_8 (by decide))
  have r_45 : g_39.1 tp = 5 := (Ex.r x_42 r_9 (by decide))
  have r_46 : g_39.1 nw = 19 := (Ex.r x_42 r_10 (by decide))
  have r_47 : g_39.1 rl = 1 := (Ex.r x_42 r_11 (by decide))
  have r_48 : g_39.1 ba = 67 := (Ex.r x_42 r_12 (by decide))
  have r_49 : g_39.1 ta = 79 := (Ex.r x_42 r_13 (by decide))
  have r_50 : g_39.1 wt = 87 := (Ex.r x_42 r_14 (by decide))
  have r_51 : g_39.1 sa = 42 := (Ex.r x_42 r_15 (by decide))
  have r_52 : g_39.1 ha = 74 := (Ex.r x_42 r_16 (by decide))
  have n_53 : g_39.2.2.1 ba = 100 := (Ex.n x_42 r_12 (by decide) n_17)
  have n_54 : g_39.2.2.1 ta = 100 := (Ex.n x_42 r_13 (by decide) n_18)
  have n_55 : g_39.2.2.1 wt = 24 := (Ex.n x_42 r_14 (by decide) n_19)
  have n_56 : g_39.2.2.1 sa = 6 := (Ex.n x_42 r_15 (by decide) n_20)
  have n_57 : g_39.2.2.1 ha = 6 := (Ex.n x_42 r_16 (by decide) n_21)
  have kn_58 : g_39.2.1 om 22 = .int o1 := (Sm.v m_41 r_8 (by decide) rfl kn_22)
  have kn_59 : g_39.2.1 ox 0 = .ref tp := (Sm.v m_41 r_7 (by decide) rfl kn_23)
  have kn_60 : g_39.2.1 ox 1 = .ref nw := (Sm.v m_41 r_7 (by decide) rfl kn_24)
  have kn_61 : g_39.2.1 ox 2 = .ref rl := (Sm.v m_41 r_7 (by decide) rfl kn_25)
  have kn_62 : g_39.2.1 tp 0 = .ref ba := (Sm.v m_41 r_9 (by decide) rfl kn_26)
  have kn_63 : g_39.2.1 om 28 = .ref ta := (Sm.v m_41 r_8 (by decide) rfl kn_27)
  have kn_64 : g_39.2.1 om 42 = .ref wt := (Sm.v m_41 r_8 (by decide) rfl kn_28)
  have kn_65 : g_39.2.1 nw 0 = .ref sa := (Sm.v m_41 r_10 (by decide) rfl kn_29)
  have kn_66 : g_39.2.1 om 5 = .ref ha := (Sm.v m_41 r_8 (by decide) rfl kn_30)
  have kn_67 : g_39.2.1 tp 1 = .int tz := (Sm.v m_41 r_9 (by decide) rfl kn_31)
  have kn_68 : g_39.2.1 om 29 = .int tz := (Sm.v m_41 r_8 (by decide) rfl kn_32)
  have kn_69 : g_39.2.1 nw 1 = .int sv := (Sm.v m_41 r_10 (by decide) rfl kn_33)
  have kn_70 : g_39.2.1 om 0 = .int sv := (Sm.v m_41 r_8 (by decide) rfl kn_34)
  have kn_71 : g_39.2.1 rl 3 = .int rz := (Sm.v m_41 r_11 (by decide) rfl kn_35)
  have kn_72 : g_39.2.1 om 30 = .int rz := (Sm.v m_41 r_8 (by decide) rfl kn_36)
  refine W.eq (g2 := F0 m 506 ls [.int r_40]) rfl ?_
  refine lv_pop hx hb dL_law_506 rfl ?_
  refine lv_goto (tgt := 829) hx hb dL_law_507 (by decide) ?_
  refine W.widen (k := cells + 4) (n := slots + 28) (by omega) (by omega) ?_
  exact K g_39 o1 tz sv rz H locs hT hI r_43 r_44 kn_58 (by have e0_ : (0 : Int32).toInt = 0 := (by decide); omega) (by have e0_ : (0 : Int32).toInt = 0 := (by decide); omega) hw hN0 kn_59 r_45 kn_60 r_46 kn_61 r_47 kn_62 r_48 n_53 kn_63 r_49 n_54 kn_64 r_50 n_55 kn_65 r_51 n_56 kn_66 r_52 n_57 kn_67 kn_68 (by have e0_ : (0 : Int32).toInt = 0 := (by decide); omega) (by have e0_ : (0 : Int32).toInt = 0 := (by decide); omega) kn_69 kn_70 (by have e0_ : (0 : Int32).toInt = 0 := (by decide); omega) (by have e0_ : (0 : Int32).toInt = 0 := (by decide); omega) kn_71 kn_72 (by have e0_ : (0 : Int32).toInt = 0 := (by decide); omega) (by have e0_ : (0 : Int32).toInt = 0 := (by decide); omega) hTE hWT hHO
set_option maxHeartbeats 4000000 in
set_option maxRecDepth 100000 in
/-- row -/
theorem law_10 {p : Program} {l : Launch} {e : Env} {s : State} {m : MethodId} {below : List Frame} {meth : Method} {c : Code} {D : va_G} {cI cZ cS cR : ClassId} {N0 : NT} {b L : Nat} {xs : Nat → Int32} (hB : Tz p s m meth c #[Value.ref b] code 4 RL D cI cZ cS cR N0) (hAs : N0.1 = s.heap.size) (hX : va_X b L xs s s.heap) (hbl : b < s.heap.size) (hL : L ≤ 2560) (hr : meth.sig.returnType = ret) {cells slots : Nat} (hcl : cells + 4 ≤ 600000) (hsl : slots + 28 ≤ 7302250) {H : Heap} {locs : List Loc} {ls : Array Slot} (g : GS) (ox om : Nat) (tp : Nat) (nw : Nat) (rl : Nat) (ba : Nat) (ta : Nat) (wt : Nat) (sa : Nat) (ha : Nat) (i o1 tz sv rz : Int32) (hT : Tv D cI cZ cS cR N0 s.heap H locs g) (hI : Inv g) (l_i : 0 ≤ i.toInt) (u_i : i.toInt + 5 ≤ L) : g.1 ox = 7 → g.1 om = 8 → g.2.1 om 22 = .int o1 → 0 ≤ o1.toInt → o1.toInt ≤ 12 * i.toInt → PX 48 2 3 71 72 g om → PX 8 39 40 84 85 g om → g.2.1 ox 0 = .ref tp → g.1 tp = 5 → g.2.1 ox 1 = .ref nw → g.1 nw = 19 → g.2.1 ox 2 = .ref rl → g.1 rl = 1 → g.2.1 tp 0 = .ref ba → g.1 ba = 67 → g.2.2.1 ba = 100 → g.2.1 om 28 = .ref ta → g.1 ta = 79 → g.2.2.1 ta = 100 → g.2.1 om 42 = .ref wt → g.1 wt = 87 → g.2.2.1 wt = 24 → g.2.1 nw 0 = .ref sa → g.1 sa = 42 → g.2.2.1 sa = 6 → g.2.1 om 5 = .ref ha → g.1 ha = 74 → g.2.2.1 ha = 6 → g.2.1 tp 1 = .int tz → g.2.1 om 29 = .int tz → 0 ≤ tz.toInt → tz.toInt ≤ 100 → g.2.1 nw 1 = .int sv → g.2.1 om 0 = .int sv → 0 ≤ sv.toInt → sv.toInt ≤ 6 → g.2.1 rl 3 = .int rz → g.2.1 om 30 = .int rz → 0 ≤ rz.toInt → rz.toInt ≤ 6 → TE g ba ta tz.toInt → WT g wt → HO 3 0 g sa ha sv.toInt → (hl : lv_has ls 4 [(3, .int i), (2, .ref om), (1, .ref ox), (0, .ref b)]) → (K : ∀ (g1 : GS) (o1_1 tz_1 sv_1 rz_1 : Int32) (H1 : Heap) (locs1 : List Loc), Tv D cI cZ cS cR N0 s.heap H1 locs1 g1 → Inv g1 → g1.1 ox = 7 → g1.1 om = 8 → g1.2.1 om 22 = .int o1_1 → 0 ≤ o1_1.toInt → o1_1.toInt ≤ 12 * i.toInt + 60 → PX 48 2 3 71 72 g1 om → PX 8 39 40 84 85 g1 om → g1.2.1 ox 0 = .ref tp → g1.1 tp = 5 → g1.2.1 ox 1 = .ref nw → g1.1 nw = 19 → g1.2.1 ox 2 = .ref rl → g1.1 rl = 1 → g1.2.1 tp 0 = .ref ba → g1.1 ba = 67 → g1.2.2.1 ba = 100 → g1.2.1 om 28 = .ref ta → g1.1 ta = 79 → g1.2.2.1 ta = 100 → g1.2.1 om 42 = .ref wt → g1.1 wt = 87 → g1.2.2.1 wt = 24 → g1.2.1 nw 0 = .ref sa → g1.1 sa = 42 → g1.2.2.1 sa = 6 → g1.2.1 om 5 = .ref ha → g1.1 ha = 74 → g1.2.2.1 ha = 6 → g1.2.1 tp 1 = .int tz_1 → g1.2.1 om 29 = .int tz_1 → 0 ≤ tz_1.toInt → tz_1.toInt ≤ 100 → g1.2.1 nw 1 = .int sv_1 → g1.2.1 om 0 = .int sv_1 → 0 ≤ sv_1.toInt → sv_1.toInt ≤ 6 → g1.2.1 rl 3 = .int rz_1 → g1.2.1 om 30 = .int rz_1 → 0 ≤ rz_1.toInt → rz_1.toInt ≤ 6 → TE g1 ba ta tz_1.toInt → WT g1 wt → HO 3 0 g1 sa ha sv_1.toInt → W p l e room_1 s m #[Value.ref b] below meth c H1 locs1 (cells + 4) (slots + 28) (lw_Z below #[Value.ref b] s) (F0 m 829 ls [])) → W p l e room_1 s m #[Value.ref b] below meth c H locs cells slots (lw_Z below #[Value.ref b] s) (F0 m 510 ls []) := by
  intro r_ox r_om ko l_o u_o hw hN0 k_tp r_tp k_nw r_nw k_rl r_rl k_ba r_ba n_ba k_ta r_ta n_ta k_wt r_wt n_wt k_sa r_sa n_sa k_ha r_ha n_ha kc_tz km_tz l_tz u_tz kc_sv km_sv l_sv u_sv kc_rz km_rz l_rz u_rz hTE hWT hHO hl K
  have hx := hB.1
  have hb := hB.2.1
  have hE : Ex g g := Ex.rf
  have hM : Sm mdA g g := sm_all
  have hTE0 := hTE
  refine lv_aload_n hx hb dL_law_510 rfl (lv_at hl 2 rfl) ?_
  refine lv_aload_n hx hb dL_law_511 rfl (lv_at hl 3 rfl) ?_
  refine lv_iload_n hx hb dL_law_512 rfl (lv_at hl 0 rfl) ?_
  refine lv_iconst (v := 1) hx hb dL_law_513 (by decide) ?_
  refine lv_iadd hx hb dL_law_514 ?_
  refine lv_topi (fun z_1 ez_1 => ?_)
  have e_z_1 : z_1.toInt = i.toInt + 1 := i_add ez_1 rfl (by decide) (by omega) (by omega)
  refine va_sld hx hb hX hbl (fun q => by have q_ : N0.1 ≤ b := q; omega) hT.2 (i_in (n := L) rfl (by omega) (by omega)) dL_law_515 ?_
  refine lv_topi (fun u_2 e_u_2 => ?_)
  refine lv_aload_n hx hb dL_law_516 rfl (lv_at hl 3 rfl) ?_
  refine lv_iload_n hx hb dL_law_517 rfl (lv_at hl 0 rfl) ?_
  refine lv_iconst (v := 2) hx hb dL_law_518 (by decide) ?_
  refine lv_iadd hx hb dL_law_519 ?_
  refine lv_topi (fun z_3 ez_3 => ?_)
  have e_z_3 : z_3.toInt = i.toInt + 2 := i_add ez_3 rfl (by decide) (by omega) (by omega)
  refine va_sld hx hb hX hbl (fun q => by have q_ : N0.1 ≤ b := q; omega) hT.2 (i_in (n := L) rfl (by omega) (by omega)) dL_law_520 ?_
  refine lv_topi (fun u_4 e_u_4 => ?_)
  refine lv_aload_n hx hb dL_law_521 rfl (lv_at hl 3 rfl) ?_
  refine lv_iload_n hx hb dL_law_522 rfl (lv_at hl 0 rfl) ?_
  refine lv_iconst (v := 3) hx hb dL_law_523 (by decide) ?_
  refine lv_iadd hx hb dL_law_524 ?_
  refine lv_topi (fun z_5 ez_5 => ?_)
  have e_z_5 : z_5.toInt = i.toInt + 3 := i_add ez_5 rfl (by decide) (by omega) (by omega)
  refine va_sld hx hb hX hbl (fun q => by have q_ : N0.1 ≤ b := q; omega) hT.2 (i_in (n := L) rfl (by omega) (by omega)) dL_law_525 ?_
  refine lv_topi (fun u_6 e_u_6 => ?_)
  refine t_callV (n := 3) (As := [.int u_2, .int u_4, .int u_6]) (rest := []) (ci := 6) hB hT hl.1 (P_row l D cI cZ cS cR N0 g hI ox u_2 u_4 u_6 nw sv rl rz r_ox r_nw r_rl k_nw kc_sv k_rl kc_rz (by omega) (by omega) (by omega) (by omega)) (ro_ci r_ox rfl) rfl k_565 k_57 k_562 k_563 k_564 (by decide +kernel) ⟨(Nat.le_of_ble_eq_true rfl), (Nat.le_of_ble_eq_true rfl)⟩ rfl (Nat.le_of_ble_eq_true rfl) ⟨(by show _ ≤ _; first | exact Nat.le_of_ble_eq_true rfl | (simp only [room_1]; omega)), (by show _ ≤ _; first | exact Nat.le_of_ble_eq_true rfl | (simp only [room_1]; omega))⟩ dL_law_526 (fun v g_7 H locs hp hT => ?_)
  obtain ⟨r_8, q2_9, rfl, hI, x_14, m_13, f_10, f_11, f_12⟩ := hp
  have hw : PX 48 2 3 71 72 g_7 om := hw.mono m_13 x_14 r_om (by decide) (by decide) rfl rfl rfl rfl
  have hN0 : PX 8 39 40 84 85 g_7 om := hN0.mono m_13 x_14 r_om (by decide) (by decide) rfl rfl rfl rfl
  have hTE : TE g_7 ba ta tz.toInt := hTE.sm m_13 r_ba (by decide) rfl r_ta (by decide) rfl
  have hWT : WT g_7 wt := hWT.sm m_13 r_wt (by decide) rfl
  have hHO : HO 3 0 g_7 sa ha sv.toInt := hHO.mono m_13 x_14 r_sa r_ha (by decide) rfl rfl rfl
  have hM : Sm mdA g g_7 := sm_all
  have hE : Ex g g_7 := hE.tr x_14
  have r_15 : g_7.1 ox = 7 := (Ex.r x_14 r_ox (by decide))
  have r_16 : g_7.1 om = 8 := (Ex.r x_14 r_om (by decide))
  have r_17 : g_7.1 tp = 5 := (Ex.r x_14 r_tp (by decide))
  have r_18 : g_7.1 nw = 19 := (Ex.r x_14 r_nw (by decide))
  have r_19 : g_7.1 rl = 1 := (Ex.r x_14 r_rl (by decide))
  have r_20 : g_7.1 ba = 67 := (Ex.r x_14 r_ba (by decide))
  have r_21 : g_7.1 ta = 79 := (Ex.r x_14 r_ta (by decide))
  have r_22 : g_7.1 wt = 87 := (Ex.r x_14 r_wt (by decide))
  have r_23 : g_7.1 sa = 42 := (Ex.r x_14 r_sa (by decide))
  have r_24 : g_7.1 ha = 74 := (Ex.r x_14 r_ha (by decide))
  have n_25 : g_7.2.2.1 ba = 100 := (Ex.n x_14 r_ba (by decide) n_ba)
  have n_26 : g_7.2.2.1 ta = 100 := (Ex.n x_14 r_ta (by decide) n_ta)
  have n_27 : g_7.2.2.1 wt = 24 := (Ex.n x_14 r_wt (by decide) n_wt)
  have n_28 : g_7.2.2.1 sa = 6 := (Ex.n x_14 r_sa (by decide) n_sa)
  have n_29 : g_7.2.2.1 ha = 6 := (Ex.n x_14 r_ha (by decide) n_ha)
  have kn_30 : g_7.2.1 om 22 = .int o1 := (Sm.v m_13 r_om (by decide) rfl ko)
  have kn_31 : g_7.2.1 ox 0 = .ref tp := (Sm.v m_13 r_ox (by decide) rfl k_tp)
  have kn_32 : g_7.2.1 ox 1 = .ref nw := (Sm.v m_13 r_ox (by decide) rfl k_nw)
  have kn_33 : g_7.2.1 ox 2 = .ref rl := (Sm.v m_13 r_ox (by decide) rfl k_rl)
  have kn_34 : g_7.2.1 tp 0 = .ref ba := (Sm.v m_13 r_tp (by decide) rfl k_ba)
  have kn_35 : g_7.2.1 om 28 = .ref ta := (Sm.v m_13 r_om (by decide) rfl k_ta)
  have kn_36 : g_7.2.1 om 42 = .ref wt := (Sm.v m_13 r_om (by decide) rfl k_wt)
  have kn_37 : g_7.2.1 nw 0 = .ref sa := (Sm.v m_13 r_nw (by decide) rfl k_sa)
  have kn_38 : g_7.2.1 om 5 = .ref ha := (Sm.v m_13 r_om (by decide) rfl k_ha)
  have kn_39 : g_7.2.1 tp 1 = .int tz := (Sm.v m_13 r_tp (by decide) rfl kc_tz)
  have kn_40 : g_7.2.1 om 29 = .int tz := (Sm.v m_13 r_om (by decide) rfl km_tz)
  have kn_41 : g_7.2.1 nw 1 = .int sv := (Sm.v m_13 r_nw (by decide) rfl kc_sv)
  have kn_42 : g_7.2.1 om 0 = .int sv := (Sm.v m_13 r_om (by decide) rfl km_sv)
  have kn_43 : g_7.2.1 om 30 = .int rz := (Sm.v m_13 r_om (by decide) rfl km_rz)
  refine W.eq (g2 := F0 m 529 ls [.int r_8]) rfl ?_
  refine lv_pop hx hb dL_law_529 rfl ?_
  refine lv_aload_n hx hb dL_law_530 rfl (lv_at hl 1 rfl) ?_
  refine lv_aload_n hx hb dL_law_531 rfl (lv_at hl 3 rfl) ?_
  refine lv_iload_n hx hb dL_law_532 rfl (lv_at hl 0 rfl) ?_
  refine lv_iconst (v := 1) hx hb dL_law_533 (by decide) ?_
  refine lv_iadd hx hb dL_law_534 ?_
  refine lv_topi (fun z_44 ez_44 => ?_)
  have e_z_44 : z_44.toInt = i.toInt + 1 := i_add ez_44 rfl (by decide) (by omega) (by omega)
  refine va_sld hx hb hX hbl (fun q => by have q_ : N0.1 ≤ b := q; omega) hT.2 (i_in (n := L) rfl (by omega) (by omega)) dL_law_535 ?_
  refine lv_topi (fun u_45 e_u_45 => ?_)
  refine lv_aload_n hx hb dL_law_536 rfl (lv_at hl 3 rfl) ?_
  refine lv_iload_n hx hb dL_law_537 rfl (lv_at hl 0 rfl) ?_
  refine lv_iconst (v := 2) hx hb dL_law_538 (by decide) ?_
  refine lv_iadd hx hb dL_law_539 ?_
  refine lv_topi (fun z_46 ez_46 => ?_)
  have e_z_46 : z_46.toInt = i.toInt + 2 := i_add ez_46 rfl (by decide) (by omega) (by omega)
  refine va_sld hx hb hX hbl (fun q => by have q_ : N0.1 ≤ b := q; omega) hT.2 (i_in (n := L) rfl (by omega) (by omega)) dL_law_540 ?_
  refine lv_topi (fun u_47 e_u_47 => ?_)
  refine lv_aload_n hx hb dL_law_541 rfl (lv_at hl 3 rfl) ?_
  refine lv_iload_n hx hb dL_law_542 rfl (lv_at hl 0 rfl) ?_
  refine lv_iconst (v := 3) hx hb dL_law_543 (by decide) ?_
  refine lv_iadd hx hb dL_law_544 ?_
  refine lv_topi (fun z_48 ez_48 => ?_)
  have e_z_48 : z_48.toInt = i.toInt + 3 := i_add ez_48 rfl (by decide) (by omega) (by omega)
  refine va_sld hx hb hX hbl (fun q => by have q_ : N0.1 ≤ b := q; omega) hT.2 (i_in (n := L) rfl (by omega) (by omega)) dL_law_545 ?_
  refine lv_topi (fun u_49 e_u_49 => ?_)
  refine t_callV (n := 3) (As := [.int u_45, .int u_47, .int u_49]) (rest := []) (ci := 7) hB hT hl.1 (m_row l D cI cZ cS cR N0 g_7 hI om u_45 u_47 u_49 sv rz r_16 kn_42 kn_43 (by omega) (by omega) (by omega) (by omega)) (ro_ci r_16 rfl) rfl k_1087 k_65 k_1084 k_1085 k_1086 (by decide +kernel) ⟨(Nat.le_of_ble_eq_true rfl), (Nat.le_of_ble_eq_true rfl)⟩ rfl (Nat.le_of_ble_eq_true rfl) ⟨(by show _ ≤ _; first | exact Nat.le_of_ble_eq_true rfl | (simp only [room_1]; omega)), (by show _ ≤ _; first | exact Nat.le_of_ble_eq_true rfl | (simp only [room_1]; omega))⟩ dL_law_546 (fun v g_50 H locs hp hT => ?_)
  obtain ⟨r_51, q2_52, rfl, hI, x_57, m_56, f_53, f_54, f_55⟩ := hp
  have hw : PX 48 2 3 71 72 g_50 om := hw.mono m_56 x_57 r_16 (by decide) (by decide) rfl rfl rfl rfl
  have hN0 : PX 8 39 40 84 85 g_50 om := hN0.mono m_56 x_57 r_16 (by decide) (by decide) rfl rfl rfl rfl
  have hTE : TE g_50 ba ta tz.toInt := hTE.sm m_56 r_20 (by decide) rfl r_21 (by decide) rfl
  have hWT : WT g_50 wt := hWT.sm m_56 r_22 (by decide) rfl
  have hHO : HO 3 0 g_50 sa ha sv.toInt := hHO.mono m_56 x_57 r_23 r_24 (by decide) rfl rfl rfl
  have hM : Sm mdA g g_50 := sm_all
  have hE : Ex g g_50 := hE.tr x_57
  have r_58 : g_50.1 ox = 7 := (Ex.r x_57 r_15 (by decide))
  have r_59 : g_50.1 om = 8 := (Ex.r x_57 r_16 (by decide))
  have r_60 : g_50.1 tp = 5 := (Ex.r x_57 r_17 (by decide))
  have r_61 : g_50.1 nw = 19 := (Ex.r x_57 r_18 (by decide))
  have r_62 : g_50.1 rl = 1 := (Ex.r x_57 r_19 (by decide))
  have r_63 : g_50.1 ba = 67 := (Ex.r x_57 r_20 (by decide))
  have r_64 : g_50.1 ta = 79 := (Ex.r x_57 r_21 (by decide))
  have r_65 : g_50.1 wt = 87 := (Ex.r x_57 r_22 (by decide))
  have r_66 : g_50.1 sa = 42 := (Ex.r x_57 r_23 (by decide))
  have r_67 : g_50.1 ha = 74 := (Ex.r x_57 r_24 (by decide))
  have n_68 : g_50.2.2.1 ba = 100 := (Ex.n x_57 r_20 (by decide) n_25)
  have n_69 : g_50.2.2.1 ta = 100 := (Ex.n x_57 r_21 (by decide) n_26)
  have n_70 : g_50.2.2.1 wt = 24 := (Ex.n x_57 r_22 (by decide) n_27)
  have n_71 : g_50.2.2.1 sa = 6 := (Ex.n x_57 r_23 (by decide) n_28)
  have n_72 : g_50.2.2.1 ha = 6 := (Ex.n x_57 r_24 (by decide) n_29)
  have kn_73 : g_50.2.1 om 22 = .int o1 := (Sm.v m_56 r_16 (by decide) rfl kn_30)
  have kn_74 : g_50.2.1 ox 0 = .ref tp := (Sm.v m_56 r_15 (by decide) rfl kn_31)
  have kn_75 : g_50.2.1 ox 1 = .ref nw := (Sm.v m_56 r_15 (by decide) rfl kn_32)
  have kn_76 : g_50.2.1 ox 2 = .ref rl := (Sm.v m_56 r_15 (by decide) rfl kn_33)
  have kn_77 : g_50.2.1 tp 0 = .ref ba := (Sm.v m_56 r_17 (by decide) rfl kn_34)
  have kn_78 : g_50.2.1 om 28 = .ref ta := (Sm.v m_56 r_16 (by decide) rfl kn_35)
  have kn_79 : g_50.2.1 om 42 = .ref wt := (Sm.v m_56 r_16 (by decide) rfl kn_36)
  have kn_80 : g_50.2.1 nw 0 = .ref sa := (Sm.v m_56 r_18 (by decide) rfl kn_37)
  have kn_81 : g_50.2.1 om 5 = .ref ha := (Sm.v m_56 r_16 (by decide) rfl kn_38)
  have kn_82 : g_50.2.1 tp 1 = .int tz := (Sm.v m_56 r_17 (by decide) rfl kn_39)
  have kn_83 : g_50.2.1 om 29 = .int tz := (Sm.v m_56 r_16 (by decide) rfl kn_40)
  have kn_84 : g_50.2.1 nw 1 = .int sv := (Sm.v m_56 r_18 (by decide) rfl kn_41)
  have kn_85 : g_50.2.1 om 0 = .int sv := (Sm.v m_56 r_16 (by decide) rfl kn_42)
  have kn_86 : g_50.2.1 rl 3 = .int q2_9 := (Sm.v m_56 r_19 (by decide) rfl f_10)
  refine W.eq (g2 := F0 m 549 ls [.int r_51]) rfl ?_
  refine lv_pop hx hb dL_law_549 rfl ?_
  refine lv_goto (tgt := 829) hx hb dL_law_550 (by decide) ?_
  have eq_u_45 : u_45 = u_2 := e_u_45.trans ((congrArg xs (i_nt (by omega))).trans e_u_2.symm)
  have eqi_u_45 : u_45.toInt = u_2.toInt := congrArg Int32.toInt eq_u_45
  have eq_u_47 : u_47 = u_4 := e_u_47.trans ((congrArg xs (i_nt (by omega))).trans e_u_4.symm)
  have eqi_u_47 : u_47.toInt = u_4.toInt := congrArg Int32.toInt eq_u_47
  have eq_u_49 : u_49 = u_6 := e_u_49.trans ((congrArg xs (i_nt (by omega))).trans e_u_6.symm)
  have eqi_u_49 : u_49.toInt = u_6.toInt := congrArg Int32.toInt eq_u_49
  have er_87 := f_55
  try rw [eq_u_45] at er_87
  try rw [eq_u_47] at er_87
  try rw [eq_u_49] at er_87
  have hub_ : q2_9.toInt ≤ 6 ∧ 0 ≤ q2_9.toInt := (by have q_ := f_12; unfold roQ at q_; omega)
  refine W.widen (k := cells + 4) (n := slots + 28) (by omega) (by omega) ?_
  exact K g_50 o1 tz sv q2_9 H locs hT hI r_58 r_59 kn_73 (by have e0_ : (0 : Int32).toInt = 0 := (by decide); omega) (by have e0_ : (0 : Int32).toInt = 0 := (by decide); omega) hw hN0 kn_74 r_60 kn_75 r_61 kn_76 r_62 kn_77 r_63 n_68 kn_78 r_64 n_69 kn_79 r_65 n_70 kn_80 r_66 n_71 kn_81 r_67 n_72 kn_82 kn_83 (by have e0_ : (0 : Int32).toInt = 0 := (by decide); omega) (by have e0_ : (0 : Int32).toInt = 0 := (by decide); omega) kn_84 kn_85 (by have e0_ : (0 : Int32).toInt = 0 := (by decide); omega) (by have e0_ : (0 : Int32).toInt = 0 := (by decide); omega) kn_86 (f_53.trans (congrArg Value.int (i_inj (er_87.trans f_12.symm)))) (by have e0_ : (0 : Int32).toInt = 0 := (by decide); omega) (by have e0_ : (0 : Int32).toInt = 0 := (by decide); omega) hTE hWT hHO
set_option maxHeartbeats 4000000 in
set_option maxRecDepth 100000 in
/-- clear -/
theorem law_11 {p : Program} {l : Launch} {e : Env} {s : State} {m : MethodId} {below : List Frame} {meth : Method} {c : Code} {D : va_G} {cI cZ cS cR : ClassId} {N0 : NT} {b L : Nat} {xs : Nat → Int32} (hB : Tz p s m meth c #[Value.ref b] code 4 RL D cI cZ cS cR N0) (hAs : N0.1 = s.heap.size) (hX : va_X b L xs s s.heap) (hbl : b < s.heap.size) (hL : L ≤ 2560) (hr : meth.sig.returnType = ret) {cells slots : Nat} (hcl : cells + 4 ≤ 600000) (hsl : slots + 28 ≤ 7302250) {H : Heap} {locs : List Loc} {ls : Array Slot} (g : GS) (ox om : Nat) (tp : Nat) (nw : Nat) (rl : Nat) (ba : Nat) (ta : Nat) (wt : Nat) (sa : Nat) (ha : Nat) (i o1 tz sv rz : Int32) (hT : Tv D cI cZ cS cR N0 s.heap H locs g) (hI : Inv g) (l_i : 0 ≤ i.toInt) (u_i : i.toInt + 5 ≤ L) : g.1 ox = 7 → g.1 om = 8 → g.2.1 om 22 = .int o1 → 0 ≤ o1.toInt → o1.toInt ≤ 12 * i.toInt → PX 48 2 3 71 72 g om → PX 8 39 40 84 85 g om → g.2.1 ox 0 = .ref tp → g.1 tp = 5 → g.2.1 ox 1 = .ref nw → g.1 nw = 19 → g.2.1 ox 2 = .ref rl → g.1 rl = 1 → g.2.1 tp 0 = .ref ba → g.1 ba = 67 → g.2.2.1 ba = 100 → g.2.1 om 28 = .ref ta → g.1 ta = 79 → g.2.2.1 ta = 100 → g.2.1 om 42 = .ref wt → g.1 wt = 87 → g.2.2.1 wt = 24 → g.2.1 nw 0 = .ref sa → g.1 sa = 42 → g.2.2.1 sa = 6 → g.2.1 om 5 = .ref ha → g.1 ha = 74 → g.2.2.1 ha = 6 → g.2.1 tp 1 = .int tz → g.2.1 om 29 = .int tz → 0 ≤ tz.toInt → tz.toInt ≤ 100 → g.2.1 nw 1 = .int sv → g.2.1 om 0 = .int sv → 0 ≤ sv.toInt → sv.toInt ≤ 6 → g.2.1 rl 3 = .int rz → g.2.1 om 30 = .int rz → 0 ≤ rz.toInt → rz.toInt ≤ 6 → TE g ba ta tz.toInt → WT g wt → HO 3 0 g sa ha sv.toInt → (hl : lv_has ls 4 [(3, .int i), (2, .ref om), (1, .ref ox), (0, .ref b)]) → (K : ∀ (g1 : GS) (o1_1 tz_1 sv_1 rz_1 : Int32) (H1 : Heap) (locs1 : List Loc), Tv D cI cZ cS cR N0 s.heap H1 locs1 g1 → Inv g1 → g1.1 ox = 7 → g1.1 om = 8 → g1.2.1 om 22 = .int o1_1 → 0 ≤ o1_1.toInt → o1_1.toInt ≤ 12 * i.toInt + 60 → PX 48 2 3 71 72 g1 om → PX 8 39 40 84 85 g1 om → g1.2.1 ox 0 = .ref tp → g1.1 tp = 5 → g1.2.1 ox 1 = .ref nw → g1.1 nw = 19 → g1.2.1 ox 2 = .ref rl → g1.1 rl = 1 → g1.2.1 tp 0 = .ref ba → g1.1 ba = 67 → g1.2.2.1 ba = 100 → g1.2.1 om 28 = .ref ta → g1.1 ta = 79 → g1.2.2.1 ta = 100 → g1.2.1 om 42 = .ref wt → g1.1 wt = 87 → g1.2.2.1 wt = 24 → g1.2.1 nw 0 = .ref sa → g1.1 sa = 42 → g1.2.2.1 sa = 6 → g1.2.1 om 5 = .ref ha → g1.1 ha = 74 → g1.2.2.1 ha = 6 → g1.2.1 tp 1 = .int tz_1 → g1.2.1 om 29 = .int tz_1 → 0 ≤ tz_1.toInt → tz_1.toInt ≤ 100 → g1.2.1 nw 1 = .int sv_1 → g1.2.1 om 0 = .int sv_1 → 0 ≤ sv_1.toInt → sv_1.toInt ≤ 6 → g1.2.1 rl 3 = .int rz_1 → g1.2.1 om 30 = .int rz_1 → 0 ≤ rz_1.toInt → rz_1.toInt ≤ 6 → TE g1 ba ta tz_1.toInt → WT g1 wt → HO 3 0 g1 sa ha sv_1.toInt → W p l e room_1 s m #[Value.ref b] below meth c H1 locs1 (cells + 4) (slots + 28) (lw_Z below #[Value.ref b] s) (F0 m 829 ls [])) → W p l e room_1 s m #[Value.ref b] below meth c H locs cells slots (lw_Z below #[Value.ref b] s) (F0 m 553 ls []) := by
  intro r_ox r_om ko l_o u_o hw hN0 k_tp r_tp k_nw r_nw k_rl r_rl k_ba r_ba n_ba k_ta r_ta n_ta k_wt r_wt n_wt k_sa r_sa n_sa k_ha r_ha n_ha kc_tz km_tz l_tz u_tz kc_sv km_sv l_sv u_sv kc_rz km_rz l_rz u_rz hTE hWT hHO hl K
  have hx := hB.1
  have hb := hB.2.1
  have hE : Ex g g := Ex.rf
  have hM : Sm mdA g g := sm_all
  have hTE0 := hTE
  refine lv_aload_n hx hb dL_law_553 rfl (lv_at hl 2 rfl) ?_
  refine t_callV (n := 0) (As := []) (rest := []) (ci := 6) hB hT hl.1 (P_clear l D cI cZ cS cR N0 g hI ox rl rz r_ox r_rl k_rl kc_rz (by omega) (by omega)) (ro_ci r_ox rfl) rfl k_569 k_57 k_566 k_567 k_568 (by decide +kernel) ⟨(Nat.le_of_ble_eq_true rfl), (Nat.le_of_ble_eq_true rfl)⟩ rfl (Nat.le_of_ble_eq_true rfl) ⟨(by show _ ≤ _; first | exact Nat.le_of_ble_eq_true rfl | (simp only [room_1]; omega)), (by show _ ≤ _; first | exact Nat.le_of_ble_eq_true rfl | (simp only [room_1]; omega))⟩ dL_law_554 (fun v g_1 H locs hp hT => ?_)
  obtain ⟨r_2, rfl, hI, x_6, m_5, f_3, f_4⟩ := hp
  have hw : PX 48 2 3 71 72 g_1 om := hw.mono m_5 x_6 r_om (by decide) (by decide) rfl rfl rfl rfl
  have hN0 : PX 8 39 40 84 85 g_1 om := hN0.mono m_5 x_6 r_om (by decide) (by decide) rfl rfl rfl rfl
  have hTE : TE g_1 ba ta tz.toInt := hTE.sm m_5 r_ba (by decide) rfl r_ta (by decide) rfl
  have hWT : WT g_1 wt := hWT.sm m_5 r_wt (by decide) rfl
  have hHO : HO 3 0 g_1 sa ha sv.toInt := hHO.mono m_5 x_6 r_sa r_ha (by decide) rfl rfl rfl
  have hM : Sm mdA g g_1 := sm_all
  have hE : Ex g g_1 := hE.tr x_6
  have r_7 : g_1.1 ox = 7 := (Ex.r x_6 r_ox (by decide))
  have r_8 : g_1.1 om = 8 := (Ex.r x_6 r_om (by decide))
  have r_9 : g_1.1 tp = 5 := (Ex.r x_6 r_tp (by decide))
  have r_10 : g_1.1 nw = 19 := (Ex.r x_6 r_nw (by decide))
  have r_11 : g_1.1 rl = 1 := (Ex.r x_6 r_rl (by decide))
  have r_12 : g_1.1 ba = 67 := (Ex.r x_6 r_ba (by decide))
  have r_13 : g_1.1 ta = 79 := (Ex.r x_6 r_ta (by decide))
  have r_14 : g_1.1 wt = 87 := (Ex.r x_6 r_wt (by decide))
  have r_15 : g_1.1 sa = 42 := (Ex.r x_6 r_sa (by decide))
  have r_16 : g_1.1 ha = 74 := (Ex.r x_6 r_ha (by decide))
  have n_17 : g_1.2.2.1 ba = 100 := (Ex.n x_6 r_ba (by decide) n_ba)
  have n_18 : g_1.2.2.1 ta = 100 := (Ex.n x_6 r_ta (by decide) n_ta)
  have n_19 : g_1.2.2.1 wt = 24 := (Ex.n x_6 r_wt (by decide) n_wt)
  have n_20 : g_1.2.2.1 sa = 6 := (Ex.n x_6 r_sa (by decide) n_sa)
  have n_21 : g_1.2.2.1 ha = 6 := (Ex.n x_6 r_ha (by decide) n_ha)
  have kn_22 : g_1.2.1 om 22 = .int o1 := (Sm.v m_5 r_om (by decide) rfl ko)
  have kn_23 : g_1.2.1 ox 0 = .ref tp := (Sm.v m_5 r_ox (by decide) rfl k_tp)
  have kn_24 : g_1.2.1 ox 1 = .ref nw := (Sm.v m_5 r_ox (by decide) rfl k_nw)
  have kn_25 : g_1.2.1 ox 2 = .ref rl := (Sm.v m_5 r_ox (by decide) rfl k_rl)
  have kn_26 : g_1.2.1 tp 0 = .ref ba := (Sm.v m_5 r_tp (by decide) rfl k_ba)
  have kn_27 : g_1.2.1 om 28 = .ref ta := (Sm.v m_5 r_om (by decide) rfl k_ta)
  have kn_28 : g_1.2.1 om 42 = .ref wt := (Sm.v m_5 r_om (by decide) rfl k_wt)
  have kn_29 : g_1.2.1 nw 0 = .ref sa := (Sm.v m_5 r_nw (by decide) rfl k_sa)
  have kn_30 : g_1.2.1 om 5 = .ref ha := (Sm.v m_5 r_om (by decide) rfl k_ha)
  have kn_31 : g_1.2.1 tp 1 = .int tz := (Sm.v m_5 r_tp (by decide) rfl kc_tz)
  have kn_32 : g_1.2.1 om 29 = .int tz := (Sm.v m_5 r_om (by decide) rfl km_tz)
  have kn_33 : g_1.2.1 nw 1 = .int sv := (Sm.v m_5 r_nw (by decide) rfl kc_sv)
  have kn_34 : g_1.2.1 om 0 = .int sv := (Sm.v m_5 r_om (by decide) rfl km_sv)
  have kn_35 : g_1.2.1 om 30 = .int rz := (Sm.v m_5 r_om (by decide) rfl km_rz)
  refine W.eq (g2 := F0 m 557 ls [.int r_2]) rfl ?_
  refine lv_pop hx hb dL_law_557 rfl ?_
  refine lv_aload_n hx hb dL_law_558 rfl (lv_at hl 1 rfl) ?_
  refine t_callV (n := 0) (As := []) (rest := []) (ci := 7) hB hT hl.1 (m_clear l D cI cZ cS cR N0 g_1 hI om rz r_8 kn_35 (by omega) (by omega)) (ro_ci r_8 rfl) rfl k_1091 k_65 k_1088 k_1089 k_1090 (by decide +kernel) ⟨(Nat.le_of_ble_eq_true rfl), (Nat.le_of_ble_eq_true rfl)⟩ rfl (Nat.le_of_ble_eq_true rfl) ⟨(by show _ ≤ _; first | exact Nat.le_of_ble_eq_true rfl | (simp only [room_1]; omega)), (by show _ ≤ _; first | exact Nat.le_of_ble_eq_true rfl | (simp only [room_1]; omega))⟩ dL_law_559 (fun v g_36 H locs hp hT => ?_)
  obtain ⟨r_37, rfl, hI, x_41, m_40, f_38, f_39⟩ := hp
  have hw : PX 48 2 3 71 72 g_36 om := hw.mono m_40 x_41 r_8 (by decide) (by decide) rfl rfl rfl rfl
  have hN0 : PX 8 39 40 84 85 g_36 om := hN0.mono m_40 x_41 r_8 (by decide) (by decide) rfl rfl rfl rfl
  have hTE : TE g_36 ba ta tz.toInt := hTE.sm m_40 r_12 (by decide) rfl r_13 (by decide) rfl
  have hWT : WT g_36 wt := hWT.sm m_40 r_14 (by decide) rfl
  have hHO : HO 3 0 g_36 sa ha sv.toInt := hHO.mono m_40 x_41 r_15 r_16 (by decide) rfl rfl rfl
  have hM : Sm mdA g g_36 := sm_all
  have hE : Ex g g_36 := hE.tr x_41
  have r_42 : g_36.1 ox = 7 := (Ex.r x_41 r_7 (by decide))
  have r_43 : g_36.1 om = 8 := (Ex.r x_41 r_8 (by decide))
  have r_44 : g_36.1 tp = 5 := (Ex.r x_41 r_9 (by decide))
  have r_45 : g_36.1 nw = 19 := (Ex.r x_41 r_10 (by decide))
  have r_46 : g_36.1 rl = 1 := (Ex.r x_41 r_11 (by decide))
  have r_47 : g_36.1 ba = 67 := (Ex.r x_41 r_12 (by decide))
  have r_48 : g_36.1 ta = 79 := (Ex.r x_41 r_13 (by decide))
  have r_49 : g_36.1 wt = 87 := (Ex.r x_41 r_14 (by decide))
  have r_50 : g_36.1 sa = 42 := (Ex.r x_41 r_15 (by decide))
  have r_51 : g_36.1 ha = 74 := (Ex.r x_41 r_16 (by decide))
  have n_52 : g_36.2.2.1 ba = 100 := (Ex.n x_41 r_12 (by decide) n_17)
  have n_53 : g_36.2.2.1 ta = 100 := (Ex.n x_41 r_13 (by decide) n_18)
  have n_54 : g_36.2.2.1 wt = 24 := (Ex.n x_41 r_14 (by decide) n_19)
  have n_55 : g_36.2.2.1 sa = 6 := (Ex.n x_41 r_15 (by decide) n_20)
  have n_56 : g_36.2.2.1 ha = 6 := (Ex.n x_41 r_16 (by decide) n_21)
  have kn_57 : g_36.2.1 om 22 = .int o1 := (Sm.v m_40 r_8 (by decide) rfl kn_22)
  have kn_58 : g_36.2.1 ox 0 = .ref tp := (Sm.v m_40 r_7 (by decide) rfl kn_23)
  have kn_59 : g_36.2.1 ox 1 = .ref nw := (Sm.v m_40 r_7 (by decide) rfl kn_24)
  have kn_60 : g_36.2.1 ox 2 = .ref rl := (Sm.v m_40 r_7 (by decide) rfl kn_25)
  have kn_61 : g_36.2.1 tp 0 = .ref ba := (Sm.v m_40 r_9 (by decide) rfl kn_26)
  have kn_62 : g_36.2.1 om 28 = .ref ta := (Sm.v m_40 r_8 (by decide) rfl kn_27)
  have kn_63 : g_36.2.1 om 42 = .ref wt := (Sm.v m_40 r_8 (by decide) rfl kn_28)
  have kn_64 : g_36.2.1 nw 0 = .ref sa := (Sm.v m_40 r_10 (by decide) rfl kn_29)
  have kn_65 : g_36.2.1 om 5 = .ref ha := (Sm.v m_40 r_8 (by decide) rfl kn_30)
  have kn_66 : g_36.2.1 tp 1 = .int tz := (Sm.v m_40 r_9 (by decide) rfl kn_31)
  have kn_67 : g_36.2.1 om 29 = .int tz := (Sm.v m_40 r_8 (by decide) rfl kn_32)
  have kn_68 : g_36.2.1 nw 1 = .int sv := (Sm.v m_40 r_10 (by decide) rfl kn_33)
  have kn_69 : g_36.2.1 om 0 = .int sv := (Sm.v m_40 r_8 (by decide) rfl kn_34)
  have kn_70 : g_36.2.1 rl 3 = .int 0 := (Sm.v m_40 r_11 (by decide) rfl f_3)
  refine W.eq (g2 := F0 m 562 ls [.int r_37]) rfl ?_
  refine lv_pop hx hb dL_law_562 rfl ?_
  refine lv_goto (tgt := 829) hx hb dL_law_563 (by decide) ?_
  refine W.widen (k := cells + 4) (n := slots + 28) (by omega) (by omega) ?_
  exact K g_36 o1 tz sv (0 : Int32) H locs hT hI r_42 r_43 kn_57 (by have e0_ : (0 : Int32).toInt = 0 := (by decide); omega) (by have e0_ : (0 : Int32).toInt = 0 := (by decide); omega) hw hN0 kn_58 r_44 kn_59 r_45 kn_60 r_46 kn_61 r_47 n_52 kn_62 r_48 n_53 kn_63 r_49 n_54 kn_64 r_50 n_55 kn_65 r_51 n_56 kn_66 kn_67 (by have e0_ : (0 : Int32).toInt = 0 := (by decide); omega) (by have e0_ : (0 : Int32).toInt = 0 := (by decide); omega) kn_68 kn_69 (by have e0_ : (0 : Int32).toInt = 0 := (by decide); omega) (by have e0_ : (0 : Int32).toInt = 0 := (by decide); omega) kn_70 f_38 (by have e0_ : (0 : Int32).toInt = 0 := (by decide); omega) (by have e0_ : (0 : Int32).toInt = 0 := (by decide); omega) hTE hWT hHO
