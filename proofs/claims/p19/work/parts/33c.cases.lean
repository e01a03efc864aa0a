theorem k_482 : Cond.methodLink RL 52 yX6_call ∈ tb := mt 482 (by decide +kernel) rfl
theorem k_483 : Cond.instanceMethod yX6_call ∈ tb := mt 483 (by decide +kernel) rfl
theorem k_484 : Cond.selects RX6 yX6_call yX6_call ∈ tb := mt 484 (by decide +kernel) rfl
set_option maxRecDepth 20000 in
theorem k_485 : Cond.code yX6_call cX6_call 5 (some .int) ∈ tb := mt 485 rfl rfl
theorem k_555 : Cond.methodLink RL 57 yX6_outside ∈ tb := mt 555 (by decide +kernel) rfl
theorem k_556 : Cond.instanceMethod yX6_outside ∈ tb := mt 556 (by decide +kernel) rfl
theorem k_557 : Cond.selects RX6 yX6_outside yX6_outside ∈ tb := mt 557 (by decide +kernel) rfl
set_option maxRecDepth 20000 in
theorem k_558 : Cond.code yX6_outside cX6_outside 2 (some .int) ∈ tb := mt 558 rfl rfl
theorem k_562 : Cond.methodLink RL 61 yX6_row ∈ tb := mt 562 (by decide +kernel) rfl
theorem k_563 : Cond.instanceMethod yX6_row ∈ tb := mt 563 (by decide +kernel) rfl
theorem k_564 : Cond.selects RX6 yX6_row yX6_row ∈ tb := mt 564 (by decide +kernel) rfl
set_option maxRecDepth 20000 in
theorem k_565 : Cond.code yX6_row cX6_row 4 (some .int) ∈ tb := mt 565 rfl rfl
theorem k_566 : Cond.methodLink RL 65 yX6_clear ∈ tb := mt 566 (by decide +kernel) rfl
theorem k_567 : Cond.instanceMethod yX6_clear ∈ tb := mt 567 (by decide +kernel) rfl
theorem k_568 : Cond.selects RX6 yX6_clear yX6_clear ∈ tb := mt 568 (by decide +kernel) rfl
set_option maxRecDepth 20000 in
theorem k_569 : Cond.code yX6_clear cX6_clear 2 (some .int) ∈ tb := mt 569 rfl rfl
theorem k_1028 : Cond.methodLink RL 56 yX7_call ∈ tb := mt 1028 (by decide +kernel) rfl
theorem k_1029 : Cond.instanceMethod yX7_call ∈ tb := mt 1029 (by decide +kernel) rfl
theorem k_1030 : Cond.selects RX7 yX7_call yX7_call ∈ tb := mt 1030 (by decide +kernel) rfl
set_option maxRecDepth 20000 in
theorem k_1031 : Cond.code yX7_call cX7_call 6 (some .int) ∈ tb := mt 1031 rfl rfl
theorem k_1080 : Cond.methodLink RL 60 yX7_outside ∈ tb := mt 1080 (by decide +kernel) rfl
theorem k_1081 : Cond.instanceMethod yX7_outside ∈ tb := mt 1081 (by decide +kernel) rfl
theorem k_1082 : Cond.selects RX7 yX7_outside yX7_outside ∈ tb := mt 1082 (by decide +kernel) rfl
set_option maxRecDepth 20000 in
theorem k_1083 : Cond.code yX7_outside cX7_outside 2 (some .int) ∈ tb := mt 1083 rfl rfl
theorem k_1084 : Cond.methodLink RL 64 yX7_row ∈ tb := mt 1084 (by decide +kernel) rfl
theorem k_1085 : Cond.instanceMethod yX7_row ∈ tb := mt 1085 (by decide +kernel) rfl
theorem k_1086 : Cond.selects RX7 yX7_row yX7_row ∈ tb := mt 1086 (by decide +kernel) rfl
set_option maxRecDepth 20000 in
theorem k_1087 : Cond.code yX7_row cX7_row 4 (some .int) ∈ tb := mt 1087 rfl rfl
theorem k_1088 : Cond.methodLink RL 68 yX7_clear ∈ tb := mt 1088 (by decide +kernel) rfl
theorem k_1089 : Cond.instanceMethod yX7_clear ∈ tb := mt 1089 (by decide +kernel) rfl
theorem k_1090 : Cond.selects RX7 yX7_clear yX7_clear ∈ tb := mt 1090 (by decide +kernel) rfl
set_option maxRecDepth 20000 in
theorem k_1091 : Cond.code yX7_clear cX7_clear 2 (some .int) ∈ tb := mt 1091 rfl rfl
theorem dL_law_434 : decode cL_law 434 = .ok (.aload_n 1, 1) := by decide +kernel
theorem dL_law_435 : decode cL_law 435 = .ok (.aload_n 0, 1) := by decide +kernel
theorem dL_law_436 : decode cL_law 436 = .ok (.iload_n 3, 1) := by decide +kernel
theorem dL_law_437 : decode cL_law 437 = .ok (.iconst 1, 1) := by decide +kernel
theorem dL_law_438 : decode cL_law 438 = .ok (.iadd, 1) := by decide +kernel
theorem dL_law_439 : decode cL_law 439 = .ok (.iaload, 1) := by decide +kernel
theorem dL_law_440 : decode cL_law 440 = .ok (.aload_n 0, 1) := by decide +kernel
theorem dL_law_441 : decode cL_law 441 = .ok (.iload_n 3, 1) := by decide +kernel
theorem dL_law_442 : decode cL_law 442 = .ok (.iconst 2, 1) := by decide +kernel
theorem dL_law_443 : decode cL_law 443 = .ok (.iadd, 1) := by decide +kernel
theorem dL_law_444 : decode cL_law 444 = .ok (.iaload, 1) := by decide +kernel
theorem dL_law_445 : decode cL_law 445 = .ok (.aload_n 0, 1) := by decide +kernel
theorem dL_law_446 : decode cL_law 446 = .ok (.iload_n 3, 1) := by decide +kernel
theorem dL_law_447 : decode cL_law 447 = .ok (.iconst 3, 1) := by decide +kernel
theorem dL_law_448 : decode cL_law 448 = .ok (.iadd, 1) := by decide +kernel
theorem dL_law_449 : decode cL_law 449 = .ok (.iaload, 1) := by decide +kernel
theorem dL_law_450 : decode cL_law 450 = .ok (.aload_n 0, 1) := by decide +kernel
theorem dL_law_451 : decode cL_law 451 = .ok (.iload_n 3, 1) := by decide +kernel
theorem dL_law_452 : decode cL_law 452 = .ok (.iconst 4, 1) := by decide +kernel
theorem dL_law_453 : decode cL_law 453 = .ok (.iadd, 1) := by decide +kernel
theorem dL_law_454 : decode cL_law 454 = .ok (.iaload, 1) := by decide +kernel
theorem dL_law_455 : decode cL_law 455 = .ok (.invokevirtual 52, 3) := by decide +kernel
theorem dL_law_458 : decode cL_law 458 = .ok (.pop, 1) := by decide +kernel
theorem dL_law_459 : decode cL_law 459 = .ok (.aload_n 2, 1) := by decide +kernel
theorem dL_law_460 : decode cL_law 460 = .ok (.aload_n 0, 1) := by decide +kernel
theorem dL_law_461 : decode cL_law 461 = .ok (.iload_n 3, 1) := by decide +kernel
theorem dL_law_462 : decode cL_law 462 = .ok (.iconst 1, 1) := by decide +kernel
theorem dL_law_463 : decode cL_law 463 = .ok (.iadd, 1) := by decide +kernel
theorem dL_law_464 : decode cL_law 464 = .ok (.iaload, 1) := by decide +kernel
theorem dL_law_465 : decode cL_law 465 = .ok (.aload_n 0, 1) := by decide +kernel
theorem dL_law_466 : decode cL_law 466 = .ok (.iload_n 3, 1) := by decide +kernel
theorem dL_law_467 : decode cL_law 467 = .ok (.iconst 2, 1) := by decide +kernel
theorem dL_law_468 : decode cL_law 468 = .ok (.iadd, 1) := by decide +kernel
theorem dL_law_469 : decode cL_law 469 = .ok (.iaload, 1) := by decide +kernel
theorem dL_law_470 : decode cL_law 470 = .ok (.aload_n 0, 1) := by decide +kernel
theorem dL_law_471 : decode cL_law 471 = .ok (.iload_n 3, 1) := by decide +kernel
theorem dL_law_472 : decode cL_law 472 = .ok (.iconst 3, 1) := by decide +kernel
theorem dL_law_473 : decode cL_law 473 = .ok (.iadd, 1) := by decide +kernel
theorem dL_law_474 : decode cL_law 474 = .ok (.iaload, 1) := by decide +kernel
theorem dL_law_475 : decode cL_law 475 = .ok (.aload_n 0, 1) := by decide +kernel
theorem dL_law_476 : decode cL_law 476 = .ok (.iload_n 3, 1) := by decide +kernel
theorem dL_law_477 : decode cL_law 477 = .ok (.iconst 4, 1) := by decide +kernel
theorem dL_law_478 : decode cL_law 478 = .ok (.iadd, 1) := by decide +kernel
theorem dL_law_479 : decode cL_law 479 = .ok (.iaload, 1) := by decide +kernel
theorem dL_law_480 : decode cL_law 480 = .ok (.invokevirtual 56, 3) := by decide +kernel
theorem dL_law_483 : decode cL_law 483 = .ok (.pop, 1) := by decide +kernel
theorem dL_law_484 : decode cL_law 484 = .ok (.goto 345, 3) := by decide +kernel
theorem dL_law_487 : decode cL_law 487 = .ok (.aload_n 1, 1) := by decide +kernel
theorem dL_law_488 : decode cL_law 488 = .ok (.aload_n 0, 1) := by decide +kernel
theorem dL_law_489 : decode cL_law 489 = .ok (.iload_n 3, 1) := by decide +kernel
theorem dL_law_490 : decode cL_law 490 = .ok (.iconst 1, 1) := by decide +kernel
theorem dL_law_491 : decode cL_law 491 = .ok (.iadd, 1) := by decide +kernel
theorem dL_law_492 : decode cL_law 492 = .ok (.iaload, 1) := by decide +kernel
theorem dL_law_493 : decode cL_law 493 = .ok (.invokevirtual 57, 3) := by decide +kernel
theorem dL_law_496 : decode cL_law 496 = .ok (.pop, 1) := by decide +kernel
theorem dL_law_497 : decode cL_law 497 = .ok (.aload_n 2, 1) := by decide +kernel
theorem dL_law_498 : decode cL_law 498 = .ok (.aload_n 0, 1) := by decide +kernel
theorem dL_law_499 : decode cL_law 499 = .ok (.iload_n 3, 1) := by decide +kernel
theorem dL_law_500 : decode cL_law 500 = .ok (.iconst 1, 1) := by decide +kernel
theorem dL_law_501 : decode cL_law 501 = .ok (.iadd, 1) := by decide +kernel
theorem dL_law_502 : decode cL_law 502 = .ok (.iaload, 1) := by decide +kernel
theorem dL_law_503 : decode cL_law 503 = .ok (.invokevirtual 60, 3) := by decide +kernel
theorem dL_law_506 : decode cL_law 506 = .ok (.pop, 1) := by decide +kernel
theorem dL_law_507 : decode cL_law 507 = .ok (.goto 322, 3) := by decide +kernel
theorem dL_law_510 : decode cL_law 510 = .ok (.aload_n 1, 1) := by decide +kernel
theorem dL_law_511 : decode cL_law 511 = .ok (.aload_n 0, 1) := by decide +kernel
theorem dL_law_512 : decode cL_law 512 = .ok (.iload_n 3, 1) := by decide +kernel
theorem dL_law_513 : decode cL_law 513 = .ok (.iconst 1, 1) := by decide +kernel
theorem dL_law_514 : decode cL_law 514 = .ok (.iadd, 1) := by decide +kernel
theorem dL_law_515 : decode cL_law 515 = .ok (.iaload, 1) := by decide +kernel
theorem dL_law_516 : decode cL_law 516 = .ok (.aload_n 0, 1) := by decide +kernel
theorem dL_law_517 : decode cL_law 517 = .ok (.iload_n 3, 1) := by decide +kernel
theorem dL_law_518 : decode cL_law 518 = .ok (.iconst 2, 1) := by decide +kernel
theorem dL_law_519 : decode cL_law 519 = .ok (.iadd, 1) := by decide +kernel
theorem dL_law_520 : decode cL_law 520 = .ok (.iaload, 1) := by decide +kernel
theorem dL_law_521 : decode cL_law 521 = .ok (.aload_n 0, 1) := by decide +kernel
theorem dL_law_522 : decode cL_law 522 = .ok (.iload_n 3, 1) := by decide +kernel
theorem dL_law_523 : decode cL_law 523 = .ok (.iconst 3, 1) := by decide +kernel
theorem dL_law_524 : decode cL_law 524 = .ok (.iadd, 1) := by decide +kernel
theorem dL_law_525 : decode cL_law 525 = .ok (.iaload, 1) := by decide +kernel
theorem dL_law_526 : decode cL_law 526 = .ok (.invokevirtual 61, 3) := by decide +kernel
theorem dL_law_529 : decode cL_law 529 = .ok (.pop, 1) := by decide +kernel
theorem dL_law_530 : decode cL_law 530 = .ok (.aload_n 2, 1) := by decide +kernel
theorem dL_law_531 : decode cL_law 531 = .ok (.aload_n 0, 1) := by decide +kernel
theorem dL_law_532 : decode cL_law 532 = .ok (.iload_n 3, 1) := by decide +kernel
theorem dL_law_533 : decode cL_law 533 = .ok (.iconst 1, 1) := by decide +kernel
theorem dL_law_534 : decode cL_law 534 = .ok (.iadd, 1) := by decide +kernel
theorem dL_law_535 : decode cL_law 535 = .ok (.iaload, 1) := by decide +kernel
theorem dL_law_536 : decode cL_law 536 = .ok (.aload_n 0, 1) := by decide +kernel
theorem dL_law_537 : decode cL_law 537 = .ok (.iload_n 3, 1) := by decide +kernel
theorem dL_law_538 : decode cL_law 538 = .ok (.iconst 2, 1) := by decide +kernel
theorem dL_law_539 : decode cL_law 539 = .ok (.iadd, 1) := by decide +kernel
theorem dL_law_540 : decode cL_law 540 = .ok (.iaload, 1) := by decide +kernel
theorem dL_law_541 : decode cL_law 541 = .ok (.aload_n 0, 1) := by decide +kernel
theorem dL_law_542 : decode cL_law 542 = .ok (.iload_n 3, 1) := by decide +kernel
theorem dL_law_543 : decode cL_law 543 = .ok (.iconst 3, 1) := by decide +kernel
theorem dL_law_544 : decode cL_law 544 = .ok (.iadd, 1) := by decide +kernel
theorem dL_law_545 : decode cL_law 545 = .ok (.iaload, 1) := by decide +kernel
theorem dL_law_546 : decode cL_law 546 = .ok (.invokevirtual 64, 3) := by decide +kernel
theorem dL_law_549 : decode cL_law 549 = .ok (.pop, 1) := by decide +kernel
theorem dL_law_550 : decode cL_law 550 = .ok (.goto 279, 3) := by decide +kernel
theorem dL_law_553 : decode cL_law 553 = .ok (.aload_n 1, 1) := by decide +kernel
theorem dL_law_554 : decode cL_law 554 = .ok (.invokevirtual 65, 3) := by decide +kernel
theorem dL_law_557 : decode cL_law 557 = .ok (.pop, 1) := by decide +kernel
theorem dL_law_558 : decode cL_law 558 = .ok (.aload_n 2, 1) := by decide +kernel
theorem dL_law_559 : decode cL_law 559 = .ok (.invokevirtual 68, 3) := by decide +kernel
theorem dL_law_562 : decode cL_law 562 = .ok (.pop, 1) := by decide +kernel
theorem dL_law_563 : decode cL_law 563 = .ok (.goto 266, 3) := by decide +kernel
set_option maxHeartbeats 4000000 in
set_option maxRecDepth 100000 in
/-- call -/
theorem law_8 {p : Program} {l : Launch} {e : Env} {s : State} {m : MethodId} {below : List Frame} {meth : Method} {c : Code} {D : va_G} {cI cZ cS cR : ClassId} {N0 : NT} {b L : Nat} {xs : Nat → Int32} (hB : Tz p s m meth c #[Value.ref b] code 4 RL D cI cZ cS cR N0) (hAs : N0.1 = s.heap.size) (hX : va_X b L xs s s.heap) (hbl : b < s.heap.size) (hL : L ≤ 2560) (hr : meth.sig.returnType = ret) {cells slots : Nat} (hcl : cells + 4 ≤ 600000) (hsl : slots + 28 ≤ 7302250) {H : Heap} {locs : List Loc} {ls : Array Slot} (g : GS) (ox om : Nat) (pa : Nat) (pb : Nat) (i o1 : Int32) (hT : Tv D cI cZ cS cR N0 s.heap H locs g) (hI : Inv g) (l_i : 0 ≤ i.toInt) (u_i : i.toInt + 5 ≤ L) : g.1 ox = 7 → g.1 om = 8 → g.2.1 om 22 = .int o1 → 0 ≤ o1.toInt → o1.toInt ≤ 12 * i.toInt → PX 48 2 3 71 72 g om → PX 8 39 40 84 85 g om → g.2.1 ox 5 = .ref pa → g.2.1 om 35 = .ref pb → g.1 pa = 60 → g.1 pb = 83 → g.2.2.1 pa = 4 → g.2.2.1 pb = 4 → QE g pa pb → (hl : lv_has ls 4 [(3, .int i), (2, .ref om), (1, .ref ox), (0, .ref b)]) → (K : ∀ (g1 : GS) (o1_1 : Int32) (H1 : Heap) (locs1 : List Loc), Tv D cI cZ cS cR N0 s.heap H1 locs1 g1 → Inv g1 → g1.1 ox = 7 → g1.1 om = 8 → g1.2.1 om 22 = .int o1_1 → 0 ≤ o1_1.toInt → o1_1.toInt ≤ 12 * i.toInt + 60 → PX 48 2 3 71 72 g1 om → PX 8 39 40 84 85 g1 om → g1.2.1 ox 5 = .ref pa → g1.2.1 om 35 = .ref pb → g1.1 pa = 60 → g1.1 pb = 83 → g1.2.2.1 pa = 4 → g1.2.2.1 pb = 4 → QE g1 pa pb → W p l e room_1 s m #[Value.ref b] below meth c H1 locs1 (cells + 4) (slots + 28) (lw_Z below #[Value.ref b] s) (F0 m 829 ls [])) → W p l e room_1 s m #[Value.ref b] below meth c H locs cells slots (lw_Z below #[Value.ref b] s) (F0 m 434 ls []) := by
  intro r_ox r_om ko l_o u_o hw hN0 k5 k35 r_pa r_pb n_pa n_pb hq hl K
  have hx := hB.1
  have hb := hB.2.1
  have hE : Ex g g := Ex.rf
  have hM : Sm mdA g g := sm_all
  refine lv_aload_n hx hb dL_law_434 rfl (lv_at hl 2 rfl) ?_
  refine lv_aload_n hx hb dL_law_435 rfl (lv_at hl 3 rfl) ?_
  refine lv_iload_n hx hb dL_law_436 rfl (lv_at hl 0 rfl) ?_
  refine lv_iconst (v := 1) hx hb dL_law_437 (by decide) ?_
  refine lv_iadd hx hb dL_law_438 ?_
  refine lv_topi (fun z_1 ez_1 => ?_)
  have e_z_1 : z_1.toInt = i.toInt + 1 := i_add ez_1 rfl (by decide) (by omega) (by omega)
  refine va_sld hx hb hX hbl (fun q => by have q_ : N0.1 ≤ b := q; omega) hT.2 (i_in (n := L) rfl (by omega) (by omega)) dL_law_439 ?_
  refine lv_topi (fun u_2 e_u_2 => ?_)
  refine lv_aload_n hx hb dL_law_440 rfl (lv_at hl 3 rfl) ?_
  refine lv_iload_n hx hb dL_law_441 rfl (lv_at hl 0 rfl) ?_
  refine lv_iconst (v := 2) hx hb dL_law_442 (by decide) ?_
  refine lv_iadd hx hb dL_law_443 ?_
  refine lv_topi (fun z_3 ez_3 => ?_)
  have e_z_3 : z_3.toInt = i.toInt + 2 := i_add ez_3 rfl (by decide) (by omega) (by omega)
  refine va_sld hx hb hX hbl (fun q => by have q_ : N0.1 ≤ b := q; omega) hT.2 (i_in (n := L) rfl (by omega) (by omega)) dL_law_444 ?_
  refine lv_topi (fun u_4 e_u_4 => ?_)
  refine lv_aload_n hx hb dL_law_445 rfl (lv_at hl 3 rfl) ?_
  refine lv_iload_n hx hb dL_law_446 rfl (lv_at hl 0 rfl) ?_
  refine lv_iconst (v := 3) hx hb dL_law_447 (by decide) ?_
  refine lv_iadd hx hb dL_law_448 ?_
  refine lv_topi (fun z_5 ez_5 => ?_)
  have e_z_5 : z_5.toInt = i.toInt + 3 := i_add ez_5 rfl (by decide) (by omega) (by omega)
  refine va_sld hx hb hX hbl (fun q => by have q_ : N0.1 ≤ b := q; omega) hT.2 (i_in (n := L) rfl (by omega) (by omega)) dL_law_449 ?_
  refine lv_topi (fun u_6 e_u_6 => ?_)
  refine lv_aload_n hx hb dL_law_450 rfl (lv_at hl 3 rfl) ?_
  refine lv_iload_n hx hb dL_law_451 rfl (lv_at hl 0 rfl) ?_
  refine lv_iconst (v := 4) hx hb dL_law_452 (by decide) ?_
  refine lv_iadd hx hb dL_law_453 ?_
  refine lv_topi (fun z_7 ez_7 => ?_)
  have e_z_7 : z_7.toInt = i.toInt + 4 := i_add ez_7 rfl (by decide) (by omega) (by omega)
  refine va_sld hx hb hX hbl (fun q => by have q_ : N0.1 ≤ b := q; omega) hT.2 (i_in (n := L) rfl (by omega) (by omega)) dL_law_454 ?_
  refine lv_topi (fun u_8 e_u_8 => ?_)
  refine t_callV (n := 4) (As := [.int u_2, .int u_4, .int u_6, .int u_8]) (rest := []) (ci := 6) hB hT hl.1 (P_call l D cI cZ cS cR N0 g hI ox u_2 u_4 u_6 u_8 r_ox) (ro_ci r_ox rfl) rfl k_485 k_57 k_482 k_483 k_484 (by decide +kernel) ⟨(Nat.le_of_ble_eq_true rfl), (Nat.le_of_ble_eq_true rfl)⟩ rfl (Nat.le_of_ble_eq_true rfl) ⟨(by show _ ≤ _; first | exact Nat.le_of_ble_eq_true rfl | (simp only [room_1]; omega)), (by show _ ≤ _; first | exact Nat.le_of_ble_eq_true rfl | (simp only [room_1]; omega))⟩ dL_law_455 (fun v g_9 H locs hp hT => ?_)
  obtain ⟨r_10, rfl, hI, x_12, m_11⟩ := hp
  have hw : PX 48 2 3 71 72 g_9 om := hw.mono m_11 x_12 r_om (by decide) (by decide) rfl rfl rfl rfl
  have hN0 : PX 8 39 40 84 85 g_9 om := hN0.mono m_11 x_12 r_om (by decide) (by decide) rfl rfl rfl rfl
  have hq : QE g_9 pa pb := hq.sm m_11 r_pa (by decide) rfl r_pb (by decide) rfl
  have hM : Sm mdA g g_9 := sm_all
  have hE : Ex g g_9 := hE.tr x_12
  have r_13 : g_9.1 ox = 7 := (Ex.r x_12 r_ox (by decide))
  have r_14 : g_9.1 om = 8 := (Ex.r x_12 r_om (by decide))
  have r_15 : g_9.1 pa = 60 := (Ex.r x_12 r_pa (by decide))
  have r_16 : g_9.1 pb = 83 := (Ex.r x_12 r_pb (by decide))
  have n_17 : g_9.2.2.1 pa = 4 := (Ex.n x_12 r_pa (by decide) n_pa)
  have n_18 : g_9.2.2.1 pb = 4 := (Ex.n x_12 r_pb (by decide) n_pb)
  have kn_19 : g_9.2.1 om 22 = .int o1 := (Sm.v m_11 r_om (by decide) rfl ko)
  have kn_20 : g_9.2.1 ox 5 = .ref pa := (Sm.v m_11 r_ox (by decide) rfl k5)
  have kn_21 : g_9.2.1 om 35 = .ref pb := (Sm.v m_11 r_om (by decide) rfl k35)
  refine W.eq (g2 := F0 m 458 ls [.int r_10]) rfl ?_
  refine lv_pop hx hb dL_law_458 rfl ?_
  refine lv_aload_n hx hb dL_law_459 rfl (lv_at hl 1 rfl) ?_
  refine lv_aload_n hx hb dL_law_460 rfl (lv_at hl 3 rfl) ?_
  refine lv_iload_n hx hb dL_law_461 rfl (lv_at hl 0 rfl) ?_
  refine lv_iconst (v := 1) hx hb dL_law_462 (by decide) ?_
  refine lv_iadd hx hb dL_law_463 ?_
  refine lv_topi (fun z_22 ez_22 => ?_)
  have e_z_22 : z_22.toInt = i.toInt + 1 := i_add ez_22 rfl (by decide) (by omega) (by omega)
  refine va_sld hx hb hX hbl (fun q => by have q_ : N0.1 ≤ b := q; omega) hT.2 (i_in (n := L) rfl (by omega) (by omega)) dL_law_464 ?_
  refine lv_topi (fun u_23 e_u_23 => ?_)
  refine lv_aload_n hx hb dL_law_465 rfl (lv_at hl 3 rfl) ?_
  refine lv_iload_n hx hb dL_law_466 rfl (lv_at hl 0 rfl) ?_
  refine lv_iconst (v := 2) hx hb dL_law_467 (by decide) ?_
  refine lv_iadd hx hb dL_law_468 ?_
  refine lv_topi (fun z_24 ez_24 => ?_)
  have e_z_24 : z_24.toInt = i.toInt + 2 := i_add ez_24 rfl (by decide) (by omega) (by omega)
  refine va_sld hx hb hX hbl (fun q => by have q_ : N0.1 ≤ b := q; omega) hT.2 (i_in (n := L) rfl (by omega) (by omega)) dL_law_469 ?_
  refine lv_topi (fun u_25 e_u_25 => ?_)
  refine lv_aload_n hx hb dL_law_470 rfl (lv_at hl 3 rfl) ?_
  refine lv_iload_n hx hb dL_law_471 rfl (lv_at hl 0 rfl) ?_
  refine lv_iconst (v := 3) hx hb dL_law_472 (by decide) ?_
  refine lv_iadd hx hb dL_law_473 ?_
  refine lv_topi (fun z_26 ez_26 => ?_)
  have e_z_26 : z_26.toInt = i.toInt + 3 := i_add ez_26 rfl (by decide) (by omega) (by omega)
  refine va_sld hx hb hX hbl (fun q => by have q_ : N0.1 ≤ b := q; omega) hT.2 (i_in (n := L) rfl (by omega) (by omega)) dL_law_474 ?_
  refine lv_topi (fun u_27 e_u_27 => ?_)
  refine lv_aload_n hx hb dL_law_475 rfl (lv_at hl 3 rfl) ?_
  refine lv_iload_n hx hb dL_law_476 rfl (lv_at hl 0 rfl) ?_
  refine lv_iconst (v := 4) hx hb dL_law_477 (by decide) ?_
  refine lv_iadd hx hb dL_law_478 ?_
  refine lv_topi (fun z_28 ez_28 => ?_)
  have e_z_28 : z_28.toInt = i.toInt + 4 := i_add ez_28 rfl (by decide) (by omega) (by omega)
  refine va_sld hx hb hX hbl (fun q => by have q_ : N0.1 ≤ b := q; omega) hT.2 (i_in (n := L) rfl (by omega) (by omega)) dL_law_479 ?_
  refine lv_topi (fun u_29 e_u_29 => ?_)
  refine t_callV (n := 4) (As := [.int u_23, .int u_25, .int u_27, .int u_29]) (rest := []) (ci := 7) hB hT hl.1 (m_call l D cI cZ cS cR N0 g_9 hI om u_23 u_25 u_27 u_29 o1 r_14 kn_19 (by omega) (by omega) hw) (ro_ci r_14 rfl) rfl k_1031 k_65 k_1028 k_1029 k_1030 (by decide +kernel) ⟨(Nat.le_of_ble_eq_true rfl), (Nat.le_of_ble_eq_true rfl)⟩ rfl (Nat.le_of_ble_eq_true rfl) ⟨(by show _ ≤ _; first | exact Nat.le_of_ble_eq_true rfl | (simp only [room_1]; omega)), (by show _ ≤ _; first | exact Nat.le_of_ble_eq_true rfl | (simp only [room_1]; omega))⟩ dL_law_480 (fun v g_30 H locs hp hT => ?_)
  obtain ⟨r_31, o2_32, rfl, hI, x_36, m_35, f_33, f_34⟩ := hp
  have hw : PX 48 2 3 71 72 g_30 om := hw.mono m_35 x_36 r_14 (by decide) (by decide) rfl rfl rfl rfl
  have hN0 : PX 8 39 40 84 85 g_30 om := hN0.mono m_35 x_36 r_14 (by decide) (by decide) rfl rfl rfl rfl
  have hq : QE g_30 pa pb := hq.sm m_35 r_15 (by decide) rfl r_16 (by decide) rfl
  have hM : Sm mdA g g_30 := sm_all
  have hE : Ex g g_30 := hE.tr x_36
  have r_37 : g_30.1 ox = 7 := (Ex.r x_36 r_13 (by decide))
  have r_38 : g_30.1 om = 8 := (Ex.r x_36 r_14 (by decide))
  have r_39 : g_30.1 pa = 60 := (Ex.r x_36 r_15 (by decide))
  have r_40 : g_30.1 pb = 83 := (Ex.r x_36 r_16 (by decide))
  have n_41 : g_30.2.2.1 pa = 4 := (Ex.n x_36 r_15 (by decide) n_17)
  have n_42 : g_30.2.2.1 pb = 4 := (Ex.n x_36 r_16 (by decide) n_18)
  have kn_43 : g_30.2.1 ox 5 = .ref pa := (Sm.v m_35 r_13 (by decide) rfl kn_20)
  have kn_44 : g_30.2.1 om 35 = .ref pb := (Sm.v m_35 r_14 (by decide) rfl kn_21)
  refine W.eq (g2 := F0 m 483 ls [.int r_31]) rfl ?_
  refine lv_pop hx hb dL_law_483 rfl ?_
  refine lv_goto (tgt := 829) hx hb dL_law_484 (by decide) ?_
  refine W.widen (k := cells + 4) (n := slots + 28) (by omega) (by omega) ?_
  exact K g_30 o2_32 H locs hT hI r_37 r_38 f_33 (by have e0_ : (0 : Int32).toInt = 0 := (by decide); omega) (by have e0_ : (0 : Int32).toInt = 0 := (by decide); omega) hw hN0 kn_43 kn_44 r_39 r_40 n_41 n_42 hq
set_option maxHeartbeats 4000000 in
set_option maxRecDepth 100000 in
/-- outside -/
theorem law_9 {p : Program} {l : Launch} {e : Env} {s : State} {m : MethodId} {below : List Frame} {meth : Method} {c : Code} {D : va_G} {cI cZ cS cR : ClassId} {N0 : NT} {b L : Nat} {xs : Nat → Int32} (hB : Tz p s m meth c #[Value.ref b] code 4 RL D cI cZ cS cR N0) (hAs : N0.1 = s.heap.size) (hX : va_X b L xs s s.heap) (hbl : b < s.heap.size) (hL : L ≤ 2560) (hr : meth.sig.returnType = ret) {cells slots : Nat} (hcl : cells + 4 ≤ 600000) (hsl : slots + 28 ≤ 7302250) {H : Heap} {locs : List Loc} {ls : Array Slot} (g : GS) (ox om : Nat) (pa : Nat) (pb : Nat) (i o1 : Int32) (hT : Tv D cI cZ cS cR N0 s.heap H locs g) (hI : Inv g) (l_i : 0 ≤ i.toInt) (u_i : i.toInt + 5 ≤ L) : g.1 ox = 7 → g.1 om = 8 → g.2.1 om 22 = .int o1 → 0 ≤ o1.toInt → o1.toInt ≤ 12 * i.toInt → PX 48 2 3 71 72 g om → PX 8 39 40 84 85 g om → g.2.1 ox 5 = .ref pa → g.2.1 om 35 = .ref pb → g.1 pa = 60 → g.1 pb = 83 → g.2.2.1 pa = 4 → g.2.2.1 pb = 4 → QE g pa pb → (hl : lv_has ls 4 [(3, .int i), (2, .ref om), (1, .ref ox), (0, .ref b)]) → (K : ∀ (g1 : GS) (o1_1 : Int32) (H1 : Heap) (locs1 : List Loc), Tv D cI cZ cS cR N0 s.heap H1 locs1 g1 → Inv g1 → g1.1 ox = 7 → g1.1 om = 8 → g1.2.1 om 22 = .int o1_1 → 0 ≤ o1_1.toInt → o1_1.toInt ≤ 12 * i.toInt + 60 → PX 48 2 3 71 72 g1 om → PX 8 39 40 84 85 g1 om → g1.2.1 ox 5 = .ref pa → g1.2.1 om 35 = .ref pb → g1.1 pa = 60 → g1.1 pb = 83 → g1.2.2.1 pa = 4 → g1.2.2.1 pb = 4 → QE g1 pa pb → W p l e room_1 s m #[Value.ref b] below meth c H1 locs1 (cells + 4) (slots + 28) (lw_Z below #[Value.ref b] s) (F0 m 829 ls [])) → W p l e room_1 s m #[Value.ref b] below meth c H locs cells slots (lw_Z below #[Value.ref b] s) (F0 m 487 ls []) := by
  intro r_ox r_om ko l_o u_o hw hN0 k5 k35 r_pa r_pb n_pa n_pb hq hl K
  have hx := hB.1
  have hb := hB.2.1
  have hE : Ex g g := Ex.rf
  have hM : Sm mdA g g := sm_all
  refine lv_aload_n hx hb dL_law_487 rfl (lv_at hl 2 rfl) ?_
  refine lv_aload_n hx hb dL_law_488 rfl (lv_at hl 3 rfl) ?_
  refine lv_iload_n hx hb dL_law_489 rfl (lv_at hl 0 rfl) ?_
  refine lv_iconst (v := 1) hx hb dL_law_490 (by decide) ?_
  refine lv_iadd hx hb dL_law_491 ?_
  refine lv_topi (fun z_1 ez_1 => ?_)
  have e_z_1 : z_1.toInt = i.toInt + 1 := i_add ez_1 rfl (by decide) (by omega) (by omega)
  refine va_sld hx hb hX hbl (fun q => by have q_ : N0.1 ≤ b := q; omega) hT.2 (i_in (n := L) rfl (by omega) (by omega)) dL_law_492 ?_
  refine lv_topi (fun u_2 e_u_2 => ?_)
  refine t_callV (n := 1) (As := [.int u_2]) (rest := []) (ci := 6) hB hT hl.1 (P_outside l D cI cZ cS cR N0 g hI ox u_2 r_ox) (ro_ci r_ox rfl) rfl k_558 k_57 k_555 k_556 k_557 (by decide +kernel) ⟨(Nat.le_of_ble_eq_true rfl), (Nat.le_of_ble_eq_true rfl)⟩ rfl (Nat.le_of_ble_eq_true rfl) ⟨(by show _ ≤ _; first | exact Nat.le_of_ble_eq_true rfl | (simp only [room_1]; omega)), (by show _ ≤ _; first | exact Nat.le_of_ble_eq_true rfl | (simp only [room_1]; omega))⟩ dL_law_493 (fun v g_3 H locs hp hT => ?_)
  obtain ⟨r_4, rfl, hI, x_6, m_5⟩ := hp
  have hw : PX 48 2 3 71 72 g_3 om := hw.mono m_5 x_6 r_om (by decide) (by decide) rfl rfl rfl rfl
  have hN0 : PX 8 39 40 84 85 g_3 om := hN0.mono m_5 x_6 r_om (by decide) (by decide) rfl rfl rfl rfl
  have hq : QE g_3 pa pb := hq.sm m_5 r_pa (by decide) rfl r_pb (by decide) rfl
  have hM : Sm mdA g g_3 := sm_all
  have hE : Ex g g_3 := hE.tr x_6
  have r_7 : g_3.1 ox = 7 := (Ex.r x_6 r_ox (by decide))
  have r_8 : g_3.1 om = 8 := (Ex.r x_6 r_om (by decide))
  have r_9 : g_3.1 pa = 60 := (Ex.r x_6 r_pa (by decide))
  have r_10 : g_3.1 pb = 83 := (Ex.r x_6 r_pb (by decide))
  have n_11 : g_3.2.2.1 pa = 4 := (Ex.n x_6 r_pa (by decide) n_pa)
  have n_12 : g_3.2.2.1 pb = 4 := (Ex.n x_6 r_pb (by decide) n_pb)
  have kn_13 : g_3.2.1 om 22 = .int o1 := (Sm.v m_5 r_om (by decide) rfl ko)
  have kn_14 : g_3.2.1 ox 5 = .ref pa := (Sm.v m_5 r_ox (by decide) rfl k5)
  have kn_15 : g_3.2.1 om 35 = .ref pb := (Sm.v m_5 r_om (by decide) rfl k35)
  refine W.eq (g2 := F0 m 496 ls [.int r_4]) rfl ?_
  refine lv_pop hx hb dL_law_496 rfl ?_
  refine lv_aload_n hx hb dL_law_497 rfl (lv_at hl 1 rfl) ?_
  refine lv_aload_n hx hb dL_law_498 rfl (lv_at hl 3 rfl) ?_
  refine lv_iload_n hx hb dL_law_499 rfl (lv_at hl 0 rfl) ?_
  refine lv_iconst (v := 1) hx hb dL_law_500 (by decide) ?_
  refine lv_iadd hx hb dL_law_501 ?_
  refine lv_topi (fun z_16 ez_16 => ?_)
  have e_z_16 : z_16.toInt = i.toInt + 1 := i_add ez_16 rfl (by decide) (by omega) (by omega)
  refine va_sld hx hb hX hbl (fun q => by have q_ : N0.1 ≤ b := q; omega) hT.2 (i_in (n := L) rfl (by omega) (by omega)) dL_law_502 ?_
  refine lv_topi (fun u_17 e_u_17 => ?_)
  refine t_callV (n := 1) (As := [.int u_17]) (rest := []) (ci := 7) hB hT hl.1 (m_outside l D cI cZ cS cR N0 g_3 hI om u_17 o1 r_8 kn_13 (by omega) (by omega)) (ro_ci r_8 rfl) rfl k_1083 k_65 k_1080 k_1081 k_1082 (by decide +kernel) ⟨(Nat.le_of_ble_eq_true rfl), (Nat.le_of_ble_eq_true rfl)⟩ rfl (Nat.le_of_ble_eq_true rfl) ⟨(by show _ ≤ _; first | exact Nat.le_of_ble_eq_true rfl | (simp only [room_1]; omega)), (by show _ ≤ _; first | exact Nat.le_of_ble_eq_true rfl | (simp only [room_1]; omega))⟩ dL_law_503 (fun v g_18 H locs hp hT => ?_)
  obtain ⟨r_19, rfl, hI, x_21, m_20⟩ := hp
  have hw : PX 48 2 3 71 72 g_18 om := hw.mono m_20 x_21 r_8 (by decide) (by decide) rfl rfl rfl rfl
  have hN0 : PX 8 39 40 84 85 g_18 om := hN0.mono m_20 x_21 r_8 (by decide) (by decide) rfl rfl rfl rfl
  have hq : QE g_18 pa pb := hq.sm m_20 r_9 (by decide) rfl r_10 (by decide) rfl
  have hM : Sm mdA g g_18 := sm_all
  have hE : Ex g g_18 := hE.tr x_21
  have r_22 : g_18.1 ox = 7 := (Ex.r x_21 r_7 (by decide))
  have r_23 : g_18.1 om = 8 := (Ex.r x_21 r_8 (by decide))
  have r_24 : g_18.1 pa = 60 := (Ex.r x_21 r_9 (by decide))
  have r_25 : g_18.1 pb = 83 := (Ex.r x_21 r_10 (by decide))
  have n_26 : g_18.2.2.1 pa = 4 := (Ex.n x_21 r_9 (by decide) n_11)
  have n_27 : g_18.2.2.1 pb = 4 := (Ex.n x_21 r_10 (by decide) n_12)
  have kn_28 : g_18.2.1 om 22 = .int o1 := (Sm.v m_20 r_8 (by decide) rfl kn_13)
  have kn_29 : g_18.2.1 ox 5 = .ref pa := (Sm.v m_20 r_7 (by decide) rfl kn_14)
  have kn_30 : g_18.2.1 om 35 = .ref pb := (Sm.v m_20 r_8 (by decide) rfl kn_15)
  refine W.eq (g2 := F0 m 506 ls [.int r_19]) rfl ?_
  refine lv_pop hx hb dL_law_506 rfl ?_
  refine lv_goto (tgt := 829) hx hb dL_law_507 (by decide) ?_
  refine W.widen (k := cells + 4) (n := slots + 28) (by omega) (by omega) ?_
  exact K g_18 o1 H locs hT hI r_22 r_23 kn_28 (by have e0_ : (0 : Int32).toInt = 0 := (by decide); omega) (by have e0_ : (0 : Int32).toInt = 0 := (by decide); omega) hw hN0 kn_29 kn_30 r_24 r_25 n_26 n_27 hq
set_option maxHeartbeats 4000000 in
set_option maxRecDepth 100000 in
/-- row -/
theorem law_10 {p : Program} {l : Launch} {e : Env} {s : State} {m : MethodId} {below : List Frame} {meth : Method} {c : Code} {D : va_G} {cI cZ cS cR : ClassId} {N0 : NT} {b L : Nat} {xs : Nat → Int32} (hB : Tz p s m meth c #[Value.ref b] code 4 RL D cI cZ cS cR N0) (hAs : N0.1 = s.heap.size) (hX : va_X b L xs s s.heap) (hbl : b < s.heap.size) (hL : L ≤ 2560) (hr : meth.sig.returnType = ret) {cells slots : Nat} (hcl : cells + 4 ≤ 600000) (hsl : slots + 28 ≤ 7302250) {H : Heap} {locs : List Loc} {ls : Array Slot} (g : GS) (ox om : Nat) (pa : Nat) (pb : Nat) (i o1 : Int32) (hT : Tv D cI cZ cS cR N0 s.heap H locs g) (hI : Inv g) (l_i : 0 ≤ i.toInt) (u_i : i.toInt + 5 ≤ L) : g.1 ox = 7 → g.1 om = 8 → g.2.1 om 22 = .int o1 → 0 ≤ o1.toInt → o1.toInt ≤ 12 * i.toInt → PX 48 2 3 71 72 g om → PX 8 39 40 84 85 g om → g.2.1 ox 5 = .ref pa → g.2.1 om 35 = .ref pb → g.1 pa = 60 → g.1 pb = 83 → g.2.2.1 pa = 4 → g.2.2.1 pb = 4 → QE g pa pb → (hl : lv_has ls 4 [(3, .int i), (2, .ref om), (1, .ref ox), (0, .ref b)]) → (K : ∀ (g1 : GS) (o1_1 : Int32) (H1 : Heap) (locs1 : List Loc), Tv D cI cZ cS cR N0 s.heap H1 locs1 g1 → Inv g1 → g1.1 ox = 7 → g1.1 om = 8 → g1.2.1 om 22 = .int o1_1 → 0 ≤ o1_1.toInt → o1_1.toInt ≤ 12 * i.toInt + 60 → PX 48 2 3 71 72 g1 om → PX 8 39 40 84 85 g1 om → g1.2.1 ox 5 = .ref pa → g1.2.1 om 35 = .ref pb → g1.1 pa = 60 → g1.1 pb = 83 → g1.2.2.1 pa = 4 → g1.2.2.1 pb = 4 → QE g1 pa pb → W p l e room_1 s m #[Value.ref b] below meth c H1 locs1 (cells + 4) (slots + 28) (lw_Z below #[Value.ref b] s) (F0 m 829 ls [])) → W p l e room_1 s m #[Value.ref b] below meth c H locs cells slots (lw_Z below #[Value.ref b] s) (F0 m 510 ls []) := by
  intro r_ox r_om ko l_o u_o hw hN0 k5 k35 r_pa r_pb n_pa n_pb hq hl K
  have hx := hB.1
  have hb := hB.2.1
  have hE : Ex g g := Ex.rf
  have hM : Sm mdA g g := sm_all
  refine lv_aload_n hx hb dL_law_510 rfl (lv_at hl 2 rfl) ?_
  refine lv_aload_n hx hb dL_law_511 rfl (lv_at hl 3 rfl) ?_
  refine lv_iload_n hx hb dL_law_512 rfl (lv_at hl 0 rfl) ?_
  refine lv_iconst (v := 1) hx hb dL_law_513 (by decide) ?_
  refine lv_iadd hx hb dL_law_514 ?_
  refine lv_topi (fun z_1 ez_1 => ?_)
  have e_z_1 : z_1.toInt = i.toInt + 1 := i_add ez_1 rfl (by decide) (by omega) (by omega)
  refine va_sld hx hb hX hbl (fun q => by have q_ : N0.1 ≤ b := q; omega) hT.2 (i_in (n := L) rfl (by omega) (by omega)) dL_law_515 ?_
  refine lv_topi (fun u_2 e_u_2 => ?_)
  refine lv_aload_n hx hb dL_law_516 rfl (lv_at hl 3 rfl) ?_
  refine lv_iload_n hx hb dL_law_517 rfl (lv_at hl 0 rfl) ?_
  refine lv_iconst (v := 2) hx hb dL_law_518 (by decide) ?_
  refine lv_iadd hx hb dL_law_519 ?_
  refine lv_topi (fun z_3 ez_3 => ?_)
  have e_z_3 : z_3.toInt = i.toInt + 2 := i_add ez_3 rfl (by decide) (by omega) (by omega)
  refine va_sld hx hb hX hbl (fun q => by have q_ : N0.1 ≤ b := q; omega) hT.2 (i_in (n := L) rfl (by omega) (by omega)) dL_law_520 ?_
  refine lv_topi (fun u_4 e_u_4 => ?_)
  refine lv_aload_n hx hb dL_law_521 rfl (lv_at hl 3 rfl) ?_
  refine lv_iload_n hx hb dL_law_522 rfl (lv_at hl 0 rfl) ?_
  refine lv_iconst (v := 3) hx hb dL_law_523 (by decide) ?_
  refine lv_iadd hx hb dL_law_524 ?_
  refine lv_topi (fun z_5 ez_5 => ?_)
  have e_z_5 : z_5.toInt = i.toInt + 3 := i_add ez_5 rfl (by decide) (by omega) (by omega)
  refine va_sld hx hb hX hbl (fun q => by have q_ : N0.1 ≤ b := q; omega) hT.2 (i_in (n := L) rfl (by omega) (by omega)) dL_law_525 ?_
  refine lv_topi (fun u_6 e_u_6 => ?_)
  refine t_callV (n := 3) (As := [.int u_2, .int u_4, .int u_6]) (rest := []) (ci := 6) hB hT hl.1 (P_row l D cI cZ cS cR N0 g hI ox u_2 u_4 u_6 r_ox) (ro_ci r_ox rfl) rfl k_565 k_57 k_562 k_563 k_564 (by decide +kernel) ⟨(Nat.le_of_ble_eq_true rfl), (Nat.le_of_ble_eq_true rfl)⟩ rfl (Nat.le_of_ble_eq_true rfl) ⟨(by show _ ≤ _; first | exact Nat.le_of_ble_eq_true rfl | (simp only [room_1]; omega)), (by show _ ≤ _; first | exact Nat.le_of_ble_eq_true rfl | (simp only [room_1]; omega))⟩ dL_law_526 (fun v g_7 H locs hp hT => ?_)
  obtain ⟨r_8, rfl, hI, x_10, m_9⟩ := hp
  have hw : PX 48 2 3 71 72 g_7 om := hw.mono m_9 x_10 r_om (by decide) (by decide) rfl rfl rfl rfl
  have hN0 : PX 8 39 40 84 85 g_7 om := hN0.mono m_9 x_10 r_om (by decide) (by decide) rfl rfl rfl rfl
  have hq : QE g_7 pa pb := hq.sm m_9 r_pa (by decide) rfl r_pb (by decide) rfl
  have hM : Sm mdA g g_7 := sm_all
  have hE : Ex g g_7 := hE.tr x_10
  have r_11 : g_7.1 ox = 7 := (Ex.r x_10 r_ox (by decide))
  have r_12 : g_7.1 om = 8 := (Ex.r x_10 r_om (by decide))
  have r_13 : g_7.1 pa = 60 := (Ex.r x_10 r_pa (by decide))
  have r_14 : g_7.1 pb = 83 := (Ex.r x_10 r_pb (by decide))
  have n_15 : g_7.2.2.1 pa = 4 := (Ex.n x_10 r_pa (by decide) n_pa)
  have n_16 : g_7.2.2.1 pb = 4 := (Ex.n x_10 r_pb (by decide) n_pb)
  have kn_17 : g_7.2.1 om 22 = .int o1 := (Sm.v m_9 r_om (by decide) rfl ko)
  have kn_18 : g_7.2.1 ox 5 = .ref pa := (Sm.v m_9 r_ox (by decide) rfl k5)
  have kn_19 : g_7.2.1 om 35 = .ref pb := (Sm.v m_9 r_om (by decide) rfl k35)
  refine W.eq (g2 := F0 m 529 ls [.int r_8]) rfl ?_
  refine lv_pop hx hb dL_law_529 rfl ?_
  refine lv_aload_n hx hb dL_law_530 rfl (lv_at hl 1 rfl) ?_
  refine lv_aload_n hx hb dL_law_531 rfl (lv_at hl 3 rfl) ?_
  refine lv_iload_n hx hb dL_law_532 rfl (lv_at hl 0 rfl) ?_
  refine lv_iconst (v := 1) hx hb dL_law_533 (by decide) ?_
  refine lv_iadd hx hb dL_law_534 ?_
  refine lv_topi (fun z_20 ez_20 => ?_)
  have e_z_20 : z_20.toInt = i.toInt + 1 := i_add ez_20 rfl (by decide) (by omega) (by omega)
  refine va_sld hx hb hX hbl (fun q => by have q_ : N0.1 ≤ b := q; omega) hT.2 (i_in (n := L) rfl (by omega) (by omega)) dL_law_535 ?_
  refine lv_topi (fun u_21 e_u_21 => ?_)
  refine lv_aload_n hx hb dL_law_536 rfl (lv_at hl 3 rfl) ?_
  refine lv_iload_n hx hb dL_law_537 rfl (lv_at hl 0 rfl) ?_
  refine lv_iconst (v := 2) hx hb dL_law_538 (by decide) ?_
  refine lv_iadd hx hb dL_law_539 ?_
  refine lv_topi (fun z_22 ez_22 => ?_)
  have e_z_22 : z_22.toInt = i.toInt + 2 := i_add ez_22 rfl (by decide) (by omega) (by omega)
  refine va_sld hx hb hX hbl (fun q => by have q_ : N0.1 ≤ b := q; omega) hT.2 (i_in (n := L) rfl (by omega) (by omega)) dL_law_540 ?_
  refine lv_topi (fun u_23 e_u_23 => ?_)
  refine lv_aload_n hx hb dL_law_541 rfl (lv_at hl 3 rfl) ?_
  refine lv_iload_n hx hb dL_law_542 rfl (lv_at hl 0 rfl) ?_
  refine lv_iconst (v := 3) hx hb dL_law_543 (by decide) ?_
  refine lv_iadd hx hb dL_law_544 ?_
  refine lv_topi (fun z_24 ez_24 => ?_)
  have e_z_24 : z_24.toInt = i.toInt + 3 := i_add ez_24 rfl (by decide) (by omega) (by omega)
  refine va_sld hx hb hX hbl (fun q => by have q_ : N0.1 ≤ b := q; omega) hT.2 (i_in (n := L) rfl (by omega) (by omega)) dL_law_545 ?_
  refine lv_topi (fun u_25 e_u_25 => ?_)
  refine t_callV (n := 3) (As := [.int u_21, .int u_23, .int u_25]) (rest := []) (ci := 7) hB hT hl.1 (m_row l D cI cZ cS cR N0 g_7 hI om u_21 u_23 u_25 r_12) (ro_ci r_12 rfl) rfl k_1087 k_65 k_1084 k_1085 k_1086 (by decide +kernel) ⟨(Nat.le_of_ble_eq_true rfl), (Nat.le_of_ble_eq_true rfl)⟩ rfl (Nat.le_of_ble_eq_true rfl) ⟨(by show _ ≤ _; first | exact Nat.le_of_ble_eq_true rfl | (simp only [room_1]; omega)), (by show _ ≤ _; first | exact Nat.le_of_ble_eq_true rfl | (simp only [room_1]; omega))⟩ dL_law_546 (fun v g_26 H locs hp hT => ?_)
  obtain ⟨r_27, rfl, hI, x_29, m_28⟩ := hp
  have hw : PX 48 2 3 71 72 g_26 om := hw.mono m_28 x_29 r_12 (by decide) (by decide) rfl rfl rfl rfl
  have hN0 : PX 8 39 40 84 85 g_26 om := hN0.mono m_28 x_29 r_12 (by decide) (by decide) rfl rfl rfl rfl
  have hq : QE g_26 pa pb := hq.sm m_28 r_13 (by decide) rfl r_14 (by decide) rfl
  have hM : Sm mdA g g_26 := sm_all
  have hE : Ex g g_26 := hE.tr x_29
  have r_30 : g_26.1 ox = 7 := (Ex.r x_29 r_11 (by decide))
  have r_31 : g_26.1 om = 8 := (Ex.r x_29 r_12 (by decide))
  have r_32 : g_26.1 pa = 60 := (Ex.r x_29 r_13 (by decide))
  have r_33 : g_26.1 pb = 83 := (Ex.r x_29 r_14 (by decide))
  have n_34 : g_26.2.2.1 pa = 4 := (Ex.n x_29 r_13 (by decide) n_15)
  have n_35 : g_26.2.2.1 pb = 4 := (Ex.n x_29 r_14 (by decide) n_16)
  have kn_36 : g_26.2.1 om 22 = .int o1 := (Sm.v m_28 r_12 (by decide) rfl kn_17)
  have kn_37 : g_26.2.1 ox 5 = .ref pa := (Sm.v m_28 r_11 (by decide) rfl kn_18)
  have kn_38 : g_26.2.1 om 35 = .ref pb := (Sm.v m_28 r_12 (by decide) rfl kn_19)
  refine W.eq (g2 := F0 m 549 ls [.int r_27]) rfl ?_
  refine lv_pop hx hb dL_law_549 rfl ?_
  refine lv_goto (tgt := 829) hx hb dL_law_550 (by decide) ?_
  refine W.widen (k := cells + 4) (n := slots + 28) (by omega) (by omega) ?_
  exact K g_26 o1 H locs hT hI r_30 r_31 kn_36 (by have e0_ : (0 : Int32).toInt = 0 := (by decide); omega) (by have e0_ : (0 : Int32).toInt = 0 := (by decide); omega) hw hN0 kn_37 kn_38 r_32 r_33 n_34 n_35 hq
set_option maxHeartbeats 4000000 in
set_option maxRecDepth 100000 in
/-- clear -/
theorem law_11 {p : Program} {l : Launch} {e : Env} {s : State} {m : MethodId} {below : List Frame} {meth : Method} {c : Code} {D : va_G} {cI cZ cS cR : ClassId} {N0 : NT} {b L : Nat} {xs : Nat → Int32} (hB : Tz p s m meth c #[Value.ref b] code 4 RL D cI cZ cS cR N0) (hAs : N0.1 = s.heap.size) (hX : va_X b L xs s s.heap) (hbl : b < s.heap.size) (hL : L ≤ 2560) (hr : meth.sig.returnType = ret) {cells slots : Nat} (hcl : cells + 4 ≤ 600000) (hsl : slots + 28 ≤ 7302250) {H : Heap} {locs : List Loc} {ls : Array Slot} (g : GS) (ox om : Nat) (pa : Nat) (pb : Nat) (i o1 : Int32) (hT : Tv D cI cZ cS cR N0 s.heap H locs g) (hI : Inv g) (l_i : 0 ≤ i.toInt) (u_i : i.toInt + 5 ≤ L) : g.1 ox = 7 → g.1 om = 8 → g.2.1 om 22 = .int o1 → 0 ≤ o1.toInt → o1.toInt ≤ 12 * i.toInt → PX 48 2 3 71 72 g om → PX 8 39 40 84 85 g om → g.2.1 ox 5 = .ref pa → g.2.1 om 35 = .ref pb → g.1 pa = 60 → g.1 pb = 83 → g.2.2.1 pa = 4 → g.2.2.1 pb = 4 → QE g pa pb → (hl : lv_has ls 4 [(3, .int i), (2, .ref om), (1, .ref ox), (0, .ref b)]) → (K : ∀ (g1 : GS) (o1_1 : Int32) (H1 : Heap) (locs1 : List Loc), Tv D cI cZ cS cR N0 s.heap H1 locs1 g1 → Inv g1 → g1.1 ox = 7 → g1.1 om = 8 → g1.2.1 om 22 = .int o1_1 → 0 ≤ o1_1.toInt → o1_1.toInt ≤ 12 * i.toInt + 60 → PX 48 2 3 71 72 g1 om → PX 8 39 40 84 85 g1 om → g1.2.1 ox 5 = .ref pa → g1.2.1 om 35 = .ref pb → g1.1 pa = 60 → g1.1 pb = 83 → g1.2.2.1 pa = 4 → g1.2.2.1 pb = 4 → QE g1 pa pb → W p l e room_1 s m #[Value.ref b] below meth c H1 locs1 (cells + 4) (slots + 28) (lw_Z below #[Value.ref b] s) (F0 m 829 ls [])) → W p l e room_1 s m #[Value.ref b] below meth c H locs cells slots (lw_Z below #[Value.ref b] s) (F0 m 553 ls []) := by
  intro r_ox r_om ko l_o u_o hw hN0 k5 k35 r_pa r_pb n_pa n_pb hq hl K
  have hx := hB.1
  have hb := hB.2.1
  have hE : Ex g g := Ex.rf
  have hM : Sm mdA g g := sm_all
  refine lv_aload_n hx hb dL_law_553 rfl (lv_at hl 2 rfl) ?_
  refine t_callV (n := 0) (As := []) (rest := []) (ci := 6) hB hT hl.1 (P_clear l D cI cZ cS cR N0 g hI ox r_ox) (ro_ci r_ox rfl) rfl k_569 k_57 k_566 k_567 k_568 (by decide +kernel) ⟨(Nat.le_of_ble_eq_true rfl), (Nat.le_of_ble_eq_true rfl)⟩ rfl (Nat.le_of_ble_eq_true rfl) ⟨(by show _ ≤ _; first | exact Nat.le_of_ble_eq_true rfl | (simp only [room_1]; omega)), (by show _ ≤ _; first | exact Nat.le_of_ble_eq_true rfl | (simp only [room_1]; omega))⟩ dL_law_554 (fun v g_1 H locs hp hT => ?_)
  obtain ⟨r_2, rfl, hI, x_4, m_3⟩ := hp
  have hw : PX 48 2 3 71 72 g_1 om := hw.mono m_3 x_4 r_om (by decide) (by decide) rfl rfl rfl rfl
  have hN0 : PX 8 39 40 84 85 g_1 om := hN0.mono m_3 x_4 r_om (by decide) (by decide) rfl rfl rfl rfl
  have hq : QE g_1 pa pb := hq.sm m_3 r_pa (by decide) rfl r_pb (by decide) rfl
  have hM : Sm mdA g g_1 := sm_all
  have hE : Ex g g_1 := hE.tr x_4
  have r_5 : g_1.1 ox = 7 := (Ex.r x_4 r_ox (by decide))
  have r_6 : g_1.1 om = 8 := (Ex.r x_4 r_om (by decide))
  have r_7 : g_1.1 pa = 60 := (Ex.r x_4 r_pa (by decide))
  have r_8 : g_1.1 pb = 83 := (Ex.r x_4 r_pb (by decide))
  have n_9 : g_1.2.2.1 pa = 4 := (Ex.n x_4 r_pa (by decide) n_pa)
  have n_10 : g_1.2.2.1 pb = 4 := (Ex.n x_4 r_pb (by decide) n_pb)
  have kn_11 : g_1.2.1 om 22 = .int o1 := (Sm.v m_3 r_om (by decide) rfl ko)
  have kn_12 : g_1.2.1 ox 5 = .ref pa := (Sm.v m_3 r_ox (by decide) rfl k5)
  have kn_13 : g_1.2.1 om 35 = .ref pb := (Sm.v m_3 r_om (by decide) rfl k35)
  refine W.eq (g2 := F0 m 557 ls [.int r_2]) rfl ?_
  refine lv_pop hx hb dL_law_557 rfl ?_
  refine lv_aload_n hx hb dL_law_558 rfl (lv_at hl 1 rfl) ?_
  refine t_callV (n := 0) (As := []) (rest := []) (ci := 7) hB hT hl.1 (m_clear l D cI cZ cS cR N0 g_1 hI om r_6) (ro_ci r_6 rfl) rfl k_1091 k_65 k_1088 k_1089 k_1090 (by decide +kernel) ⟨(Nat.le_of_ble_eq_true rfl), (Nat.le_of_ble_eq_true rfl)⟩ rfl (Nat.le_of_ble_eq_true rfl) ⟨(by show _ ≤ _; first | exact Nat.le_of_ble_eq_true rfl | (simp only [room_1]; omega)), (by show _ ≤ _; first | exact Nat.le_of_ble_eq_true rfl | (simp only [room_1]; omega))⟩ dL_law_559 (fun v g_14 H locs hp hT => ?_)
  obtain ⟨r_15, rfl, hI, x_17, m_16⟩ := hp
  have hw : PX 48 2 3 71 72 g_14 om := hw.mono m_16 x_17 r_6 (by decide) (by decide) rfl rfl rfl rfl
  have hN0 : PX 8 39 40 84 85 g_14 om := hN0.mono m_16 x_17 r_6 (by decide) (by decide) rfl rfl rfl rfl
  have hq : QE g_14 pa pb := hq.sm m_16 r_7 (by decide) rfl r_8 (by decide) rfl
  have hM : Sm mdA g g_14 := sm_all
  have hE : Ex g g_14 := hE.tr x_17
  have r_18 : g_14.1 ox = 7 := (Ex.r x_17 r_5 (by decide))
  have r_19 : g_14.1 om = 8 := (Ex.r x_17 r_6 (by decide))
  have r_20 : g_14.1 pa = 60 := (Ex.r x_17 r_7 (by decide))
  have r_21 : g_14.1 pb = 83 := (Ex.r x_17 r_8 (by decide))
  have n_22 : g_14.2.2.1 pa = 4 := (Ex.n x_17 r_7 (by decide) n_9)
  have n_23 : g_14.2.2.1 pb = 4 := (Ex.n x_17 r_8 (by decide) n_10)
  have kn_24 : g_14.2.1 om 22 = .int o1 := (Sm.v m_16 r_6 (by decide) rfl kn_11)
  have kn_25 : g_14.2.1 ox 5 = .ref pa := (Sm.v m_16 r_5 (by decide) rfl kn_12)
  have kn_26 : g_14.2.1 om 35 = .ref pb := (Sm.v m_16 r_6 (by decide) rfl kn_13)
  refine W.eq (g2 := F0 m 562 ls [.int r_15]) rfl ?_
  refine lv_pop hx hb dL_law_562 rfl ?_
  refine lv_goto (tgt := 829) hx hb dL_law_563 (by decide) ?_
  refine W.widen (k := cells + 4) (n := slots + 28) (by omega) (by omega) ?_
  exact K g_14 o1 H locs hT hI r_18 r_19 kn_24 (by have e0_ : (0 : Int32).toInt = 0 := (by decide); omega) (by have e0_ : (0 : Int32).toInt = 0 := (by decide); omega) hw hN0 kn_25 kn_26 r_20 r_21 n_22 n_23 hq
