theorem k_570 : Cond.methodLink RL 69 yX6_free ∈ tb := mt 570 (by decide +kernel) rfl
theorem k_571 : Cond.instanceMethod yX6_free ∈ tb := mt 571 (by decide +kernel) rfl
theorem k_572 : Cond.selects RX6 yX6_free yX6_free ∈ tb := mt 572 (by decide +kernel) rfl
set_option maxRecDepth 20000 in
theorem k_573 : Cond.code yX6_free cX6_free 3 (some .int) ∈ tb := mt 573 rfl rfl
theorem k_574 : Cond.methodLink RL 73 yX6_safe ∈ tb := mt 574 (by decide +kernel) rfl
theorem k_575 : Cond.instanceMethod yX6_safe ∈ tb := mt 575 (by decide +kernel) rfl
theorem k_576 : Cond.selects RX6 yX6_safe yX6_safe ∈ tb := mt 576 (by decide +kernel) rfl
set_option maxRecDepth 20000 in
theorem k_577 : Cond.code yX6_safe cX6_safe 4 (some .int) ∈ tb := mt 577 rfl rfl
theorem k_619 : Cond.methodLink RL 77 yX6_worst ∈ tb := mt 619 (by decide +kernel) rfl
theorem k_620 : Cond.instanceMethod yX6_worst ∈ tb := mt 620 (by decide +kernel) rfl
theorem k_621 : Cond.selects RX6 yX6_worst yX6_worst ∈ tb := mt 621 (by decide +kernel) rfl
set_option maxRecDepth 20000 in
theorem k_622 : Cond.code yX6_worst cX6_worst 1 (some .int) ∈ tb := mt 622 rfl rfl
theorem k_631 : Cond.methodLink RL 81 yX6_orders ∈ tb := mt 631 (by decide +kernel) rfl
theorem k_632 : Cond.instanceMethod yX6_orders ∈ tb := mt 632 (by decide +kernel) rfl
theorem k_633 : Cond.selects RX6 yX6_orders yX6_orders ∈ tb := mt 633 (by decide +kernel) rfl
set_option maxRecDepth 20000 in
theorem k_634 : Cond.code yX6_orders cX6_orders 3 (some .int) ∈ tb := mt 634 rfl rfl
theorem k_1092 : Cond.methodLink RL 72 yX7_free ∈ tb := mt 1092 (by decide +kernel) rfl
theorem k_1093 : Cond.instanceMethod yX7_free ∈ tb := mt 1093 (by decide +kernel) rfl
theorem k_1094 : Cond.selects RX7 yX7_free yX7_free ∈ tb := mt 1094 (by decide +kernel) rfl
set_option maxRecDepth 20000 in
theorem k_1095 : Cond.code yX7_free cX7_free 3 (some .int) ∈ tb := mt 1095 rfl rfl
theorem k_1096 : Cond.methodLink RL 76 yX7_safe ∈ tb := mt 1096 (by decide +kernel) rfl
theorem k_1097 : Cond.instanceMethod yX7_safe ∈ tb := mt 1097 (by decide +kernel) rfl
theorem k_1098 : Cond.selects RX7 yX7_safe yX7_safe ∈ tb := mt 1098 (by decide +kernel) rfl
set_option maxRecDepth 20000 in
theorem k_1099 : Cond.code yX7_safe cX7_safe 4 (some .int) ∈ tb := mt 1099 rfl rfl
theorem k_1116 : Cond.methodLink RL 80 yX7_worst ∈ tb := mt 1116 (by decide +kernel) rfl
theorem k_1117 : Cond.instanceMethod yX7_worst ∈ tb := mt 1117 (by decide +kernel) rfl
theorem k_1118 : Cond.selects RX7 yX7_worst yX7_worst ∈ tb := mt 1118 (by decide +kernel) rfl
set_option maxRecDepth 20000 in
theorem k_1119 : Cond.code yX7_worst cX7_worst 1 (some .int) ∈ tb := mt 1119 rfl rfl
theorem k_1124 : Cond.methodLink RL 84 yX7_orders ∈ tb := mt 1124 (by decide +kernel) rfl
theorem k_1125 : Cond.instanceMethod yX7_orders ∈ tb := mt 1125 (by decide +kernel) rfl
theorem k_1126 : Cond.selects RX7 yX7_orders yX7_orders ∈ tb := mt 1126 (by decide +kernel) rfl
set_option maxRecDepth 20000 in
theorem k_1127 : Cond.code yX7_orders cX7_orders 7 (some .int) ∈ tb := mt 1127 rfl rfl
theorem dL_law_566 : decode cL_law 566 = .ok (.aload_n 1, 1) := by decide +kernel
theorem dL_law_567 : decode cL_law 567 = .ok (.aload_n 0, 1) := by decide +kernel
theorem dL_law_568 : decode cL_law 568 = .ok (.iload_n 3, 1) := by decide +kernel
theorem dL_law_569 : decode cL_law 569 = .ok (.iconst 1, 1) := by decide +kernel
theorem dL_law_570 : decode cL_law 570 = .ok (.iadd, 1) := by decide +kernel
theorem dL_law_571 : decode cL_law 571 = .ok (.iaload, 1) := by decide +kernel
theorem dL_law_572 : decode cL_law 572 = .ok (.invokevirtual 69, 3) := by decide +kernel
theorem dL_law_575 : decode cL_law 575 = .ok (.pop, 1) := by decide +kernel
theorem dL_law_576 : decode cL_law 576 = .ok (.aload_n 2, 1) := by decide +kernel
theorem dL_law_577 : decode cL_law 577 = .ok (.aload_n 0, 1) := by decide +kernel
theorem dL_law_578 : decode cL_law 578 = .ok (.iload_n 3, 1) := by decide +kernel
theorem dL_law_579 : decode cL_law 579 = .ok (.iconst 1, 1) := by decide +kernel
theorem dL_law_580 : decode cL_law 580 = .ok (.iadd, 1) := by decide +kernel
theorem dL_law_581 : decode cL_law 581 = .ok (.iaload, 1) := by decide +kernel
theorem dL_law_582 : decode cL_law 582 = .ok (.invokevirtual 72, 3) := by decide +kernel
theorem dL_law_585 : decode cL_law 585 = .ok (.pop, 1) := by decide +kernel
theorem dL_law_586 : decode cL_law 586 = .ok (.goto 243, 3) := by decide +kernel
theorem dL_law_589 : decode cL_law 589 = .ok (.aload_n 1, 1) := by decide +kernel
theorem dL_law_590 : decode cL_law 590 = .ok (.aload_n 0, 1) := by decide +kernel
theorem dL_law_591 : decode cL_law 591 = .ok (.iload_n 3, 1) := by decide +kernel
theorem dL_law_592 : decode cL_law 592 = .ok (.iconst 1, 1) := by decide +kernel
theorem dL_law_593 : decode cL_law 593 = .ok (.iadd, 1) := by decide +kernel
theorem dL_law_594 : decode cL_law 594 = .ok (.iaload, 1) := by decide +kernel
theorem dL_law_595 : decode cL_law 595 = .ok (.aload_n 0, 1) := by decide +kernel
theorem dL_law_596 : decode cL_law 596 = .ok (.iload_n 3, 1) := by decide +kernel
theorem dL_law_597 : decode cL_law 597 = .ok (.iconst 2, 1) := by decide +kernel
theorem dL_law_598 : decode cL_law 598 = .ok (.iadd, 1) := by decide +kernel
theorem dL_law_599 : decode cL_law 599 = .ok (.iaload, 1) := by decide +kernel
theorem dL_law_600 : decode cL_law 600 = .ok (.aload_n 0, 1) := by decide +kernel
theorem dL_law_601 : decode cL_law 601 = .ok (.iload_n 3, 1) := by decide +kernel
theorem dL_law_602 : decode cL_law 602 = .ok (.iconst 3, 1) := by decide +kernel
theorem dL_law_603 : decode cL_law 603 = .ok (.iadd, 1) := by decide +kernel
theorem dL_law_604 : decode cL_law 604 = .ok (.iaload, 1) := by decide +kernel
theorem dL_law_605 : decode cL_law 605 = .ok (.invokevirtual 73, 3) := by decide +kernel
theorem dL_law_608 : decode cL_law 608 = .ok (.pop, 1) := by decide +kernel
theorem dL_law_609 : decode cL_law 609 = .ok (.aload_n 2, 1) := by decide +kernel
theorem dL_law_610 : decode cL_law 610 = .ok (.aload_n 0, 1) := by decide +kernel
theorem dL_law_611 : decode cL_law 611 = .ok (.iload_n 3, 1) := by decide +kernel
theorem dL_law_612 : decode cL_law 612 = .ok (.iconst 1, 1) := by decide +kernel
theorem dL_law_613 : decode cL_law 613 = .ok (.iadd, 1) := by decide +kernel
theorem dL_law_614 : decode cL_law 614 = .ok (.iaload, 1) := by decide +kernel
theorem dL_law_615 : decode cL_law 615 = .ok (.aload_n 0, 1) := by decide +kernel
theorem dL_law_616 : decode cL_law 616 = .ok (.iload_n 3, 1) := by decide +kernel
theorem dL_law_617 : decode cL_law 617 = .ok (.iconst 2, 1) := by decide +kernel
theorem dL_law_618 : decode cL_law 618 = .ok (.iadd, 1) := by decide +kernel
theorem dL_law_619 : decode cL_law 619 = .ok (.iaload, 1) := by decide +kernel
theorem dL_law_620 : decode cL_law 620 = .ok (.aload_n 0, 1) := by decide +kernel
theorem dL_law_621 : decode cL_law 621 = .ok (.iload_n 3, 1) := by decide +kernel
theorem dL_law_622 : decode cL_law 622 = .ok (.iconst 3, 1) := by decide +kernel
theorem dL_law_623 : decode cL_law 623 = .ok (.iadd, 1) := by decide +kernel
theorem dL_law_624 : decode cL_law 624 = .ok (.iaload, 1) := by decide +kernel
theorem dL_law_625 : decode cL_law 625 = .ok (.invokevirtual 76, 3) := by decide +kernel
theorem dL_law_628 : decode cL_law 628 = .ok (.pop, 1) := by decide +kernel
theorem dL_law_629 : decode cL_law 629 = .ok (.goto 200, 3) := by decide +kernel
theorem dL_law_632 : decode cL_law 632 = .ok (.aload_n 1, 1) := by decide +kernel
theorem dL_law_633 : decode cL_law 633 = .ok (.invokevirtual 77, 3) := by decide +kernel
theorem dL_law_636 : decode cL_law 636 = .ok (.pop, 1) := by decide +kernel
theorem dL_law_637 : decode cL_law 637 = .ok (.aload_n 2, 1) := by decide +kernel
theorem dL_law_638 : decode cL_law 638 = .ok (.invokevirtual 80, 3) := by decide +kernel
theorem dL_law_641 : decode cL_law 641 = .ok (.pop, 1) := by decide +kernel
theorem dL_law_642 : decode cL_law 642 = .ok (.goto 187, 3) := by decide +kernel
theorem dL_law_645 : decode cL_law 645 = .ok (.aload_n 1, 1) := by decide +kernel
theorem dL_law_646 : decode cL_law 646 = .ok (.aload_n 0, 1) := by decide +kernel
theorem dL_law_647 : decode cL_law 647 = .ok (.iload_n 3, 1) := by decide +kernel
theorem dL_law_648 : decode cL_law 648 = .ok (.iconst 1, 1) := by decide +kernel
theorem dL_law_649 : decode cL_law 649 = .ok (.iadd, 1) := by decide +kernel
theorem dL_law_650 : decode cL_law 650 = .ok (.iaload, 1) := by decide +kernel
theorem dL_law_651 : decode cL_law 651 = .ok (.aload_n 0, 1) := by decide +kernel
theorem dL_law_652 : decode cL_law 652 = .ok (.iload_n 3, 1) := by decide +kernel
theorem dL_law_653 : decode cL_law 653 = .ok (.iconst 2, 1) := by decide +kernel
theorem dL_law_654 : decode cL_law 654 = .ok (.iadd, 1) := by decide +kernel
theorem dL_law_655 : decode cL_law 655 = .ok (.iaload, 1) := by decide +kernel
theorem dL_law_656 : decode cL_law 656 = .ok (.invokevirtual 81, 3) := by decide +kernel
theorem dL_law_659 : decode cL_law 659 = .ok (.pop, 1) := by decide +kernel
theorem dL_law_660 : decode cL_law 660 = .ok (.aload_n 2, 1) := by decide +kernel
theorem dL_law_661 : decode cL_law 661 = .ok (.aload_n 0, 1) := by decide +kernel
theorem dL_law_662 : decode cL_law 662 = .ok (.iload_n 3, 1) := by decide +kernel
theorem dL_law_663 : decode cL_law 663 = .ok (.iconst 1, 1) := by decide +kernel
theorem dL_law_664 : decode cL_law 664 = .ok (.iadd, 1) := by decide +kernel
theorem dL_law_665 : decode cL_law 665 = .ok (.iaload, 1) := by decide +kernel
theorem dL_law_666 : decode cL_law 666 = .ok (.aload_n 0, 1) := by decide +kernel
theorem dL_law_667 : decode cL_law 667 = .ok (.iload_n 3, 1) := by decide +kernel
theorem dL_law_668 : decode cL_law 668 = .ok (.iconst 2, 1) := by decide +kernel
theorem dL_law_669 : decode cL_law 669 = .ok (.iadd, 1) := by decide +kernel
theorem dL_law_670 : decode cL_law 670 = .ok (.iaload, 1) := by decide +kernel
theorem dL_law_671 : decode cL_law 671 = .ok (.invokevirtual 84, 3) := by decide +kernel
theorem dL_law_674 : decode cL_law 674 = .ok (.pop, 1) := by decide +kernel
theorem dL_law_675 : decode cL_law 675 = .ok (.goto 154, 3) := by decide +kernel
set_option maxHeartbeats 4000000 in
set_option maxRecDepth 100000 in
/-- free -/
theorem law_12 {p : Program} {l : Launch} {e : Env} {s : State} {m : MethodId} {below : List Frame} {meth : Method} {c : Code} {D : va_G} {cI cZ cS cR : ClassId} {N0 : NT} {b L : Nat} {xs : Nat → Int32} (hB : Tz p s m meth c #[Value.ref b] code 4 RL D cI cZ cS cR N0) (hAs : N0.1 = s.heap.size) (hX : va_X b L xs s s.heap) (hbl : b < s.heap.size) (hL : L ≤ 2560) (hr : meth.sig.returnType = ret) {cells slots : Nat} (hcl : cells + 4 ≤ 600000) (hsl : slots + 28 ≤ 7302250) {H : Heap} {locs : List Loc} {ls : Array Slot} (g : GS) (ox om : Nat) (tp : Nat) (nw : Nat) (rl : Nat) (ba : Nat) (ta : Nat) (wt : Nat) (sa : Nat) (aa : Nat) (wo : Nat) (pl : Nat) (wr : Nat) (i o1 tz sv rz : Int32) (hT : Tv D cI cZ cS cR N0 s.heap H locs g) (hI : Inv g) (l_i : 0 ≤ i.toInt) (u_i : i.toInt + 5 ≤ L) : g.1 ox = 7 → g.1 om = 8 → g.2.1 om 22 = .int o1 → 0 ≤ o1.toInt → o1.toInt ≤ 12 * i.toInt → PX 48 2 3 71 72 g om → PX 8 39 40 84 85 g om → g.2.1 ox 0 = .ref tp → g.1 tp = 5 → g.2.1 ox 1 = .ref nw → g.1 nw = 19 → g.2.1 ox 2 = .ref rl → g.1 rl = 1 → g.2.1 tp 0 = .ref ba → g.1 ba = 67 → g.2.2.1 ba = 100 → g.2.1 om 28 = .ref ta → g.1 ta = 79 → g.2.2.1 ta = 100 → g.2.1 om 42 = .ref wt → g.1 wt = 87 → g.2.2.1 wt = 24 → g.2.1 nw 0 = .ref sa → g.1 sa = 42 → g.2.2.1 sa = 6 → g.2.1 om 1 = .ref aa → g.1 aa = 88 → g.2.2.1 aa = 6 → g.2.1 om 2 = .ref wo → g.1 wo = 71 → g.2.2.1 wo = 48 → g.2.1 om 3 = .ref pl → g.1 pl = 72 → g.2.2.1 pl = 48 → g.2.1 om 4 = .ref wr → g.1 wr = 73 → g.2.2.1 wr = 48 → g.2.1 tp 1 = .int tz → g.2.1 om 29 = .int tz → 0 ≤ tz.toInt → tz.toInt ≤ 100 → g.2.1 nw 1 = .int sv → g.2.1 om 0 = .int sv → 0 ≤ sv.toInt → sv.toInt ≤ 6 → g.2.1 rl 3 = .int rz → g.2.1 om 30 = .int rz → 0 ≤ rz.toInt → rz.toInt ≤ 6 → TE g ba ta tz.toInt → WT g wt → PGI g sa aa wo pl wr sv.toInt → (hl : lv_has ls 4 [(3, .int i), (2, .ref om), (1, .ref ox), (0, .ref b)]) → (K : ∀ (g1 : GS) (o1_1 tz_1 sv_1 rz_1 : Int32) (H1 : Heap) (locs1 : List Loc), Tv D cI cZ cS cR N0 s.heap H1 locs1 g1 → Inv g1 → g1.1 ox = 7 → g1.1 om = 8 → g1.2.1 om 22 = .int o1_1 → 0 ≤ o1_1.toInt → o1_1.toInt ≤ 12 * i.toInt + 60 → PX 48 2 3 71 72 g1 om → PX 8 39 40 84 85 g1 om → g1.2.1 ox 0 = .ref tp → g1.1 tp = 5 → g1.2.1 ox 1 = .ref nw → g1.1 nw = 19 → g1.2.1 ox 2 = .ref rl → g1.1 rl = 1 → g1.2.1 tp 0 = .ref ba → g1.1 ba = 67 → g1.2.2.1 ba = 100 → g1.2.1 om 28 = .ref ta → g1.1 ta = 79 → g1.2.2.1 ta = 100 → g1.2.1 om 42 = .ref wt → g1.1 wt = 87 → g1.2.2.1 wt = 24 → g1.2.1 nw 0 = .ref sa → g1.1 sa = 42 → g1.2.2.1 sa = 6 → g1.2.1 om 1 = .ref aa → g1.1 aa = 88 → g1.2.2.1 aa = 6 → g1.2.1 om 2 = .ref wo → g1.1 wo = 71 → g1.2.2.1 wo = 48 → g1.2.1 om 3 = .ref pl → g1.1 pl = 72 → g1.2.2.1 pl = 48 → g1.2.1 om 4 = .ref wr → g1.1 wr = 73 → g1.2.2.1 wr = 48 → g1.2.1 tp 1 = .int tz_1 → g1.2.1 om 29 = .int tz_1 → 0 ≤ tz_1.toInt → tz_1.toInt ≤ 100 → g1.2.1 nw 1 = .int sv_1 → g1.2.1 om 0 = .int sv_1 → 0 ≤ sv_1.toInt → sv_1.toInt ≤ 6 → g1.2.1 rl 3 = .int rz_1 → g1.2.1 om 30 = .int rz_1 → 0 ≤ rz_1.toInt → rz_1.toInt ≤ 6 → TE g1 ba ta tz_1.toInt → WT g1 wt → PGI g1 sa aa wo pl wr sv_1.toInt → W p l e room_1 s m #[Value.ref b] below meth c H1 locs1 (cells + 4) (slots + 28) (lw_Z below #[Value.ref b] s) (F0 m 829 ls [])) → W p l e room_1 s m #[Value.ref b] below meth c H locs cells slots (lw_Z below #[Value.ref b] s) (F0 m 566 ls []) := by
  intro r_ox r_om ko l_o u_o hw hN0 k_tp r_tp k_nw r_nw k_rl r_rl k_ba r_ba n_ba k_ta r_ta n_ta k_wt r_wt n_wt k_sa r_sa n_sa k_aa r_aa n_aa k_wo r_wo n_wo k_pl r_pl n_pl k_wr r_wr n_wr kc_tz km_tz l_tz u_tz kc_sv km_sv l_sv u_sv kc_rz km_rz l_rz u_rz hTE hWT hPI hl K
  have hx := hB.1
  have hb := hB.2.1
  have hE : Ex g g := Ex.rf
  have hM : Sm mdA g g := sm_all
  have hTE0 := hTE
  have hI0_ := hI
  have hPI0_ := hPI
  refine lv_aload_n hx hb dL_law_566 rfl (lv_at hl 2 rfl) ?_
  refine lv_aload_n hx hb dL_law_567 rfl (lv_at hl 3 rfl) ?_
  refine lv_iload_n hx hb dL_law_568 rfl (lv_at hl 0 rfl) ?_
  refine lv_iconst (v := 1) hx hb dL_law_569 (by decide) ?_
  refine lv_iadd hx hb dL_law_570 ?_
  refine lv_topi (fun z_1 ez_1 => ?_)
  have e_z_1 : z_1.toInt = i.toInt + 1 := i_add ez_1 rfl (by decide) (by omega) (by omega)
  refine va_sld hx hb hX hbl (fun q => by have q_ : N0.1 ≤ b := q; omega) hT.2 (i_in (n := L) rfl (by omega) (by omega)) dL_law_571 ?_
  refine lv_topi (fun u_2 e_u_2 => ?_)
  obtain ⟨v_3, e_v_3, l_v_3, u_v_3⟩ := f_7_6 hI r_ox
  refine t_callV (n := 1) (As := [.int u_2]) (rest := []) (ci := 6) hB hT hl.1 (P_free l D cI cZ cS cR N0 g hI ox u_2 v_3 r_ox e_v_3 (by omega) (by omega)) (ro_ci r_ox rfl) rfl k_573 k_57 k_570 k_571 k_572 (by decide +kernel) ⟨(Nat.le_of_ble_eq_true rfl), (Nat.le_of_ble_eq_true rfl)⟩ rfl (Nat.le_of_ble_eq_true rfl) ⟨(by show _ ≤ _; first | exact Nat.le_of_ble_eq_true rfl | (simp only [room_1]; omega)), (by show _ ≤ _; first | exact Nat.le_of_ble_eq_true rfl | (simp only [room_1]; omega))⟩ dL_law_572 (fun v g_4 H locs hp hT => ?_)
  obtain ⟨r_5, z2_6, rfl, hI, x_10, m_9, f_7, f_8⟩ := hp
  have hw : PX 48 2 3 71 72 g_4 om := hw.mono m_9 x_10 r_om (by decide) (by decide) rfl rfl rfl rfl
  have hN0 : PX 8 39 40 84 85 g_4 om := hN0.mono m_9 x_10 r_om (by decide) (by decide) rfl rfl rfl rfl
  have hTE : TE g_4 ba ta tz.toInt := hTE.sm m_9 r_ba (by decide) rfl r_ta (by decide) rfl
  have hWT : WT g_4 wt := hWT.sm m_9 r_wt (by decide) rfl
  have hPI : PGI g_4 sa aa wo pl wr sv.toInt := hPI.go (PK.sm m_9 x_10 r_sa rfl rfl rfl rfl rfl rfl rfl rfl rfl) (Sm.cf m_9 r_aa (by decide) rfl) (Sm.cf m_9 r_wo (by decide) rfl) (Sm.cf m_9 r_pl (by decide) rfl) (Sm.cf m_9 r_wr (by decide) rfl)
  have hM : Sm mdA g g_4 := sm_all
  have hE : Ex g g_4 := hE.tr x_10
  have r_11 : g_4.1 ox = 7 := (Ex.r x_10 r_ox (by decide))
  have r_12 : g_4.1 om = 8 := (Ex.r x_10 r_om (by decide))
  have r_13 : g_4.1 tp = 5 := (Ex.r x_10 r_tp (by decide))
  have r_14 : g_4.1 nw = 19 := (Ex.r x_10 r_nw (by decide))
  have r_15 : g_4.1 rl = 1 := (Ex.r x_10 r_rl (by decide))
  have r_16 : g_4.1 ba = 67 := (Ex.r x_10 r_ba (by decide))
  have r_17 : g_4.1 ta = 79 := (Ex.r x_10 r_ta (by decide))
  have r_18 : g_4.1 wt = 87 := (Ex.r x_10 r_wt (by decide))
  have r_19 : g_4.1 sa = 42 := (Ex.r x_10 r_sa (by decide))
  have r_20 : g_4.1 aa = 88 := (Ex.r x_10 r_aa (by decide))
  have r_21 : g_4.1 wo = 71 := (Ex.r x_10 r_wo (by decide))
  have r_22 : g_4.1 pl = 72 := (Ex.r x_10 r_pl (by decide))
  have r_23 : g_4.1 wr = 73 := (Ex.r x_10 r_wr (by decide))
  have n_24 : g_4.2.2.1 ba = 100 := (Ex.n x_10 r_ba (by decide) n_ba)
  have n_25 : g_4.2.2.1 ta = 100 := (Ex.n x_10 r_ta (by decide) n_ta)
  have n_26 : g_4.2.2.1 wt = 24 := (Ex.n x_10 r_wt (by decide) n_wt)
  have n_27 : g_4.2.2.1 sa = 6 := (Ex.n x_10 r_sa (by decide) n_sa)
  have n_28 : g_4.2.2.1 aa = 6 := (Ex.n x_10 r_aa (by decide) n_aa)
  have n_29 : g_4.2.2.1 wo = 48 := (Ex.n x_10 r_wo (by decide) n_wo)
  have n_30 : g_4.2.2.1 pl = 48 := (Ex.n x_10 r_pl (by decide) n_pl)
  have n_31 : g_4.2.2.1 wr = 48 := (Ex.n x_10 r_wr (by decide) n_wr)
  have kn_32 : g_4.2.1 om 22 = .int o1 := (Sm.v m_9 r_om (by decide) rfl ko)
  have kn_33 : g_4.2.1 ox 0 = .ref tp := (Sm.v m_9 r_ox (by decide) rfl k_tp)
  have kn_34 : g_4.2.1 ox 1 = .ref nw := (Sm.v m_9 r_ox (by decide) rfl k_nw)
  have kn_35 : g_4.2.1 ox 2 = .ref rl := (Sm.v m_9 r_ox (by decide) rfl k_rl)
  have kn_36 : g_4.2.1 tp 0 = .ref ba := (Sm.v m_9 r_tp (by decide) rfl k_ba)
  have kn_37 : g_4.2.1 om 28 = .ref ta := (Sm.v m_9 r_om (by decide) rfl k_ta)
  have kn_38 : g_4.2.1 om 42 = .ref wt := (Sm.v m_9 r_om (by decide) rfl k_wt)
  have kn_39 : g_4.2.1 nw 0 = .ref sa := (Sm.v m_9 r_nw (by decide) rfl k_sa)
  have kn_40 : g_4.2.1 om 1 = .ref aa := (Sm.v m_9 r_om (by decide) rfl k_aa)
  have kn_41 : g_4.2.1 om 2 = .ref wo := (Sm.v m_9 r_om (by decide) rfl k_wo)
  have kn_42 : g_4.2.1 om 3 = .ref pl := (Sm.v m_9 r_om (by decide) rfl k_pl)
  have kn_43 : g_4.2.1 om 4 = .ref wr := (Sm.v m_9 r_om (by decide) rfl k_wr)
  have kn_44 : g_4.2.1 tp 1 = .int tz := (Sm.v m_9 r_tp (by decide) rfl kc_tz)
  have kn_45 : g_4.2.1 om 29 = .int tz := (Sm.v m_9 r_om (by decide) rfl km_tz)
  have kn_46 : g_4.2.1 nw 1 = .int sv := (Sm.v m_9 r_nw (by decide) rfl kc_sv)
  have kn_47 : g_4.2.1 om 0 = .int sv := (Sm.v m_9 r_om (by decide) rfl km_sv)
  have kn_48 : g_4.2.1 rl 3 = .int rz := (Sm.v m_9 r_rl (by decide) rfl kc_rz)
  have kn_49 : g_4.2.1 om 30 = .int rz := (Sm.v m_9 r_om (by decide) rfl km_rz)
  refine W.eq (g2 := F0 m 575 ls [.int r_5]) rfl ?_
  refine lv_pop hx hb dL_law_575 rfl ?_
  refine lv_aload_n hx hb dL_law_576 rfl (lv_at hl 1 rfl) ?_
  refine lv_aload_n hx hb dL_law_577 rfl (lv_at hl 3 rfl) ?_
  refine lv_iload_n hx hb dL_law_578 rfl (lv_at hl 0 rfl) ?_
  refine lv_iconst (v := 1) hx hb dL_law_579 (by decide) ?_
  refine lv_iadd hx hb dL_law_580 ?_
  refine lv_topi (fun z_50 ez_50 => ?_)
  have e_z_50 : z_50.toInt = i.toInt + 1 := i_add ez_50 rfl (by decide) (by omega) (by omega)
  refine va_sld hx hb hX hbl (fun q => by have q_ : N0.1 ≤ b := q; omega) hT.2 (i_in (n := L) rfl (by omega) (by omega)) dL_law_581 ?_
  refine lv_topi (fun u_51 e_u_51 => ?_)
  obtain ⟨v_52, e_v_52, l_v_52, u_v_52⟩ := f_8_34 hI r_12
  refine t_callV (n := 1) (As := [.int u_51]) (rest := []) (ci := 7) hB hT hl.1 (m_free l D cI cZ cS cR N0 g_4 hI om u_51 v_52 r_12 e_v_52 (by omega) (by omega)) (ro_ci r_12 rfl) rfl k_1095 k_65 k_1092 k_1093 k_1094 (by decide +kernel) ⟨(Nat.le_of_ble_eq_true rfl), (Nat.le_of_ble_eq_true rfl)⟩ rfl (Nat.le_of_ble_eq_true rfl) ⟨(by show _ ≤ _; first | exact Nat.le_of_ble_eq_true rfl | (simp only [room_1]; omega)), (by show _ ≤ _; first | exact Nat.le_of_ble_eq_true rfl | (simp only [room_1]; omega))⟩ dL_law_582 (fun v g_53 H locs hp hT => ?_)
  obtain ⟨r_54, z2_55, rfl, hI, x_59, m_58, f_56, f_57⟩ := hp
  have hw : PX 48 2 3 71 72 g_53 om := hw.mono m_58 x_59 r_12 (by decide) (by decide) rfl rfl rfl rfl
  have hN0 : PX 8 39 40 84 85 g_53 om := hN0.mono m_58 x_59 r_12 (by decide) (by decide) rfl rfl rfl rfl
  have hTE : TE g_53 ba ta tz.toInt := hTE.sm m_58 r_16 (by decide) rfl r_17 (by decide) rfl
  have hWT : WT g_53 wt := hWT.sm m_58 r_18 (by decide) rfl
  have hPI : PGI g_53 sa aa wo pl wr sv.toInt := hPI.go (PK.sm m_58 x_59 r_19 rfl rfl rfl rfl rfl rfl rfl rfl rfl) (Sm.cf m_58 r_20 (by decide) rfl) (Sm.cf m_58 r_21 (by decide) rfl) (Sm.cf m_58 r_22 (by decide) rfl) (Sm.cf m_58 r_23 (by decide) rfl)
  have hM : Sm mdA g g_53 := sm_all
  have hE : Ex g g_53 := hE.tr x_59
  have r_60 : g_53.1 ox = 7 := (Ex.r x_59 r_11 (by decide))
  have r_61 : g_53.1 om = 8 := (Ex.r x_59 r_12 (by decide))
  have r_62 : g_53.1 tp = 5 := (Ex.r x_59 r_13 (by decide))
  have r_63 : g_53.1 nw = 19 := (Ex.r x_59 r_14 (by decide))
  have r_64 : g_53.1 rl = 1 := (Ex.r x_59 r_15 (by decide))
  have r_65 : g_53.1 ba = 67 := (Ex.r x_59 r_16 (by decide))
  have r_66 : g_53.1 ta = 79 := (Ex.r x_59 r_17 (by decide))
  have r_67 : g_53.1 wt = 87 := (Ex.r x_59 r_18 (by decide))
  have r_68 : g_53.1 sa = 42 := (Ex.r x_59 r_19 (by decide))
  have r_69 : g_53.1 aa = 88 := (Ex.r x_59 r_20 (by decide))
  have r_70 : g_53.1 wo = 71 := (Ex.r x_59 r_21 (by decide))
  have r_71 : g_53.1 pl = 72 := (Ex.r x_59 r_22 (by decide))
  have r_72 : g_53.1 wr = 73 := (Ex.r x_59 r_23 (by decide))
  have n_73 : g_53.2.2.1 ba = 100 := (Ex.n x_59 r_16 (by decide) n_24)
  have n_74 : g_53.2.2.1 ta = 100 := (Ex.n x_59 r_17 (by decide) n_25)
  have n_75 : g_53.2.2.1 wt = 24 := (Ex.n x_59 r_18 (by decide) n_26)
  have n_76 : g_53.2.2.1 sa = 6 := (Ex.n x_59 r_19 (by decide) n_27)
  have n_77 : g_53.2.2.1 aa = 6 := (Ex.n x_59 r_20 (by decide) n_28)
  have n_78 : g_53.2.2.1 wo = 48 := (Ex.n x_59 r_21 (by decide) n_29)
  have n_79 : g_53.2.2.1 pl = 48 := (Ex.n x_59 r_22 (by decide) n_30)
  have n_80 : g_53.2.2.1 wr = 48 := (Ex.n x_59 r_23 (by decide) n_31)
  have kn_81 : g_53.2.1 om 22 = .int o1 := (Sm.v m_58 r_12 (by decide) rfl kn_32)
  have kn_82 : g_53.2.1 ox 0 = .ref tp := (Sm.v m_58 r_11 (by decide) rfl kn_33)
  have kn_83 : g_53.2.1 ox 1 = .ref nw := (Sm.v m_58 r_11 (by decide) rfl kn_34)
  have kn_84 : g_53.2.1 ox 2 = .ref rl := (Sm.v m_58 r_11 (by decide) rfl kn_35)
  have kn_85 : g_53.2.1 tp 0 = .ref ba := (Sm.v m_58 r_13 (by decide) rfl kn_36)
  have kn_86 : g_53.2.1 om 28 = .ref ta := (Sm.v m_58 r_12 (by decide) rfl kn_37)
  have kn_87 : g_53.2.1 om 42 = .ref wt := (Sm.v m_58 r_12 (by decide) rfl kn_38)
  have kn_88 : g_53.2.1 nw 0 = .ref sa := (Sm.v m_58 r_14 (by decide) rfl kn_39)
  have kn_89 : g_53.2.1 om 1 = .ref aa := (Sm.v m_58 r_12 (by decide) rfl kn_40)
  have kn_90 : g_53.2.1 om 2 = .ref wo := (Sm.v m_58 r_12 (by decide) rfl kn_41)
  have kn_91 : g_53.2.1 om 3 = .ref pl := (Sm.v m_58 r_12 (by decide) rfl kn_42)
  have kn_92 : g_53.2.1 om 4 = .ref wr := (Sm.v m_58 r_12 (by decide) rfl kn_43)
  have kn_93 : g_53.2.1 tp 1 = .int tz := (Sm.v m_58 r_13 (by decide) rfl kn_44)
  have kn_94 : g_53.2.1 om 29 = .int tz := (Sm.v m_58 r_12 (by decide) rfl kn_45)
  have kn_95 : g_53.2.1 nw 1 = .int sv := (Sm.v m_58 r_14 (by decide) rfl kn_46)
  have kn_96 : g_53.2.1 om 0 = .int sv := (Sm.v m_58 r_12 (by decide) rfl kn_47)
  have kn_97 : g_53.2.1 rl 3 = .int rz := (Sm.v m_58 r_15 (by decide) rfl kn_48)
  have kn_98 : g_53.2.1 om 30 = .int rz := (Sm.v m_58 r_12 (by decide) rfl kn_49)
  refine W.eq (g2 := F0 m 585 ls [.int r_54]) rfl ?_
  refine lv_pop hx hb dL_law_585 rfl ?_
  refine lv_goto (tgt := 829) hx hb dL_law_586 (by decide) ?_
  refine W.widen (k := cells + 4) (n := slots + 28) (by omega) (by omega) ?_
  exact K g_53 o1 tz sv rz H locs hT hI r_60 r_61 kn_81 (by have e0_ : (0 : Int32).toInt = 0 := (by decide); omega) (by have e0_ : (0 : Int32).toInt = 0 := (by decide); omega) hw hN0 kn_82 r_62 kn_83 r_63 kn_84 r_64 kn_85 r_65 n_73 kn_86 r_66 n_74 kn_87 r_67 n_75 kn_88 r_68 n_76 kn_89 r_69 n_77 kn_90 r_70 n_78 kn_91 r_71 n_79 kn_92 r_72 n_80 kn_93 kn_94 (by have e0_ : (0 : Int32).toInt = 0 := (by decide); omega) (by have e0_ : (0 : Int32).toInt = 0 := (by decide); omega) kn_95 kn_96 (by have e0_ : (0 : Int32).toInt = 0 := (by decide); omega) (by have e0_ : (0 : Int32).toInt = 0 := (by decide); omega) kn_97 kn_98 (by have e0_ : (0 : Int32).toInt = 0 := (by decide); omega) (by have e0_ : (0 : Int32).toInt = 0 := (by decide); omega) hTE hWT hPI
set_option maxHeartbeats 4000000 in
set_option maxRecDepth 100000 in
/-- safe -/
theorem law_13 {p : Program} {l : Launch} {e : Env} {s : State} {m : MethodId} {below : List Frame} {meth : Method} {c : Code} {D : va_G} {cI cZ cS cR : ClassId} {N0 : NT} {b L : Nat} {xs : Nat → Int32} (hB : Tz p s m meth c #[Value.ref b] code 4 RL D cI cZ cS cR N0) (hAs : N0.1 = s.heap.size) (hX : va_X b L xs s s.heap) (hbl : b < s.heap.size) (hL : L ≤ 2560) (hr : meth.sig.returnType = ret) {cells slots : Nat} (hcl : cells + 4 ≤ 600000) (hsl : slots + 28 ≤ 7302250) {H : Heap} {locs : List Loc} {ls : Array Slot} (g : GS) (ox om : Nat) (tp : Nat) (nw : Nat) (rl : Nat) (ba : Nat) (ta : Nat) (wt : Nat) (sa : Nat) (aa : Nat) (wo : Nat) (pl : Nat) (wr : Nat) (i o1 tz sv rz : Int32) (hT : Tv D cI cZ cS cR N0 s.heap H locs g) (hI : Inv g) (l_i : 0 ≤ i.toInt) (u_i : i.toInt + 5 ≤ L) : g.1 ox = 7 → g.1 om = 8 → g.2.1 om 22 = .int o1 → 0 ≤ o1.toInt → o1.toInt ≤ 12 * i.toInt → PX 48 2 3 71 72 g om → PX 8 39 40 84 85 g om → g.2.1 ox 0 = .ref tp → g.1 tp = 5 → g.2.1 ox 1 = .ref nw → g.1 nw = 19 → g.2.1 ox 2 = .ref rl → g.1 rl = 1 → g.2.1 tp 0 = .ref ba → g.1 ba = 67 → g.2.2.1 ba = 100 → g.2.1 om 28 = .ref ta → g.1 ta = 79 → g.2.2.1 ta = 100 → g.2.1 om 42 = .ref wt → g.1 wt = 87 → g.2.2.1 wt = 24 → g.2.1 nw 0 = .ref sa → g.1 sa = 42 → g.2.2.1 sa = 6 → g.2.1 om 1 = .ref aa → g.1 aa = 88 → g.2.2.1 aa = 6 → g.2.1 om 2 = .ref wo → g.1 wo = 71 → g.2.2.1 wo = 48 → g.2.1 om 3 = .ref pl → g.1 pl = 72 → g.2.2.1 pl = 48 → g.2.1 om 4 = .ref wr → g.1 wr = 73 → g.2.2.1 wr = 48 → g.2.1 tp 1 = .int tz → g.2.1 om 29 = .int tz → 0 ≤ tz.toInt → tz.toInt ≤ 100 → g.2.1 nw 1 = .int sv → g.2.1 om 0 = .int sv → 0 ≤ sv.toInt → sv.toInt ≤ 6 → g.2.1 rl 3 = .int rz → g.2.1 om 30 = .int rz → 0 ≤ rz.toInt → rz.toInt ≤ 6 → TE g ba ta tz.toInt → WT g wt → PGI g sa aa wo pl wr sv.toInt → (hl : lv_has ls 4 [(3, .int i), (2, .ref om), (1, .ref ox), (0, .ref b)]) → (K : ∀ (g1 : GS) (o1_1 tz_1 sv_1 rz_1 : Int32) (H1 : Heap) (locs1 : List Loc), Tv D cI cZ cS cR N0 s.heap H1 locs1 g1 → Inv g1 → g1.1 ox = 7 → g1.1 om = 8 → g1.2.1 om 22 = .int o1_1 → 0 ≤ o1_1.toInt → o1_1.toInt ≤ 12 * i.toInt + 60 → PX 48 2 3 71 72 g1 om → PX 8 39 40 84 85 g1 om → g1.2.1 ox 0 = .ref tp → g1.1 tp = 5 → g1.2.1 ox 1 = .ref nw → g1.1 nw = 19 → g1.2.1 ox 2 = .ref rl → g1.1 rl = 1 → g1.2.1 tp 0 = .ref ba → g1.1 ba = 67 → g1.2.2.1 ba = 100 → g1.2.1 om 28 = .ref ta → g1.1 ta = 79 → g1.2.2.1 ta = 100 → g1.2.1 om 42 = .ref wt → g1.1 wt = 87 → g1.2.2.1 wt = 24 → g1.2.1 nw 0 = .ref sa → g1.1 sa = 42 → g1.2.2.1 sa = 6 → g1.2.1 om 1 = .ref aa → g1.1 aa = 88 → g1.2.2.1 aa = 6 → g1.2.1 om 2 = .ref wo → g1.1 wo = 71 → g1.2.2.1 wo = 48 → g1.2.1 om 3 = .ref pl → g1.1 pl = 72 → g1.2.2.1 pl = 48 → g1.2.1 om 4 = .ref wr → g1.1 wr = 73 → g1.2.2.1 wr = 48 → g1.2.1 tp 1 = .int tz_1 → g1.2.1 om 29 = .int tz_1 → 0 ≤ tz_1.toInt → tz_1.toInt ≤ 100 → g1.2.1 nw 1 = .int sv_1 → g1.2.1 om 0 = .int sv_1 → 0 ≤ sv_1.toInt → sv_1.toInt ≤ 6 → g1.2.1 rl 3 = .int rz_1 → g1.2.1 om 30 = .int rz_1 → 0 ≤ rz_1.toInt → rz_1.toInt ≤ 6 → TE g1 ba ta tz_1.toInt → WT g1 wt → PGI g1 sa aa wo pl wr sv_1.toInt → W p l e room_1 s m #[Value.ref b] below meth c H1 locs1 (cells + 4) (slots + 28) (lw_Z below #[Value.ref b] s) (F0 m 829 ls [])) → W p l e room_1 s m #[Value.ref b] below meth c H locs cells slots (lw_Z below #[Value.ref b] s) (F0 m 589 ls []) := by
  intro r_ox r_om ko l_o u_o hw hN0 k_tp r_tp k_nw r_nw k_rl r_rl k_ba r_ba n_ba k_ta r_ta n_ta k_wt r_wt n_wt k_sa r_sa n_sa k_aa r_aa n_aa k_wo r_wo n_wo k_pl r_pl n_pl k_wr r_wr n_wr kc_tz km_tz l_tz u_tz kc_sv km_sv l_sv u_sv kc_rz km_rz l_rz u_rz hTE hWT hPI hl K
  have hx := hB.1
  have hb := hB.2.1
  have hE : Ex g g := Ex.rf
  have hM : Sm mdA g g := sm_all
  have hTE0 := hTE
  have hI0_ := hI
  have hPI0_ := hPI
  refine lv_aload_n hx hb dL_law_589 rfl (lv_at hl 2 rfl) ?_
  refine lv_aload_n hx hb dL_law_590 rfl (lv_at hl 3 rfl) ?_
  refine lv_iload_n hx hb dL_law_591 rfl (lv_at hl 0 rfl) ?_
  refine lv_iconst (v := 1) hx hb dL_law_592 (by decide) ?_
  refine lv_iadd hx hb dL_law_593 ?_
  refine lv_topi (fun z_1 ez_1 => ?_)
  have e_z_1 : z_1.toInt = i.toInt + 1 := i_add ez_1 rfl (by decide) (by omega) (by omega)
  refine va_sld hx hb hX hbl (fun q => by have q_ : N0.1 ≤ b := q; omega) hT.2 (i_in (n := L) rfl (by omega) (by omega)) dL_law_594 ?_
  refine lv_topi (fun u_2 e_u_2 => ?_)
  refine lv_aload_n hx hb dL_law_595 rfl (lv_at hl 3 rfl) ?_
  refine lv_iload_n hx hb dL_law_596 rfl (lv_at hl 0 rfl) ?_
  refine lv_iconst (v := 2) hx hb dL_law_597 (by decide) ?_
  refine lv_iadd hx hb dL_law_598 ?_
  refine lv_topi (fun z_3 ez_3 => ?_)
  have e_z_3 : z_3.toInt = i.toInt + 2 := i_add ez_3 rfl (by decide) (by omega) (by omega)
  refine va_sld hx hb hX hbl (fun q => by have q_ : N0.1 ≤ b := q; omega) hT.2 (i_in (n := L) rfl (by omega) (by omega)) dL_law_599 ?_
  refine lv_topi (fun u_4 e_u_4 => ?_)
  refine lv_aload_n hx hb dL_law_600 rfl (lv_at hl 3 rfl) ?_
  refine lv_iload_n hx hb dL_law_601 rfl (lv_at hl 0 rfl) ?_
  refine lv_iconst (v := 3) hx hb dL_law_602 (by decide) ?_
  refine lv_iadd hx hb dL_law_603 ?_
  refine lv_topi (fun z_5 ez_5 => ?_)
  have e_z_5 : z_5.toInt = i.toInt + 3 := i_add ez_5 rfl (by decide) (by omega) (by omega)
  refine va_sld hx hb hX hbl (fun q => by have q_ : N0.1 ≤ b := q; omega) hT.2 (i_in (n := L) rfl (by omega) (by omega)) dL_law_604 ?_
  refine lv_topi (fun u_6 e_u_6 => ?_)
  refine t_callV (n := 3) (As := [.int u_2, .int u_4, .int u_6]) (rest := []) (ci := 6) hB hT hl.1 (P_safe l D cI cZ cS cR N0 g hI ox u_2 u_4 u_6 r_ox) (ro_ci r_ox rfl) rfl k_577 k_57 k_574 k_575 k_576 (by decide +kernel) ⟨(Nat.le_of_ble_eq_true rfl), (Nat.le_of_ble_eq_true rfl)⟩ rfl (Nat.le_of_ble_eq_true rfl) ⟨(by show _ ≤ _; first | exact Nat.le_of_ble_eq_true rfl | (simp only [room_1]; omega)), (by show _ ≤ _; first | exact Nat.le_of_ble_eq_true rfl | (simp only [room_1]; omega))⟩ dL_law_605 (fun v g_7 H locs hp hT => ?_)
  obtain ⟨r_8, rfl, hI, x_10, m_9⟩ := hp
  have hw : PX 48 2 3 71 72 g_7 om := hw.mono m_9 x_10 r_om (by decide) (by decide) rfl rfl rfl rfl
  have hN0 : PX 8 39 40 84 85 g_7 om := hN0.mono m_9 x_10 r_om (by decide) (by decide) rfl rfl rfl rfl
  have hTE : TE g_7 ba ta tz.toInt := hTE.sm m_9 r_ba (by decide) rfl r_ta (by decide) rfl
  have hWT : WT g_7 wt := hWT.sm m_9 r_wt (by decide) rfl
  have hPI : PGI g_7 sa aa wo pl wr sv.toInt := hPI.go (PK.sm m_9 x_10 r_sa rfl rfl rfl rfl rfl rfl rfl rfl rfl) (Sm.cf m_9 r_aa (by decide) rfl) (Sm.cf m_9 r_wo (by decide) rfl) (Sm.cf m_9 r_pl (by decide) rfl) (Sm.cf m_9 r_wr (by decide) rfl)
  have hM : Sm mdA g g_7 := sm_all
  have hE : Ex g g_7 := hE.tr x_10
  have r_11 : g_7.1 ox = 7 := (Ex.r x_10 r_ox (by decide))
  have r_12 : g_7.1 om = 8 := (Ex.r x_10 r_om (by decide))
  have r_13 : g_7.1 tp = 5 := (Ex.r x_10 r_tp (by decide))
  have r_14 : g_7.1 nw = 19 := (Ex.r x_10 r_nw (by decide))
  have r_15 : g_7.1 rl = 1 := (Ex.r x_10 r_rl (by decide))
  have r_16 : g_7.1 ba = 67 := (Ex.r x_10 r_ba (by decide))
  have r_17 : g_7.1 ta = 79 := (Ex.r x_10 r_ta (by decide))
  have r_18 : g_7.1 wt = 87 := (Ex.r x_10 r_wt (by decide))
  have r_19 : g_7.1 sa = 42 := (Ex.r x_10 r_sa (by decide))
  have r_20 : g_7.1 aa = 88 := (Ex.r x_10 r_aa (by decide))
  have r_21 : g_7.1 wo = 71 := (Ex.r x_10 r_wo (by decide))
  have r_22 : g_7.1 pl = 72 := (Ex.r x_10 r_pl (by decide))
  have r_23 : g_7.1 wr = 73 := (Ex.r x_10 r_wr (by decide))
  have n_24 : g_7.2.2.1 ba = 100 := (Ex.n x_10 r_ba (by decide) n_ba)
  have n_25 : g_7.2.2.1 ta = 100 := (Ex.n x_10 r_ta (by decide) n_ta)
  have n_26 : g_7.2.2.1 wt = 24 := (Ex.n x_10 r_wt (by decide) n_wt)
  have n_27 : g_7.2.2.1 sa = 6 := (Ex.n x_10 r_sa (by decide) n_sa)
  have n_28 : g_7.2.2.1 aa = 6 := (Ex.n x_10 r_aa (by decide) n_aa)
  have n_29 : g_7.2.2.1 wo = 48 := (Ex.n x_10 r_wo (by decide) n_wo)
  have n_30 : g_7.2.2.1 pl = 48 := (Ex.n x_10 r_pl (by decide) n_pl)
  have n_31 : g_7.2.2.1 wr = 48 := (Ex.n x_10 r_wr (by decide) n_wr)
  have kn_32 : g_7.2.1 om 22 = .int o1 := (Sm.v m_9 r_om (by decide) rfl ko)
  have kn_33 : g_7.2.1 ox 0 = .ref tp := (Sm.v m_9 r_ox (by decide) rfl k_tp)
  have kn_34 : g_7.2.1 ox 1 = .ref nw := (Sm.v m_9 r_ox (by decide) rfl k_nw)
  have kn_35 : g_7.2.1 ox 2 = .ref rl := (Sm.v m_9 r_ox (by decide) rfl k_rl)
  have kn_36 : g_7.2.1 tp 0 = .ref ba := (Sm.v m_9 r_tp (by decide) rfl k_ba)
  have kn_37 : g_7.2.1 om 28 = .ref ta := (Sm.v m_9 r_om (by decide) rfl k_ta)
  have kn_38 : g_7.2.1 om 42 = .ref wt := (Sm.v m_9 r_om (by decide) rfl k_wt)
  have kn_39 : g_7.2.1 nw 0 = .ref sa := (Sm.v m_9 r_nw (by decide) rfl k_sa)
  have kn_40 : g_7.2.1 om 1 = .ref aa := (Sm.v m_9 r_om (by decide) rfl k_aa)
  have kn_41 : g_7.2.1 om 2 = .ref wo := (Sm.v m_9 r_om (by decide) rfl k_wo)
  have kn_42 : g_7.2.1 om 3 = .ref pl := (Sm.v m_9 r_om (by decide) rfl k_pl)
  have kn_43 : g_7.2.1 om 4 = .ref wr := (Sm.v m_9 r_om (by decide) rfl k_wr)
  have kn_44 : g_7.2.1 tp 1 = .int tz := (Sm.v m_9 r_tp (by decide) rfl kc_tz)
  have kn_45 : g_7.2.1 om 29 = .int tz := (Sm.v m_9 r_om (by decide) rfl km_tz)
  have kn_46 : g_7.2.1 nw 1 = .int sv := (Sm.v m_9 r_nw (by decide) rfl kc_sv)
  have kn_47 : g_7.2.1 om 0 = .int sv := (Sm.v m_9 r_om (by decide) rfl km_sv)
  have kn_48 : g_7.2.1 rl 3 = .int rz := (Sm.v m_9 r_rl (by decide) rfl kc_rz)
  have kn_49 : g_7.2.1 om 30 = .int rz := (Sm.v m_9 r_om (by decide) rfl km_rz)
  refine W.eq (g2 := F0 m 608 ls [.int r_8]) rfl ?_
  refine lv_pop hx hb dL_law_608 rfl ?_
  refine lv_aload_n hx hb dL_law_609 rfl (lv_at hl 1 rfl) ?_
  refine lv_aload_n hx hb dL_law_610 rfl (lv_at hl 3 rfl) ?_
  refine lv_iload_n hx hb dL_law_611 rfl (lv_at hl 0 rfl) ?_
  refine lv_iconst (v := 1) hx hb dL_law_612 (by decide) ?_
  refine lv_iadd hx hb dL_law_613 ?_
  refine lv_topi (fun z_50 ez_50 => ?_)
  have e_z_50 : z_50.toInt = i.toInt + 1 := i_add ez_50 rfl (by decide) (by omega) (by omega)
  refine va_sld hx hb hX hbl (fun q => by have q_ : N0.1 ≤ b := q; omega) hT.2 (i_in (n := L) rfl (by omega) (by omega)) dL_law_614 ?_
  refine lv_topi (fun u_51 e_u_51 => ?_)
  refine lv_aload_n hx hb dL_law_615 rfl (lv_at hl 3 rfl) ?_
  refine lv_iload_n hx hb dL_law_616 rfl (lv_at hl 0 rfl) ?_
  refine lv_iconst (v := 2) hx hb dL_law_617 (by decide) ?_
  refine lv_iadd hx hb dL_law_618 ?_
  refine lv_topi (fun z_52 ez_52 => ?_)
  have e_z_52 : z_52.toInt = i.toInt + 2 := i_add ez_52 rfl (by decide) (by omega) (by omega)
  refine va_sld hx hb hX hbl (fun q => by have q_ : N0.1 ≤ b := q; omega) hT.2 (i_in (n := L) rfl (by omega) (by omega)) dL_law_619 ?_
  refine lv_topi (fun u_53 e_u_53 => ?_)
  refine lv_aload_n hx hb dL_law_620 rfl (lv_at hl 3 rfl) ?_
  refine lv_iload_n hx hb dL_law_621 rfl (lv_at hl 0 rfl) ?_
  refine lv_iconst (v := 3) hx hb dL_law_622 (by decide) ?_
  refine lv_iadd hx hb dL_law_623 ?_
  refine lv_topi (fun z_54 ez_54 => ?_)
  have e_z_54 : z_54.toInt = i.toInt + 3 := i_add ez_54 rfl (by decide) (by omega) (by omega)
  refine va_sld hx hb hX hbl (fun q => by have q_ : N0.1 ≤ b := q; omega) hT.2 (i_in (n := L) rfl (by omega) (by omega)) dL_law_624 ?_
  refine lv_topi (fun u_55 e_u_55 => ?_)
  refine t_callV (n := 3) (As := [.int u_51, .int u_53, .int u_55]) (rest := []) (ci := 7) hB hT hl.1 (m_safe l D cI cZ cS cR N0 g_7 hI om u_51 u_53 u_55 r_12 hw) (ro_ci r_12 rfl) rfl k_1099 k_65 k_1096 k_1097 k_1098 (by decide +kernel) ⟨(Nat.le_of_ble_eq_true rfl), (Nat.le_of_ble_eq_true rfl)⟩ rfl (Nat.le_of_ble_eq_true rfl) ⟨(by show _ ≤ _; first | exact Nat.le_of_ble_eq_true rfl | (simp only [room_1]; omega)), (by show _ ≤ _; first | exact Nat.le_of_ble_eq_true rfl | (simp only [room_1]; omega))⟩ dL_law_625 (fun v g_56 H locs hp hT => ?_)
  obtain ⟨r_57, rfl, hI, x_59, m_58⟩ := hp
  have hw : PX 48 2 3 71 72 g_56 om := hw.mono m_58 x_59 r_12 (by decide) (by decide) rfl rfl rfl rfl
  have hN0 : PX 8 39 40 84 85 g_56 om := hN0.mono m_58 x_59 r_12 (by decide) (by decide) rfl rfl rfl rfl
  have hTE : TE g_56 ba ta tz.toInt := hTE.sm m_58 r_16 (by decide) rfl r_17 (by decide) rfl
  have hWT : WT g_56 wt := hWT.sm m_58 r_18 (by decide) rfl
  have hPI : PGI g_56 sa aa wo pl wr sv.toInt := hPI.go (PK.sm m_58 x_59 r_19 rfl rfl rfl rfl rfl rfl rfl rfl rfl) (Sm.cf m_58 r_20 (by decide) rfl) (Sm.cf m_58 r_21 (by decide) rfl) (Sm.cf m_58 r_22 (by decide) rfl) (Sm.cf m_58 r_23 (by decide) rfl)
  have hM : Sm mdA g g_56 := sm_all
  have hE : Ex g g_56 := hE.tr x_59
  have r_60 : g_56.1 ox = 7 := (Ex.r x_59 r_11 (by decide))
  have r_61 : g_56.1 om = 8 := (Ex.r x_59 r_12 (by decide))
  have r_62 : g_56.1 tp = 5 := (Ex.r x_59 r_13 (by decide))
  have r_63 : g_56.1 nw = 19 := (Ex.r x_59 r_14 (by decide))
  have r_64 : g_56.1 rl = 1 := (Ex.r x_59 r_15 (by decide))
  have r_65 : g_56.1 ba = 67 := (Ex.r x_59 r_16 (by decide))
  have r_66 : g_56.1 ta = 79 := (Ex.r x_59 r_17 (by decide))
  have r_67 : g_56.1 wt = 87 := (Ex.r x_59 r_18 (by decide))
  have r_68 : g_56.1 sa = 42 := (Ex.r x_59 r_19 (by decide))
  have r_69 : g_56.1 aa = 88 := (Ex.r x_59 r_20 (by decide))
  have r_70 : g_56.1 wo = 71 := (Ex.r x_59 r_21 (by decide))
  have r_71 : g_56.1 pl = 72 := (Ex.r x_59 r_22 (by decide))
  have r_72 : g_56.1 wr = 73 := (Ex.r x_59 r_23 (by decide))
  have n_73 : g_56.2.2.1 ba = 100 := (Ex.n x_59 r_16 (by decide) n_24)
  have n_74 : g_56.2.2.1 ta = 100 := (Ex.n x_59 r_17 (by decide) n_25)
  have n_75 : g_56.2.2.1 wt = 24 := (Ex.n x_59 r_18 (by decide) n_26)
  have n_76 : g_56.2.2.1 sa = 6 := (Ex.n x_59 r_19 (by decide) n_27)
  have n_77 : g_56.2.2.1 aa = 6 := (Ex.n x_59 r_20 (by decide) n_28)
  have n_78 : g_56.2.2.1 wo = 48 := (Ex.n x_59 r_21 (by decide) n_29)
  have n_79 : g_56.2.2.1 pl = 48 := (Ex.n x_59 r_22 (by decide) n_30)
  have n_80 : g_56.2.2.1 wr = 48 := (Ex.n x_59 r_23 (by decide) n_31)
  have kn_81 : g_56.2.1 om 22 = .int o1 := (Sm.v m_58 r_12 (by decide) rfl kn_32)
  have kn_82 : g_56.2.1 ox 0 = .ref tp := (Sm.v m_58 r_11 (by decide) rfl kn_33)
  have kn_83 : g_56.2.1 ox 1 = .ref nw := (Sm.v m_58 r_11 (by decide) rfl kn_34)
  have kn_84 : g_56.2.1 ox 2 = .ref rl := (Sm.v m_58 r_11 (by decide) rfl kn_35)
  have kn_85 : g_56.2.1 tp 0 = .ref ba := (Sm.v m_58 r_13 (by decide) rfl kn_36)
  have kn_86 : g_56.2.1 om 28 = .ref ta := (Sm.v m_58 r_12 (by decide) rfl kn_37)
  have kn_87 : g_56.2.1 om 42 = .ref wt := (Sm.v m_58 r_12 (by decide) rfl kn_38)
  have kn_88 : g_56.2.1 nw 0 = .ref sa := (Sm.v m_58 r_14 (by decide) rfl kn_39)
  have kn_89 : g_56.2.1 om 1 = .ref aa := (Sm.v m_58 r_12 (by decide) rfl kn_40)
  have kn_90 : g_56.2.1 om 2 = .ref wo := (Sm.v m_58 r_12 (by decide) rfl kn_41)
  have kn_91 : g_56.2.1 om 3 = .ref pl := (Sm.v m_58 r_12 (by decide) rfl kn_42)
  have kn_92 : g_56.2.1 om 4 = .ref wr := (Sm.v m_58 r_12 (by decide) rfl kn_43)
  have kn_93 : g_56.2.1 tp 1 = .int tz := (Sm.v m_58 r_13 (by decide) rfl kn_44)
  have kn_94 : g_56.2.1 om 29 = .int tz := (Sm.v m_58 r_12 (by decide) rfl kn_45)
  have kn_95 : g_56.2.1 nw 1 = .int sv := (Sm.v m_58 r_14 (by decide) rfl kn_46)
  have kn_96 : g_56.2.1 om 0 = .int sv := (Sm.v m_58 r_12 (by decide) rfl kn_47)
  have kn_97 : g_56.2.1 rl 3 = .int rz := (Sm.v m_58 r_15 (by decide) rfl kn_48)
  have kn_98 : g_56.2.1 om 30 = .int rz := (Sm.v m_58 r_12 (by decide) rfl kn_49)
  refine W.eq (g2 := F0 m 628 ls [.int r_57]) rfl ?_
  refine lv_pop hx hb dL_law_628 rfl ?_
  refine lv_goto (tgt := 829) hx hb dL_law_629 (by decide) ?_
  refine W.widen (k := cells + 4) (n := slots + 28) (by omega) (by omega) ?_
  exact K g_56 o1 tz sv rz H locs hT hI r_60 r_61 kn_81 (by have e0_ : (0 : Int32).toInt = 0 := (by decide); omega) (by have e0_ : (0 : Int32).toInt = 0 := (by decide); omega) hw hN0 kn_82 r_62 kn_83 r_63 kn_84 r_64 kn_85 r_65 n_73 kn_86 r_66 n_74 kn_87 r_67 n_75 kn_88 r_68 n_76 kn_89 r_69 n_77 kn_90 r_70 n_78 kn_91 r_71 n_79 kn_92 r_72 n_80 kn_93 kn_94 (by have e0_ : (0 : Int32).toInt = 0 := (by decide); omega) (by have e0_ : (0 : Int32).toInt = 0 := (by decide); omega) kn_95 kn_96 (by have e0_ : (0 : Int32).toInt = 0 := (by decide); omega) (by have e0_ : (0 : Int32).toInt = 0 := (by decide); omega) kn_97 kn_98 (by have e0_ : (0 : Int32).toInt = 0 := (by decide); omega) (by have e0_ : (0 : Int32).toInt = 0 := (by decide); omega) hTE hWT hPI
set_option maxHeartbeats 4000000 in
set_option maxRecDepth 100000 in
/-- worst -/
theorem law_14 {p : Program} {l : Launch} {e : Env} {s : State} {m : MethodId} {below : List Frame} {meth : Method} {c : Code} {D : va_G} {cI cZ cS cR : ClassId} {N0 : NT} {b L : Nat} {xs : Nat → Int32} (hB : Tz p s m meth c #[Value.ref b] code 4 RL D cI cZ cS cR N0) (hAs : N0.1 = s.heap.size) (hX : va_X b L xs s s.heap) (hbl : b < s.heap.size) (hL : L ≤ 2560) (hr : meth.sig.returnType = ret) {cells slots : Nat} (hcl : cells + 4 ≤ 600000) (hsl : slots + 28 ≤ 7302250) {H : Heap} {locs : List Loc} {ls : Array Slot} (g : GS) (ox om : Nat) (tp : Nat) (nw : Nat) (rl : Nat) (ba : Nat) (ta : Nat) (wt : Nat) (sa : Nat) (aa : Nat) (wo : Nat) (pl : Nat) (wr : Nat) (i o1 tz sv rz : Int32) (hT : Tv D cI cZ cS cR N0 s.heap H locs g) (hI : Inv g) (l_i : 0 ≤ i.toInt) (u_i : i.toInt + 5 ≤ L) : g.1 ox = 7 → g.1 om = 8 → g.2.1 om 22 = .int o1 → 0 ≤ o1.toInt → o1.toInt ≤ 12 * i.toInt → PX 48 2 3 71 72 g om → PX 8 39 40 84 85 g om → g.2.1 ox 0 = .ref tp → g.1 tp = 5 → g.2.1 ox 1 = .ref nw → g.1 nw = 19 → g.2.1 ox 2 = .ref rl → g.1 rl = 1 → g.2.1 tp 0 = .ref ba → g.1 ba = 67 → g.2.2.1 ba = 100 → g.2.1 om 28 = .ref ta → g.1 ta = 79 → g.2.2.1 ta = 100 → g.2.1 om 42 = .ref wt → g.1 wt = 87 → g.2.2.1 wt = 24 → g.2.1 nw 0 = .ref sa → g.1 sa = 42 → g.2.2.1 sa = 6 → g.2.1 om 1 = .ref aa → g.1 aa = 88 → g.2.2.1 aa = 6 → g.2.1 om 2 = .ref wo → g.1 wo = 71 → g.2.2.1 wo = 48 → g.2.1 om 3 = .ref pl → g.1 pl = 72 → g.2.2.1 pl = 48 → g.2.1 om 4 = .ref wr → g.1 wr = 73 → g.2.2.1 wr = 48 → g.2.1 tp 1 = .int tz → g.2.1 om 29 = .int tz → 0 ≤ tz.toInt → tz.toInt ≤ 100 → g.2.1 nw 1 = .int sv → g.2.1 om 0 = .int sv → 0 ≤ sv.toInt → sv.toInt ≤ 6 → g.2.1 rl 3 = .int rz → g.2.1 om 30 = .int rz → 0 ≤ rz.toInt → rz.toInt ≤ 6 → TE g ba ta tz.toInt → WT g wt → PGI g sa aa wo pl wr sv.toInt → (hl : lv_has ls 4 [(3, .int i), (2, .ref om), (1, .ref ox), (0, .ref b)]) → (K : ∀ (g1 : GS) (o1_1 tz_1 sv_1 rz_1 : Int32) (H1 : Heap) (locs1 : List Loc), Tv D cI cZ cS cR N0 s.heap H1 locs1 g1 → Inv g1 → g1.1 ox = 7 → g1.1 om = 8 → g1.2.1 om 22 = .int o1_1 → 0 ≤ o1_1.toInt → o1_1.toInt ≤ 12 * i.toInt + 60 → PX 48 2 3 71 72 g1 om → PX 8 39 40 84 85 g1 om → g1.2.1 ox 0 = .ref tp → g1.1 tp = 5 → g1.2.1 ox 1 = .ref nw → g1.1 nw = 19 → g1.2.1 ox 2 = .ref rl → g1.1 rl = 1 → g1.2.1 tp 0 = .ref ba → g1.1 ba = 67 → g1.2.2.1 ba = 100 → g1.2.1 om 28 = .ref ta → g1.1 ta = 79 → g1.2.2.1 ta = 100 → g1.2.1 om 42 = .ref wt → g1.1 wt = 87 → g1.2.2.1 wt = 24 → g1.2.1 nw 0 = .ref sa → g1.1 sa = 42 → g1.2.2.1 sa = 6 → g1.2.1 om 1 = .ref aa → g1.1 aa = 88 → g1.2.2.1 aa = 6 → g1.2.1 om 2 = .ref wo → g1.1 wo = 71 → g1.2.2.1 wo = 48 → g1.2.1 om 3 = .ref pl → g1.1 pl = 72 → g1.2.2.1 pl = 48 → g1.2.1 om 4 = .ref wr → g1.1 wr = 73 → g1.2.2.1 wr = 48 → g1.2.1 tp 1 = .int tz_1 → g1.2.1 om 29 = .int tz_1 → 0 ≤ tz_1.toInt → tz_1.toInt ≤ 100 → g1.2.1 nw 1 = .int sv_1 → g1.2.1 om 0 = .int sv_1 → 0 ≤ sv_1.toInt → sv_1.toInt ≤ 6 → g1.2.1 rl 3 = .int rz_1 → g1.2.1 om 30 = .int rz_1 → 0 ≤ rz_1.toInt → rz_1.toInt ≤ 6 → TE g1 ba ta tz_1.toInt → WT g1 wt → PGI g1 sa aa wo pl wr sv_1.toInt → W p l e room_1 s m #[Value.ref b] below meth c H1 locs1 (cells + 4) (slots + 28) (lw_Z below #[Value.ref b] s) (F0 m 829 ls [])) → W p l e room_1 s m #[Value.ref b] below meth c H locs cells slots (lw_Z below #[Value.ref b] s) (F0 m 632 ls []) := by
  intro r_ox r_om ko l_o u_o hw hN0 k_tp r_tp k_nw r_nw k_rl r_rl k_ba r_ba n_ba k_ta r_ta n_ta k_wt r_wt n_wt k_sa r_sa n_sa k_aa r_aa n_aa k_wo r_wo n_wo k_pl r_pl n_pl k_wr r_wr n_wr kc_tz km_tz l_tz u_tz kc_sv km_sv l_sv u_sv kc_rz km_rz l_rz u_rz hTE hWT hPI hl K
  have hx := hB.1
  have hb := hB.2.1
  have hE : Ex g g := Ex.rf
  have hM : Sm mdA g g := sm_all
  have hTE0 := hTE
  have hI0_ := hI
  have hPI0_ := hPI
  refine lv_aload_n hx hb dL_law_632 rfl (lv_at hl 2 rfl) ?_
  refine t_callV (n := 0) (As := []) (rest := []) (ci := 6) hB hT hl.1 (P_worst l D cI cZ cS cR N0 g hI ox r_ox) (ro_ci r_ox rfl) rfl k_622 k_57 k_619 k_620 k_621 (by decide +kernel) ⟨(Nat.le_of_ble_eq_true rfl), (Nat.le_of_ble_eq_true rfl)⟩ rfl (Nat.le_of_ble_eq_true rfl) ⟨(by show _ ≤ _; first | exact Nat.le_of_ble_eq_true rfl | (simp only [room_1]; omega)), (by show _ ≤ _; first | exact Nat.le_of_ble_eq_true rfl | (simp only [room_1]; omega))⟩ dL_law_633 (fun v g_1 H locs hp hT => ?_)
  obtain ⟨r_2, rfl, hI, x_4, m_3⟩ := hp
  have hw : PX 48 2 3 71 72 g_1 om := hw.mono m_3 x_4 r_om (by decide) (by decide) rfl rfl rfl rfl
  have hN0 : PX 8 39 40 84 85 g_1 om := hN0.mono m_3 x_4 r_om (by decide) (by decide) rfl rfl rfl rfl
  have hTE : TE g_1 ba ta tz.toInt := hTE.sm m_3 r_ba (by decide) rfl r_ta (by decide) rfl
  have hWT : WT g_1 wt := hWT.sm m_3 r_wt (by decide) rfl
  have hPI : PGI g_1 sa aa wo pl wr sv.toInt := hPI.go (PK.sm m_3 x_4 r_sa rfl rfl rfl rfl rfl rfl rfl rfl rfl) (Sm.cf m_3 r_aa (by decide) rfl) (Sm.cf m_3 r_wo (by decide) rfl) (Sm.cf m_3 r_pl (by decide) rfl) (Sm.cf m_3 r_wr (by decide) rfl)
  have hM : Sm mdA g g_1 := sm_all
  have hE : Ex g g_1 := hE.tr x_4
  have r_5 : g_1.1 ox = 7 := (Ex.r x_4 r_ox (by decide))
  have r_6 : g_1.1 om = 8 := (Ex.r x_4 r_om (by decide))
  have r_7 : g_1.1 tp = 5 := (Ex.r x_4 r_tp (by decide))
  have r_8 : g_1.1 nw = 19 := (Ex.r x_4 r_nw (by decide))
  have r_9 : g_1.1 rl = 1 := (Ex.r x_4 r_rl (by decide))
  have r_10 : g_1.1 ba = 67 := (Ex.r x_4 r_ba (by decide))
  have r_11 : g_1.1 ta = 79 := (Ex.r x_4 r_ta (by decide))
  have r_12 : g_1.1 wt = 87 := (Ex.r x_4 r_wt (by decide))
  have r_13 : g_1.1 sa = 42 := (Ex.r x_4 r_sa (by decide))
  have r_14 : g_1.1 aa = 88 := (Ex.r x_4 r_aa (by decide))
  have r_15 : g_1.1 wo = 71 := (Ex.r x_4 r_wo (by decide))
  have r_16 : g_1.1 pl = 72 := (Ex.r x_4 r_pl (by decide))
  have r_17 : g_1.1 wr = 73 := (Ex.r x_4 r_wr (by decide))
  have n_18 : g_1.2.2.1 ba = 100 := (Ex.n x_4 r_ba (by decide) n_ba)
  have n_19 : g_1.2.2.1 ta = 100 := (Ex.n x_4 r_ta (by decide) n_ta)
  have n_20 : g_1.2.2.1 wt = 24 := (Ex.n x_4 r_wt (by decide) n_wt)
  have n_21 : g_1.2.2.1 sa = 6 := (Ex.n x_4 r_sa (by decide) n_sa)
  have n_22 : g_1.2.2.1 aa = 6 := (Ex.n x_4 r_aa (by decide) n_aa)
  have n_23 : g_1.2.2.1 wo = 48 := (Ex.n x_4 r_wo (by decide) n_wo)
  have n_24 : g_1.2.2.1 pl = 48 := (Ex.n x_4 r_pl (by decide) n_pl)
  have n_25 : g_1.2.2.1 wr = 48 := (Ex.n x_4 r_wr (by decide) n_wr)
  have kn_26 : g_1.2.1 om 22 = .int o1 := (Sm.v m_3 r_om (by decide) rfl ko)
  have kn_27 : g_1.2.1 ox 0 = .ref tp := (Sm.v m_3 r_ox (by decide) rfl k_tp)
  have kn_28 : g_1.2.1 ox 1 = .ref nw := (Sm.v m_3 r_ox (by decide) rfl k_nw)
  have kn_29 : g_1.2.1 ox 2 = .ref rl := (Sm.v m_3 r_ox (by decide) rfl k_rl)
  have kn_30 : g_1.2.1 tp 0 = .ref ba := (Sm.v m_3 r_tp (by decide) rfl k_ba)
  have kn_31 : g_1.2.1 om 28 = .ref ta := (Sm.v m_3 r_om (by decide) rfl k_ta)
  have kn_32 : g_1.2.1 om 42 = .ref wt := (Sm.v m_3 r_om (by decide) rfl k_wt)
  have kn_33 : g_1.2.1 nw 0 = .ref sa := (Sm.v m_3 r_nw (by decide) rfl k_sa)
  have kn_34 : g_1.2.1 om 1 = .ref aa := (Sm.v m_3 r_om (by decide) rfl k_aa)
  have kn_35 : g_1.2.1 om 2 = .ref wo := (Sm.v m_3 r_om (by decide) rfl k_wo)
  have kn_36 : g_1.2.1 om 3 = .ref pl := (Sm.v m_3 r_om (by decide) rfl k_pl)
  have kn_37 : g_1.2.1 om 4 = .ref wr := (Sm.v m_3 r_om (by decide) rfl k_wr)
  have kn_38 : g_1.2.1 tp 1 = .int tz := (Sm.v m_3 r_tp (by decide) rfl kc_tz)
  have kn_39 : g_1.2.1 om 29 = .int tz := (Sm.v m_3 r_om (by decide) rfl km_tz)
  have kn_40 : g_1.2.1 nw 1 = .int sv := (Sm.v m_3 r_nw (by decide) rfl kc_sv)
  have kn_41 : g_1.2.1 om 0 = .int sv := (Sm.v m_3 r_om (by decide) rfl km_sv)
  have kn_42 : g_1.2.1 rl 3 = .int rz := (Sm.v m_3 r_rl (by decide) rfl kc_rz)
  have kn_43 : g_1.2.1 om 30 = .int rz := (Sm.v m_3 r_om (by decide) rfl km_rz)
  refine W.eq (g2 := F0 m 636 ls [.int r_2]) rfl ?_
  refine lv_pop hx hb dL_law_636 rfl ?_
  refine lv_aload_n hx hb dL_law_637 rfl (lv_at hl 1 rfl) ?_
  refine t_callV (n := 0) (As := []) (rest := []) (ci := 7) hB hT hl.1 (m_worst l D cI cZ cS cR N0 g_1 hI om r_6 hw) (ro_ci r_6 rfl) rfl k_1119 k_65 k_1116 k_1117 k_1118 (by decide +kernel) ⟨(Nat.le_of_ble_eq_true rfl), (Nat.le_of_ble_eq_true rfl)⟩ rfl (Nat.le_of_ble_eq_true rfl) ⟨(by show _ ≤ _; first | exact Nat.le_of_ble_eq_true rfl | (simp only [room_1]; omega)), (by show _ ≤ _; first | exact Nat.le_of_ble_eq_true rfl | (simp only [room_1]; omega))⟩ dL_law_638 (fun v g_44 H locs hp hT => ?_)
  obtain ⟨r_45, rfl, hI, x_47, m_46⟩ := hp
  have hw : PX 48 2 3 71 72 g_44 om := hw.mono m_46 x_47 r_6 (by decide) (by decide) rfl rfl rfl rfl
  have hN0 : PX 8 39 40 84 85 g_44 om := hN0.mono m_46 x_47 r_6 (by decide) (by decide) rfl rfl rfl rfl
  have hTE : TE g_44 ba ta tz.toInt := hTE.sm m_46 r_10 (by decide) rfl r_11 (by decide) rfl
  have hWT : WT g_44 wt := hWT.sm m_46 r_12 (by decide) rfl
  have hPI : PGI g_44 sa aa wo pl wr sv.toInt := hPI.go (PK.sm m_46 x_47 r_13 rfl rfl rfl rfl rfl rfl rfl rfl rfl) (Sm.cf m_46 r_14 (by decide) rfl) (Sm.cf m_46 r_15 (by decide) rfl) (Sm.cf m_46 r_16 (by decide) rfl) (Sm.cf m_46 r_17 (by decide) rfl)
  have hM : Sm mdA g g_44 := sm_all
  have hE : Ex g g_44 := hE.tr x_47
  have r_48 : g_44.1 ox = 7 := (Ex.r x_47 r_5 (by decide))
  have r_49 : g_44.1 om = 8 := (Ex.r x_47 r_6 (by decide))
  have r_50 : g_44.1 tp = 5 := (Ex.r x_47 r_7 (by decide))
  have r_51 : g_44.1 nw = 19 := (Ex.r x_47 r_8 (by decide))
  have r_52 : g_44.1 rl = 1 := (Ex.r x_47 r_9 (by decide))
  have r_53 : g_44.1 ba = 67 := (Ex.r x_47 r_10 (by decide))
  have r_54 : g_44.1 ta = 79 := (Ex.r x_47 r_11 (by decide))
  have r_55 : g_44.1 wt = 87 := (Ex.r x_47 r_12 (by decide))
  have r_56 : g_44.1 sa = 42 := (Ex.r x_47 r_13 (by decide))
  have r_57 : g_44.1 aa = 88 := (Ex.r x_47 r_14 (by decide))
  have r_58 : g_44.1 wo = 71 := (Ex.r x_47 r_15 (by decide))
  have r_59 : g_44.1 pl = 72 := (Ex.r x_47 r_16 (by decide))
  have r_60 : g_44.1 wr = 73 := (Ex.r x_47 r_17 (by decide))
  have n_61 : g_44.2.2.1 ba = 100 := (Ex.n x_47 r_10 (by decide) n_18)
  have n_62 : g_44.2.2.1 ta = 100 := (Ex.n x_47 r_11 (by decide) n_19)
  have n_63 : g_44.2.2.1 wt = 24 := (Ex.n x_47 r_12 (by decide) n_20)
  have n_64 : g_44.2.2.1 sa = 6 := (Ex.n x_47 r_13 (by decide) n_21)
  have n_65 : g_44.2.2.1 aa = 6 := (Ex.n x_47 r_14 (by decide) n_22)
  have n_66 : g_44.2.2.1 wo = 48 := (Ex.n x_47 r_15 (by decide) n_23)
  have n_67 : g_44.2.2.1 pl = 48 := (Ex.n x_47 r_16 (by decide) n_24)
  have n_68 : g_44.2.2.1 wr = 48 := (Ex.n x_47 r_17 (by decide) n_25)
  have kn_69 : g_44.2.1 om 22 = .int o1 := (Sm.v m_46 r_6 (by decide) rfl kn_26)
  have kn_70 : g_44.2.1 ox 0 = .ref tp := (Sm.v m_46 r_5 (by decide) rfl kn_27)
  have kn_71 : g_44.2.1 ox 1 = .ref nw := (Sm.v m_46 r_5 (by decide) rfl kn_28)
  have kn_72 : g_44.2.1 ox 2 = .ref rl := (Sm.v m_46 r_5 (by decide) rfl kn_29)
  have kn_73 : g_44.2.1 tp 0 = .ref ba := (Sm.v m_46 r_7 (by decide) rfl kn_30)
  have kn_74 : g_44.2.1 om 28 = .ref ta := (Sm.v m_46 r_6 (by decide) rfl kn_31)
  have kn_75 : g_44.2.1 om 42 = .ref wt := (Sm.v m_46 r_6 (by decide) rfl kn_32)
  have kn_76 : g_44.2.1 nw 0 = .ref sa := (Sm.v m_46 r_8 (by decide) rfl kn_33)
  have kn_77 : g_44.2.1 om 1 = .ref aa := (Sm.v m_46 r_6 (by decide) rfl kn_34)
  have kn_78 : g_44.2.1 om 2 = .ref wo := (Sm.v m_46 r_6 (by decide) rfl kn_35)
  have kn_79 : g_44.2.1 om 3 = .ref pl := (Sm.v m_46 r_6 (by decide) rfl kn_36)
  have kn_80 : g_44.2.1 om 4 = .ref wr := (Sm.v m_46 r_6 (by decide) rfl kn_37)
  have kn_81 : g_44.2.1 tp 1 = .int tz := (Sm.v m_46 r_7 (by decide) rfl kn_38)
  have kn_82 : g_44.2.1 om 29 = .int tz := (Sm.v m_46 r_6 (by decide) rfl kn_39)
  have kn_83 : g_44.2.1 nw 1 = .int sv := (Sm.v m_46 r_8 (by decide) rfl kn_40)
  have kn_84 : g_44.2.1 om 0 = .int sv := (Sm.v m_46 r_6 (by decide) rfl kn_41)
  have kn_85 : g_44.2.1 rl 3 = .int rz := (Sm.v m_46 r_9 (by decide) rfl kn_42)
  have kn_86 : g_44.2.1 om 30 = .int rz := (Sm.v m_46 r_6 (by decide) rfl kn_43)
  refine W.eq (g2 := F0 m 641 ls [.int r_45]) rfl ?_
  refine lv_pop hx hb dL_law_641 rfl ?_
  refine lv_goto (tgt := 829) hx hb dL_law_642 (by decide) ?_
  refine W.widen (k := cells + 4) (n := slots + 28) (by omega) (by omega) ?_
  exact K g_44 o1 tz sv rz H locs hT hI r_48 r_49 kn_69 (by have e0_ : (0 : Int32).toInt = 0 := (by decide); omega) (by have e0_ : (0 : Int32).toInt = 0 := (by decide); omega) hw hN0 kn_70 r_50 kn_71 r_51 kn_72 r_52 kn_73 r_53 n_61 kn_74 r_54 n_62 kn_75 r_55 n_63 kn_76 r_56 n_64 kn_77 r_57 n_65 kn_78 r_58 n_66 kn_79 r_59 n_67 kn_80 r_60 n_68 kn_81 kn_82 (by have e0_ : (0 : Int32).toInt = 0 := (by decide); omega) (by have e0_ : (0 : Int32).toInt = 0 := (by decide); omega) kn_83 kn_84 (by have e0_ : (0 : Int32).toInt = 0 := (by decide); omega) (by have e0_ : (0 : Int32).toInt = 0 := (by decide); omega) kn_85 kn_86 (by have e0_ : (0 : Int32).toInt = 0 := (by decide); omega) (by have e0_ : (0 : Int32).toInt = 0 := (by decide); omega) hTE hWT hPI
set_option maxHeartbeats 4000000 in
set_option maxRecDepth 100000 in
/-- orders -/
theorem law_15 {p : Program} {l : Launch} {e : Env} {s : State} {m : MethodId} {below : List Frame} {meth : Method} {c : Code} {D : va_G} {cI cZ cS cR : ClassId} {N0 : NT} {b L : Nat} {xs : Nat → Int32} (hB : Tz p s m meth c #[Value.ref b] code 4 RL D cI cZ cS cR N0) (hAs : N0.1 = s.heap.size) (hX : va_X b L xs s s.heap) (hbl : b < s.heap.size) (hL : L ≤ 2560) (hr : meth.sig.returnType = ret) {cells slots : Nat} (hcl : cells + 4 ≤ 600000) (hsl : slots + 28 ≤ 7302250) {H : Heap} {locs : List Loc} {ls : Array Slot} (g : GS) (ox om : Nat) (tp : Nat) (nw : Nat) (rl : Nat) (ba : Nat) (ta : Nat) (wt : Nat) (sa : Nat) (aa : Nat) (wo : Nat) (pl : Nat) (wr : Nat) (i o1 tz sv rz : Int32) (hT : Tv D cI cZ cS cR N0 s.heap H locs g) (hI : Inv g) (l_i : 0 ≤ i.toInt) (u_i : i.toInt + 5 ≤ L) : g.1 ox = 7 → g.1 om = 8 → g.2.1 om 22 = .int o1 → 0 ≤ o1.toInt → o1.toInt ≤ 12 * i.toInt → PX 48 2 3 71 72 g om → PX 8 39 40 84 85 g om → g.2.1 ox 0 = .ref tp → g.1 tp = 5 → g.2.1 ox 1 = .ref nw → g.1 nw = 19 → g.2.1 ox 2 = .ref rl → g.1 rl = 1 → g.2.1 tp 0 = .ref ba → g.1 ba = 67 → g.2.2.1 ba = 100 → g.2.1 om 28 = .ref ta → g.1 ta = 79 → g.2.2.1 ta = 100 → g.2.1 om 42 = .ref wt → g.1 wt = 87 → g.2.2.1 wt = 24 → g.2.1 nw 0 = .ref sa → g.1 sa = 42 → g.2.2.1 sa = 6 → g.2.1 om 1 = .ref aa → g.1 aa = 88 → g.2.2.1 aa = 6 → g.2.1 om 2 = .ref wo → g.1 wo = 71 → g.2.2.1 wo = 48 → g.2.1 om 3 = .ref pl → g.1 pl = 72 → g.2.2.1 pl = 48 → g.2.1 om 4 = .ref wr → g.1 wr = 73 → g.2.2.1 wr = 48 → g.2.1 tp 1 = .int tz → g.2.1 om 29 = .int tz → 0 ≤ tz.toInt → tz.toInt ≤ 100 → g.2.1 nw 1 = .int sv → g.2.1 om 0 = .int sv → 0 ≤ sv.toInt → sv.toInt ≤ 6 → g.2.1 rl 3 = .int rz → g.2.1 om 30 = .int rz → 0 ≤ rz.toInt → rz.toInt ≤ 6 → TE g ba ta tz.toInt → WT g wt → PGI g sa aa wo pl wr sv.toInt → (hl : lv_has ls 4 [(3, .int i), (2, .ref om), (1, .ref ox), (0, .ref b)]) → (K : ∀ (g1 : GS) (o1_1 tz_1 sv_1 rz_1 : Int32) (H1 : Heap) (locs1 : List Loc), Tv D cI cZ cS cR N0 s.heap H1 locs1 g1 → Inv g1 → g1.1 ox = 7 → g1.1 om = 8 → g1.2.1 om 22 = .int o1_1 → 0 ≤ o1_1.toInt → o1_1.toInt ≤ 12 * i.toInt + 60 → PX 48 2 3 71 72 g1 om → PX 8 39 40 84 85 g1 om → g1.2.1 ox 0 = .ref tp → g1.1 tp = 5 → g1.2.1 ox 1 = .ref nw → g1.1 nw = 19 → g1.2.1 ox 2 = .ref rl → g1.1 rl = 1 → g1.2.1 tp 0 = .ref ba → g1.1 ba = 67 → g1.2.2.1 ba = 100 → g1.2.1 om 28 = .ref ta → g1.1 ta = 79 → g1.2.2.1 ta = 100 → g1.2.1 om 42 = .ref wt → g1.1 wt = 87 → g1.2.2.1 wt = 24 → g1.2.1 nw 0 = .ref sa → g1.1 sa = 42 → g1.2.2.1 sa = 6 → g1.2.1 om 1 = .ref aa → g1.1 aa = 88 → g1.2.2.1 aa = 6 → g1.2.1 om 2 = .ref wo → g1.1 wo = 71 → g1.2.2.1 wo = 48 → g1.2.1 om 3 = .ref pl → g1.1 pl = 72 → g1.2.2.1 pl = 48 → g1.2.1 om 4 = .ref wr → g1.1 wr = 73 → g1.2.2.1 wr = 48 → g1.2.1 tp 1 = .int tz_1 → g1.2.1 om 29 = .int tz_1 → 0 ≤ tz_1.toInt → tz_1.toInt ≤ 100 → g1.2.1 nw 1 = .int sv_1 → g1.2.1 om 0 = .int sv_1 → 0 ≤ sv_1.toInt → sv_1.toInt ≤ 6 → g1.2.1 rl 3 = .int rz_1 → g1.2.1 om 30 = .int rz_1 → 0 ≤ rz_1.toInt → rz_1.toInt ≤ 6 → TE g1 ba ta tz_1.toInt → WT g1 wt → PGI g1 sa aa wo pl wr sv_1.toInt → W p l e room_1 s m #[Value.ref b] below meth c H1 locs1 (cells + 4) (slots + 28) (lw_Z below #[Value.ref b] s) (F0 m 829 ls [])) → W p l e room_1 s m #[Value.ref b] below meth c H locs cells slots (lw_Z below #[Value.ref b] s) (F0 m 645 ls []) := by
  intro r_ox r_om ko l_o u_o hw hN0 k_tp r_tp k_nw r_nw k_rl r_rl k_ba r_ba n_ba k_ta r_ta n_ta k_wt r_wt n_wt k_sa r_sa n_sa k_aa r_aa n_aa k_wo r_wo n_wo k_pl r_pl n_pl k_wr r_wr n_wr kc_tz km_tz l_tz u_tz kc_sv km_sv l_sv u_sv kc_rz km_rz l_rz u_rz hTE hWT hPI hl K
  have hx := hB.1
  have hb := hB.2.1
  have hE : Ex g g := Ex.rf
  have hM : Sm mdA g g := sm_all
  have hTE0 := hTE
  have hI0_ := hI
  have hPI0_ := hPI
  refine lv_aload_n hx hb dL_law_645 rfl (lv_at hl 2 rfl) ?_
  refine lv_aload_n hx hb dL_law_646 rfl (lv_at hl 3 rfl) ?_
  refine lv_iload_n hx hb dL_law_647 rfl (lv_at hl 0 rfl) ?_
  refine lv_iconst (v := 1) hx hb dL_law_648 (by decide) ?_
  refine lv_iadd hx hb dL_law_649 ?_
  refine lv_topi (fun z_1 ez_1 => ?_)
  have e_z_1 : z_1.toInt = i.toInt + 1 := i_add ez_1 rfl (by decide) (by omega) (by omega)
  refine va_sld hx hb hX hbl (fun q => by have q_ : N0.1 ≤ b := q; omega) hT.2 (i_in (n := L) rfl (by omega) (by omega)) dL_law_650 ?_
  refine lv_topi (fun u_2 e_u_2 => ?_)
  refine lv_aload_n hx hb dL_law_651 rfl (lv_at hl 3 rfl) ?_
  refine lv_iload_n hx hb dL_law_652 rfl (lv_at hl 0 rfl) ?_
  refine lv_iconst (v := 2) hx hb dL_law_653 (by decide) ?_
  refine lv_iadd hx hb dL_law_654 ?_
  refine lv_topi (fun z_3 ez_3 => ?_)
  have e_z_3 : z_3.toInt = i.toInt + 2 := i_add ez_3 rfl (by decide) (by omega) (by omega)
  refine va_sld hx hb hX hbl (fun q => by have q_ : N0.1 ≤ b := q; omega) hT.2 (i_in (n := L) rfl (by omega) (by omega)) dL_law_655 ?_
  refine lv_topi (fun u_4 e_u_4 => ?_)
  refine t_callV (n := 2) (As := [.int u_2, .int u_4]) (rest := []) (ci := 6) hB hT hl.1 (P_orders l D cI cZ cS cR N0 g hI ox u_2 u_4 r_ox) (ro_ci r_ox rfl) rfl k_634 k_57 k_631 k_632 k_633 (by decide +kernel) ⟨(Nat.le_of_ble_eq_true rfl), (Nat.le_of_ble_eq_true rfl)⟩ rfl (Nat.le_of_ble_eq_true rfl) ⟨(by show _ ≤ _; first | exact Nat.le_of_ble_eq_true rfl | (simp only [room_1]; omega)), (by show _ ≤ _; first | exact Nat.le_of_ble_eq_true rfl | (simp only [room_1]; omega))⟩ dL_law_656 (fun v g_5 H locs hp hT => ?_)
  obtain ⟨r_6, rfl, hI, x_8, m_7⟩ := hp
  have hw : PX 48 2 3 71 72 g_5 om := hw.mono m_7 x_8 r_om (by decide) (by decide) rfl rfl rfl rfl
  have hN0 : PX 8 39 40 84 85 g_5 om := hN0.mono m_7 x_8 r_om (by decide) (by decide) rfl rfl rfl rfl
  have hTE : TE g_5 ba ta tz.toInt := hTE.sm m_7 r_ba (by decide) rfl r_ta (by decide) rfl
  have hWT : WT g_5 wt := hWT.sm m_7 r_wt (by decide) rfl
  have hPI : PGI g_5 sa aa wo pl wr sv.toInt := hPI.go (PK.sm m_7 x_8 r_sa rfl rfl rfl rfl rfl rfl rfl rfl rfl) (Sm.cf m_7 r_aa (by decide) rfl) (Sm.cf m_7 r_wo (by decide) rfl) (Sm.cf m_7 r_pl (by decide) rfl) (Sm.cf m_7 r_wr (by decide) rfl)
  have hM : Sm mdA g g_5 := sm_all
  have hE : Ex g g_5 := hE.tr x_8
  have r_9 : g_5.1 ox = 7 := (Ex.r x_8 r_ox (by decide))
  have r_10 : g_5.1 om = 8 := (Ex.r x_8 r_om (by decide))
  have r_11 : g_5.1 tp = 5 := (Ex.r x_8 r_tp (by decide))
  have r_12 : g_5.1 nw = 19 := (Ex.r x_8 r_nw (by decide))
  have r_13 : g_5.1 rl = 1 := (Ex.r x_8 r_rl (by decide))
  have r_14 : g_5.1 ba = 67 := (Ex.r x_8 r_ba (by decide))
  have r_15 : g_5.1 ta = 79 := (Ex.r x_8 r_ta (by decide))
  have r_16 : g_5.1 wt = 87 := (Ex.r x_8 r_wt (by decide))
  have r_17 : g_5.1 sa = 42 := (Ex.r x_8 r_sa (by decide))
  have r_18 : g_5.1 aa = 88 := (Ex.r x_8 r_aa (by decide))
  have r_19 : g_5.1 wo = 71 := (Ex.r x_8 r_wo (by decide))
  have r_20 : g_5.1 pl = 72 := (Ex.r x_8 r_pl (by decide))
  have r_21 : g_5.1 wr = 73 := (Ex.r x_8 r_wr (by decide))
  have n_22 : g_5.2.2.1 ba = 100 := (Ex.n x_8 r_ba (by decide) n_ba)
  have n_23 : g_5.2.2.1 ta = 100 := (Ex.n x_8 r_ta (by decide) n_ta)
  have n_24 : g_5.2.2.1 wt = 24 := (Ex.n x_8 r_wt (by decide) n_wt)
  have n_25 : g_5.2.2.1 sa = 6 := (Ex.n x_8 r_sa (by decide) n_sa)
  have n_26 : g_5.2.2.1 aa = 6 := (Ex.n x_8 r_aa (by decide) n_aa)
  have n_27 : g_5.2.2.1 wo = 48 := (Ex.n x_8 r_wo (by decide) n_wo)
  have n_28 : g_5.2.2.1 pl = 48 := (Ex.n x_8 r_pl (by decide) n_pl)
  have n_29 : g_5.2.2.1 wr = 48 := (Ex.n x_8 r_wr (by decide) n_wr)
  have kn_30 : g_5.2.1 om 22 = .int o1 := (Sm.v m_7 r_om (by decide) rfl ko)
  have kn_31 : g_5.2.1 ox 0 = .ref tp := (Sm.v m_7 r_ox (by decide) rfl k_tp)
  have kn_32 : g_5.2.1 ox 1 = .ref nw := (Sm.v m_7 r_ox (by decide) rfl k_nw)
  have kn_33 : g_5.2.1 ox 2 = .ref rl := (Sm.v m_7 r_ox (by decide) rfl k_rl)
  have kn_34 : g_5.2.1 tp 0 = .ref ba := (Sm.v m_7 r_tp (by decide) rfl k_ba)
  have kn_35 : g_5.2.1 om 28 = .ref ta := (Sm.v m_7 r_om (by decide) rfl k_ta)
  have kn_36 : g_5.2.1 om 42 = .ref wt := (Sm.v m_7 r_om (by decide) rfl k_wt)
  have kn_37 : g_5.2.1 nw 0 = .ref sa := (Sm.v m_7 r_nw (by decide) rfl k_sa)
  have kn_38 : g_5.2.1 om 1 = .ref aa := (Sm.v m_7 r_om (by decide) rfl k_aa)
  have kn_39 : g_5.2.1 om 2 = .ref wo := (Sm.v m_7 r_om (by decide) rfl k_wo)
  have kn_40 : g_5.2.1 om 3 = .ref pl := (Sm.v m_7 r_om (by decide) rfl k_pl)
  have kn_41 : g_5.2.1 om 4 = .ref wr := (Sm.v m_7 r_om (by decide) rfl k_wr)
  have kn_42 : g_5.2.1 tp 1 = .int tz := (Sm.v m_7 r_tp (by decide) rfl kc_tz)
  have kn_43 : g_5.2.1 om 29 = .int tz := (Sm.v m_7 r_om (by decide) rfl km_tz)
  have kn_44 : g_5.2.1 nw 1 = .int sv := (Sm.v m_7 r_nw (by decide) rfl kc_sv)
  have kn_45 : g_5.2.1 om 0 = .int sv := (Sm.v m_7 r_om (by decide) rfl km_sv)
  have kn_46 : g_5.2.1 rl 3 = .int rz := (Sm.v m_7 r_rl (by decide) rfl kc_rz)
  have kn_47 : g_5.2.1 om 30 = .int rz := (Sm.v m_7 r_om (by decide) rfl km_rz)
  refine W.eq (g2 := F0 m 659 ls [.int r_6]) rfl ?_
  refine lv_pop hx hb dL_law_659 rfl ?_
  refine lv_aload_n hx hb dL_law_660 rfl (lv_at hl 1 rfl) ?_
  refine lv_aload_n hx hb dL_law_661 rfl (lv_at hl 3 rfl) ?_
  refine lv_iload_n hx hb dL_law_662 rfl (lv_at hl 0 rfl) ?_
  refine lv_iconst (v := 1) hx hb dL_law_663 (by decide) ?_
  refine lv_iadd hx hb dL_law_664 ?_
  refine lv_topi (fun z_48 ez_48 => ?_)
  have e_z_48 : z_48.toInt = i.toInt + 1 := i_add ez_48 rfl (by decide) (by omega) (by omega)
  refine va_sld hx hb hX hbl (fun q => by have q_ : N0.1 ≤ b := q; omega) hT.2 (i_in (n := L) rfl (by omega) (by omega)) dL_law_665 ?_
  refine lv_topi (fun u_49 e_u_49 => ?_)
  refine lv_aload_n hx hb dL_law_666 rfl (lv_at hl 3 rfl) ?_
  refine lv_iload_n hx hb dL_law_667 rfl (lv_at hl 0 rfl) ?_
  refine lv_iconst (v := 2) hx hb dL_law_668 (by decide) ?_
  refine lv_iadd hx hb dL_law_669 ?_
  refine lv_topi (fun z_50 ez_50 => ?_)
  have e_z_50 : z_50.toInt = i.toInt + 2 := i_add ez_50 rfl (by decide) (by omega) (by omega)
  refine va_sld hx hb hX hbl (fun q => by have q_ : N0.1 ≤ b := q; omega) hT.2 (i_in (n := L) rfl (by omega) (by omega)) dL_law_670 ?_
  refine lv_topi (fun u_51 e_u_51 => ?_)
  refine t_callV (n := 2) (As := [.int u_49, .int u_51]) (rest := []) (ci := 7) hB hT hl.1 (m_orders l D cI cZ cS cR N0 g_5 hI om u_49 u_51 r_10 hw) (ro_ci r_10 rfl) rfl k_1127 k_65 k_1124 k_1125 k_1126 (by decide +kernel) ⟨(Nat.le_of_ble_eq_true rfl), (Nat.le_of_ble_eq_true rfl)⟩ rfl (Nat.le_of_ble_eq_true rfl) ⟨(by show _ ≤ _; first | exact Nat.le_of_ble_eq_true rfl | (simp only [room_1]; omega)), (by show _ ≤ _; first | exact Nat.le_of_ble_eq_true rfl | (simp only [room_1]; omega))⟩ dL_law_671 (fun v g_52 H locs hp hT => ?_)
  obtain ⟨r_53, rfl, hI, x_55, m_54⟩ := hp
  have hw : PX 48 2 3 71 72 g_52 om := hw.mono m_54 x_55 r_10 (by decide) (by decide) rfl rfl rfl rfl
  have hN0 : PX 8 39 40 84 85 g_52 om := hN0.mono m_54 x_55 r_10 (by decide) (by decide) rfl rfl rfl rfl
  have hTE : TE g_52 ba ta tz.toInt := hTE.sm m_54 r_14 (by decide) rfl r_15 (by decide) rfl
  have hWT : WT g_52 wt := hWT.sm m_54 r_16 (by decide) rfl
  have hPI : PGI g_52 sa aa wo pl wr sv.toInt := hPI.go (PK.sm m_54 x_55 r_17 rfl rfl rfl rfl rfl rfl rfl rfl rfl) (Sm.cf m_54 r_18 (by decide) rfl) (Sm.cf m_54 r_19 (by decide) rfl) (Sm.cf m_54 r_20 (by decide) rfl) (Sm.cf m_54 r_21 (by decide) rfl)
  have hM : Sm mdA g g_52 := sm_all
  have hE : Ex g g_52 := hE.tr x_55
  have r_56 : g_52.1 ox = 7 := (Ex.r x_55 r_9 (by decide))
  have r_57 : g_52.1 om = 8 := (Ex.r x_55 r_10 (by decide))
  have r_58 : g_52.1 tp = 5 := (Ex.r x_55 r_11 (by decide))
  have r_59 : g_52.1 nw = 19 := (Ex.r x_55 r_12 (by decide))
  have r_60 : g_52.1 rl = 1 := (Ex.r x_55 r_13 (by decide))
  have r_61 : g_52.1 ba = 67 := (Ex.r x_55 r_14 (by decide))
  have r_62 : g_52.1 ta = 79 := (Ex.r x_55 r_15 (by decide))
  have r_63 : g_52.1 wt = 87 := (Ex.r x_55 r_16 (by decide))
  have r_64 : g_52.1 sa = 42 := (Ex.r x_55 r_17 (by decide))
  have r_65 : g_52.1 aa = 88 := (Ex.r x_55 r_18 (by decide))
  have r_66 : g_52.1 wo = 71 := (Ex.r x_55 r_19 (by decide))
  have r_67 : g_52.1 pl = 72 := (Ex.r x_55 r_20 (by decide))
  have r_68 : g_52.1 wr = 73 := (Ex.r x_55 r_21 (by decide))
  have n_69 : g_52.2.2.1 ba = 100 := (Ex.n x_55 r_14 (by decide) n_22)
  have n_70 : g_52.2.2.1 ta = 100 := (Ex.n x_55 r_15 (by decide) n_23)
  have n_71 : g_52.2.2.1 wt = 24 := (Ex.n x_55 r_16 (by decide) n_24)
  have n_72 : g_52.2.2.1 sa = 6 := (Ex.n x_55 r_17 (by decide) n_25)
  have n_73 : g_52.2.2.1 aa = 6 := (Ex.n x_55 r_18 (by decide) n_26)
  have n_74 : g_52.2.2.1 wo = 48 := (Ex.n x_55 r_19 (by decide) n_27)
  have n_75 : g_52.2.2.1 pl = 48 := (Ex.n x_55 r_20 (by decide) n_28)
  have n_76 : g_52.2.2.1 wr = 48 := (Ex.n x_55 r_21 (by decide) n_29)
  have kn_77 : g_52.2.1 om 22 = .int o1 := (Sm.v m_54 r_10 (by decide) rfl kn_30)
  have kn_78 : g_52.2.1 ox 0 = .ref tp := (Sm.v m_54 r_9 (by decide) rfl kn_31)
  have kn_79 : g_52.2.1 ox 1 = .ref nw := (Sm.v m_54 r_9 (by decide) rfl kn_32)
  have kn_80 : g_52.2.1 ox 2 = .ref rl := (Sm.v m_54 r_9 (by decide) rfl kn_33)
  have kn_81 : g_52.2.1 tp 0 = .ref ba := (Sm.v m_54 r_11 (by decide) rfl kn_34)
  have kn_82 : g_52.2.1 om 28 = .ref ta := (Sm.v m_54 r_10 (by decide) rfl kn_35)
  have kn_83 : g_52.2.1 om 42 = .ref wt := (Sm.v m_54 r_10 (by decide) rfl kn_36)
  have kn_84 : g_52.2.1 nw 0 = .ref sa := (Sm.v m_54 r_12 (by decide) rfl kn_37)
  have kn_85 : g_52.2.1 om 1 = .ref aa := (Sm.v m_54 r_10 (by decide) rfl kn_38)
  have kn_86 : g_52.2.1 om 2 = .ref wo := (Sm.v m_54 r_10 (by decide) rfl kn_39)
  have kn_87 : g_52.2.1 om 3 = .ref pl := (Sm.v m_54 r_10 (by decide) rfl kn_40)
  have kn_88 : g_52.2.1 om 4 = .ref wr := (Sm.v m_54 r_10 (by decide) rfl kn_41)
  have kn_89 : g_52.2.1 tp 1 = .int tz := (Sm.v m_54 r_11 (by decide) rfl kn_42)
  have kn_90 : g_52.2.1 om 29 = .int tz := (Sm.v m_54 r_10 (by decide) rfl kn_43)
  have kn_91 : g_52.2.1 nw 1 = .int sv := (Sm.v m_54 r_12 (by decide) rfl kn_44)
  have kn_92 : g_52.2.1 om 0 = .int sv := (Sm.v m_54 r_10 (by decide) rfl kn_45)
  have kn_93 : g_52.2.1 rl 3 = .int rz := (Sm.v m_54 r_13 (by decide) rfl kn_46)
  have kn_94 : g_52.2.1 om 30 = .int rz := (Sm.v m_54 r_10 (by decide) rfl kn_47)
  refine W.eq (g2 := F0 m 674 ls [.int r_53]) rfl ?_
  refine lv_pop hx hb dL_law_674 rfl ?_
  refine lv_goto (tgt := 829) hx hb dL_law_675 (by decide) ?_
  refine W.widen (k := cells + 4) (n := slots + 28) (by omega) (by omega) ?_
  exact K g_52 o1 tz sv rz H locs hT hI r_56 r_57 kn_77 (by have e0_ : (0 : Int32).toInt = 0 := (by decide); omega) (by have e0_ : (0 : Int32).toInt = 0 := (by decide); omega) hw hN0 kn_78 r_58 kn_79 r_59 kn_80 r_60 kn_81 r_61 n_69 kn_82 r_62 n_70 kn_83 r_63 n_71 kn_84 r_64 n_72 kn_85 r_65 n_73 kn_86 r_66 n_74 kn_87 r_67 n_75 kn_88 r_68 n_76 kn_89 kn_90 (by have e0_ : (0 : Int32).toInt = 0 := (by decide); omega) (by have e0_ : (0 : Int32).toInt = 0 := (by decide); omega) kn_91 kn_92 (by have e0_ : (0 : Int32).toInt = 0 := (by decide); omega) (by have e0_ : (0 : Int32).toInt = 0 := (by decide); omega) kn_93 kn_94 (by have e0_ : (0 : Int32).toInt = 0 := (by decide); omega) (by have e0_ : (0 : Int32).toInt = 0 := (by decide); omega) hTE hWT hPI
