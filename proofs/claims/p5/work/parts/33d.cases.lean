theorem k_570 : Cond.methodLink RL 69 yX6_free ∈ tb := mt 570 (by decide +kernel) rfl
theorem k_571 : Cond.instanceMethod yX6_free ∈ tb := mt 571 (by decide +kernel) rfl
theorem k_572 : Cond.selects RX6 yX6_free yX6_free ∈ tb := mt 572 (by decide +kernel) rfl
set_option maxRecDepth 20000 in
theorem k_573 : Cond.code yX6_free cX6_free 3 (some .int) ∈ tb := mt 573 rfl rfl
theorem k_574 : Cond.methodLink RL 73 yX6_safe ∈ tb := mt 574 (by decide +kernel) rfl
theorem k_575 : Cond.instanceMethod yX6_safe ∈ tb := mt 575 (by decide +kernel) rfl
theorem k_576 : Cond.selects RX6 yX6_safe yX6_safe ∈ tb := mt 576 (by decide +kernel) rfl
set_option maxRecDepth 20000 in
theorem k_577 : Cond.code yX6_safe cX6_safe 4 (some .int) ∈ tb := mt 577 rfl rfl
theorem k_619 : Cond.methodLink RL 77 yX6_worst ∈ tb := mt 619 (by decide +kernel) rfl
theorem k_620 : Cond.instanceMethod yX6_worst ∈ tb := mt 620 (by decide +kernel) rfl
theorem k_621 : Cond.selects RX6 yX6_worst yX6_worst ∈ tb := mt 621 (by decide +kernel) rfl
set_option maxRecDepth 20000 in
theorem k_622 : Cond.code yX6_worst cX6_worst 1 (some .int) ∈ tb := mt 622 rfl rfl
theorem k_631 : Cond.methodLink RL 81 yX6_orders ∈ tb := mt 631 (by decide +kernel) rfl
theorem k_632 : Cond.instanceMethod yX6_orders ∈ tb := mt 632 (by decide +kernel) rfl
theorem k_633 : Cond.selects RX6 yX6_orders yX6_orders ∈ tb := mt 633 (by decide +kernel) rfl
set_option maxRecDepth 20000 in
theorem k_634 : Cond.code yX6_orders cX6_orders 3 (some .int) ∈ tb := mt 634 rfl rfl
theorem k_1092 : Cond.methodLink RL 72 yX7_free ∈ tb := mt 1092 (by decide +kernel) rfl
theorem k_1093 : Cond.instanceMethod yX7_free ∈ tb := mt 1093 (by decide +kernel) rfl
theorem k_1094 : Cond.selects RX7 yX7_free yX7_free ∈ tb := mt 1094 (by decide +kernel) rfl
set_option maxRecDepth 20000 in
theorem k_1095 : Cond.code yX7_free cX7_free 3 (some .int) ∈ tb := mt 1095 rfl rfl
theorem k_1096 : Cond.methodLink RL 76 yX7_safe ∈ tb := mt 1096 (by decide +kernel) rfl
theorem k_1097 : Cond.instanceMethod yX7_safe ∈ tb := mt 1097 (by decide +kernel) rfl
theorem k_1098 : Cond.selects RX7 yX7_safe yX7_safe ∈ tb := mt 1098 (by decide +kernel) rfl
set_option maxRecDepth 20000 in
theorem k_1099 : Cond.code yX7_safe cX7_safe 4 (some .int) ∈ tb := mt 1099 rfl rfl
theorem k_1116 : Cond.methodLink RL 80 yX7_worst ∈ tb := mt 1116 (by decide +kernel) rfl
theorem k_1117 : Cond.instanceMethod yX7_worst ∈ tb := mt 1117 (by decide +kernel) rfl
theorem k_1118 : Cond.selects RX7 yX7_worst yX7_worst ∈ tb := mt 1118 (by decide +kernel) rfl
set_option maxRecDepth 20000 in
theorem k_1119 : Cond.code yX7_worst cX7_worst 1 (some .int) ∈ tb := mt 1119 rfl rfl
theorem k_1124 : Cond.methodLink RL 84 yX7_orders ∈ tb := mt 1124 (by decide +kernel) rfl
theorem k_1125 : Cond.instanceMethod yX7_orders ∈ tb := mt 1125 (by decide +kernel) rfl
theorem k_1126 : Cond.selects RX7 yX7_orders yX7_orders ∈ tb := mt 1126 (by decide +kernel) rfl
set_option maxRecDepth 20000 in
theorem k_1127 : Cond.code yX7_orders cX7_orders 7 (some .int) ∈ tb := mt 1127 rfl rfl
theorem dL_law_566 : decode cL_law 566 = .ok (.aload_n 1, 1) := by decide +kernel
theorem dL_law_567 : decode cL_law 567 = .ok (.aload_n 0, 1) := by decide +kernel
theorem dL_law_568 : decode cL_law 568 = .ok (.iload_n 3, 1) := by decide +kernel
theorem dL_law_569 : decode cL_law 569 = .ok (.iconst 1, 1) := by decide +kernel
theorem dL_law_570 : decode cL_law 570 = .ok (.iadd, 1) := by decide +kernel
theorem dL_law_571 : decode cL_law 571 = .ok (.iaload, 1) := by decide +kernel
theorem dL_law_572 : decode cL_law 572 = .ok (.invokevirtual 69, 3) := by decide +kernel
theorem dL_law_575 : decode cL_law 575 = .ok (.pop, 1) := by decide +kernel
theorem dL_law_576 : decode cL_law 576 = .ok (.aload_n 2, 1) := by decide +kernel
theorem dL_law_577 : decode cL_law 577 = .ok (.aload_n 0, 1) := by decide +kernel
theorem dL_law_578 : decode cL_law 578 = .ok (.iload_n 3, 1) := by decide +kernel
theorem dL_law_579 : decode cL_law 579 = .ok (.iconst 1, 1) := by decide +kernel
theorem dL_law_580 : decode cL_law 580 = .ok (.iadd, 1) := by decide +kernel
theorem dL_law_581 : decode cL_law 581 = .ok (.iaload, 1) := by decide +kernel
theorem dL_law_582 : decode cL_law 582 = .ok (.invokevirtual 72, 3) := by decide +kernel
theorem dL_law_585 : decode cL_law 585 = .ok (.pop, 1) := by decide +kernel
theorem dL_law_586 : decode cL_law 586 = .ok (.goto 243, 3) := by decide +kernel
theorem dL_law_589 : decode cL_law 589 = .ok (.aload_n 1, 1) := by decide +kernel
theorem dL_law_590 : decode cL_law 590 = .ok (.aload_n 0, 1) := by decide +kernel
theorem dL_law_591 : decode cL_law 591 = .ok (.iload_n 3, 1) := by decide +kernel
theorem dL_law_592 : decode cL_law 592 = .ok (.iconst 1, 1) := by decide +kernel
theorem dL_law_593 : decode cL_law 593 = .ok (.iadd, 1) := by decide +kernel
theorem dL_law_594 : decode cL_law 594 = .ok (.iaload, 1) := by decide +kernel
theorem dL_law_595 : decode cL_law 595 = .ok (.aload_n 0, 1) := by decide +kernel
theorem dL_law_596 : decode cL_law 596 = .ok (.iload_n 3, 1) := by decide +kernel
theorem dL_law_597 : decode cL_law 597 = .ok (.iconst 2, 1) := by decide +kernel
theorem dL_law_598 : decode cL_law 598 = .ok (.iadd, 1) := by decide +kernel
theorem dL_law_599 : decode cL_law 599 = .ok (.iaload, 1) := by decide +kernel
theorem dL_law_600 : decode cL_law 600 = .ok (.aload_n 0, 1) := by decide +kernel
theorem dL_law_601 : decode cL_law 601 = .ok (.iload_n 3, 1) := by decide +kernel
theorem dL_law_602 : decode cL_law 602 = .ok (.iconst 3, 1) := by decide +kernel
theorem dL_law_603 : decode cL_law 603 = .ok (.iadd, 1) := by decide +kernel
theorem dL_law_604 : decode cL_law 604 = .ok (.iaload, 1) := by decide +kernel
theorem dL_law_605 : decode cL_law 605 = .ok (.invokevirtual 73, 3) := by decide +kernel
theorem dL_law_608 : decode cL_law 608 = .ok (.pop, 1) := by decide +kernel
theorem dL_law_609 : decode cL_law 609 = .ok (.aload_n 2, 1) := by decide +kernel
theorem dL_law_610 : decode cL_law 610 = .ok (.aload_n 0, 1) := by decide +kernel
theorem dL_law_611 : decode cL_law 611 = .ok (.iload_n 3, 1) := by decide +kernel
theorem dL_law_612 : decode cL_law 612 = .ok (.iconst 1, 1) := by decide +kernel
theorem dL_law_613 : decode cL_law 613 = .ok (.iadd, 1) := by decide +kernel
theorem dL_law_614 : decode cL_law 614 = .ok (.iaload, 1) := by decide +kernel
theorem dL_law_615 : decode cL_law 615 = .ok (.aload_n 0, 1) := by decide +kernel
theorem dL_law_616 : decode cL_law 616 = .ok (.iload_n 3, 1) := by decide +kernel
theorem dL_law_617 : decode cL_law 617 = .ok (.iconst 2, 1) := by decide +kernel
theorem dL_law_618 : decode cL_law 618 = .ok (.iadd, 1) := by decide +kernel
theorem dL_law_619 : decode cL_law 619 = .ok (.iaload, 1) := by decide +kernel
theorem dL_law_620 : decode cL_law 620 = .ok (.aload_n 0, 1) := by decide +kernel
theorem dL_law_621 : decode cL_law 621 = .ok (.iload_n 3, 1) := by decide +kernel
theorem dL_law_622 : decode cL_law 622 = .ok (.iconst 3, 1) := by decide +kernel
theorem dL_law_623 : decode cL_law 623 = .ok (.iadd, 1) := by decide +kernel
theorem dL_law_624 : decode cL_law 624 = .ok (.iaload, 1) := by decide +kernel
theorem dL_law_625 : decode cL_law 625 = .ok (.invokevirtual 76, 3) := by decide +kernel
theorem dL_law_628 : decode cL_law 628 = .ok (.pop, 1) := by decide +kernel
theorem dL_law_629 : decode cL_law 629 = .ok (.goto 200, 3) := by decide +kernel
theorem dL_law_632 : decode cL_law 632 = .ok (.aload_n 1, 1) := by decide +kernel
theorem dL_law_633 : decode cL_law 633 = .ok (.invokevirtual 77, 3) := by decide +kernel
theorem dL_law_636 : decode cL_law 636 = .ok (.pop, 1) := by decide +kernel
theorem dL_law_637 : decode cL_law 637 = .ok (.aload_n 2, 1) := by decide +kernel
theorem dL_law_638 : decode cL_law 638 = .ok (.invokevirtual 80, 3) := by decide +kernel
theorem dL_law_641 : decode cL_law 641 = .ok (.pop, 1) := by decide +kernel
theorem dL_law_642 : decode cL_law 642 = .ok (.goto 187, 3) := by decide +kernel
theorem dL_law_645 : decode cL_law 645 = .ok (.aload_n 1, 1) := by decide +kernel
theorem dL_law_646 : decode cL_law 646 = .ok (.aload_n 0, 1) := by decide +kernel
theorem dL_law_647 : decode cL_law 647 = .ok (.iload_n 3, 1) := by decide +kernel
theorem dL_law_648 : decode cL_law 648 = .ok (.iconst 1, 1) := by decide +kernel
theorem dL_law_649 : decode cL_law 649 = .ok (.iadd, 1) := by decide +kernel
theorem dL_law_650 : decode cL_law 650 = .ok (.iaload, 1) := by decide +kernel
theorem dL_law_651 : decode cL_law 651 = .ok (.aload_n 0, 1) := by decide +kernel
theorem dL_law_652 : decode cL_law 652 = .ok (.iload_n 3, 1) := by decide +kernel
theorem dL_law_653 : decode cL_law 653 = .ok (.iconst 2, 1) := by decide +kernel
theorem dL_law_654 : decode cL_law 654 = .ok (.iadd, 1) := by decide +kernel
theorem dL_law_655 : decode cL_law 655 = .ok (.iaload, 1) := by decide +kernel
theorem dL_law_656 : decode cL_law 656 = .ok (.invokevirtual 81, 3) := by decide +kernel
theorem dL_law_659 : decode cL_law 659 = .ok (.pop, 1) := by decide +kernel
theorem dL_law_660 : decode cL_law 660 = .ok (.aload_n 2, 1) := by decide +kernel
theorem dL_law_661 : decode cL_law 661 = .ok (.aload_n 0, 1) := by decide +kernel
theorem dL_law_662 : decode cL_law 662 = .ok (.iload_n 3, 1) := by decide +kernel
theorem dL_law_663 : decode cL_law 663 = .ok (.iconst 1, 1) := by decide +kernel
theorem dL_law_664 : decode cL_law 664 = .ok (.iadd, 1) := by decide +kernel
theorem dL_law_665 : decode cL_law 665 = .ok (.iaload, 1) := by decide +kernel
theorem dL_law_666 : decode cL_law 666 = .ok (.aload_n 0, 1) := by decide +kernel
theorem dL_law_667 : decode cL_law 667 = .ok (.iload_n 3, 1) := by decide +kernel
theorem dL_law_668 : decode cL_law 668 = .ok (.iconst 2, 1) := by decide +kernel
theorem dL_law_669 : decode cL_law 669 = .ok (.iadd, 1) := by decide +kernel
theorem dL_law_670 : decode cL_law 670 = .ok (.iaload, 1) := by decide +kernel
theorem dL_law_671 : decode cL_law 671 = .ok (.invokevirtual 84, 3) := by decide +kernel
theorem dL_law_674 : decode cL_law 674 = .ok (.pop, 1) := by decide +kernel
theorem dL_law_675 : decode cL_law 675 = .ok (.goto 154, 3) := by decide +kernel
set_option maxHeartbeats 4000000 in
set_option maxRecDepth 100000 in
/-- free -/
theorem law_12 {p : Program} {l : Launch} {e : Env} {s : State} {m : MethodId} {below : List Frame} {meth : Method} {c : Code} {D : va_G} {cI cZ cS cR : ClassId} {N0 : NT} {b L : Nat} {xs : Nat → Int32} (hB : Tz p s m meth c #[Value.ref b] code 4 RL D cI cZ cS cR N0) (hAs : N0.1 = s.heap.size) (hX : va_X b L xs s s.heap) (hbl : b < s.heap.size) (hL : L ≤ 2560) (hr : meth.sig.returnType = ret) {cells slots : Nat} (hcl : cells + 4 ≤ 600000) (hsl : slots + 28 ≤ 7302250) {H : Heap} {locs : List Loc} {ls : Array Slot} (g : GS) (ox om : Nat) (tp : Nat) (nw : Nat) (rl : Nat) (ba : Nat) (ta : Nat) (wt : Nat) (sa : Nat) (ha : Nat) (i o1 tz sv rz : Int32) (hT : Tv D cI cZ cS cR N0 s.heap H locs g) (hI : Inv g) (l_i : 0 ≤ i.toInt) (u_i : i.toInt + 5 ≤ L) : g.1 ox = 7 → g.1 om = 8 → g.2.1 om 22 = .int o1 → 0 ≤ o1.toInt → o1.toInt ≤ 12 * i.toInt → PX 48 2 3 71 72 g om → PX 8 39 40 84 85 g om → g.2.1 ox 0 = .ref tp → g.1 tp = 5 → g.2.1 ox 1 = .ref nw → g.1 nw = 19 → g.2.1 ox 2 = .ref rl → g.1 rl = 1 → g.2.1 tp 0 = .ref ba → g.1 ba = 67 → g.2.2.1 ba = 100 → g.2.1 om 28 = .ref ta → g.1 ta = 79 → g.2.2.1 ta = 100 → g.2.1 om 42 = .ref wt → g.1 wt = 87 → g.2.2.1 wt = 24 → g.2.1 nw 0 = .ref sa → g.1 sa = 42 → g.2.2.1 sa = 6 → g.2.1 om 5 = .ref ha → g.1 ha = 74 → g.2.2.1 ha = 6 → g.2.1 tp 1 = .int tz → g.2.1 om 29 = .int tz → 0 ≤ tz.toInt → tz.toInt ≤ 100 → g.2.1 nw 1 = .int sv → g.2.1 om 0 = .int sv → 0 ≤ sv.toInt → sv.toInt ≤ 6 → g.2.1 rl 3 = .int rz → g.2.1 om 30 = .int rz → 0 ≤ rz.toInt → rz.toInt ≤ 6 → TE g ba ta tz.toInt → WT g wt → HO 3 0 g sa ha sv.toInt → (hl : lv_has ls 4 [(3, .int i), (2, .ref om), (1, .ref ox), (0, .ref b)]) → (K : ∀ (g1 : GS) (o1_1 tz_1 sv_1 rz_1 : Int32) (H1 : Heap) (locs1 : List Loc), Tv D cI cZ cS cR N0 s.heap H1 locs1 g1 → Inv g1 → g1.1 ox = 7 → g1.1 om = 8 → g1.2.1 om 22 = .int o1_1 → 0 ≤ o1_1.toInt → o1_1.toInt ≤ 12 * i.toInt + 60 → PX 48 2 3 71 72 g1 om → PX 8 39 40 84 85 g1 om → g1.2.1 ox 0 = .ref tp → g1.1 tp = 5 → g1.2.1 ox 1 = .ref nw → g1.1 nw = 19 → g1.2.1 ox 2 = .ref rl → g1.1 rl = 1 → g1.2.1 tp 0 = .ref ba → g1.1 ba = 67 → g1.2.2.1 ba = 100 → g1.2.1 om 28 = .ref ta → g1.1 ta = 79 → g1.2.2.1 ta = 100 → g1.2.1 om 42 = .ref wt → g1.1 wt = 87 → g1.2.2.1 wt = 24 → g1.2.1 nw 0 = .ref sa → g1.1 sa = 42 → g1.2.2.1 sa = 6 → g1.2.1 om 5 = .ref ha → g1.1 ha = 74 → g1.2.2.1 ha = 6 → g1.2.1 tp 1 = .int tz_1 → g1.2.1 om 29 = .int tz_1 → 0 ≤ tz_1.toInt → tz_1.toInt ≤ 100 → g1.2.1 nw 1 = .int sv_1 → g1.2.1 om 0 = .int sv_1 → 0 ≤ sv_1.toInt → sv_1.toInt ≤ 6 → g1.2.1 rl 3 = .int rz_1 → g1.2.1 om 30 = .int rz_1 → 0 ≤ rz_1.toInt → rz_1.toInt ≤ 6 → TE g1 ba ta tz_1.toInt → WT g1 wt → HO 3 0 g1 sa ha sv_1.toInt → W p l e room_1 s m #[Value.ref b] below meth c H1 locs1 (cells + 4) (slots + 28) (lw_Z below #[Value.ref b] s) (F0 m 829 ls [])) → W p l e room_1 s m #[Value.ref b] below meth c H locs cells slots (lw_Z below #[Value.ref b] s) (F0 m 566 ls []) := by
  intro r_ox r_om ko l_o u_o hw hN0 k_tp r_tp k_nw r_nw k_rl r_rl k_ba r_ba n_ba k_ta r_ta n_ta k_wt r_wt n_wt k_sa r_sa n_sa k_ha r_ha n_ha kc_tz km_tz l_tz u_tz kc_sv km_sv l_sv u_sv kc_rz km_rz l_rz u_rz hTE hWT hHO hl K
  have hx := hB.1
  have hb := hB.2.1
  have hE : Ex g g := Ex.rf
  have hM : Sm mdA g g := sm_all
  have hTE0 := hTE
  refine lv_aload_n hx hb dL_law_566 rfl (lv_at hl 2 rfl) ?_
  refine lv_aload_n hx hb dL_law_567 rfl (lv_at hl 3 rfl) ?_
  refine lv_iload_n hx hb dL_law_568 rfl (lv_at hl 0 rfl) ?_
  refine lv_iconst (v := 1) hx hb dL_law_569 (by decide) ?_
  refine lv_iadd hx hb dL_law_570 ?_
  refine lv_topi (fun z_1 ez_1 => ?_)
  have e_z_1 : z_1.toInt = i.toInt + 1 := i_add ez_1 rfl (by decide) (by omega) (by omega)
  refine va_sld hx hb hX hbl (fun q => by have q_ : N0.1 ≤ b := q; omega) hT.2 (i_in (n := L) rfl (by omega) (by omega)) dL_law_571 ?_
  refine lv_topi (fun u_2 e_u_2 => ?_)
  obtain ⟨v_3, e_v_3, l_v_3, u_v_3⟩ := f_7_6 hI r_ox
  refine t_callV (n := 1) (As := [.int u_2]) (rest := []) (ci := 6) hB hT hl.1 (P_free l D cI cZ cS cR N0 g hI ox u_2 v_3 r_ox e_v_3 (by omega) (by omega)) (ro_ci r_ox rfl) rfl k_573 k_57 k_570 k_571 k_572 (by decide +kernel) ⟨(Nat.le_of_ble_eq_true rfl), (Nat.le_of_ble_eq_true rfl)⟩ rfl (Nat.le_of_ble_eq_true rfl) ⟨(by show _ ≤ _; first | exact Nat.le_of_ble_eq_true rfl | (simp only [room_1]; omega)), (by show _ ≤ _; first | exact Nat.le_of_ble_eq_true rfl | (simp only [room_1]; omega))⟩ dL_law_572 (fun v g_4 H locs hp hT => ?_)
  obtain ⟨r_5, z2_6, rfl, hI, x_10, m_9, f_7, f_8⟩ := hp
  have hw : PX 48 2 3 71 72 g_4 om := hw.mono m_9 x_10 r_om (by decide) (by decide) rfl rfl rfl rfl
  have hN0 : PX 8 39 40 84 85 g_4 om := hN0.mono m_9 x_10 r_om (by decide) (by decide) rfl rfl rfl rfl
  have hTE : TE g_4 ba ta tz.toInt := hTE.sm m_9 r_ba (by decide) rfl r_ta (by decide) rfl
  have hWT : WT g_4 wt := hWT.sm m_9 r_wt (by decide) rfl
  have hHO : HO 3 0 g_4 sa ha sv.toInt := hHO.mono m_9 x_10 r_sa r_ha (by decide) rfl rfl rfl
  have hM : Sm mdA g g_4 := sm_all
  have hE : Ex g g_4 := hE.tr x_10
  have r_11 : g_4.1 ox = 7 := (Ex.r x_10 r_ox (by decide))
  have r_12 : g_4.1 om = 8 := (Ex.r x_10 r_om (by decide))
  have r_13 : g_4.1 tp = 5 := (Ex.r x_10 r_tp (by decide))
  have r_14 : g_4.1 nw = 19 := (Ex.r x_10 r_nw (by decide))
  have r_15 : g_4.1 rl = 1 := (Ex.r x_10 r_rl (by decide))
  have r_16 : g_4.1 ba = 67 := (Ex.r x_10 r_ba (by decide))
  have r_17 : g_4.1 ta = 79 := (Ex.r x_10 r_ta (by decide))
  have r_18 : g_4.1 wt = 87 := (Ex.r x_10 r_wt (by decide))
  have r_19 : g_4.1 sa = 42 := (Ex.r x_10 r_sa (by decide))
  have r_20 : g_4.1 ha = 74 := (Ex.r x_10 r_ha (by decide))
  have n_21 : g_4.2.2.1 ba = 100 := (Ex.n x_10 r_ba (by decide) n_ba)
  have n_22 : g_4.2.2.1 ta = 100 := (Ex.n x_10 r_ta (by decide) n_ta)
  have n_23 : g_4.2.2.1 wt = 24 := (Ex.n x_10 r_wt (by decide) n_wt)
  have n_24 : g_4.2.2.1 sa = 6 := (Ex.n x_10 r_sa (by decide) n_sa)
  have n_25 : g_4.2.2.1 ha = 6 := (Ex.n x_10 r_ha (by decide) n_ha)
  have kn_26 : g_4.2.1 om 22 = .int o1 := (Sm.v m_9 r_om (by decide) rfl ko)
  have kn_27 : g_4.2.1 ox 0 = .ref tp := (Sm.v m_9 r_ox (by decide) rfl k_tp)
  have kn_28 : g_4.2.1 ox 1 = .ref nw := (Sm.v m_9 r_ox (by decide) rfl k_nw)
  have kn_29 : g_4.2.1 ox 2 = .ref rl := (Sm.v m_9 r_ox (by decide) rfl k_rl)
  have kn_30 : g_4.2.1 tp 0 = .ref ba := (Sm.v m_9 r_tp (by decide) rfl k_ba)
  have kn_31 : g_4.2.1 om 28 = .ref ta := (Sm.v m_9 r_om (by decide) rfl k_ta)
  have kn_32 : g_4.2.1 om 42 = .ref wt := (Sm.v m_9 r_om (by decide) rfl k_wt)
  have kn_33 : g_4.2.1 nw 0 = .ref sa := (Sm.v m_9 r_nw (by decide) rfl k_sa)
  have kn_34 : g_4.2.1 om 5 = .ref ha := (Sm.v m_9 r_om (by decide) rfl k_ha)
  have kn_35 : g_4.2.1 tp 1 = .int tz := (Sm.v m_9 r_tp (by decide) rfl kc_tz)
  have kn_36 : g_4.2.1 om 29 = .int tz := (Sm.v m_9 r_om (by decide) rfl km_tz)
  have kn_37 : g_4.2.1 nw 1 = .int sv := (Sm.v m_9 r_nw (by decide) rfl kc_sv)
  have kn_38 : g_4.2.1 om 0 = .int sv := (Sm.v m_9 r_om (by decide) rfl km_sv)
  have kn_39 : g_4.2.1 rl 3 = .int rz := (Sm.v m_9 r_rl (by decide) rfl kc_rz)
  have kn_40 : g_4.2.1 om 30 = .int rz := (Sm.v m_9 r_om (by decide) rfl km_rz)
  refine W.eq (g2 := F0 m 575 ls [.int r_5]) rfl ?_
  refine lv_pop hx hb dL_law_575 rfl ?_
  refine lv_aload_n hx hb dL_law_576 rfl (lv_at hl 1 rfl) ?_
  refine lv_aload_n hx hb dL_law_577 rfl (lv_at hl 3 rfl) ?_
  refine lv_iload_n hx hb dL_law_578 rfl (lv_at hl 0 rfl) ?_
  refine lv_iconst (v := 1) hx hb dL_law_579 (by decide) ?_
  refine lv_iadd hx hb dL_law_580 ?_
  refine lv_topi (fun z_41 ez_41 => ?_)
  have e_z_41 : z_41.toInt = i.toInt + 1 := i_add ez_41 rfl (by decide) (by omega) (by omega)
  refine va_sld hx hb hX hbl (fun q => by have q_ : N0.1 ≤ b := q; omega) hT.2 (i_in (n := L) rfl (by omega) (by omega)) dL_law_581 ?_
  refine lv_topi (fun u_42 e_u_42 => ?_)
  obtain ⟨v_43, e_v_43, l_v_43, u_v_43⟩ := f_8_34 hI r_12
  refine t_callV (n := 1) (As := [.int u_42]) (rest := []) (ci := 7) hB hT hl.1 (m_free l D cI cZ cS cR N0 g_4 hI om u_42 v_43 r_12 e_v_43 (by omega) (by omega)) (ro_ci r_12 rfl) rfl k_1095 k_65 k_1092 k_1093 k_1094 (by decide +kernel) ⟨(Nat.le_of_ble_eq_true rfl), (Nat.le_of_ble_eq_true rfl)⟩ rfl (Nat.le_of_ble_eq_true rfl) ⟨(by show _ ≤ _; first | exact Nat.le_of_ble_eq_true rfl | (simp only [room_1]; omega)), (by show _ ≤ _; first | exact Nat.le_of_ble_eq_true rfl | (simp only [room_1]; omega))⟩ dL_law_582 (fun v g_44 H locs hp hT => ?_)
  obtain ⟨r_45, z2_46, rfl, hI, x_50, m_49, f_47, f_48⟩ := hp
  have hw : PX 48 2 3 71 72 g_44 om := hw.mono m_49 x_50 r_12 (by decide) (by decide) rfl rfl rfl rfl
  have hN0 : PX 8 39 40 84 85 g_44 om := hN0.mono m_49 x_50 r_12 (by decide) (by decide) rfl rfl rfl rfl
  have hTE : TE g_44 ba ta tz.toInt := hTE.sm m_49 r_16 (by decide) rfl r_17 (by decide) rfl
  have hWT : WT g_44 wt := hWT.sm m_49 r_18 (by decide) rfl
  have hHO : HO 3 0 g_44 sa ha sv.toInt := hHO.mono m_49 x_50 r_19 r_20 (by decide) rfl rfl rfl
  have hM : Sm mdA g g_44 := sm_all
  have hE : Ex g g_44 := hE.tr x_50
  have r_51 : g_44.1 ox = 7 := (Ex.r x_50 r_11 (by decide))
  have r_52 : g_44.1 om = 8 := (Ex.r x_50 r_12 (by decide))
  have r_53 : g_44.1 tp = 5 := (Ex.r x_50 r_13 (by decide))
  have r_54 : g_44.1 nw = 19 := (Ex.r x_50 r_14 (by decide))
  have r_55 : g_44.1 rl = 1 := (Ex.r x_50 r_15 (by decide))
  have r_56 : g_44.1 ba = 67 := (Ex.r x_50 r_16 (by decide))
  have r_57 : g_44.1 ta = 79 := (Ex.r x_50 r_17 (by decide))
  have r_58 : g_44.1 wt = 87 := (Ex.r x_50 r_18 (by decide))
  have r_59 : g_44.1 sa = 42 := (Ex.r x_50 r_19 (by decide))
  have r_60 : g_44.1 ha = 74 := (Ex.r x_50 r_20 (by decide))
  have n_61 : g_44.2.2.1 ba = 100 := (Ex.n x_50 r_16 (by decide) n_21)
  have n_62 : g_44.2.2.1 ta = 100 := (Ex.n x_50 r_17 (by decide) n_22)
  have n_63 : g_44.2.2.1 wt = 24 := (Ex.n x_50 r_18 (by decide) n_23)
  have n_64 : g_44.2.2.1 sa = 6 := (Ex.n x_50 r_19 (by decide) n_24)
  have n_65 : g_44.2.2.1 ha = 6 := (Ex.n x_50 r_20 (by decide) n_25)
  have kn_66 : g_44.2.1 om 22 = .int o1 := (Sm.v m_49 r_12 (by decide) rfl kn_26)
  have kn_67 : g_44.2.1 ox 0 = .ref tp := (Sm.v m_49 r_11 (by decide) rfl kn_27)
  have kn_68 : g_44.2.1 ox 1 = .ref nw := (Sm.v m_49 r_11 (by decide) rfl kn_28)
  have kn_69 : g_44.2.1 ox 2 = .ref rl := (Sm.v m_49 r_11 (by decide) rfl kn_29)
  have kn_70 : g_44.2.1 tp 0 = .ref ba := (Sm.v m_49 r_13 (by decide) rfl kn_30)
  have kn_71 : g_44.2.1 om 28 = .ref ta := (Sm.v m_49 r_12 (by decide) rfl kn_31)
  have kn_72 : g_44.2.1 om 42 = .ref wt := (Sm.v m_49 r_12 (by decide) rfl kn_32)
  have kn_73 : g_44.2.1 nw 0 = .ref sa := (Sm.v m_49 r_14 (by decide) rfl kn_33)
  have kn_74 : g_44.2.1 om 5 = .ref ha := (Sm.v m_49 r_12 (by decide) rfl kn_34)
  have kn_75 : g_44.2.1 tp 1 = .int tz := (Sm.v m_49 r_13 (by decide) rfl kn_35)
  have kn_76 : g_44.2.1 om 29 = .int tz := (Sm.v m_49 r_12 (by decide) rfl kn_36)
  have kn_77 : g_44.2.1 nw 1 = .int sv := (Sm.v m_49 r_14 (by decide) rfl kn_37)
  have kn_78 : g_44.2.1 om 0 = .int sv := (Sm.v m_49 r_12 (by decide) rfl kn_38)
  have kn_79 : g_44.2.1 rl 3 = .int rz := (Sm.v m_49 r_15 (by decide) rfl kn_39)
  have kn_80 : g_44.2.1 om 30 = .int rz := (Sm.v m_49 r_12 (by decide) rfl kn_40)
  refine W.eq (g2 := F0 m 585 ls [.int r_45]) rfl ?_
  refine lv_pop hx hb dL_law_585 rfl ?_
  refine lv_goto (tgt := 829) hx hb dL_law_586 (by decide) ?_
  refine W.widen (k := cells + 4) (n := slots + 28) (by omega) (by omega) ?_
  exact K g_44 o1 tz sv rz H locs hT hI r_51 r_52 kn_66 (by have e0_ : (0 : Int32).toInt = 0 := (by decide); omega) (by have e0_ : (0 : Int32).toInt = 0 := (by decide); omega) hw hN0 kn_67 r_53 kn_68 r_54 kn_69 r_55 kn_70 r_56 n_61 kn_71 r_57 n_62 kn_72 r_58 n_63 kn_73 r_59 n_64 kn_74 r_60 n_65 kn_75 kn_76 (by have e0_ : (0 : Int32).toInt = 0 := (by decide); omega) (by have e0_ : (0 : Int32).toInt = 0 := (by decide); omega) kn_77 kn_78 (by have e0_ : (0 : Int32).toInt = 0 := (by decide); omega) (by have e0_ : (0 : Int32).toInt = 0 := (by decide); omega) kn_79 kn_80 (by have e0_ : (0 : Int32).toInt = 0 := (by decide); omega) (by have e0_ : (0 : Int32).toInt = 0 := (by decide); omega) hTE hWT hHO
set_option maxHeartbeats 4000000 in
set_option maxRecDepth 100000 in
/-- safe -/
theorem law_13 {p : Program} {l : Launch} {e : Env} {s : State} {m : MethodId} {below : List Frame} {meth : Method} {c : Code} {D : va_G} {cI cZ cS cR : ClassId} {N0 : NT} {b L : Nat} {xs : Nat → Int32} (hB : Tz p s m meth c #[Value.ref b] code 4 RL D cI cZ cS cR N0) (hAs : N0.1 = s.heap.size) (hX : va_X b L xs s s.heap) (hbl : b < s.heap.size) (hL : L ≤ 2560) (hr : meth.sig.returnType = ret) {cells slots : Nat} (hcl : cells + 4 ≤ 600000) (hsl : slots + 28 ≤ 7302250) {H : Heap} {locs : List Loc} {ls : Array Slot} (g : GS) (ox om : Nat) (tp : Nat) (nw : Nat) (rl : Nat) (ba : Nat) (ta : Nat) (wt : Nat) (sa : Nat) (ha : Nat) (i o1 tz sv rz : Int32) (hT : Tv D cI cZ cS cR N0 s.heap H locs g) (hI : Inv g) (l_i : 0 ≤ i.toInt) (u_i : i.toInt + 5 ≤ L) : g.1 ox = 7 → g.1 om = 8 → g.2.1 om 22 = .int o1 → 0 ≤ o1.toInt → o1.toInt ≤ 12 * i.toInt → PX 48 2 3 71 72 g om → PX 8 39 40 84 85 g om → g.2.1 ox 0 = .ref tp → g.1 tp = 5 → g.2.1 ox 1 = .ref nw → g.1 nw = 19 → g.2.1 ox 2 = .ref rl → g.1 rl = 1 → g.2.1 tp 0 = .ref ba → g.1 ba = 67 → g.2.2.1 ba = 100 → g.2.1 om 28 = .ref ta → g.1 ta = 79 → g.2.2.1 ta = 100 → g.2.1 om 42 = .ref wt → g.1 wt = 87 → g.2.2.1 wt = 24 → g.2.1 nw 0 = .ref sa → g.1 sa = 42 → g.2.2.1 sa = 6 → g.2.1 om 5 = .ref ha → g.1 ha = 74 → g.2.2.1 ha = 6 → g.2.1 tp 1 = .int tz → g.2.1 om 29 = .int tz → 0 ≤ tz.toInt → tz.toInt ≤ 100 → g.2.1 nw 1 = .int sv → g.2.1 om 0 = .int sv → 0 ≤ sv.toInt → sv.toInt ≤ 6 → g.2.1 rl 3 = .int rz → g.2.1 om 30 = .int rz → 0 ≤ rz.toInt → rz.toInt ≤ 6 → TE g ba ta tz.toInt → WT g wt → HO 3 0 g sa ha sv.toInt → (hl : lv_has ls 4 [(3, .int i), (2, .ref om), (1, .ref ox), (0, .ref b)]) → (K : ∀ (g1 : GS) (o1_1 tz_1 sv_1 rz_1 : Int32) (H1 : Heap) (locs1 : List Loc), Tv D cI cZ cS cR N0 s.heap H1 locs1 g1 → Inv g1 → g1.1 ox = 7 → g1.1 om = 8 → g1.2.1 om 22 = .int o1_1 → 0 ≤ o1_1.toInt → o1_1.toInt ≤ 12 * i.toInt + 60 → PX 48 2 3 71 72 g1 om → PX 8 39 40 84 85 g1 om → g1.2.1 ox 0 = .ref tp → g1.1 tp = 5 → g1.2.1 ox 1 = .ref nw → g1.1 nw = 19 → g1.2.1 ox 2 = .ref rl → g1.1 rl = 1 → g1.2.1 tp 0 = .ref ba → g1.1 ba = 67 → g1.2.2.1 ba = 100 → g1.2.1 om 28 = .ref ta → g1.1 ta = 79 → g1.2.2.1 ta = 100 → g1.2.1 om 42 = .ref wt → g1.1 wt = 87 → g1.2.2.1 wt = 24 → g1.2.1 nw 0 = .ref sa → g1.1 sa = 42 → g1.2.2.1 sa = 6 → g1.2.1 om 5 = .ref ha → g1.1 ha = 74 → g1.2.2.1 ha = 6 → g1.2.1 tp 1 = .int tz_1 → g1.2.1 om 29 = .int tz_1 → 0 ≤ tz_1.toInt → tz_1.toInt ≤ 100 → g1.2.1 nw 1 = .int sv_1 → g1.2.1 om 0 = .int sv_1 → 0 ≤ sv_1.toInt → sv_1.toInt ≤ 6 → g1.2.1 rl 3 = .int rz_1 → g1.2.1 om 30 = .int rz_1 → 0 ≤ rz_1.toInt → rz_1.toInt ≤ 6 → TE g1 ba ta tz_1.toInt → WT g1 wt → HO 3 0 g1 sa ha sv_1.toInt → W p l e room_1 s m #[Value.ref b] below meth c H1 locs1 (cells + 4) (slots + 28) (lw_Z below #[Value.ref b] s) (F0 m 829 ls [])) → W p l e room_1 s m #[Value.ref b] below meth c H locs cells slots (lw_Z below #[Value.ref b] s) (F0 m 589 ls []) := by
  intro r_ox r_om ko l_o u_o hw hN0 k_tp r_tp k_nw r_nw k_rl r_rl k_ba r_ba n_ba k_ta r_ta n_ta k_wt r_wt n_wt k_sa r_sa n_sa k_ha r_ha n_ha kc_tz km_tz l_tz u_tz kc_sv km_sv l_sv u_sv kc_rz km_rz l_rz u_rz hTE hWT hHO hl K
  have hx := hB.1
  have hb := hB.2.1
  have hE : Ex g g := Ex.rf
  have hM : Sm mdA g g := sm_all
  have hTE0 := hTE
  refine lv_aload_n hx hb dL_law_589 rfl (lv_at hl 2 rfl) ?_
  refine lv_aload_n hx hb dL_law_590 rfl (lv_at hl 3 rfl) ?_
  refine lv_iload_n hx hb dL_law_591 rfl (lv_at hl 0 rfl) ?_
  refine lv_iconst (v := 1) hx hb dL_law_592 (by decide) ?_
  refine lv_iadd hx hb dL_law_593 ?_
  refine lv_topi (fun z_1 ez_1 => ?_)
  have e_z_1 : z_1.toInt = i.toInt + 1 := i_add ez_1 rfl (by decide) (by omega) (by omega)
  refine va_sld hx hb hX hbl (fun q => by have q_ : N0.1 ≤ b := q; omega) hT.2 (i_in (n := L) rfl (by omega) (by omega)) dL_law_594 ?_
  refine lv_topi (fun u_2 e_u_2 => ?_)
  refine lv_aload_n hx hb dL_law_595 rfl (lv_at hl 3 rfl) ?_
  refine lv_iload_n hx hb dL_law_596 rfl (lv_at hl 0 rfl) ?_
  refine lv_iconst (v := 2) hx hb dL_law_597 (by decide) ?_
  refine lv_iadd hx hb dL_law_598 ?_
  refine lv_topi (fun z_3 ez_3 => ?_)
  have e_z_3 : z_3.toInt = i.toInt + 2 := i_add ez_3 rfl (by decide) (by omega) (by omega)
  refine va_sld hx hb hX hbl (fun q => by have q_ : N0.1 ≤ b := q; omega) hT.2 (i_in (n := L) rfl (by omega) (by omega)) dL_law_599 ?_
  refine lv_topi (fun u_4 e_u_4 => ?_)
  refine lv_aload_n hx hb dL_law_600 rfl (lv_at hl 3 rfl) ?_
  refine lv_iload_n hx hb dL_law_601 rfl (lv_at hl 0 rfl) ?_
  refine lv_iconst (v := 3) hx hb dL_law_602 (by decide) ?_
  refine lv_iadd hx hb dL_law_603 ?_
  refine lv_topi (fun z_5 ez_5 => ?_)
  have e_z_5 : z_5.toInt = i.toInt + 3 := i_add ez_5 rfl (by decide) (by omega) (by omega)
  refine va_sld hx hb hX hbl (fun q => by have q_ : N0.1 ≤ b := q; omega) hT.2 (i_in (n := L) rfl (by omega) (by omega)) dL_law_604 ?_
  refine lv_topi (fun u_6 e_u_6 => ?_)
  refine t_callV (n := 3) (As := [.int u_2, .int u_4, .int u_6]) (rest := []) (ci := 6) hB hT hl.1 (P_safe l D cI cZ cS cR N0 g hI ox u_2 u_4 u_6 r_ox) (ro_ci r_ox rfl) rfl k_577 k_57 k_574 k_575 k_576 (by decide +kernel) ⟨(Nat.le_of_ble_eq_true rfl), (Nat.le_of_ble_eq_true rfl)⟩ rfl (Nat.le_of_ble_eq_true rfl) ⟨(by show _ ≤ _; first | exact Nat.le_of_ble_eq_true rfl | (simp only [room_1]; omega)), (by show _ ≤ _; first | exact Nat.le_of_ble_eq_true rfl | (simp only [room_1]; omega))⟩ dL_law_605 (fun v g_7 H locs hp hT => ?_)
  obtain ⟨r_8, rfl, hI, x_10, m_9⟩ := hp
  have hw : PX 48 2 3 71 72 g_7 om := hw.mono m_9 x_10 r_om (by decide) (by decide) rfl rfl rfl rfl
  have hN0 : PX 8 39 40 84 85 g_7 om := hN0.mono m_9 x_10 r_om (by decide) (by decide) rfl rfl rfl rfl
  have hTE : TE g_7 ba ta tz.toInt := hTE.sm m_9 r_ba (by decide) rfl r_ta (by decide) rfl
  have hWT : WT g_7 wt := hWT.sm m_9 r_wt (by decide) rfl
  have hHO : HO 3 0 g_7 sa ha sv.toInt := hHO.mono m_9 x_10 r_sa r_ha (by decide) rfl rfl rfl
  have hM : Sm mdA g g_7 := sm_all
  have hE : Ex g g_7 := hE.tr x_10
  have r_11 : g_7.1 ox = 7 := (Ex.r x_10 r_ox (by decide))
  have r_12 : g_7.1 om = 8 := (Ex.r x_10 r_om (by decide))
  have r_13 : g_7.1 tp = 5 := (Ex.r x_10 r_tp (by decide))
  have r_14 : g_7.1 nw = 19 := (Ex.r x_10 r_nw (by decide))
  have r_15 : g_7.1 rl = 1 := (Ex.r x_10 r_rl (by decide))
  have r_16 : g_7.1 ba = 67 := (Ex.r x_10 r_ba (by decide))
  have r_17 : g_7.1 ta = 79 := (Ex.r x_10 r_ta (by decide))
  have r_18 : g_7.1 wt = 87 := (Ex.r x_10 r_wt (by decide))
  have r_19 : g_7.1 sa = 42 := (Ex.r x_10 r_sa (by decide))
  have r_20 : g_7.1 ha = 74 := (Ex.r x_10 r_ha (by decide))
  have n_21 : g_7.2.2.1 ba = 100 := (Ex.n x_10 r_ba (by decide) n_ba)
  have n_22 : g_7.2.2.1 ta = 100 := (Ex.n x_10 r_ta (by decide) n_ta)
  have n_23 : g_7.2.2.1 wt = 24 := (Ex.n x_10 r_wt (by decide) n_wt)
  have n_24 : g_7.2.2.1 sa = 6 := (Ex.n x_10 r_sa (by decide) n_sa)
  have n_25 : g_7.2.2.1 ha = 6 := (Ex.n x_10 r_ha (by decide) n_ha)
  have kn_26 : g_7.2.1 om 22 = .int o1 := (Sm.v m_9 r_om (by decide) rfl ko)
  have kn_27 : g_7.2.1 ox 0 = .ref tp := (Sm.v m_9 r_ox (by decide) rfl k_tp)
  have kn_28 : g_7.2.1 ox 1 = .ref nw := (Sm.v m_9 r_ox (by decide) rfl k_nw)
  have kn_29 : g_7.2.1 ox 2 = .ref rl := (Sm.v m_9 r_ox (by decide) rfl k_rl)
  have kn_30 : g_7.2.1 tp 0 = .ref ba := (Sm.v m_9 r_tp (by decide) rfl k_ba)
  have kn_31 : g_7.2.1 om 28 = .ref ta := (Sm.v m_9 r_om (by decide) rfl k_ta)
  have kn_32 : g_7.2.1 om 42 = .ref wt := (Sm.v m_9 r_om (by decide) rfl k_wt)
  have kn_33 : g_7.2.1 nw 0 = .ref sa := (Sm.v m_9 r_nw (by decide) rfl k_sa)
  have kn_34 : g_7.2.1 om 5 = .ref ha := (Sm.v m_9 r_om (by decide) rfl k_ha)
  have kn_35 : g_7.2.1 tp 1 = .int tz := (Sm.v m_9 r_tp (by decide) rfl kc_tz)
  have kn_36 : g_7.2.1 om 29 = .int tz := (Sm.v m_9 r_om (by decide) rfl km_tz)
  have kn_37 : g_7.2.1 nw 1 = .int sv := (Sm.v m_9 r_nw (by decide) rfl kc_sv)
  have kn_38 : g_7.2.1 om 0 = .int sv := (Sm.v m_9 r_om (by decide) rfl km_sv)
  have kn_39 : g_7.2.1 rl 3 = .int rz := (Sm.v m_9 r_rl (by decide) rfl kc_rz)
  have kn_40 : g_7.2.1 om 30 = .int rz := (Sm.v m_9 r_om (by decide) rfl km_rz)
  refine W.eq (g2 := F0 m 608 ls [.int r_8]) rfl ?_
  refine lv_pop hx hb dL_law_608 rfl ?_
  refine lv_aload_n hx hb dL_law_609 rfl (lv_at hl 1 rfl) ?_
  refine lv_aload_n hx hb dL_law_610 rfl (lv_at hl 3 rfl) ?_
  refine lv_iload_n hx hb dL_law_611 rfl (lv_at hl 0 rfl) ?_
  refine lv_iconst (v := 1) hx hb dL_law_612 (by decide) ?_
  refine lv_iadd hx hb dL_law_613 ?_
  refine lv_topi (fun z_41 ez_41 => ?_)
  have e_z_41 : z_41.toInt = i.toInt + 1 := i_add ez_41 rfl (by decide) (by omega) (by omega)
  refine va_sld hx hb hX hbl (fun q => by have q_ : N0.1 ≤ b := q; omega) hT.2 (i_in (n := L) rfl (by omega) (by omega)) dL_law_614 ?_
  refine lv_topi (fun u_42 e_u_42 => ?_)
  refine lv_aload_n hx hb dL_law_615 rfl (lv_at hl 3 rfl) ?_
  refine lv_iload_n hx hb dL_law_616 rfl (lv_at hl 0 rfl) ?_
  refine lv_iconst (v := 2) hx hb dL_law_617 (by decide) ?_
  refine lv_iadd hx hb dL_law_618 ?_
  refine lv_topi (fun z_43 ez_43 => ?_)
  have e_z_43 : z_43.toInt = i.toInt + 2 := i_add ez_43 rfl (by decide) (by omega) (by omega)
  refine va_sld hx hb hX hbl (fun q => by have q_ : N0.1 ≤ b := q; omega) hT.2 (i_in (n := L) rfl (by omega) (by omega)) dL_law_619 ?_
  refine lv_topi (fun u_44 e_u_44 => ?_)
  refine lv_aload_n hx hb dL_law_620 rfl (lv_at hl 3 rfl) ?_
  refine lv_iload_n hx hb dL_law_621 rfl (lv_at hl 0 rfl) ?_
  refine lv_iconst (v := 3) hx hb dL_law_622 (by decide) ?_
  refine lv_iadd hx hb dL_law_623 ?_
  refine lv_topi (fun z_45 ez_45 => ?_)
  have e_z_45 : z_45.toInt = i.toInt + 3 := i_add ez_45 rfl (by decide) (by omega) (by omega)
  refine va_sld hx hb hX hbl (fun q => by have q_ : N0.1 ≤ b := q; omega) hT.2 (i_in (n := L) rfl (by omega) (by omega)) dL_law_624 ?_
  refine lv_topi (fun u_46 e_u_46 => ?_)
  refine t_callV (n := 3) (As := [.int u_42, .int u_44, .int u_46]) (rest := []) (ci := 7) hB hT hl.1 (m_safe l D cI cZ cS cR N0 g_7 hI om u_42 u_44 u_46 r_12 hw) (ro_ci r_12 rfl) rfl k_1099 k_65 k_1096 k_1097 k_1098 (by decide +kernel) ⟨(Nat.le_of_ble_eq_true rfl), (Nat.le_of_ble_eq_true rfl)⟩ rfl (Nat.le_of_ble_eq_true rfl) ⟨(by show _ ≤ _; first | exact Nat.le_of_ble_eq_true rfl | (simp only [room_1]; omega)), (by show _ ≤ _; first | exact Nat.le_of_ble_eq_true rfl | (simp only [room_1]; omega))⟩ dL_law_625 (fun v g_47 H locs hp hT => ?_)
  obtain ⟨r_48, rfl, hI, x_50, m_49⟩ := hp
  have hw : PX 48 2 3 71 72 g_47 om := hw.mono m_49 x_50 r_12 (by decide) (by decide) rfl rfl rfl rfl
  have hN0 : PX 8 39 40 84 85 g_47 om := hN0.mono m_49 x_50 r_12 (by decide) (by decide) rfl rfl rfl rfl
  have hTE : TE g_47 ba ta tz.toInt := hTE.sm m_49 r_16 (by decide) rfl r_17 (by decide) rfl
  have hWT : WT g_47 wt := hWT.sm m_49 r_18 (by decide) rfl
  have hHO : HO 3 0 g_47 sa ha sv.toInt := hHO.mono m_49 x_50 r_19 r_20 (by decide) rfl rfl rfl
  have hM : Sm mdA g g_47 := sm_all
  have hE : Ex g g_47 := hE.tr x_50
  have r_51 : g_47.1 ox = 7 := (Ex.r x_50 r_11 (by decide))
  have r_52 : g_47.1 om = 8 := (Ex.r x_50 r_12 (by decide))
  have r_53 : g_47.1 tp = 5 := (Ex.r x_50 r_13 (by decide))
  have r_54 : g_47.1 nw = 19 := (Ex.r x_50 r_14 (by decide))
  have r_55 : g_47.1 rl = 1 := (Ex.r x_50 r_15 (by decide))
  have r_56 : g_47.1 ba = 67 := (Ex.r x_50 r_16 (by decide))
  have r_57 : g_47.1 ta = 79 := (Ex.r x_50 r_17 (by decide))
  have r_58 : g_47.1 wt = 87 := (Ex.r x_50 r_18 (by decide))
  have r_59 : g_47.1 sa = 42 := (Ex.r x_50 r_19 (by decide))
  have r_60 : g_47.1 ha = 74 := (Ex.r x_50 r_20 (by decide))
  have n_61 : g_47.2.2.1 ba = 100 := (Ex.n x_50 r_16 (by decide) n_21)
  have n_62 : g_47.2.2.1 ta = 100 := (Ex.n x_50 r_17 (by decide) n_22)
  have n_63 : g_47.2.2.1 wt = 24 := (Ex.n x_50 r_18 (by decide) n_23)
  have n_64 : g_47.2.2.1 sa = 6 := (Ex.n x_50 r_19 (by decide) n_24)
  have n_65 : g_47.2.2.1 ha = 6 := (Ex.n x_50 r_20 (by decide) n_25)
  have kn_66 : g_47.2.1 om 22 = .int o1 := (Sm.v m_49 r_12 (by decide) rfl kn_26)
  have kn_67 : g_47.2.1 ox 0 = .ref tp := (Sm.v m_49 r_11 (by decide) rfl kn_27)
  have kn_68 : g_47.2.1 ox 1 = .ref nw := (Sm.v m_49 r_11 (by decide) rfl kn_28)
  have kn_69 : g_47.2.1 ox 2 = .ref rl := (Sm.v m_49 r_11 (by decide) rfl kn_29)
  have kn_70 : g_47.2.1 tp 0 = .ref ba := (Sm.v m_49 r_13 (by decide) rfl kn_30)
  have kn_71 : g_47.2.1 om 28 = .ref ta := (Sm.v m_49 r_12 (by decide) rfl kn_31)
  have kn_72 : g_47.2.1 om 42 = .ref wt := (Sm.v m_49 r_12 (by decide) rfl kn_32)
  have kn_73 : g_47.2.1 nw 0 = .ref sa := (Sm.v m_49 r_14 (by decide) rfl kn_33)
  have kn_74 : g_47.2.1 om 5 = .ref ha := (Sm.v m_49 r_12 (by decide) rfl kn_34)
  have kn_75 : g_47.2.1 tp 1 = .int tz := (Sm.v m_49 r_13 (by decide) rfl kn_35)
  have kn_76 : g_47.2.1 om 29 = .int tz := (Sm.v m_49 r_12 (by decide) rfl kn_36)
  have kn_77 : g_47.2.1 nw 1 = .int sv := (Sm.v m_49 r_14 (by decide) rfl kn_37)
  have kn_78 : g_47.2.1 om 0 = .int sv := (Sm.v m_49 r_12 (by decide) rfl kn_38)
  have kn_79 : g_47.2.1 rl 3 = .int rz := (Sm.v m_49 r_15 (by decide) rfl kn_39)
  have kn_80 : g_47.2.1 om 30 = .int rz := (Sm.v m_49 r_12 (by decide) rfl kn_40)
  refine W.eq (g2 := F0 m 628 ls [.int r_48]) rfl ?_
  refine lv_pop hx hb dL_law_628 rfl ?_
  refine lv_goto (tgt := 829) hx hb dL_law_629 (by decide) ?_
  refine W.widen (k := cells + 4) (n := slots + 28) (by omega) (by omega) ?_
  exact K g_47 o1 tz sv rz H locs hT hI r_51 r_52 kn_66 (by have e0_ : (0 : Int32).toInt = 0 := (by decide); omega) (by have e0_ : (0 : Int32).toInt = 0 := (by decide); omega) hw hN0 kn_67 r_53 kn_68 r_54 kn_69 r_55 kn_70 r_56 n_61 kn_71 r_57 n_62 kn_72 r_58 n_63 kn_73 r_59 n_64 kn_74 r_60 n_65 kn_75 kn_76 (by have e0_ : (0 : Int32).toInt = 0 := (by decide); omega) (by have e0_ : (0 : Int32).toInt = 0 := (by decide); omega) kn_77 kn_78 (by have e0_ : (0 : Int32).toInt = 0 := (by decide); omega) (by have e0_ : (0 : Int32).toInt = 0 := (by decide); omega) kn_79 kn_80 (by have e0_ : (0 : Int32).toInt = 0 := (by decide); omega) (by have e0_ : (0 : Int32).toInt = 0 := (by decide); omega) hTE hWT hHO
set_option maxHeartbeats 4000000 in
set_option maxRecDepth 100000 in
/-- worst -/
theorem law_14 {p : Program} {l : Launch} {e : Env} {s : State} {m : MethodId} {below : List Frame} {meth : Method} {c : Code} {D : va_G} {cI cZ cS cR : ClassId} {N0 : NT} {b L : Nat} {xs : Nat → Int32} (hB : Tz p s m meth c #[Value.ref b] code 4 RL D cI cZ cS cR N0) (hAs : N0.1 = s.heap.size) (hX : va_X b L xs s s.heap) (hbl : b < s.heap.size) (hL : L ≤ 2560) (hr : meth.sig.returnType = ret) {cells slots : Nat} (hcl : cells + 4 ≤ 600000) (hsl : slots + 28 ≤ 7302250) {H : Heap} {locs : List Loc} {ls : Array Slot} (g : GS) (ox om : Nat) (tp : Nat) (nw : Nat) (rl : Nat) (ba : Nat) (ta : Nat) (wt : Nat) (sa : Nat) (ha : Nat) (i o1 tz sv rz : Int32) (hT : Tv D cI cZ cS cR N0 s.heap H locs g) (hI : Inv g) (l_i : 0 ≤ i.toInt) (u_i : i.toInt + 5 ≤ L) : g.1 ox = 7 → g.1 om = 8 → g.2.1 om 22 = .int o1 → 0 ≤ o1.toInt → o1.toInt ≤ 12 * i.toInt → PX 48 2 3 71 72 g om → PX 8 39 40 84 85 g om → g.2.1 ox 0 = .ref tp → g.1 tp = 5 → g.2.1 ox 1 = .ref nw → g.1 nw = 19 → g.2.1 ox 2 = .ref rl → g.1 rl = 1 → g.2.1 tp 0 = .ref ba → g.1 ba = 67 → g.2.2.1 ba = 100 → g.2.1 om 28 = .ref ta → g.1 ta = 79 → g.2.2.1 ta = 100 → g.2.1 om 42 = .ref wt → g.1 wt = 87 → g.2.2.1 wt = 24 → g.2.1 nw 0 = .ref sa → g.1 sa = 42 → g.2.2.1 sa = 6 → g.2.1 om 5 = .ref ha → g.1 ha = 74 → g.2.2.1 ha = 6 → g.2.1 tp 1 = .int tz → g.2.1 om 29 = .int tz → 0 ≤ tz.toInt → tz.toInt ≤ 100 → g.2.1 nw 1 = .int sv → g.2.1 om 0 = .int sv → 0 ≤ sv.toInt → sv.toInt ≤ 6 → g.2.1 rl 3 = .int rz → g.2.1 om 30 = .int rz → 0 ≤ rz.toInt → rz.toInt ≤ 6 → TE g ba ta tz.toInt → WT g wt → HO 3 0 g sa ha sv.toInt → (hl : lv_has ls 4 [(3, .int i), (2, .ref om), (1, .ref ox), (0, .ref b)]) → (K : ∀ (g1 : GS) (o1_1 tz_1 sv_1 rz_1 : Int32) (H1 : Heap) (locs1 : List Loc), Tv D cI cZ cS cR N0 s.heap H1 locs1 g1 → Inv g1 → g1.1 ox = 7 → g1.1 om = 8 → g1.2.1 om 22 = .int o1_1 → 0 ≤ o1_1.toInt → o1_1.toInt ≤ 12 * i.toInt + 60 → PX 48 2 3 71 72 g1 om → PX 8 39 40 84 85 g1 om → g1.2.1 ox 0 = .ref tp → g1.1 tp = 5 → g1.2.1 ox 1 = .ref nw → g1.1 nw = 19 → g1.2.1 ox 2 = .ref rl → g1.1 rl = 1 → g1.2.1 tp 0 = .ref ba → g1.1 ba = 67 → g1.2.2.1 ba = 100 → g1.2.1 om 28 = .ref ta → g1.1 ta = 79 → g1.2.2.1 ta = 100 → g1.2.1 om 42 = .ref wt → g1.1 wt = 87 → g1.2.2.1 wt = 24 → g1.2.1 nw 0 = .ref sa → g1.1 sa = 42 → g1.2.2.1 sa = 6 → g1.2.1 om 5 = .ref ha → g1.1 ha = 74 → g1.2.2.1 ha = 6 → g1.2.1 tp 1 = .int tz_1 → g1.2.1 om 29 = .int tz_1 → 0 ≤ tz_1.toInt → tz_1.toInt ≤ 100 → g1.2.1 nw 1 = .int sv_1 → g1.2.1 om 0 = .int sv_1 → 0 ≤ sv_1.toInt → sv_1.toInt ≤ 6 → g1.2.1 rl 3 = .int rz_1 → g1.2.1 om 30 = .int rz_1 → 0 ≤ rz_1.toInt → rz_1.toInt ≤ 6 → TE g1 ba ta tz_1.toInt → WT g1 wt → HO 3 0 g1 sa ha sv_1.toInt → W p l e room_1 s m #[Value.ref b] below meth c H1 locs1 (cells + 4) (slots + 28) (lw_Z below #[Value.ref b] s) (F0 m 829 ls [])) → W p l e room_1 s m #[Value.ref b] below meth c H locs cells slots (lw_Z below #[Value.ref b] s) (F0 m 632 ls []) := by
  intro r_ox r_om ko l_o u_o hw hN0 k_tp r_tp k_nw r_nw k_rl r_rl k_ba r_ba n_ba k_ta r_ta n_ta k_wt r_wt n_wt k_sa r_sa n_sa k_ha r_ha n_ha kc_tz km_tz l_tz u_tz kc_sv km_sv l_sv u_sv kc_rz km_rz l_rz u_rz hTE hWT hHO hl K
  have hx := hB.1
  have hb := hB.2.1
  have hE : Ex g g := Ex.rf
  have hM : Sm mdA g g := sm_all
  have hTE0 := hTE
  refine lv_aload_n hx hb dL_law_632 rfl (lv_at hl 2 rfl) ?_
  refine t_callV (n := 0) (As := []) (rest := []) (ci := 6) hB hT hl.1 (P_worst l D cI cZ cS cR N0 g hI ox r_ox) (ro_ci r_ox rfl) rfl k_622 k_57 k_619 k_620 k_621 (by decide +kernel) ⟨(Nat.le_of_ble_eq_true rfl), (Nat.le_of_ble_eq_true rfl)⟩ rfl (Nat.le_of_ble_eq_true rfl) ⟨(by show _ ≤ _; first | exact Nat.le_of_ble_eq_true rfl | (simp only [room_1]; omega)), (by show _ ≤ _; first | exact Nat.le_of_ble_eq_true rfl | (simp only [room_1]; omega))⟩ dL_law_633 (fun v g_1 H locs hp hT => ?_)
  obtain ⟨r_2, rfl, hI, x_4, m_3⟩ := hp
  have hw : PX 48 2 3 71 72 g_1 om := hw.mono m_3 x_4 r_om (by decide) (by decide) rfl rfl rfl rfl
  have hN0 : PX 8 39 40 84 85 g_1 om := hN0.mono m_3 x_4 r_om (by decide) (by decide) rfl rfl rfl rfl
  have hTE : TE g_1 ba ta tz.toInt := hTE.sm m_3 r_ba (by decide) rfl r_ta (by decide) rfl
  have hWT : WT g_1 wt := hWT.sm m_3 r_wt (by decide) rfl
  have hHO : HO 3 0 g_1 sa ha sv.toInt := hHO.mono m_3 x_4 r_sa r_ha (by decide) rfl rfl rfl
  have hM : Sm mdA g g_1 := sm_all
  have hE : Ex g g_1 := hE.tr x_4
  have r_5 : g_1.1 ox = 7 := (Ex.r x_4 r_ox (by decide))
  have r_6 : g_1.1 om = 8 := (Ex.r x_4 r_om (by decide))
  have r_7 : g_1.1 tp = 5 := (Ex.r x_4 r_tp (by decide))
  have r_8 : g_1.1 nw = 19 := (Ex.r x_4 r_nw (by decide))
  have r_9 : g_1.1 rl = 1 := (Ex.r x_4 r_rl (by decide))
  have r_10 : g_1.1 ba = 67 := (Ex.r x_4 r_ba (by decide))
  have r_11 : g_1.1 ta = 79 := (Ex.r x_4 r_ta (by decide))
  have r_12 : g_1.1 wt = 87 := (Ex.r x_4 r_wt (by decide))
  have r_13 : g_1.1 sa = 42 := (Ex.r x_4 r_sa (by decide))
  have r_14 : g_1.1 ha = 74 := (Ex.r x_4 r_ha (by decide))
  have n_15 : g_1.2.2.1 ba = 100 := (Ex.n x_4 r_ba (by decide) n_ba)
  have n_16 : g_1.2.2.1 ta = 100 := (Ex.n x_4 r_ta (by decide) n_ta)
  have n_17 : g_1.2.2.1 wt = 24 := (Ex.n x_4 r_wt (by decide) n_wt)
  have n_18 : g_1.2.2.1 sa = 6 := (Ex.n x_4 r_sa (by decide) n_sa)
  have n_19 : g_1.2.2.1 ha = 6 := (Ex.n x_4 r_ha (by decide) n_ha)
  have kn_20 : g_1.2.1 om 22 = .int o1 := (Sm.v m_3 r_om (by decide) rfl ko)
  have kn_21 : g_1.2.1 ox 0 = .ref tp := (Sm.v m_3 r_ox (by decide) rfl k_tp)
  have kn_22 : g_1.2.1 ox 1 = .ref nw := (Sm.v m_3 r_ox (by decide) rfl k_nw)
  have kn_23 : g_1.2.1 ox 2 = .ref rl := (Sm.v m_3 r_ox (by decide) rfl k_rl)
  have kn_24 : g_1.2.1 tp 0 = .ref ba := (Sm.v m_3 r_tp (by decide) rfl k_ba)
  have kn_25 : g_1.2.1 om 28 = .ref ta := (Sm.v m_3 r_om (by decide) rfl k_ta)
  have kn_26 : g_1.2.1 om 42 = .ref wt := (Sm.v m_3 r_om (by decide) rfl k_wt)
  have kn_27 : g_1.2.1 nw 0 = .ref sa := (Sm.v m_3 r_nw (by decide) rfl k_sa)
  have kn_28 : g_1.2.1 om 5 = .ref ha := (Sm.v m_3 r_om (by decide) rfl k_ha)
  have kn_29 : g_1.2.1 tp 1 = .int tz := (Sm.v m_3 r_tp (by decide) rfl kc_tz)
  have kn_30 : g_1.2.1 om 29 = .int tz := (Sm.v m_3 r_om (by decide) rfl km_tz)
  have kn_31 : g_1.2.1 nw 1 = .int sv := (Sm.v m_3 r_nw (by decide) rfl kc_sv)
  have kn_32 : g_1.2.1 om 0 = .int sv := (Sm.v m_3 r_om (by decide) rfl km_sv)
  have kn_33 : g_1.2.1 rl 3 = .int rz := (Sm.v m_3 r_rl (by decide) rfl kc_rz)
  have kn_34 : g_1.2.1 om 30 = .int rz := (Sm.v m_3 r_om (by decide) rfl km_rz)
  refine W.eq (g2 := F0 m 636 ls [.int r_2]) rfl ?_
  refine lv_pop hx hb dL_law_636 rfl ?_
  refine lv_aload_n hx hb dL_law_637 rfl (lv_at hl 1 rfl) ?_
  refine t_callV (n := 0) (As := []) (rest := []) (ci := 7) hB hT hl.1 (m_worst l D cI cZ cS cR N0 g_1 hI om r_6 hw) (ro_ci r_6 rfl) rfl k_1119 k_65 k_1116 k_1117 k_1118 (by decide +kernel) ⟨(Nat.le_of_ble_eq_true rfl), (Nat.le_of_ble_eq_true rfl)⟩ rfl (Nat.le_of_ble_eq_true rfl) ⟨(by show _ ≤ _; first | exact Nat.le_of_ble_eq_true rfl | (simp only [room_1]; omega)), (by show _ ≤ _; first | exact Nat.le_of_ble_eq_true rfl | (simp only [room_1]; omega))⟩ dL_law_638 (fun v g_35 H locs hp hT => ?_)
  obtain ⟨r_36, rfl, hI, x_38, m_37⟩ := hp
  have hw : PX 48 2 3 71 72 g_35 om := hw.mono m_37 x_38 r_6 (by decide) (by decide) rfl rfl rfl rfl
  have hN0 : PX 8 39 40 84 85 g_35 om := hN0.mono m_37 x_38 r_6 (by decide) (by decide) rfl rfl rfl rfl
  have hTE : TE g_35 ba ta tz.toInt := hTE.sm m_37 r_10 (by decide) rfl r_11 (by decide) rfl
  have hWT : WT g_35 wt := hWT.sm m_37 r_12 (by decide) rfl
  have hHO : HO 3 0 g_35 sa ha sv.toInt := hHO.mono m_37 x_38 r_13 r_14 (by decide) rfl rfl rfl
  have hM : Sm mdA g g_35 := sm_all
  have hE : Ex g g_35 := hE.tr x_38
  have r_39 : g_35.1 ox = 7 := (Ex.r x_38 r_5 (by decide))
  have r_40 : g_35.1 om = 8 := (Ex.r x_38 r_6 (by decide))
  have r_41 : g_35.1 tp = 5 := (Ex.r x_38 r_7 (by decide))
  have r_42 : g_35.1 nw = 19 := (Ex.r x_38 r_8 (by decide))
  have r_43 : g_35.1 rl = 1 := (Ex.r x_38 r_9 (by decide))
  have r_44 : g_35.1 ba = 67 := (Ex.r x_38 r_10 (by decide))
  have r_45 : g_35.1 ta = 79 := (Ex.r x_38 r_11 (by decide))
  have r_46 : g_35.1 wt = 87 := (Ex.r x_38 r_12 (by decide))
  have r_47 : g_35.1 sa = 42 := (Ex.r x_38 r_13 (by decide))
  have r_48 : g_35.1 ha = 74 := (Ex.r x_38 r_14 (by decide))
  have n_49 : g_35.2.2.1 ba = 100 := (Ex.n x_38 r_10 (by decide) n_15)
  have n_50 : g_35.2.2.1 ta = 100 := (Ex.n x_38 r_11 (by decide) n_16)
  have n_51 : g_35.2.2.1 wt = 24 := (Ex.n x_38 r_12 (by decide) n_17)
  have n_52 : g_35.2.2.1 sa = 6 := (Ex.n x_38 r_13 (by decide) n_18)
  have n_53 : g_35.2.2.1 ha = 6 := (Ex.n x_38 r_14 (by decide) n_19)
  have kn_54 : g_35.2.1 om 22 = .int o1 := (Sm.v m_37 r_6 (by decide) rfl kn_20)
  have kn_55 : g_35.2.1 ox 0 = .ref tp := (Sm.v m_37 r_5 (by decide) rfl kn_21)
  have kn_56 : g_35.2.1 ox 1 = .ref nw := (Sm.v m_37 r_5 (by decide) rfl kn_22)
  have kn_57 : g_35.2.1 ox 2 = .ref rl := (Sm.v m_37 r_5 (by decide) rfl kn_23)
  have kn_58 : g_35.2.1 tp 0 = .ref ba := (Sm.v m_37 r_7 (by decide) rfl kn_24)
  have kn_59 : g_35.2.1 om 28 = .ref ta := (Sm.v m_37 r_6 (by decide) rfl kn_25)
  have kn_60 : g_35.2.1 om 42 = .ref wt := (Sm.v m_37 r_6 (by decide) rfl kn_26)
  have kn_61 : g_35.2.1 nw 0 = .ref sa := (Sm.v m_37 r_8 (by decide) rfl kn_27)
  have kn_62 : g_35.2.1 om 5 = .ref ha := (Sm.v m_37 r_6 (by decide) rfl kn_28)
  have kn_63 : g_35.2.1 tp 1 = .int tz := (Sm.v m_37 r_7 (by decide) rfl kn_29)
  have kn_64 : g_35.2.1 om 29 = .int tz := (Sm.v m_37 r_6 (by decide) rfl kn_30)
  have kn_65 : g_35.2.1 nw 1 = .int sv := (Sm.v m_37 r_8 (by decide) rfl kn_31)
  have kn_66 : g_35.2.1 om 0 = .int sv := (Sm.v m_37 r_6 (by decide) rfl kn_32)
  have kn_67 : g_35.2.1 rl 3 = .int rz := (Sm.v m_37 r_9 (by decide) rfl kn_33)
  have kn_68 : g_35.2.1 om 30 = .int rz := (Sm.v m_37 r_6 (by decide) rfl kn_34)
  refine W.eq (g2 := F0 m 641 ls [.int r_36]) rfl ?_
  refine lv_pop hx hb dL_law_641 rfl ?_
  refine lv_goto (tgt := 829) hx hb dL_law_642 (by decide) ?_
  refine W.widen (k := cells + 4) (n := slots + 28) (by omega) (by omega) ?_
  exact K g_35 o1 tz sv rz H locs hT hI r_39 r_40 kn_54 (by have e0_ : (0 : Int32).toInt = 0 := (by decide); omega) (by have e0_ : (0 : Int32).toInt = 0 := (by decide); omega) hw hN0 kn_55 r_41 kn_56 r_42 kn_57 r_43 kn_58 r_44 n_49 kn_59 r_45 n_50 kn_60 r_46 n_51 kn_61 r_47 n_52 kn_62 r_48 n_53 kn_63 kn_64 (by have e0_ : (0 : Int32).toInt = 0 := (by decide); omega) (by have e0_ : (0 : Int32).toInt = 0 := (by decide); omega) kn_65 kn_66 (by have e0_ : (0 : Int32).toInt = 0 := (by decide); omega) (by have e0_ : (0 : Int32).toInt = 0 := (by decide); omega) kn_67 kn_68 (by have e0_ : (0 : Int32).toInt = 0 := (by decide); omega) (by have e0_ : (0 : Int32).toInt = 0 := (by decide); omega) hTE hWT hHO
set_option maxHeartbeats 4000000 in
set_option maxRecDepth 100000 in
/-- orders -/
theorem law_15 {p : Program} {l : Launch} {e : Env} {s : State} {m : MethodId} {below : List Frame} {meth : Method} {c : Code} {D : va_G} {cI cZ cS cR : ClassId} {N0 : NT} {b L : Nat} {xs : Nat → Int32} (hB : Tz p s m meth c #[Value.ref b] code 4 RL D cI cZ cS cR N0) (hAs : N0.1 = s.heap.size) (hX : va_X b L xs s s.heap) (hbl : b < s.heap.size) (hL : L ≤ 2560) (hr : meth.sig.returnType = ret) {cells slots : Nat} (hcl : cells + 4 ≤ 600000) (hsl : slots + 28 ≤ 7302250) {H : Heap} {locs : List Loc} {ls : Array Slot} (g : GS) (ox om : Nat) (tp : Nat) (nw : Nat) (rl : Nat) (ba : Nat) (ta : Nat) (wt : Nat) (sa : Nat) (ha : Nat) (i o1 tz sv rz : Int32) (hT : Tv D cI cZ cS cR N0 s.heap H locs g) (hI : Inv g) (l_i : 0 ≤ i.toInt) (u_i : i.toInt + 5 ≤ L) : g.1 ox = 7 → g.1 om = 8 → g.2.1 om 22 = .int o1 → 0 ≤ o1.toInt → o1.toInt ≤ 12 * i.toInt → PX 48 2 3 71 72 g om → PX 8 39 40 84 85 g om → g.2.1 ox 0 = .ref tp → g.1 tp = 5 → g.2.1 ox 1 = .ref nw → g.1 nw = 19 → g.2.1 ox 2 = .ref rl → g.1 rl = 1 → g.2.1 tp 0 = .ref ba → g.1 ba = 67 → g.2.2.1 ba = 100 → g.2.1 om 28 = .ref ta → g.1 ta = 79 → g.2.2.1 ta = 100 → g.2.1 om 42 = .ref wt → g.1 wt = 87 → g.2.2.1 wt = 24 → g.2.1 nw 0 = .ref sa → g.1 sa = 42 → g.2.2.1 sa = 6 → g.2.1 om 5 = .ref ha → g.1 ha = 74 → g.2.2.1 ha = 6 → g.2.1 tp 1 = .int tz → g.2.1 om 29 = .int tz → 0 ≤ tz.toInt → tz.toInt ≤ 100 → g.2.1 nw 1 = .int sv → g.2.1 om 0 = .int sv → 0 ≤ sv.toInt → sv.toInt ≤ 6 → g.2.1 rl 3 = .int rz → g.2.1 om 30 = .int rz → 0 ≤ rz.toInt → rz.toInt ≤ 6 → TE g ba ta tz.toInt → WT g wt → HO 3 0 g sa ha sv.toInt → (hl : lv_has ls 4 [(3, .int i), (2, .ref om), (1, .ref ox), (0, .ref b)]) → (K : ∀ (g1 : GS) (o1_1 tz_1 sv_1 rz_1 : Int32) (H1 : Heap) (locs1 : List Loc), Tv D cI cZ cS cR N0 s.heap H1 locs1 g1 → Inv g1 → g1.1 ox = 7 → g1.1 om = 8 → g1.2.1 om 22 = .int o1_1 → 0 ≤ o1_1.toInt → o1_1.toInt ≤ 12 * i.toInt + 60 → PX 48 2 3 71 72 g1 om → PX 8 39 40 84 85 g1 om → g1.2.1 ox 0 = .ref tp → g1.1 tp = 5 → g1.2.1 ox 1 = .ref nw → g1.1 nw = 19 → g1.2.1 ox 2 = .ref rl → g1.1 rl = 1 → g1.2.1 tp 0 = .ref ba → g1.1 ba = 67 → g1.2.2.1 ba = 100 → g1.2.1 om 28 = .ref ta → g1.1 ta = 79 → g1.2.2.1 ta = 100 → g1.2.1 om 42 = .ref wt → g1.1 wt = 87 → g1.2.2.1 wt = 24 → g1.2.1 nw 0 = .ref sa → g1.1 sa = 42 → g1.2.2.1 sa = 6 → g1.2.1 om 5 = .ref ha → g1.1 ha = 74 → g1.2.2.1 ha = 6 → g1.2.1 tp 1 = .int tz_1 → g1.2.1 om 29 = .int tz_1 → 0 ≤ tz_1.toInt → tz_1.toInt ≤ 100 → g1.2.1 nw 1 = .int sv_1 → g1.2.1 om 0 = .int sv_1 → 0 ≤ sv_1.toInt → sv_1.toInt ≤ 6 → g1.2.1 rl 3 = .int rz_1 → g1.2.1 om 30 = .int rz_1 → 0 ≤ rz_1.toInt → rz_1.toInt ≤ 6 → TE g1 ba ta tz_1.toInt → WT g1 wt → HO 3 0 g1 sa ha sv_1.toInt → W p l e room_1 s m #[Value.ref b] below meth c H1 locs1 (cells + 4) (slots + 28) (lw_Z below #[Value.ref b] s) (F0 m 829 ls [])) → W p l e room_1 s m #[Value.ref b] below meth c H locs cells slots (lw_Z below #[Value.ref b] s) (F0 m 645 ls []) := by
  intro r_ox r_om ko l_o u_o hw hN0 k_tp r_tp k_nw r_nw k_rl r_rl k_ba r_ba n_ba k_ta r_ta n_ta k_wt r_wt n_wt k_sa r_sa n_sa k_ha r_ha n_ha kc_tz km_tz l_tz u_tz kc_sv km_sv l_sv u_sv kc_rz km_rz l_rz u_rz hTE hWT hHO hl K
  have hx := hB.1
  have hb := hB.2.1
  have hE : Ex g g := Ex.rf
  have hM : Sm mdA g g := sm_all
  have hTE0 := hTE
  refine lv_aload_n hx hb dL_law_645 rfl (lv_at hl 2 rfl) ?_
  refine lv_aload_n hx hb dL_law_646 rfl (lv_at hl 3 rfl) ?_
  refine lv_iload_n hx hb dL_law_647 rfl (lv_at hl 0 rfl) ?_
  refine lv_iconst (v := 1) hx hb dL_law_648 (by decide) ?_
  refine lv_iadd hx hb dL_law_649 ?_
  refine lv_topi (fun z_1 ez_1 => ?_)
  have e_z_1 : z_1.toInt = i.toInt + 1 := i_add ez_1 rfl (by decide) (by omega) (by omega)
  refine va_sld hx hb hX hbl (fun q => by have q_ : N0.1 ≤ b := q; omega) hT.2 (i_in (n := L) rfl (by omega) (by omega)) dL_law_650 ?_
  refine lv_topi (fun u_2 e_u_2 => ?_)
  refine lv_aload_n hx hb dL_law_651 rfl (lv_at hl 3 rfl) ?_
  refine lv_iload_n hx hb dL_law_652 rfl (lv_at hl 0 rfl) ?_
  refine lv_iconst (v := 2) hx hb dL_law_653 (by decide) ?_
  refine lv_iadd hx hb dL_law_654 ?_
  refine lv_topi (fun z_3 ez_3 => ?_)
  have e_z_3 : z_3.toInt = i.toInt + 2 := i_add ez_3 rfl (by decide) (by omega) (by omega)
  refine va_sld hx hb hX hbl (fun q => by have q_ : N0.1 ≤ b := q; omega) hT.2 (i_in (n := L) rfl (by omega) (by omega)) dL_law_655 ?_
  refine lv_topi (fun u_4 e_u_4 => ?_)
  refine t_callV (n := 2) (As := [.int u_2, .int u_4]) (rest := []) (ci := 6) hB hT hl.1 (P_orders l D cI cZ cS cR N0 g hI ox u_2 u_4 r_ox) (ro_ci r_ox rfl) rfl k_634 k_57 k_631 k_632 k_633 (by decide +kernel) ⟨(Nat.le_of_ble_eq_true rfl), (Nat.le_of_ble_eq_true rfl)⟩ rfl (Nat.le_of_ble_eq_true rfl) ⟨(by show _ ≤ _; first | exact Nat.le_of_ble_eq_true rfl | (simp only [room_1]; omega)), (by show _ ≤ _; first | exact Nat.le_of_ble_eq_true rfl | (simp only [room_1]; omega))⟩ dL_law_656 (fun v g_5 H locs hp hT => ?_)
  obtain ⟨r_6, rfl, hI, x_8, m_7⟩ := hp
  have hw : PX 48 2 3 71 72 g_5 om := hw.mono m_7 x_8 r_om (by decide) (by decide) rfl rfl rfl rfl
  have hN0 : PX 8 39 40 84 85 g_5 om := hN0.mono m_7 x_8 r_om (by decide) (by decide) rfl rfl rfl rfl
  have hTE : TE g_5 ba ta tz.toInt := hTE.sm m_7 r_ba (by decide) rfl r_ta (by decide) rfl
  have hWT : WT g_5 wt := hWT.sm m_7 r_wt (by decide) rfl
  have hHO : HO 3 0 g_5 sa ha sv.toInt := hHO.mono m_7 x_8 r_sa r_ha (by decide) rfl rfl rfl
  have hM : Sm mdA g g_5 := sm_all
  have hE : Ex g g_5 := hE.tr x_8
  have r_9 : g_5.1 ox = 7 := (Ex.r x_8 r_ox (by decide))
  have r_10 : g_5.1 om = 8 := (Ex.r x_8 r_om (by decide))
  have r_11 : g_5.1 tp = 5 := (Ex.r x_8 r_tp (by decide))
  have r_12 : g_5.1 nw = 19 := (Ex.r x_8 r_nw (by decide))
  have r_13 : g_5.1 rl = 1 := (Ex.r x_8 r_rl (by decide))
  have r_14 : g_5.1 ba = 67 := (Ex.r x_8 r_ba (by decide))
  have r_15 : g_5.1 ta = 79 := (Ex.r x_8 r_ta (by decide))
  have r_16 : g_5.1 wt = 87 := (Ex.r x_8 r_wt (by decide))
  have r_17 : g_5.1 sa = 42 := (Ex.r x_8 r_sa (by decide))
  have r_18 : g_5.1 ha = 74 := (Ex.r x_8 r_ha (by decide))
  have n_19 : g_5.2.2.1 ba = 100 := (Ex.n x_8 r_ba (by decide) n_ba)
  have n_20 : g_5.2.2.1 ta = 100 := (Ex.n x_8 r_ta (by decide) n_ta)
  have n_21 : g_5.2.2.1 wt = 24 := (Ex.n x_8 r_wt (by decide) n_wt)
  have n_22 : g_5.2.2.1 sa = 6 := (Ex.n x_8 r_sa (by decide) n_sa)
  have n_23 : g_5.2.2.1 ha = 6 := (Ex.n x_8 r_ha (by decide) n_ha)
  have kn_24 : g_5.2.1 om 22 = .int o1 := (Sm.v m_7 r_om (by decide) rfl ko)
  have kn_25 : g_5.2.1 ox 0 = .ref tp := (Sm.v m_7 r_ox (by decide) rfl k_tp)
  have kn_26 : g_5.2.1 ox 1 = .ref nw := (Sm.v m_7 r_ox (by decide) rfl k_nw)
  have kn_27 : g_5.2.1 ox 2 = .ref rl := (Sm.v m_7 r_ox (by decide) rfl k_rl)
  have kn_28 : g_5.2.1 tp 0 = .ref ba := (Sm.v m_7 r_tp (by decide) rfl k_ba)
  have kn_29 : g_5.2.1 om 28 = .ref ta := (Sm.v m_7 r_om (by decide) rfl k_ta)
  have kn_30 : g_5.2.1 om 42 = .ref wt := (Sm.v m_7 r_om (by decide) rfl k_wt)
  have kn_31 : g_5.2.1 nw 0 = .ref sa := (Sm.v m_7 r_nw (by decide) rfl k_sa)
  have kn_32 : g_5.2.1 om 5 = .ref ha := (Sm.v m_7 r_om (by decide) rfl k_ha)
  have kn_33 : g_5.2.1 tp 1 = .int tz := (Sm.v m_7 r_tp (by decide) rfl kc_tz)
  have kn_34 : g_5.2.1 om 29 = .int tz := (Sm.v m_7 r_om (by decide) rfl km_tz)
  have kn_35 : g_5.2.1 nw 1 = .int sv := (Sm.v m_7 r_nw (by decide) rfl kc_sv)
  have kn_36 : g_5.2.1 om 0 = .int sv := (Sm.v m_7 r_om (by decide) rfl km_sv)
  have kn_37 : g_5.2.1 rl 3 = .int rz := (Sm.v m_7 r_rl (by decide) rfl kc_rz)
  have kn_38 : g_5.2.1 om 30 = .int rz := (Sm.v m_7 r_om (by decide) rfl km_rz)
  refine W.eq (g2 := F0 m 659 ls [.int r_6]) rfl ?_
  refine lv_pop hx hb dL_law_659 rfl ?_
  refine lv_aload_n hx hb dL_law_660 rfl (lv_at hl 1 rfl) ?_
  refine lv_aload_n hx hb dL_law_661 rfl (lv_at hl 3 rfl) ?_
  refine lv_iload_n hx hb dL_law_662 rfl (lv_at hl 0 rfl) ?_
  refine lv_iconst (v := 1) hx hb dL_law_663 (by decide) ?_
  refine lv_iadd hx hb dL_law_664 ?_
  refine lv_topi (fun z_39 ez_39 => ?_)
  have e_z_39 : z_39.toInt = i.toInt + 1 := i_add ez_39 rfl (by decide) (by omega) (by omega)
  refine va_sld hx hb hX hbl (fun q => by have q_ : N0.1 ≤ b := q; omega) hT.2 (i_in (n := L) rfl (by omega) (by omega)) dL_law_665 ?_
  refine lv_topi (fun u_40 e_u_40 => ?_)
  refine lv_aload_n hx hb dL_law_666 rfl (lv_at hl 3 rfl) ?_
  refine lv_iload_n hx hb dL_law_667 rfl (lv_at hl 0 rfl) ?_
  refine lv_iconst (v := 2) hx hb dL_law_668 (by decide) ?_
  refine lv_iadd hx hb dL_law_669 ?_
  refine lv_topi (fun z_41 ez_41 => ?_)
  have e_z_41 : z_41.toInt = i.toInt + 2 := i_add ez_41 rfl (by decide) (by omega) (by omega)
  refine va_sld hx hb hX hbl (fun q => by have q_ : N0.1 ≤ b := q; omega) hT.2 (i_in (n := L) rfl (by omega) (by omega)) dL_law_670 ?_
  refine lv_topi (fun u_42 e_u_42 => ?_)
  refine t_callV (n := 2) (As := [.int u_40, .int u_42]) (rest := []) (ci := 7) hB hT hl.1 (m_orders l D cI cZ cS cR N0 g_5 hI om u_40 u_42 r_10 hw) (ro_ci r_10 rfl) rfl k_1127 k_65 k_1124 k_1125 k_1126 (by decide +kernel) ⟨(Nat.le_of_ble_eq_true rfl), (Nat.le_of_ble_eq_true rfl)⟩ rfl (Nat.le_of_ble_eq_true rfl) ⟨(by show _ ≤ _; first | exact Nat.le_of_ble_eq_true rfl | (simp only [room_1]; omega)), (by show _ ≤ _; first | exact Nat.le_of_ble_eq_true rfl | (simp only [room_1]; omega))⟩ dL_law_671 (fun v g_43 H locs hp hT => ?_)
  obtain ⟨r_44, rfl, hI, x_46, m_45⟩ := hp
  have hw : PX 48 2 3 71 72 g_43 om := hw.mono m_45 x_46 r_10 (by decide) (by decide) rfl rfl rfl rfl
  have hN0 : PX 8 39 40 84 85 g_43 om := hN0.mono m_45 x_46 r_10 (by decide) (by decide) rfl rfl rfl rfl
  have hTE : TE g_43 ba ta tz.toInt := hTE.sm m_45 r_14 (by decide) rfl r_15 (by decide) rfl
  have hWT : WT g_43 wt := hWT.sm m_45 r_16 (by decide) rfl
  have hHO : HO 3 0 g_43 sa ha sv.toInt := hHO.mono m_45 x_46 r_17 r_18 (by decide) rfl rfl rfl
  have hM : Sm mdA g g_43 := sm_all
  have hE : Ex g g_43 := hE.tr x_46
  have r_47 : g_43.1 ox = 7 := (Ex.r x_46 r_9 (by decide))
  have r_48 : g_43.1 om = 8 := (Ex.r x_46 r_10 (by decide))
  have r_49 : g_43.1 tp = 5 := (Ex.r x_46 r_11 (by decide))
  have r_50 : g_43.1 nw = 19 := (Ex.r x_46 r_12 (by decide))
  have r_51 : g_43.1 rl = 1 := (Ex.r x_46 r_13 (by decide))
  have r_52 : g_43.1 ba = 67 := (Ex.r x_46 r_14 (by decide))
  have r_53 : g_43.1 ta = 79 := (Ex.r x_46 r_15 (by decide))
  have r_54 : g_43.1 wt = 87 := (Ex.r x_46 r_16 (by decide))
  have r_55 : g_43.1 sa = 42 := (Ex.r x_46 r_17 (by decide))
  have r_56 : g_43.1 ha = 74 := (Ex.r x_46 r_18 (by decide))
  have n_57 : g_43.2.2.1 ba = 100 := (Ex.n x_46 r_14 (by decide) n_19)
  have n_58 : g_43.2.2.1 ta = 100 := (Ex.n x_46 r_15 (by decide) n_20)
  have n_59 : g_43.2.2.1 wt = 24 := (Ex.n x_46 r_16 (by decide) n_21)
  have n_60 : g_43.2.2.1 sa = 6 := (Ex.n x_46 r_17 (by decide) n_22)
  have n_61 : g_43.2.2.1 ha = 6 := (Ex.n x_46 r_18 (by decide) n_23)
  have kn_62 : g_43.2.1 om 22 = .int o1 := (Sm.v m_45 r_10 (by decide) rfl kn_24)
  have kn_63 : g_43.2.1 ox 0 = .ref tp := (Sm.v m_45 r_9 (by decide) rfl kn_25)
  have kn_64 : g_43.2.1 ox 1 = .ref nw := (Sm.v m_45 r_9 (by decide) rfl kn_26)
  have kn_65 : g_43.2.1 ox 2 = .ref rl := (Sm.v m_45 r_9 (by decide) rfl kn_27)
  have kn_66 : g_43.2.1 tp 0 = .ref ba := (Sm.v m_45 r_11 (by decide) rfl kn_28)
  have kn_67 : g_43.2.1 om 28 = .ref ta := (Sm.v m_45 r_10 (by decide) rfl kn_29)
  have kn_68 : g_43.2.1 om 42 = .ref wt := (Sm.v m_45 r_10 (by decide) rfl kn_30)
  have kn_69 : g_43.2.1 nw 0 = .ref sa := (Sm.v m_45 r_12 (by decide) rfl kn_31)
  have kn_70 : g_43.2.1 om 5 = .ref ha := (Sm.v m_45 r_10 (by decide) rfl kn_32)
  have kn_71 : g_43.2.1 tp 1 = .int tz := (Sm.v m_45 r_11 (by decide) rfl kn_33)
  have kn_72 : g_43.2.1 om 29 = .int tz := (Sm.v m_45 r_10 (by decide) rfl kn_34)
  have kn_73 : g_43.2.1 nw 1 = .int sv := (Sm.v m_45 r_12 (by decide) rfl kn_35)
  have kn_74 : g_43.2.1 om 0 = .int sv := (Sm.v m_45 r_10 (by decide) rfl kn_36)
  have kn_75 : g_43.2.1 rl 3 = .int rz := (Sm.v m_45 r_13 (by decide) rfl kn_37)
  have kn_76 : g_43.2.1 om 30 = .int rz := (Sm.v m_45 r_10 (by decide) rfl kn_38)
  refine W.eq (g2 := F0 m 674 ls [.int r_44]) rfl ?_
  refine lv_pop hx hb dL_law_674 rfl ?_
  refine lv_goto (tgt := 829) hx hb dL_law_675 (by decide) ?_
  refine W.widen (k := cells + 4) (n := slots + 28) (by omega) (by omega) ?_
  exact K g_43 o1 tz sv rz H locs hT hI r_47 r_48 kn_62 (by have e0_ : (0 : Int32).toInt = 0 := (by decide); omega) (by have e0_ : (0 : Int32).toInt = 0 := (by decide); omega) hw hN0 kn_63 r_49 kn_64 r_50 kn_65 r_51 kn_66 r_52 n_57 kn_67 r_53 n_58 kn_68 r_54 n_59 kn_69 r_55 n_60 kn_70 r_56 n_61 kn_71 kn_72 (by have e0_ : (0 : Int32).toInt = 0 := (by decide); omega) (by have e0_ : (0 : Int32).toInt = 0 := (by decide); omega) kn_73 kn_74 (by have e0_ : (0 : Int32).toInt = 0 := (by decide); omega) (by have e0_ : (0 : Int32).toInt = 0 := (by decide); omega) kn_75 kn_76 (by have e0_ : (0 : Int32).toInt = 0 := (by decide); omega) (by have e0_ : (0 : Int32).toInt = 0 := (by decide); omega) hTE hWT hHO
