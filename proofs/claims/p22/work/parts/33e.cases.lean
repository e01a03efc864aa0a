theorem k_665 : Cond.methodLink RL 85 yX6_enough ∈ tb := mt 665 (by decide +kernel) rfl
theorem k_666 : Cond.instanceMethod yX6_enough ∈ tb := mt 666 (by decide +kernel) rfl
theorem k_667 : Cond.selects RX6 yX6_enough yX6_enough ∈ tb := mt 667 (by decide +kernel) rfl
set_option maxRecDepth 20000 in
theorem k_668 : Cond.code yX6_enough cX6_enough 2 (some .int) ∈ tb := mt 668 rfl rfl
theorem k_673 : Cond.methodLink RL 89 yX6_price ∈ tb := mt 673 (by decide +kernel) rfl
theorem k_674 : Cond.instanceMethod yX6_price ∈ tb := mt 674 (by decide +kernel) rfl
theorem k_675 : Cond.selects RX6 yX6_price yX6_price ∈ tb := mt 675 (by decide +kernel) rfl
set_option maxRecDepth 20000 in
theorem k_676 : Cond.code yX6_price cX6_price 4 (some .int) ∈ tb := mt 676 rfl rfl
theorem k_677 : Cond.methodLink RL 93 yX6_cheapest ∈ tb := mt 677 (by decide +kernel) rfl
theorem k_678 : Cond.instanceMethod yX6_cheapest ∈ tb := mt 678 (by decide +kernel) rfl
theorem k_679 : Cond.selects RX6 yX6_cheapest yX6_cheapest ∈ tb := mt 679 (by decide +kernel) rfl
set_option maxRecDepth 20000 in
theorem k_680 : Cond.code yX6_cheapest cX6_cheapest 4 (some .int) ∈ tb := mt 680 rfl rfl
theorem k_711 : Cond.methodLink RL 97 yX6_again ∈ tb := mt 711 (by decide +kernel) rfl
theorem k_712 : Cond.instanceMethod yX6_again ∈ tb := mt 712 (by decide +kernel) rfl
theorem k_713 : Cond.selects RX6 yX6_again yX6_again ∈ tb := mt 713 (by decide +kernel) rfl
set_option maxRecDepth 20000 in
theorem k_714 : Cond.code yX6_again cX6_again 1 (some .int) ∈ tb := mt 714 rfl rfl
theorem k_1151 : Cond.methodLink RL 88 yX7_enough ∈ tb := mt 1151 (by decide +kernel) rfl
theorem k_1152 : Cond.instanceMethod yX7_enough ∈ tb := mt 1152 (by decide +kernel) rfl
theorem k_1153 : Cond.selects RX7 yX7_enough yX7_enough ∈ tb := mt 1153 (by decide +kernel) rfl
set_option maxRecDepth 20000 in
theorem k_1154 : Cond.code yX7_enough cX7_enough 4 (some .int) ∈ tb := mt 1154 rfl rfl
theorem k_1155 : Cond.methodLink RL 92 yX7_price ∈ tb := mt 1155 (by decide +kernel) rfl
theorem k_1156 : Cond.instanceMethod yX7_price ∈ tb := mt 1156 (by decide +kernel) rfl
theorem k_1157 : Cond.selects RX7 yX7_price yX7_price ∈ tb := mt 1157 (by decide +kernel) rfl
set_option maxRecDepth 20000 in
theorem k_1158 : Cond.code yX7_price cX7_price 4 (some .int) ∈ tb := mt 1158 rfl rfl
theorem k_1159 : Cond.methodLink RL 96 yX7_cheapest ∈ tb := mt 1159 (by decide +kernel) rfl
theorem k_1160 : Cond.instanceMethod yX7_cheapest ∈ tb := mt 1160 (by decide +kernel) rfl
theorem k_1161 : Cond.selects RX7 yX7_cheapest yX7_cheapest ∈ tb := mt 1161 (by decide +kernel) rfl
set_option maxRecDepth 20000 in
theorem k_1162 : Cond.code yX7_cheapest cX7_cheapest 10 (some .int) ∈ tb := mt 1162 rfl rfl
theorem k_1174 : Cond.methodLink RL 100 yX7_again ∈ tb := mt 1174 (by decide +kernel) rfl
theorem k_1175 : Cond.instanceMethod yX7_again ∈ tb := mt 1175 (by decide +kernel) rfl
theorem k_1176 : Cond.selects RX7 yX7_again yX7_again ∈ tb := mt 1176 (by decide +kernel) rfl
set_option maxRecDepth 20000 in
theorem k_1177 : Cond.code yX7_again cX7_again 3 (some .int) ∈ tb := mt 1177 rfl rfl
theorem dL_law_678 : decode cL_law 678 = .ok (.aload_n 1, 1) := by decide +kernel
theorem dL_law_679 : decode cL_law 679 = .ok (.invokevirtual 85, 3) := by decide +kernel
theorem dL_law_682 : decode cL_law 682 = .ok (.pop, 1) := by decide +kernel
theorem dL_law_683 : decode cL_law 683 = .ok (.aload_n 2, 1) := by decide +kernel
theorem dL_law_684 : decode cL_law 684 = .ok (.invokevirtual 88, 3) := by decide +kernel
theorem dL_law_687 : decode cL_law 687 = .ok (.pop, 1) := by decide +kernel
theorem dL_law_688 : decode cL_law 688 = .ok (.goto 141, 3) := by decide +kernel
theorem dL_law_691 : decode cL_law 691 = .ok (.aload_n 1, 1) := by decide +kernel
theorem dL_law_692 : decode cL_law 692 = .ok (.aload_n 0, 1) := by decide +kernel
theorem dL_law_693 : decode cL_law 693 = .ok (.iload_n 3, 1) := by decide +kernel
theorem dL_law_694 : decode cL_law 694 = .ok (.iconst 1, 1) := by decide +kernel
theorem dL_law_695 : decode cL_law 695 = .ok (.iadd, 1) := by decide +kernel
theorem dL_law_696 : decode cL_law 696 = .ok (.iaload, 1) := by decide +kernel
theorem dL_law_697 : decode cL_law 697 = .ok (.aload_n 0, 1) := by decide +kernel
theorem dL_law_698 : decode cL_law 698 = .ok (.iload_n 3, 1) := by decide +kernel
theorem dL_law_699 : decode cL_law 699 = .ok (.iconst 2, 1) := by decide +kernel
theorem dL_law_700 : decode cL_law 700 = .ok (.iadd, 1) := by decide +kernel
theorem dL_law_701 : decode cL_law 701 = .ok (.iaload, 1) := by decide +kernel
theorem dL_law_702 : decode cL_law 702 = .ok (.invokevirtual 89, 3) := by decide +kernel
theorem dL_law_705 : decode cL_law 705 = .ok (.pop, 1) := by decide +kernel
theorem dL_law_706 : decode cL_law 706 = .ok (.aload_n 2, 1) := by decide +kernel
theorem dL_law_707 : decode cL_law 707 = .ok (.aload_n 0, 1) := by decide +kernel
theorem dL_law_708 : decode cL_law 708 = .ok (.iload_n 3, 1) := by decide +kernel
theorem dL_law_709 : decode cL_law 709 = .ok (.iconst 1, 1) := by decide +kernel
theorem dL_law_710 : decode cL_law 710 = .ok (.iadd, 1) := by decide +kernel
theorem dL_law_711 : decode cL_law 711 = .ok (.iaload, 1) := by decide +kernel
theorem dL_law_712 : decode cL_law 712 = .ok (.aload_n 0, 1) := by decide +kernel
theorem dL_law_713 : decode cL_law 713 = .ok (.iload_n 3, 1) := by decide +kernel
theorem dL_law_714 : decode cL_law 714 = .ok (.iconst 2, 1) := by decide +kernel
theorem dL_law_715 : decode cL_law 715 = .ok (.iadd, 1) := by decide +kernel
theorem dL_law_716 : decode cL_law 716 = .ok (.iaload, 1) := by decide +kernel
theorem dL_law_717 : decode cL_law 717 = .ok (.invokevirtual 92, 3) := by decide +kernel
theorem dL_law_720 : decode cL_law 720 = .ok (.pop, 1) := by decide +kernel
theorem dL_law_721 : decode cL_law 721 = .ok (.goto 108, 3) := by decide +kernel
theorem dL_law_724 : decode cL_law 724 = .ok (.aload_n 1, 1) := by decide +kernel
theorem dL_law_725 : decode cL_law 725 = .ok (.aload_n 0, 1) := by decide +kernel
theorem dL_law_726 : decode cL_law 726 = .ok (.iload_n 3, 1) := by decide +kernel
theorem dL_law_727 : decode cL_law 727 = .ok (.iconst 1, 1) := by decide +kernel
theorem dL_law_728 : decode cL_law 728 = .ok (.iadd, 1) := by decide +kernel
theorem dL_law_729 : decode cL_law 729 = .ok (.iaload, 1) := by decide +kernel
theorem dL_law_730 : decode cL_law 730 = .ok (.invokevirtual 93, 3) := by decide +kernel
theorem dL_law_733 : decode cL_law 733 = .ok (.pop, 1) := by decide +kernel
theorem dL_law_734 : decode cL_law 734 = .ok (.aload_n 2, 1) := by decide +kernel
theorem dL_law_735 : decode cL_law 735 = .ok (.aload_n 0, 1) := by decide +kernel
theorem dL_law_736 : decode cL_law 736 = .ok (.iload_n 3, 1) := by decide +kernel
theorem dL_law_737 : decode cL_law 737 = .ok (.iconst 1, 1) := by decide +kernel
theorem dL_law_738 : decode cL_law 738 = .ok (.iadd, 1) := by decide +kernel
theorem dL_law_739 : decode cL_law 739 = .ok (.iaload, 1) := by decide +kernel
theorem dL_law_740 : decode cL_law 740 = .ok (.invokevirtual 96, 3) := by decide +kernel
theorem dL_law_743 : decode cL_law 743 = .ok (.pop, 1) := by decide +kernel
theorem dL_law_744 : decode cL_law 744 = .ok (.goto 85, 3) := by decide +kernel
theorem dL_law_747 : decode cL_law 747 = .ok (.aload_n 1, 1) := by decide +kernel
theorem dL_law_748 : decode cL_law 748 = .ok (.invokevirtual 97, 3) := by decide +kernel
theorem dL_law_751 : decode cL_law 751 = .ok (.pop, 1) := by decide +kernel
theorem dL_law_752 : decode cL_law 752 = .ok (.aload_n 2, 1) := by decide +kernel
theorem dL_law_753 : decode cL_law 753 = .ok (.invokevirtual 100, 3) := by decide +kernel
theorem dL_law_756 : decode cL_law 756 = .ok (.pop, 1) := by decide +kernel
theorem dL_law_757 : decode cL_law 757 = .ok (.goto 72, 3) := by decide +kernel
set_option maxHeartbeats 4000000 in
set_option maxRecDepth 100000 in
/-- enough -/
theorem law_16 {p : Program} {l : Launch} {e : Env} {s : State} {m : MethodId} {below : List Frame} {meth : Method} {c : Code} {D : va_G} {cI cZ cS cR : ClassId} {N0 : NT} {b L : Nat} {xs : Nat → Int32} (hB : Tz p s m meth c #[Value.ref b] code 4 RL D cI cZ cS cR N0) (hAs : N0.1 = s.heap.size) (hX : va_X b L xs s s.heap) (hbl : b < s.heap.size) (hL : L ≤ 2560) (hr : meth.sig.returnType = ret) {cells slots : Nat} (hcl : cells + 4 ≤ 600000) (hsl : slots + 28 ≤ 7302250) {H : Heap} {locs : List Loc} {ls : Array Slot} (g : GS) (ox om : Nat) (tp : Nat) (nw : Nat) (rl : Nat) (lg : Nat) (ba : Nat) (ta : Nat) (wt : Nat) (y0 : Nat) (y1 : Nat) (y2 : Nat) (m0 : Nat) (m1 : Nat) (m2 : Nat) (i o1 tz sv rz lz : Int32) (hT : Tv D cI cZ cS cR N0 s.heap H locs g) (hI : Inv g) (l_i : 0 ≤ i.toInt) (u_i : i.toInt + 5 ≤ L) : g.1 ox = 7 → g.1 om = 8 → g.2.1 om 22 = .int o1 → 0 ≤ o1.toInt → o1.toInt ≤ 12 * i.toInt → PX 48 2 3 71 72 g om → PX 8 39 40 84 85 g om → g.2.1 ox 0 = .ref tp → g.1 tp = 5 → g.2.1 ox 1 = .ref nw → g.1 nw = 19 → g.2.1 ox 2 = .ref rl → g.1 rl = 1 → g.2.1 ox 3 = .ref lg → g.1 lg = 9 → g.2.1 tp 0 = .ref ba → g.1 ba = 67 → g.2.2.1 ba = 100 → g.2.1 om 28 = .ref ta → g.1 ta = 79 → g.2.2.1 ta = 100 → g.2.1 om 42 = .ref wt → g.1 wt = 87 → g.2.2.1 wt = 24 → g.2.1 lg 0 = .ref y0 → g.1 y0 = 64 → g.2.2.1 y0 = 20 → g.2.1 lg 1 = .ref y1 → g.1 y1 = 65 → g.2.2.1 y1 = 20 → g.2.1 lg 2 = .ref y2 → g.1 y2 = 66 → g.2.2.1 y2 = 20 → g.2.1 om 25 = .ref m0 → g.1 m0 = 76 → g.2.2.1 m0 = 20 → g.2.1 om 26 = .ref m1 → g.1 m1 = 77 → g.2.2.1 m1 = 20 → g.2.1 om 27 = .ref m2 → g.1 m2 = 78 → g.2.2.1 m2 = 20 → g.2.1 tp 1 = .int tz → g.2.1 om 29 = .int tz → 0 ≤ tz.toInt → tz.toInt ≤ 100 → g.2.1 nw 1 = .int sv → g.2.1 om 0 = .int sv → 0 ≤ sv.toInt → sv.toInt ≤ 6 → g.2.1 rl 3 = .int rz → g.2.1 om 30 = .int rz → 0 ≤ rz.toInt → rz.toInt ≤ 6 → g.2.1 lg 3 = .int lz → g.2.1 om 24 = .int lz → 0 ≤ lz.toInt → lz.toInt ≤ 20 → TE g ba ta tz.toInt → WT g wt → TE g y0 m0 lz.toInt → TE g y1 m1 lz.toInt → TE g y2 m2 lz.toInt → (hl : lv_has ls 4 [(3, .int i), (2, .ref om), (1, .ref ox), (0, .ref b)]) → (K : ∀ (g1 : GS) (o1_1 tz_1 sv_1 rz_1 lz_1 : Int32) (H1 : Heap) (locs1 : List Loc), Tv D cI cZ cS cR N0 s.heap H1 locs1 g1 → Inv g1 → g1.1 ox = 7 → g1.1 om = 8 → g1.2.1 om 22 = .int o1_1 → 0 ≤ o1_1.toInt → o1_1.toInt ≤ 12 * i.toInt + 60 → PX 48 2 3 71 72 g1 om → PX 8 39 40 84 85 g1 om → g1.2.1 ox 0 = .ref tp → g1.1 tp = 5 → g1.2.1 ox 1 = .ref nw → g1.1 nw = 19 → g1.2.1 ox 2 = .ref rl → g1.1 rl = 1 → g1.2.1 ox 3 = .ref lg → g1.1 lg = 9 → g1.2.1 tp 0 = .ref ba → g1.1 ba = 67 → g1.2.2.1 ba = 100 → g1.2.1 om 28 = .ref ta → g1.1 ta = 79 → g1.2.2.1 ta = 100 → g1.2.1 om 42 = .ref wt → g1.1 wt = 87 → g1.2.2.1 wt = 24 → g1.2.1 lg 0 = .ref y0 → g1.1 y0 = 64 → g1.2.2.1 y0 = 20 → g1.2.1 lg 1 = .ref y1 → g1.1 y1 = 65 → g1.2.2.1 y1 = 20 → g1.2.1 lg 2 = .ref y2 → g1.1 y2 = 66 → g1.2.2.1 y2 = 20 → g1.2.1 om 25 = .ref m0 → g1.1 m0 = 76 → g1.2.2.1 m0 = 20 → g1.2.1 om 26 = .ref m1 → g1.1 m1 = 77 → g1.2.2.1 m1 = 20 → g1.2.1 om 27 = .ref m2 → g1.1 m2 = 78 → g1.2.2.1 m2 = 20 → g1.2.1 tp 1 = .int tz_1 → g1.2.1 om 29 = .int tz_1 → 0 ≤ tz_1.toInt → tz_1.toInt ≤ 100 → g1.2.1 nw 1 = .int sv_1 → g1.2.1 om 0 = .int sv_1 → 0 ≤ sv_1.toInt → sv_1.toInt ≤ 6 → g1.2.1 rl 3 = .int rz_1 → g1.2.1 om 30 = .int rz_1 → 0 ≤ rz_1.toInt → rz_1.toInt ≤ 6 → g1.2.1 lg 3 = .int lz_1 → g1.2.1 om 24 = .int lz_1 → 0 ≤ lz_1.toInt → lz_1.toInt ≤ 20 → TE g1 ba ta tz_1.toInt → WT g1 wt → TE g1 y0 m0 lz_1.toInt → TE g1 y1 m1 lz_1.toInt → TE g1 y2 m2 lz_1.toInt → W p l e room_1 s m #[Value.ref b] below meth c H1 locs1 (cells + 4) (slots + 28) (lw_Z below #[Value.ref b] s) (F0 m 829 ls [])) → W p l e room_1 s m #[Value.ref b] below meth c H locs cells slots (lw_Z below #[Value.ref b] s) (F0 m 678 ls []) := by
  intro r_ox r_om ko l_o u_o hw hN0 k_tp r_tp k_nw r_nw k_rl r_rl k_lg r_lg k_ba r_ba n_ba k_ta r_ta n_ta k_wt r_wt n_wt k_y0 r_y0 n_y0 k_y1 r_y1 n_y1 k_y2 r_y2 n_y2 k_m0 r_m0 n_m0 k_m1 r_m1 n_m1 k_m2 r_m2 n_m2 kc_tz km_tz l_tz u_tz kc_sv km_sv l_sv u_sv kc_rz km_rz l_rz u_rz kc_lz km_lz l_lz u_lz hTE hWT hL0 hL1 hL2 hl K
  have hx := hB.1
  have hb := hB.2.1
  have hE : Ex g g := Ex.rf
  have hM : Sm mdA g g := sm_all
  have hTE0 := hTE
  have hL00 := hL0
  have hL10 := hL1
  have hL20 := hL2
  refine lv_aload_n hx hb dL_law_678 rfl (lv_at hl 2 rfl) ?_
  refine t_callV (n := 0) (As := []) (rest := []) (ci := 6) hB hT hl.1 (P_enough l D cI cZ cS cR N0 g hI ox r_ox) (ro_ci r_ox rfl) rfl k_668 k_57 k_665 k_666 k_667 (by decide +kernel) ⟨(Nat.le_of_ble_eq_true rfl), (Nat.le_of_ble_eq_true rfl)⟩ rfl (Nat.le_of_ble_eq_true rfl) ⟨(by show _ ≤ _; first | exact Nat.le_of_ble_eq_true rfl | (simp only [room_1]; omega)), (by show _ ≤ _; first | exact Nat.le_of_ble_eq_true rfl | (simp only [room_1]; omega))⟩ dL_law_679 (fun v g_1 H locs hp hT => ?_)
  obtain ⟨r_2, rfl, hI, x_4, m_3⟩ := hp
  have hw : PX 48 2 3 71 72 g_1 om := hw.mono m_3 x_4 r_om (by decide) (by decide) rfl rfl rfl rfl
  have hN0 : PX 8 39 40 84 85 g_1 om := hN0.mono m_3 x_4 r_om (by decide) (by decide) rfl rfl rfl rfl
  have hTE : TE g_1 ba ta tz.toInt := hTE.sm m_3 r_ba (by decide) rfl r_ta (by decide) rfl
  have hWT : WT g_1 wt := hWT.sm m_3 r_wt (by decide) rfl
  have hL0 : TE g_1 y0 m0 lz.toInt := hL0.sm m_3 r_y0 (by decide) rfl r_m0 (by decide) rfl
  have hL1 : TE g_1 y1 m1 lz.toInt := hL1.sm m_3 r_y1 (by decide) rfl r_m1 (by decide) rfl
  have hL2 : TE g_1 y2 m2 lz.toInt := hL2.sm m_3 r_y2 (by decide) rfl r_m2 (by decide) rfl
  have hM : Sm mdA g g_1 := sm_all
  have hE : Ex g g_1 := hE.tr x_4
  have r_5 : g_1.1 ox = 7 := (Ex.r x_4 r_ox (by decide))
  have r_6 : g_1.1 om = 8 := (Ex.r x_4 r_om (by decide))
  have r_7 : g_1.1 tp = 5 := (Ex.r x_4 r_tp (by decide))
  have r_8 : g_1.1 nw = 19 := (Ex.r x_4 r_nw (by decide))
  have r_9 : g_1.1 rl = 1 := (Ex.r x_4 r_rl (by decide))
  have r_10 : g_1.1 lg = 9 := (Ex.r x_4 r_lg (by decide))
  have r_11 : g_1.1 ba = 67 := (Ex.r x_4 r_ba (by decide))
  have r_12 : g_1.1 ta = 79 := (Ex.r x_4 r_ta (by decide))
  have r_13 : g_1.1 wt = 87 := (Ex.r x_4 r_wt (by decide))
  have r_14 : g_1.1 y0 = 64 := (Ex.r x_4 r_y0 (by decide))
  have r_15 : g_1.1 y1 = 65 := (Ex.r x_4 r_y1 (by decide))
  have r_16 : g_1.1 y2 = 66 := (Ex.r x_4 r_y2 (by decide))
  have r_17 : g_1.1 m0 = 76 := (Ex.r x_4 r_m0 (by decide))
  have r_18 : g_1.1 m1 = 77 := (Ex.r x_4 r_m1 (by decide))
  have r_19 : g_1.1 m2 = 78 := (Ex.r x_4 r_m2 (by decide))
  have n_20 : g_1.2.2.1 ba = 100 := (Ex.n x_4 r_ba (by decide) n_ba)
  have n_21 : g_1.2.2.1 ta = 100 := (Ex.n x_4 r_ta (by decide) n_ta)
  have n_22 : g_1.2.2.1 wt = 24 := (Ex.n x_4 r_wt (by decide) n_wt)
  have n_23 : g_1.2.2.1 y0 = 20 := (Ex.n x_4 r_y0 (by decide) n_y0)
  have n_24 : g_1.2.2.1 y1 = 20 := (Ex.n x_4 r_y1 (by decide) n_y1)
  have n_25 : g_1.2.2.1 y2 = 20 := (Ex.n x_4 r_y2 (by decide) n_y2)
  have n_26 : g_1.2.2.1 m0 = 20 := (Ex.n x_4 r_m0 (by decide) n_m0)
  have n_27 : g_1.2.2.1 m1 = 20 := (Ex.n x_4 r_m1 (by decide) n_m1)
  have n_28 : g_1.2.2.1 m2 = 20 := (Ex.n x_4 r_m2 (by decide) n_m2)
  have kn_29 : g_1.2.1 om 22 = .int o1 := (Sm.v m_3 r_om (by decide) rfl ko)
  have kn_30 : g_1.2.1 ox 0 = .ref tp := (Sm.v m_3 r_ox (by decide) rfl k_tp)
  have kn_31 : g_1.2.1 ox 1 = .ref nw := (Sm.v m_3 r_ox (by decide) rfl k_nw)
  have kn_32 : g_1.2.1 ox 2 = .ref rl := (Sm.v m_3 r_ox (by decide) rfl k_rl)
  have kn_33 : g_1.2.1 ox 3 = .ref lg := (Sm.v m_3 r_ox (by decide) rfl k_lg)
  have kn_34 : g_1.2.1 tp 0 = .ref ba := (Sm.v m_3 r_tp (by decide) rfl k_ba)
  have kn_35 : g_1.2.1 om 28 = .ref ta := (Sm.v m_3 r_om (by decide) rfl k_ta)
  have kn_36 : g_1.2.1 om 42 = .ref wt := (Sm.v m_3 r_om (by decide) rfl k_wt)
  have kn_37 : g_1.2.1 lg 0 = .ref y0 := (Sm.v m_3 r_lg (by decide) rfl k_y0)
  have kn_38 : g_1.2.1 lg 1 = .ref y1 := (Sm.v m_3 r_lg (by decide) rfl k_y1)
  have kn_39 : g_1.2.1 lg 2 = .ref y2 := (Sm.v m_3 r_lg (by decide) rfl k_y2)
  have kn_40 : g_1.2.1 om 25 = .ref m0 := (Sm.v m_3 r_om (by decide) rfl k_m0)
  have kn_41 : g_1.2.1 om 26 = .ref m1 := (Sm.v m_3 r_om (by decide) rfl k_m1)
  have kn_42 : g_1.2.1 om 27 = .ref m2 := (Sm.v m_3 r_om (by decide) rfl k_m2)
  have kn_43 : g_1.2.1 tp 1 = .int tz := (Sm.v m_3 r_tp (by decide) rfl kc_tz)
  have kn_44 : g_1.2.1 om 29 = .int tz := (Sm.v m_3 r_om (by decide) rfl km_tz)
  have kn_45 : g_1.2.1 nw 1 = .int sv := (Sm.v m_3 r_nw (by decide) rfl kc_sv)
  have kn_46 : g_1.2.1 om 0 = .int sv := (Sm.v m_3 r_om (by decide) rfl km_sv)
  have kn_47 : g_1.2.1 rl 3 = .int rz := (Sm.v m_3 r_rl (by decide) rfl kc_rz)
  have kn_48 : g_1.2.1 om 30 = .int rz := (Sm.v m_3 r_om (by decide) rfl km_rz)
  have kn_49 : g_1.2.1 lg 3 = .int lz := (Sm.v m_3 r_lg (by decide) rfl kc_lz)
  have kn_50 : g_1.2.1 om 24 = .int lz := (Sm.v m_3 r_om (by decide) rfl km_lz)
  refine W.eq (g2 := F0 m 682 ls [.int r_2]) rfl ?_
  refine lv_pop hx hb dL_law_682 rfl ?_
  refine lv_aload_n hx hb dL_law_683 rfl (lv_at hl 1 rfl) ?_
  refine t_callV (n := 0) (As := []) (rest := []) (ci := 7) hB hT hl.1 (m_enough l D cI cZ cS cR N0 g_1 hI om r_6 hw) (ro_ci r_6 rfl) rfl k_1154 k_65 k_1151 k_1152 k_1153 (by decide +kernel) ⟨(Nat.le_of_ble_eq_true rfl), (Nat.le_of_ble_eq_true rfl)⟩ rfl (Nat.le_of_ble_eq_true rfl) ⟨(by show _ ≤ _; first | exact Nat.le_of_ble_eq_true rfl | (simp only [room_1]; omega)), (by show _ ≤ _; first | exact Nat.le_of_ble_eq_true rfl | (simp only [room_1]; omega))⟩ dL_law_684 (fun v g_51 H locs hp hT => ?_)
  obtain ⟨r_52, rfl, hI, x_54, m_53⟩ := hp
  have hw : PX 48 2 3 71 72 g_51 om := hw.mono m_53 x_54 r_6 (by decide) (by decide) rfl rfl rfl rfl
  have hN0 : PX 8 39 40 84 85 g_51 om := hN0.mono m_53 x_54 r_6 (by decide) (by decide) rfl rfl rfl rfl
  have hTE : TE g_51 ba ta tz.toInt := hTE.sm m_53 r_11 (by decide) rfl r_12 (by decide) rfl
  have hWT : WT g_51 wt := hWT.sm m_53 r_13 (by decide) rfl
  have hL0 : TE g_51 y0 m0 lz.toInt := hL0.sm m_53 r_14 (by decide) rfl r_17 (by decide) rfl
  have hL1 : TE g_51 y1 m1 lz.toInt := hL1.sm m_53 r_15 (by decide) rfl r_18 (by decide) rfl
  have hL2 : TE g_51 y2 m2 lz.toInt := hL2.sm m_53 r_16 (by decide) rfl r_19 (by decide) rfl
  have hM : Sm mdA g g_51 := sm_all
  have hE : Ex g g_51 := hE.tr x_54
  have r_55 : g_51.1 ox = 7 := (Ex.r x_54 r_5 (by decide))
  have r_56 : g_51.1 om = 8 := (Ex.r x_54 r_6 (by decide))
  have r_57 : g_51.1 tp = 5 := (Ex.r x_54 r_7 (by decide))
  have r_58 : g_51.1 nw = 19 := (Ex.r x_54 r_8 (by decide))
  have r_59 : g_51.1 rl = 1 := (Ex.r x_54 r_9 (by decide))
  have r_60 : g_51.1 lg = 9 := (Ex.r x_54 r_10 (by decide))
  have r_61 : g_51.1 ba = 67 := (Ex.r x_54 r_11 (by decide))
  have r_62 : g_51.1 ta = 79 := (Ex.r x_54 r_12 (by decide))
  have r_63 : g_51.1 wt = 87 := (Ex.r x_54 r_13 (by decide))
  have r_64 : g_51.1 y0 = 64 := (Ex.r x_54 r_14 (by decide))
  have r_65 : g_51.1 y1 = 65 := (Ex.r x_54 r_15 (by decide))
  have r_66 : g_51.1 y2 = 66 := (Ex.r x_54 r_16 (by decide))
  have r_67 : g_51.1 m0 = 76 := (Ex.r x_54 r_17 (by decide))
  have r_68 : g_51.1 m1 = 77 := (Ex.r x_54 r_18 (by decide))
  have r_69 : g_51.1 m2 = 78 := (Ex.r x_54 r_19 (by decide))
  have n_70 : g_51.2.2.1 ba = 100 := (Ex.n x_54 r_11 (by decide) n_20)
  have n_71 : g_51.2.2.1 ta = 100 := (Ex.n x_54 r_12 (by decide) n_21)
  have n_72 : g_51.2.2.1 wt = 24 := (Ex.n x_54 r_13 (by decide) n_22)
  have n_73 : g_51.2.2.1 y0 = 20 := (Ex.n x_54 r_14 (by decide) n_23)
  have n_74 : g_51.2.2.1 y1 = 20 := (Ex.n x_54 r_15 (by decide) n_24)
  have n_75 : g_51.2.2.1 y2 = 20 := (Ex.n x_54 r_16 (by decide) n_25)
  have n_76 : g_51.2.2.1 m0 = 20 := (Ex.n x_54 r_17 (by decide) n_26)
  have n_77 : g_51.2.2.1 m1 = 20 := (Ex.n x_54 r_18 (by decide) n_27)
  have n_78 : g_51.2.2.1 m2 = 20 := (Ex.n x_54 r_19 (by decide) n_28)
  have kn_79 : g_51.2.1 om 22 = .int o1 := (Sm.v m_53 r_6 (by decide) rfl kn_29)
  have kn_80 : g_51.2.1 ox 0 = .ref tp := (Sm.v m_53 r_5 (by decide) rfl kn_30)
  have kn_81 : g_51.2.1 ox 1 = .ref nw := (Sm.v m_53 r_5 (by decide) rfl kn_31)
  have kn_82 : g_51.2.1 ox 2 = .ref rl := (Sm.v m_53 r_5 (by decide) rfl kn_32)
  have kn_83 : g_51.2.1 ox 3 = .ref lg := (Sm.v m_53 r_5 (by decide) rfl kn_33)
  have kn_84 : g_51.2.1 tp 0 = .ref ba := (Sm.v m_53 r_7 (by decide) rfl kn_34)
  have kn_85 : g_51.2.1 om 28 = .ref ta := (Sm.v m_53 r_6 (by decide) rfl kn_35)
  have kn_86 : g_51.2.1 om 42 = .ref wt := (Sm.v m_53 r_6 (by decide) rfl kn_36)
  have kn_87 : g_51.2.1 lg 0 = .ref y0 := (Sm.v m_53 r_10 (by decide) rfl kn_37)
  have kn_88 : g_51.2.1 lg 1 = .ref y1 := (Sm.v m_53 r_10 (by decide) rfl kn_38)
  have kn_89 : g_51.2.1 lg 2 = .ref y2 := (Sm.v m_53 r_10 (by decide) rfl kn_39)
  have kn_90 : g_51.2.1 om 25 = .ref m0 := (Sm.v m_53 r_6 (by decide) rfl kn_40)
  have kn_91 : g_51.2.1 om 26 = .ref m1 := (Sm.v m_53 r_6 (by decide) rfl kn_41)
  have kn_92 : g_51.2.1 om 27 = .ref m2 := (Sm.v m_53 r_6 (by decide) rfl kn_42)
  have kn_93 : g_51.2.1 tp 1 = .int tz := (Sm.v m_53 r_7 (by decide) rfl kn_43)
  have kn_94 : g_51.2.1 om 29 = .int tz := (Sm.v m_53 r_6 (by decide) rfl kn_44)
  have kn_95 : g_51.2.1 nw 1 = .int sv := (Sm.v m_53 r_8 (by decide) rfl kn_45)
  have kn_96 : g_51.2.1 om 0 = .int sv := (Sm.v m_53 r_6 (by decide) rfl kn_46)
  have kn_97 : g_51.2.1 rl 3 = .int rz := (Sm.v m_53 r_9 (by decide) rfl kn_47)
  have kn_98 : g_51.2.1 om 30 = .int rz := (Sm.v m_53 r_6 (by decide) rfl kn_48)
  have kn_99 : g_51.2.1 lg 3 = .int lz := (Sm.v m_53 r_10 (by decide) rfl kn_49)
  have kn_100 : g_51.2.1 om 24 = .int lz := (Sm.v m_53 r_6 (by decide) rfl kn_50)
  refine W.eq (g2 := F0 m 687 ls [.int r_52]) rfl ?_
  refine lv_pop hx hb dL_law_687 rfl ?_
  refine lv_goto (tgt := 829) hx hb dL_law_688 (by decide) ?_
  refine W.widen (k := cells + 4) (n := slots + 28) (by omega) (by omega) ?_
  exact K g_51 o1 tz sv rz lz H locs hT hI r_55 r_56 kn_79 (by have e0_ : (0 : Int32).toInt = 0 := (by decide); omega) (by have e0_ : (0 : Int32).toInt = 0 := (by decide); omega) hw hN0 kn_80 r_57 kn_81 r_58 kn_82 r_59 kn_83 r_60 kn_84 r_61 n_70 kn_85 r_62 n_71 kn_86 r_63 n_72 kn_87 r_64 n_73 kn_88 r_65 n_74 kn_89 r_66 n_75 kn_90 r_67 n_76 kn_91 r_68 n_77 kn_92 r_69 n_78 kn_93 kn_94 (by have e0_ : (0 : Int32).toInt = 0 := (by decide); omega) (by have e0_ : (0 : Int32).toInt = 0 := (by decide); omega) kn_95 kn_96 (by have e0_ : (0 : Int32).toInt = 0 := (by decide); omega) (by have e0_ : (0 : Int32).toInt = 0 := (by decide); omega) kn_97 kn_98 (by have e0_ : (0 : Int32).toInt = 0 := (by decide); omega) (by have e0_ : (0 : Int32).toInt = 0 := (by decide); omega) kn_99 kn_100 (by have e0_ : (0 : Int32).toInt = 0 := (by decide); omega) (by have e0_ : (0 : Int32).toInt = 0 := (by decide); omega) hTE hWT hL0 hL1 hL2
set_option maxHeartbeats 4000000 in
set_option maxRecDepth 100000 in
/-- price -/
theorem law_17 {p : Program} {l : Launch} {e : Env} {s : State} {m : MethodId} {below : List Frame} {meth : Method} {c : Code} {D : va_G} {cI cZ cS cR : ClassId} {N0 : NT} {b L : Nat} {xs : Nat → Int32} (hB : Tz p s m meth c #[Value.ref b] code 4 RL D cI cZ cS cR N0) (hAs : N0.1 = s.heap.size) (hX : va_X b L xs s s.heap) (hbl : b < s.heap.size) (hL : L ≤ 2560) (hr : meth.sig.returnType = ret) {cells slots : Nat} (hcl : cells + 4 ≤ 600000) (hsl : slots + 28 ≤ 7302250) {H : Heap} {locs : List Loc} {ls : Array Slot} (g : GS) (ox om : Nat) (tp : Nat) (nw : Nat) (rl : Nat) (lg : Nat) (ba : Nat) (ta : Nat) (wt : Nat) (y0 : Nat) (y1 : Nat) (y2 : Nat) (m0 : Nat) (m1 : Nat) (m2 : Nat) (i o1 tz sv rz lz : Int32) (hT : Tv D cI cZ cS cR N0 s.heap H locs g) (hI : Inv g) (l_i : 0 ≤ i.toInt) (u_i : i.toInt + 5 ≤ L) : g.1 ox = 7 → g.1 om = 8 → g.2.1 om 22 = .int o1 → 0 ≤ o1.toInt → o1.toInt ≤ 12 * i.toInt → PX 48 2 3 71 72 g om → PX 8 39 40 84 85 g om → g.2.1 ox 0 = .ref tp → g.1 tp = 5 → g.2.1 ox 1 = .ref nw → g.1 nw = 19 → g.2.1 ox 2 = .ref rl → g.1 rl = 1 → g.2.1 ox 3 = .ref lg → g.1 lg = 9 → g.2.1 tp 0 = .ref ba → g.1 ba = 67 → g.2.2.1 ba = 100 → g.2.1 om 28 = .ref ta → g.1 ta = 79 → g.2.2.1 ta = 100 → g.2.1 om 42 = .ref wt → g.1 wt = 87 → g.2.2.1 wt = 24 → g.2.1 lg 0 = .ref y0 → g.1 y0 = 64 → g.2.2.1 y0 = 20 → g.2.1 lg 1 = .ref y1 → g.1 y1 = 65 → g.2.2.1 y1 = 20 → g.2.1 lg 2 = .ref y2 → g.1 y2 = 66 → g.2.2.1 y2 = 20 → g.2.1 om 25 = .ref m0 → g.1 m0 = 76 → g.2.2.1 m0 = 20 → g.2.1 om 26 = .ref m1 → g.1 m1 = 77 → g.2.2.1 m1 = 20 → g.2.1 om 27 = .ref m2 → g.1 m2 = 78 → g.2.2.1 m2 = 20 → g.2.1 tp 1 = .int tz → g.2.1 om 29 = .int tz → 0 ≤ tz.toInt → tz.toInt ≤ 100 → g.2.1 nw 1 = .int sv → g.2.1 om 0 = .int sv → 0 ≤ sv.toInt → sv.toInt ≤ 6 → g.2.1 rl 3 = .int rz → g.2.1 om 30 = .int rz → 0 ≤ rz.toInt → rz.toInt ≤ 6 → g.2.1 lg 3 = .int lz → g.2.1 om 24 = .int lz → 0 ≤ lz.toInt → lz.toInt ≤ 20 → TE g ba ta tz.toInt → WT g wt → TE g y0 m0 lz.toInt → TE g y1 m1 lz.toInt → TE g y2 m2 lz.toInt → (hl : lv_has ls 4 [(3, .int i), (2, .ref om), (1, .ref ox), (0, .ref b)]) → (K : ∀ (g1 : GS) (o1_1 tz_1 sv_1 rz_1 lz_1 : Int32) (H1 : Heap) (locs1 : List Loc), Tv D cI cZ cS cR N0 s.heap H1 locs1 g1 → Inv g1 → g1.1 ox = 7 → g1.1 om = 8 → g1.2.1 om 22 = .int o1_1 → 0 ≤ o1_1.toInt → o1_1.toInt ≤ 12 * i.toInt + 60 → PX 48 2 3 71 72 g1 om → PX 8 39 40 84 85 g1 om → g1.2.1 ox 0 = .ref tp → g1.1 tp = 5 → g1.2.1 ox 1 = .ref nw → g1.1 nw = 19 → g1.2.1 ox 2 = .ref rl → g1.1 rl = 1 → g1.2.1 ox 3 = .ref lg → g1.1 lg = 9 → g1.2.1 tp 0 = .ref ba → g1.1 ba = 67 → g1.2.2.1 ba = 100 → g1.2.1 om 28 = .ref ta → g1.1 ta = 79 → g1.2.2.1 ta = 100 → g1.2.1 om 42 = .ref wt → g1.1 wt = 87 → g1.2.2.1 wt = 24 → g1.2.1 lg 0 = .ref y0 → g1.1 y0 = 64 → g1.2.2.1 y0 = 20 → g1.2.1 lg 1 = .ref y1 → g1.1 y1 = 65 → g1.2.2.1 y1 = 20 → g1.2.1 lg 2 = .ref y2 → g1.1 y2 = 66 → g1.2.2.1 y2 = 20 → g1.2.1 om 25 = .ref m0 → g1.1 m0 = 76 → g1.2.2.1 m0 = 20 → g1.2.1 om 26 = .ref m1 → g1.1 m1 = 77 → g1.2.2.1 m1 = 20 → g1.2.1 om 27 = .ref m2 → g1.1 m2 = 78 → g1.2.2.1 m2 = 20 → g1.2.1 tp 1 = .int tz_1 → g1.2.1 om 29 = .int tz_1 → 0 ≤ tz_1.toInt → tz_1.toInt ≤ 100 → g1.2.1 nw 1 = .int sv_1 → g1.2.1 om 0 = .int sv_1 → 0 ≤ sv_1.toInt → sv_1.toInt ≤ 6 → g1.2.1 rl 3 = .int rz_1 → g1.2.1 om 30 = .int rz_1 → 0 ≤ rz_1.toInt → rz_1.toInt ≤ 6 → g1.2.1 lg 3 = .int lz_1 → g1.2.1 om 24 = .int lz_1 → 0 ≤ lz_1.toInt → lz_1.toInt ≤ 20 → TE g1 ba ta tz_1.toInt → WT g1 wt → TE g1 y0 m0 lz_1.toInt → TE g1 y1 m1 lz_1.toInt → TE g1 y2 m2 lz_1.toInt → W p l e room_1 s m #[Value.ref b] below meth c H1 locs1 (cells + 4) (slots + 28) (lw_Z below #[Value.ref b] s) (F0 m 829 ls [])) → W p l e room_1 s m #[Value.ref b] below meth c H locs cells slots (lw_Z below #[Value.ref b] s) (F0 m 691 ls []) := by
  intro r_ox r_om ko l_o u_o hw hN0 k_tp r_tp k_nw r_nw k_rl r_rl k_lg r_lg k_ba r_ba n_ba k_ta r_ta n_ta k_wt r_wt n_wt k_y0 r_y0 n_y0 k_y1 r_y1 n_y1 k_y2 r_y2 n_y2 k_m0 r_m0 n_m0 k_m1 r_m1 n_m1 k_m2 r_m2 n_m2 kc_tz km_tz l_tz u_tz kc_sv km_sv l_sv u_sv kc_rz km_rz l_rz u_rz kc_lz km_lz l_lz u_lz hTE hWT hL0 hL1 hL2 hl K
  have hx := hB.1
  have hb := hB.2.1
  have hE : Ex g g := Ex.rf
  have hM : Sm mdA g g := sm_all
  have hTE0 := hTE
  have hL00 := hL0
  have hL10 := hL1
  have hL20 := hL2
  refine lv_aload_n hx hb dL_law_691 rfl (lv_at hl 2 rfl) ?_
  refine lv_aload_n hx hb dL_law_692 rfl (lv_at hl 3 rfl) ?_
  refine lv_iload_n hx hb dL_law_693 rfl (lv_at hl 0 rfl) ?_
  refine lv_iconst (v := 1) hx hb dL_law_694 (by decide) ?_
  refine lv_iadd hx hb dL_law_695 ?_
  refine lv_topi (fun z_1 ez_1 => ?_)
  have e_z_1 : z_1.toInt = i.toInt + 1 := i_add ez_1 rfl (by decide) (by omega) (by omega)
  refine va_sld hx hb hX hbl (fun q => by have q_ : N0.1 ≤ b := q; omega) hT.2 (i_in (n := L) rfl (by omega) (by omega)) dL_law_696 ?_
  refine lv_topi (fun u_2 e_u_2 => ?_)
  refine lv_aload_n hx hb dL_law_697 rfl (lv_at hl 3 rfl) ?_
  refine lv_iload_n hx hb dL_law_698 rfl (lv_at hl 0 rfl) ?_
  refine lv_iconst (v := 2) hx hb dL_law_699 (by decide) ?_
  refine lv_iadd hx hb dL_law_700 ?_
  refine lv_topi (fun z_3 ez_3 => ?_)
  have e_z_3 : z_3.toInt = i.toInt + 2 := i_add ez_3 rfl (by decide) (by omega) (by omega)
  refine va_sld hx hb hX hbl (fun q => by have q_ : N0.1 ≤ b := q; omega) hT.2 (i_in (n := L) rfl (by omega) (by omega)) dL_law_701 ?_
  refine lv_topi (fun u_4 e_u_4 => ?_)
  refine t_callV (n := 2) (As := [.int u_2, .int u_4]) (rest := []) (ci := 6) hB hT hl.1 (P_price l D cI cZ cS cR N0 g hI ox u_2 u_4 r_ox) (ro_ci r_ox rfl) rfl k_676 k_57 k_673 k_674 k_675 (by decide +kernel) ⟨(Nat.le_of_ble_eq_true rfl), (Nat.le_of_ble_eq_true rfl)⟩ rfl (Nat.le_of_ble_eq_true rfl) ⟨(by show _ ≤ _; first | exact Nat.le_of_ble_eq_true rfl | (simp only [room_1]; omega)), (by show _ ≤ _; first | exact Nat.le_of_ble_eq_true rfl | (simp only [room_1]; omega))⟩ dL_law_702 (fun v g_5 H locs hp hT => ?_)
  obtain ⟨r_6, rfl, hI, x_8, m_7⟩ := hp
  have hw : PX 48 2 3 71 72 g_5 om := hw.mono m_7 x_8 r_om (by decide) (by decide) rfl rfl rfl rfl
  have hN0 : PX 8 39 40 84 85 g_5 om := hN0.mono m_7 x_8 r_om (by decide) (by decide) rfl rfl rfl rfl
  have hTE : TE g_5 ba ta tz.toInt := hTE.sm m_7 r_ba (by decide) rfl r_ta (by decide) rfl
  have hWT : WT g_5 wt := hWT.sm m_7 r_wt (by decide) rfl
  have hL0 : TE g_5 y0 m0 lz.toInt := hL0.sm m_7 r_y0 (by decide) rfl r_m0 (by decide) rfl
  have hL1 : TE g_5 y1 m1 lz.toInt := hL1.sm m_7 r_y1 (by decide) rfl r_m1 (by decide) rfl
  have hL2 : TE g_5 y2 m2 lz.toInt := hL2.sm m_7 r_y2 (by decide) rfl r_m2 (by decide) rfl
  have hM : Sm mdA g g_5 := sm_all
  have hE : Ex g g_5 := hE.tr x_8
  have r_9 : g_5.1 ox = 7 := (Ex.r x_8 r_ox (by decide))
  have r_10 : g_5.1 om = 8 := (Ex.r x_8 r_om (by decide))
  have r_11 : g_5.1 tp = 5 := (Ex.r x_8 r_tp (by decide))
  have r_12 : g_5.1 nw = 19 := (Ex.r x_8 r_nw (by decide))
  have r_13 : g_5.1 rl = 1 := (Ex.r x_8 r_rl (by decide))
  have r_14 : g_5.1 lg = 9 := (Ex.r x_8 r_lg (by decide))
  have r_15 : g_5.1 ba = 67 := (Ex.r x_8 r_ba (by decide))
  have r_16 : g_5.1 ta = 79 := (Ex.r x_8 r_ta (by decide))
  have r_17 : g_5.1 wt = 87 := (Ex.r x_8 r_wt (by decide))
  have r_18 : g_5.1 y0 = 64 := (Ex.r x_8 r_y0 (by decide))
  have r_19 : g_5.1 y1 = 65 := (Ex.r x_8 r_y1 (by decide))
  have r_20 : g_5.1 y2 = 66 := (Ex.r x_8 r_y2 (by decide))
  have r_21 : g_5.1 m0 = 76 := (Ex.r x_8 r_m0 (by decide))
  have r_22 : g_5.1 m1 = 77 := (Ex.r x_8 r_m1 (by decide))
  have r_23 : g_5.1 m2 = 78 := (Ex.r x_8 r_m2 (by decide))
  have n_24 : g_5.2.2.1 ba = 100 := (Ex.n x_8 r_ba (by decide) n_ba)
  have n_25 : g_5.2.2.1 ta = 100 := (Ex.n x_8 r_ta (by decide) n_ta)
  have n_26 : g_5.2.2.1 wt = 24 := (Ex.n x_8 r_wt (by decide) n_wt)
  have n_27 : g_5.2.2.1 y0 = 20 := (Ex.n x_8 r_y0 (by decide) n_y0)
  have n_28 : g_5.2.2.1 y1 = 20 := (Ex.n x_8 r_y1 (by decide) n_y1)
  have n_29 : g_5.2.2.1 y2 = 20 := (Ex.n x_8 r_y2 (by decide) n_y2)
  have n_30 : g_5.2.2.1 m0 = 20 := (Ex.n x_8 r_m0 (by decide) n_m0)
  have n_31 : g_5.2.2.1 m1 = 20 := (Ex.n x_8 r_m1 (by decide) n_m1)
  have n_32 : g_5.2.2.1 m2 = 20 := (Ex.n x_8 r_m2 (by decide) n_m2)
  have kn_33 : g_5.2.1 om 22 = .int o1 := (Sm.v m_7 r_om (by decide) rfl ko)
  have kn_34 : g_5.2.1 ox 0 = .ref tp := (Sm.v m_7 r_ox (by decide) rfl k_tp)
  have kn_35 : g_5.2.1 ox 1 = .ref nw := (Sm.v m_7 r_ox (by decide) rfl k_nw)
  have kn_36 : g_5.2.1 ox 2 = .ref rl := (Sm.v m_7 r_ox (by decide) rfl k_rl)
  have kn_37 : g_5.2.1 ox 3 = .ref lg := (Sm.v m_7 r_ox (by decide) rfl k_lg)
  have kn_38 : g_5.2.1 tp 0 = .ref ba := (Sm.v m_7 r_tp (by decide) rfl k_ba)
  have kn_39 : g_5.2.1 om 28 = .ref ta := (Sm.v m_7 r_om (by decide) rfl k_ta)
  have kn_40 : g_5.2.1 om 42 = .ref wt := (Sm.v m_7 r_om (by decide) rfl k_wt)
  have kn_41 : g_5.2.1 lg 0 = .ref y0 := (Sm.v m_7 r_lg (by decide) rfl k_y0)
  have kn_42 : g_5.2.1 lg 1 = .ref y1 := (Sm.v m_7 r_lg (by decide) rfl k_y1)
  have kn_43 : g_5.2.1 lg 2 = .ref y2 := (Sm.v m_7 r_lg (by decide) rfl k_y2)
  have kn_44 : g_5.2.1 om 25 = .ref m0 := (Sm.v m_7 r_om (by decide) rfl k_m0)
  have kn_45 : g_5.2.1 om 26 = .ref m1 := (Sm.v m_7 r_om (by decide) rfl k_m1)
  have kn_46 : g_5.2.1 om 27 = .ref m2 := (Sm.v m_7 r_om (by decide) rfl k_m2)
  have kn_47 : g_5.2.1 tp 1 = .int tz := (Sm.v m_7 r_tp (by decide) rfl kc_tz)
  have kn_48 : g_5.2.1 om 29 = .int tz := (Sm.v m_7 r_om (by decide) rfl km_tz)
  have kn_49 : g_5.2.1 nw 1 = .int sv := (Sm.v m_7 r_nw (by decide) rfl kc_sv)
  have kn_50 : g_5.2.1 om 0 = .int sv := (Sm.v m_7 r_om (by decide) rfl km_sv)
  have kn_51 : g_5.2.1 rl 3 = .int rz := (Sm.v m_7 r_rl (by decide) rfl kc_rz)
  have kn_52 : g_5.2.1 om 30 = .int rz := (Sm.v m_7 r_om (by decide) rfl km_rz)
  have kn_53 : g_5.2.1 lg 3 = .int lz := (Sm.v m_7 r_lg (by decide) rfl kc_lz)
  have kn_54 : g_5.2.1 om 24 = .int lz := (Sm.v m_7 r_om (by decide) rfl km_lz)
  refine W.eq (g2 := F0 m 705 ls [.int r_6]) rfl ?_
  refine lv_pop hx hb dL_law_705 rfl ?_
  refine lv_aload_n hx hb dL_law_706 rfl (lv_at hl 1 rfl) ?_
  refine lv_aload_n hx hb dL_law_707 rfl (lv_at hl 3 rfl) ?_
  refine lv_iload_n hx hb dL_law_708 rfl (lv_at hl 0 rfl) ?_
  refine lv_iconst (v := 1) hx hb dL_law_709 (by decide) ?_
  refine lv_iadd hx hb dL_law_710 ?_
  refine lv_topi (fun z_55 ez_55 => ?_)
  have e_z_55 : z_55.toInt = i.toInt + 1 := i_add ez_55 rfl (by decide) (by omega) (by omega)
  refine va_sld hx hb hX hbl (fun q => by have q_ : N0.1 ≤ b := q; omega) hT.2 (i_in (n := L) rfl (by omega) (by omega)) dL_law_711 ?_
  refine lv_topi (fun u_56 e_u_56 => ?_)
  refine lv_aload_n hx hb dL_law_712 rfl (lv_at hl 3 rfl) ?_
  refine lv_iload_n hx hb dL_law_713 rfl (lv_at hl 0 rfl) ?_
  refine lv_iconst (v := 2) hx hb dL_law_714 (by decide) ?_
  refine lv_iadd hx hb dL_law_715 ?_
  refine lv_topi (fun z_57 ez_57 => ?_)
  have e_z_57 : z_57.toInt = i.toInt + 2 := i_add ez_57 rfl (by decide) (by omega) (by omega)
  refine va_sld hx hb hX hbl (fun q => by have q_ : N0.1 ≤ b := q; omega) hT.2 (i_in (n := L) rfl (by omega) (by omega)) dL_law_716 ?_
  refine lv_topi (fun u_58 e_u_58 => ?_)
  refine t_callV (n := 2) (As := [.int u_56, .int u_58]) (rest := []) (ci := 7) hB hT hl.1 (m_price l D cI cZ cS cR N0 g_5 hI om u_56 u_58 r_10) (ro_ci r_10 rfl) rfl k_1158 k_65 k_1155 k_1156 k_1157 (by decide +kernel) ⟨(Nat.le_of_ble_eq_true rfl), (Nat.le_of_ble_eq_true rfl)⟩ rfl (Nat.le_of_ble_eq_true rfl) ⟨(by show _ ≤ _; first | exact Nat.le_of_ble_eq_true rfl | (simp only [room_1]; omega)), (by show _ ≤ _; first | exact Nat.le_of_ble_eq_true rfl | (simp only [room_1]; omega))⟩ dL_law_717 (fun v g_59 H locs hp hT => ?_)
  obtain ⟨r_60, rfl, hI, x_62, m_61⟩ := hp
  have hw : PX 48 2 3 71 72 g_59 om := hw.mono m_61 x_62 r_10 (by decide) (by decide) rfl rfl rfl rfl
  have hN0 : PX 8 39 40 84 85 g_59 om := hN0.mono m_61 x_62 r_10 (by decide) (by decide) rfl rfl rfl rfl
  have hTE : TE g_59 ba ta tz.toInt := hTE.sm m_61 r_15 (by decide) rfl r_16 (by decide) rfl
  have hWT : WT g_59 wt := hWT.sm m_61 r_17 (by decide) rfl
  have hL0 : TE g_59 y0 m0 lz.toInt := hL0.sm m_61 r_18 (by decide) rfl r_21 (by decide) rfl
  have hL1 : TE g_59 y1 m1 lz.toInt := hL1.sm m_61 r_19 (by decide) rfl r_22 (by decide) rfl
  have hL2 : TE g_59 y2 m2 lz.toInt := hL2.sm m_61 r_20 (by decide) rfl r_23 (by decide) rfl
  have hM : Sm mdA g g_59 := sm_all
  have hE : Ex g g_59 := hE.tr x_62
  have r_63 : g_59.1 ox = 7 := (Ex.r x_62 r_9 (by decide))
  have r_64 : g_59.1 om = 8 := (Ex.r x_62 r_10 (by decide))
  have r_65 : g_59.1 tp = 5 := (Ex.r x_62 r_11 (by decide))
  have r_66 : g_59.1 nw = 19 := (Ex.r x_62 r_12 (by decide))
  have r_67 : g_59.1 rl = 1 := (Ex.r x_62 r_13 (by decide))
  have r_68 : g_59.1 lg = 9 := (Ex.r x_62 r_14 (by decide))
  have r_69 : g_59.1 ba = 67 := (Ex.r x_62 r_15 (by decide))
  have r_70 : g_59.1 ta = 79 := (Ex.r x_62 r_16 (by decide))
  have r_71 : g_59.1 wt = 87 := (Ex.r x_62 r_17 (by decide))
  have r_72 : g_59.1 y0 = 64 := (Ex.r x_62 r_18 (by decide))
  have r_73 : g_59.1 y1 = 65 := (Ex.r x_62 r_19 (by decide))
  have r_74 : g_59.1 y2 = 66 := (Ex.r x_62 r_20 (by decide))
  have r_75 : g_59.1 m0 = 76 := (Ex.r x_62 r_21 (by decide))
  have r_76 : g_59.1 m1 = 77 := (Ex.r x_62 r_22 (by decide))
  have r_77 : g_59.1 m2 = 78 := (Ex.r x_62 r_23 (by decide))
  have n_78 : g_59.2.2.1 ba = 100 := (Ex.n x_62 r_15 (by decide) n_24)
  have n_79 : g_59.2.2.1 ta = 100 := (Ex.n x_62 r_16 (by decide) n_25)
  have n_80 : g_59.2.2.1 wt = 24 := (Ex.n x_62 r_17 (by decide) n_26)
  have n_81 : g_59.2.2.1 y0 = 20 := (Ex.n x_62 r_18 (by decide) n_27)
  have n_82 : g_59.2.2.1 y1 = 20 := (Ex.n x_62 r_19 (by decide) n_28)
  have n_83 : g_59.2.2.1 y2 = 20 := (Ex.n x_62 r_20 (by decide) n_29)
  have n_84 : g_59.2.2.1 m0 = 20 := (Ex.n x_62 r_21 (by decide) n_30)
  have n_85 : g_59.2.2.1 m1 = 20 := (Ex.n x_62 r_22 (by decide) n_31)
  have n_86 : g_59.2.2.1 m2 = 20 := (Ex.n x_62 r_23 (by decide) n_32)
  have kn_87 : g_59.2.1 om 22 = .int o1 := (Sm.v m_61 r_10 (by decide) rfl kn_33)
  have kn_88 : g_59.2.1 ox 0 = .ref tp := (Sm.v m_61 r_9 (by decide) rfl kn_34)
  have kn_89 : g_59.2.1 ox 1 = .ref nw := (Sm.v m_61 r_9 (by decide) rfl kn_35)
  have kn_90 : g_59.2.1 ox 2 = .ref rl := (Sm.v m_61 r_9 (by decide) rfl kn_36)
  have kn_91 : g_59.2.1 ox 3 = .ref lg := (Sm.v m_61 r_9 (by decide) rfl kn_37)
  have kn_92 : g_59.2.1 tp 0 = .ref ba := (Sm.v m_61 r_11 (by decide) rfl kn_38)
  have kn_93 : g_59.2.1 om 28 = .ref ta := (Sm.v m_61 r_10 (by decide) rfl kn_39)
  have kn_94 : g_59.2.1 om 42 = .ref wt := (Sm.v m_61 r_10 (by decide) rfl kn_40)
  have kn_95 : g_59.2.1 lg 0 = .ref y0 := (Sm.v m_61 r_14 (by decide) rfl kn_41)
  have kn_96 : g_59.2.1 lg 1 = .ref y1 := (Sm.v m_61 r_14 (by decide) rfl kn_42)
  have kn_97 : g_59.2.1 lg 2 = .ref y2 := (Sm.v m_61 r_14 (by decide) rfl kn_43)
  have kn_98 : g_59.2.1 om 25 = .ref m0 := (Sm.v m_61 r_10 (by decide) rfl kn_44)
  have kn_99 : g_59.2.1 om 26 = .ref m1 := (Sm.v m_61 r_10 (by decide) rfl kn_45)
  have kn_100 : g_59.2.1 om 27 = .ref m2 := (Sm.v m_61 r_10 (by decide) rfl kn_46)
  have kn_101 : g_59.2.1 tp 1 = .int tz := (Sm.v m_61 r_11 (by decide) rfl kn_47)
  have kn_102 : g_59.2.1 om 29 = .int tz := (Sm.v m_61 r_10 (by decide) rfl kn_48)
  have kn_103 : g_59.2.1 nw 1 = .int sv := (Sm.v m_61 r_12 (by decide) rfl kn_49)
  have kn_104 : g_59.2.1 om 0 = .int sv := (Sm.v m_61 r_10 (by decide) rfl kn_50)
  have kn_105 : g_59.2.1 rl 3 = .int rz := (Sm.v m_61 r_13 (by decide) rfl kn_51)
  have kn_106 : g_59.2.1 om 30 = .int rz := (Sm.v m_61 r_10 (by decide) rfl kn_52)
  have kn_107 : g_59.2.1 lg 3 = .int lz := (Sm.v m_61 r_14 (by decide) rfl kn_53)
  have kn_108 : g_59.2.1 om 24 = .int lz := (Sm.v m_61 r_10 (by decide) rfl kn_54)
  refine W.eq (g2 := F0 m 720 ls [.int r_60]) rfl ?_
  refine lv_pop hx hb dL_law_720 rfl ?_
  refine lv_goto (tgt := 829) hx hb dL_law_721 (by decide) ?_
  refine W.widen (k := cells + 4) (n := slots + 28) (by omega) (by omega) ?_
  exact K g_59 o1 tz sv rz lz H locs hT hI r_63 r_64 kn_87 (by have e0_ : (0 : Int32).toInt = 0 := (by decide); omega) (by have e0_ : (0 : Int32).toInt = 0 := (by decide); omega) hw hN0 kn_88 r_65 kn_89 r_66 kn_90 r_67 kn_91 r_68 kn_92 r_69 n_78 kn_93 r_70 n_79 kn_94 r_71 n_80 kn_95 r_72 n_81 kn_96 r_73 n_82 kn_97 r_74 n_83 kn_98 r_75 n_84 kn_99 r_76 n_85 kn_100 r_77 n_86 kn_101 kn_102 (by have e0_ : (0 : Int32).toInt = 0 := (by decide); omega) (by have e0_ : (0 : Int32).toInt = 0 := (by decide); omega) kn_103 kn_104 (by have e0_ : (0 : Int32).toInt = 0 := (by decide); omega) (by have e0_ : (0 : Int32).toInt = 0 := (by decide); omega) kn_105 kn_106 (by have e0_ : (0 : Int32).toInt = 0 := (by decide); omega) (by have e0_ : (0 : Int32).toInt = 0 := (by decide); omega) kn_107 kn_108 (by have e0_ : (0 : Int32).toInt = 0 := (by decide); omega) (by have e0_ : (0 : Int32).toInt = 0 := (by decide); omega) hTE hWT hL0 hL1 hL2
set_option maxHeartbeats 4000000 in
set_option maxRecDepth 100000 in
/-- cheapest -/
theorem law_18 {p : Program} {l : Launch} {e : Env} {s : State} {m : MethodId} {below : List Frame} {meth : Method} {c : Code} {D : va_G} {cI cZ cS cR : ClassId} {N0 : NT} {b L : Nat} {xs : Nat → Int32} (hB : Tz p s m meth c #[Value.ref b] code 4 RL D cI cZ cS cR N0) (hAs : N0.1 = s.heap.size) (hX : va_X b L xs s s.heap) (hbl : b < s.heap.size) (hL : L ≤ 2560) (hr : meth.sig.returnType = ret) {cells slots : Nat} (hcl : cells + 4 ≤ 600000) (hsl : slots + 28 ≤ 7302250) {H : Heap} {locs : List Loc} {ls : Array Slot} (g : GS) (ox om : Nat) (tp : Nat) (nw : Nat) (rl : Nat) (lg : Nat) (ba : Nat) (ta : Nat) (wt : Nat) (y0 : Nat) (y1 : Nat) (y2 : Nat) (m0 : Nat) (m1 : Nat) (m2 : Nat) (i o1 tz sv rz lz : Int32) (hT : Tv D cI cZ cS cR N0 s.heap H locs g) (hI : Inv g) (l_i : 0 ≤ i.toInt) (u_i : i.toInt + 5 ≤ L) : g.1 ox = 7 → g.1 om = 8 → g.2.1 om 22 = .int o1 → 0 ≤ o1.toInt → o1.toInt ≤ 12 * i.toInt → PX 48 2 3 71 72 g om → PX 8 39 40 84 85 g om → g.2.1 ox 0 = .ref tp → g.1 tp = 5 → g.2.1 ox 1 = .ref nw → g.1 nw = 19 → g.2.1 ox 2 = .ref rl → g.1 rl = 1 → g.2.1 ox 3 = .ref lg → g.1 lg = 9 → g.2.1 tp 0 = .ref ba → g.1 ba = 67 → g.2.2.1 ba = 100 → g.2.1 om 28 = .ref ta → g.1 ta = 79 → g.2.2.1 ta = 100 → g.2.1 om 42 = .ref wt → g.1 wt = 87 → g.2.2.1 wt = 24 → g.2.1 lg 0 = .ref y0 → g.1 y0 = 64 → g.2.2.1 y0 = 20 → g.2.1 lg 1 = .ref y1 → g.1 y1 = 65 → g.2.2.1 y1 = 20 → g.2.1 lg 2 = .ref y2 → g.1 y2 = 66 → g.2.2.1 y2 = 20 → g.2.1 om 25 = .ref m0 → g.1 m0 = 76 → g.2.2.1 m0 = 20 → g.2.1 om 26 = .ref m1 → g.1 m1 = 77 → g.2.2.1 m1 = 20 → g.2.1 om 27 = .ref m2 → g.1 m2 = 78 → g.2.2.1 m2 = 20 → g.2.1 tp 1 = .int tz → g.2.1 om 29 = .int tz → 0 ≤ tz.toInt → tz.toInt ≤ 100 → g.2.1 nw 1 = .int sv → g.2.1 om 0 = .int sv → 0 ≤ sv.toInt → sv.toInt ≤ 6 → g.2.1 rl 3 = .int rz → g.2.1 om 30 = .int rz → 0 ≤ rz.toInt → rz.toInt ≤ 6 → g.2.1 lg 3 = .int lz → g.2.1 om 24 = .int lz → 0 ≤ lz.toInt → lz.toInt ≤ 20 → TE g ba ta tz.toInt → WT g wt → TE g y0 m0 lz.toInt → TE g y1 m1 lz.toInt → TE g y2 m2 lz.toInt → (hl : lv_has ls 4 [(3, .int i), (2, .ref om), (1, .ref ox), (0, .ref b)]) → (K : ∀ (g1 : GS) (o1_1 tz_1 sv_1 rz_1 lz_1 : Int32) (H1 : Heap) (locs1 : List Loc), Tv D cI cZ cS cR N0 s.heap H1 locs1 g1 → Inv g1 → g1.1 ox = 7 → g1.1 om = 8 → g1.2.1 om 22 = .int o1_1 → 0 ≤ o1_1.toInt → o1_1.toInt ≤ 12 * i.toInt + 60 → PX 48 2 3 71 72 g1 om → PX 8 39 40 84 85 g1 om → g1.2.1 ox 0 = .ref tp → g1.1 tp = 5 → g1.2.1 ox 1 = .ref nw → g1.1 nw = 19 → g1.2.1 ox 2 = .ref rl → g1.1 rl = 1 → g1.2.1 ox 3 = .ref lg → g1.1 lg = 9 → g1.2.1 tp 0 = .ref ba → g1.1 ba = 67 → g1.2.2.1 ba = 100 → g1.2.1 om 28 = .ref ta → g1.1 ta = 79 → g1.2.2.1 ta = 100 → g1.2.1 om 42 = .ref wt → g1.1 wt = 87 → g1.2.2.1 wt = 24 → g1.2.1 lg 0 = .ref y0 → g1.1 y0 = 64 → g1.2.2.1 y0 = 20 → g1.2.1 lg 1 = .ref y1 → g1.1 y1 = 65 → g1.2.2.1 y1 = 20 → g1.2.1 lg 2 = .ref y2 → g1.1 y2 = 66 → g1.2.2.1 y2 = 20 → g1.2.1 om 25 = .ref m0 → g1.1 m0 = 76 → g1.2.2.1 m0 = 20 → g1.2.1 om 26 = .ref m1 → g1.1 m1 = 77 → g1.2.2.1 m1 = 20 → g1.2.1 om 27 = .ref m2 → g1.1 m2 = 78 → g1.2.2.1 m2 = 20 → g1.2.1 tp 1 = .int tz_1 → g1.2.1 om 29 = .int tz_1 → 0 ≤ tz_1.toInt → tz_1.toInt ≤ 100 → g1.2.1 nw 1 = .int sv_1 → g1.2.1 om 0 = .int sv_1 → 0 ≤ sv_1.toInt → sv_1.toInt ≤ 6 → g1.2.1 rl 3 = .int rz_1 → g1.2.1 om 30 = .int rz_1 → 0 ≤ rz_1.toInt → rz_1.toInt ≤ 6 → g1.2.1 lg 3 = .int lz_1 → g1.2.1 om 24 = .int lz_1 → 0 ≤ lz_1.toInt → lz_1.toInt ≤ 20 → TE g1 ba ta tz_1.toInt → WT g1 wt → TE g1 y0 m0 lz_1.toInt → TE g1 y1 m1 lz_1.toInt → TE g1 y2 m2 lz_1.toInt → W p l e room_1 s m #[Value.ref b] below meth c H1 locs1 (cells + 4) (slots + 28) (lw_Z below #[Value.ref b] s) (F0 m 829 ls [])) → W p l e room_1 s m #[Value.ref b] below meth c H locs cells slots (lw_Z below #[Value.ref b] s) (F0 m 724 ls []) := by
  intro r_ox r_om ko l_o u_o hw hN0 k_tp r_tp k_nw r_nw k_rl r_rl k_lg r_lg k_ba r_ba n_ba k_ta r_ta n_ta k_wt r_wt n_wt k_y0 r_y0 n_y0 k_y1 r_y1 n_y1 k_y2 r_y2 n_y2 k_m0 r_m0 n_m0 k_m1 r_m1 n_m1 k_m2 r_m2 n_m2 kc_tz km_tz l_tz u_tz kc_sv km_sv l_sv u_sv kc_rz km_rz l_rz u_rz kc_lz km_lz l_lz u_lz hTE hWT hL0 hL1 hL2 hl K
  have hx := hB.1
  have hb := hB.2.1
  have hE : Ex g g := Ex.rf
  have hM : Sm mdA g g := sm_all
  have hTE0 := hTE
  have hL00 := hL0
  have hL10 := hL1
  have hL20 := hL2
  refine lv_aload_n hx hb dL_law_724 rfl (lv_at hl 2 rfl) ?_
  refine lv_aload_n hx hb dL_law_725 rfl (lv_at hl 3 rfl) ?_
  refine lv_iload_n hx hb dL_law_726 rfl (lv_at hl 0 rfl) ?_
  refine lv_iconst (v := 1) hx hb dL_law_727 (by decide) ?_
  refine lv_iadd hx hb dL_law_728 ?_
  refine lv_topi (fun z_1 ez_1 => ?_)
  have e_z_1 : z_1.toInt = i.toInt + 1 := i_add ez_1 rfl (by decide) (by omega) (by omega)
  refine va_sld hx hb hX hbl (fun q => by have q_ : N0.1 ≤ b := q; omega) hT.2 (i_in (n := L) rfl (by omega) (by omega)) dL_law_729 ?_
  refine lv_topi (fun u_2 e_u_2 => ?_)
  refine t_callV (n := 1) (As := [.int u_2]) (rest := []) (ci := 6) hB hT hl.1 (P_cheapest l D cI cZ cS cR N0 g hI ox u_2 r_ox) (ro_ci r_ox rfl) rfl k_680 k_57 k_677 k_678 k_679 (by decide +kernel) ⟨(Nat.le_of_ble_eq_true rfl), (Nat.le_of_ble_eq_true rfl)⟩ rfl (Nat.le_of_ble_eq_true rfl) ⟨(by show _ ≤ _; first | exact Nat.le_of_ble_eq_true rfl | (simp only [room_1]; omega)), (by show _ ≤ _; first | exact Nat.le_of_ble_eq_true rfl | (simp only [room_1]; omega))⟩ dL_law_730 (fun v g_3 H locs hp hT => ?_)
  obtain ⟨r_4, rfl, hI, x_6, m_5⟩ := hp
  have hw : PX 48 2 3 71 72 g_3 om := hw.mono m_5 x_6 r_om (by decide) (by decide) rfl rfl rfl rfl
  have hN0 : PX 8 39 40 84 85 g_3 om := hN0.mono m_5 x_6 r_om (by decide) (by decide) rfl rfl rfl rfl
  have hTE : TE g_3 ba ta tz.toInt := hTE.sm m_5 r_ba (by decide) rfl r_ta (by decide) rfl
  have hWT : WT g_3 wt := hWT.sm m_5 r_wt (by decide) rfl
  have hL0 : TE g_3 y0 m0 lz.toInt := hL0.sm m_5 r_y0 (by decide) rfl r_m0 (by decide) rfl
  have hL1 : TE g_3 y1 m1 lz.toInt := hL1.sm m_5 r_y1 (by decide) rfl r_m1 (by decide) rfl
  have hL2 : TE g_3 y2 m2 lz.toInt := hL2.sm m_5 r_y2 (by decide) rfl r_m2 (by decide) rfl
  have hM : Sm mdA g g_3 := sm_all
  have hE : Ex g g_3 := hE.tr x_6
  have r_7 : g_3.1 ox = 7 := (Ex.r x_6 r_ox (by decide))
  have r_8 : g_3.1 om = 8 := (Ex.r x_6 r_om (by decide))
  have r_9 : g_3.1 tp = 5 := (Ex.r x_6 r_tp (by decide))
  have r_10 : g_3.1 nw = 19 := (Ex.r x_6 r_nw (by decide))
  have r_11 : g_3.1 rl = 1 := (Ex.r x_6 r_rl (by decide))
  have r_12 : g_3.1 lg = 9 := (Ex.r x_6 r_lg (by decide))
  have r_13 : g_3.1 ba = 67 := (Ex.r x_6 r_ba (by decide))
  have r_14 : g_3.1 ta = 79 := (Ex.r x_6 r_ta (by decide))
  have r_15 : g_3.1 wt = 87 := (Ex.r x_6 r_wt (by decide))
  have r_16 : g_3.1 y0 = 64 := (Ex.r x_6 r_y0 (by decide))
  have r_17 : g_3.1 y1 = 65 := (Ex.r x_6 r_y1 (by decide))
  have r_18 : g_3.1 y2 = 66 := (Ex.r x_6 r_y2 (by decide))
  have r_19 : g_3.1 m0 = 76 := (Ex.r x_6 r_m0 (by decide))
  have r_20 : g_3.1 m1 = 77 := (Ex.r x_6 r_m1 (by decide))
  have r_21 : g_3.1 m2 = 78 := (Ex.r x_6 r_m2 (by decide))
  have n_22 : g_3.2.2.1 ba = 100 := (Ex.n x_6 r_ba (by decide) n_ba)
  have n_23 : g_3.2.2.1 ta = 100 := (Ex.n x_6 r_ta (by decide) n_ta)
  have n_24 : g_3.2.2.1 wt = 24 := (Ex.n x_6 r_wt (by decide) n_wt)
  have n_25 : g_3.2.2.1 y0 = 20 := (Ex.n x_6 r_y0 (by decide) n_y0)
  have n_26 : g_3.2.2.1 y1 = 20 := (Ex.n x_6 r_y1 (by decide) n_y1)
  have n_27 : g_3.2.2.1 y2 = 20 := (Ex.n x_6 r_y2 (by decide) n_y2)
  have n_28 : g_3.2.2.1 m0 = 20 := (Ex.n x_6 r_m0 (by decide) n_m0)
  have n_29 : g_3.2.2.1 m1 = 20 := (Ex.n x_6 r_m1 (by decide) n_m1)
  have n_30 : g_3.2.2.1 m2 = 20 := (Ex.n x_6 r_m2 (by decide) n_m2)
  have kn_31 : g_3.2.1 om 22 = .int o1 := (Sm.v m_5 r_om (by decide) rfl ko)
  have kn_32 : g_3.2.1 ox 0 = .ref tp := (Sm.v m_5 r_ox (by decide) rfl k_tp)
  have kn_33 : g_3.2.1 ox 1 = .ref nw := (Sm.v m_5 r_ox (by decide) rfl k_nw)
  have kn_34 : g_3.2.1 ox 2 = .ref rl := (Sm.v m_5 r_ox (by decide) rfl k_rl)
  have kn_35 : g_3.2.1 ox 3 = .ref lg := (Sm.v m_5 r_ox (by decide) rfl k_lg)
  have kn_36 : g_3.2.1 tp 0 = .ref ba := (Sm.v m_5 r_tp (by decide) rfl k_ba)
  have kn_37 : g_3.2.1 om 28 = .ref ta := (Sm.v m_5 r_om (by decide) rfl k_ta)
  have kn_38 : g_3.2.1 om 42 = .ref wt := (Sm.v m_5 r_om (by decide) rfl k_wt)
  have kn_39 : g_3.2.1 lg 0 = .ref y0 := (Sm.v m_5 r_lg (by decide) rfl k_y0)
  have kn_40 : g_3.2.1 lg 1 = .ref y1 := (Sm.v m_5 r_lg (by decide) rfl k_y1)
  have kn_41 : g_3.2.1 lg 2 = .ref y2 := (Sm.v m_5 r_lg (by decide) rfl k_y2)
  have kn_42 : g_3.2.1 om 25 = .ref m0 := (Sm.v m_5 r_om (by decide) rfl k_m0)
  have kn_43 : g_3.2.1 om 26 = .ref m1 := (Sm.v m_5 r_om (by decide) rfl k_m1)
  have kn_44 : g_3.2.1 om 27 = .ref m2 := (Sm.v m_5 r_om (by decide) rfl k_m2)
  have kn_45 : g_3.2.1 tp 1 = .int tz := (Sm.v m_5 r_tp (by decide) rfl kc_tz)
  have kn_46 : g_3.2.1 om 29 = .int tz := (Sm.v m_5 r_om (by decide) rfl km_tz)
  have kn_47 : g_3.2.1 nw 1 = .int sv := (Sm.v m_5 r_nw (by decide) rfl kc_sv)
  have kn_48 : g_3.2.1 om 0 = .int sv := (Sm.v m_5 r_om (by decide) rfl km_sv)
  have kn_49 : g_3.2.1 rl 3 = .int rz := (Sm.v m_5 r_rl (by decide) rfl kc_rz)
  have kn_50 : g_3.2.1 om 30 = .int rz := (Sm.v m_5 r_om (by decide) rfl km_rz)
  have kn_51 : g_3.2.1 lg 3 = .int lz := (Sm.v m_5 r_lg (by decide) rfl kc_lz)
  have kn_52 : g_3.2.1 om 24 = .int lz := (Sm.v m_5 r_om (by decide) rfl km_lz)
  refine W.eq (g2 := F0 m 733 ls [.int r_4]) rfl ?_
  refine lv_pop hx hb dL_law_733 rfl ?_
  refine lv_aload_n hx hb dL_law_734 rfl (lv_at hl 1 rfl) ?_
  refine lv_aload_n hx hb dL_law_735 rfl (lv_at hl 3 rfl) ?_
  refine lv_iload_n hx hb dL_law_736 rfl (lv_at hl 0 rfl) ?_
  refine lv_iconst (v := 1) hx hb dL_law_737 (by decide) ?_
  refine lv_iadd hx hb dL_law_738 ?_
  refine lv_topi (fun z_53 ez_53 => ?_)
  have e_z_53 : z_53.toInt = i.toInt + 1 := i_add ez_53 rfl (by decide) (by omega) (by omega)
  refine va_sld hx hb hX hbl (fun q => by have q_ : N0.1 ≤ b := q; omega) hT.2 (i_in (n := L) rfl (by omega) (by omega)) dL_law_739 ?_
  refine lv_topi (fun u_54 e_u_54 => ?_)
  refine t_callV (n := 1) (As := [.int u_54]) (rest := []) (ci := 7) hB hT hl.1 (m_cheapest l D cI cZ cS cR N0 g_3 hI om u_54 r_8 hw) (ro_ci r_8 rfl) rfl k_1162 k_65 k_1159 k_1160 k_1161 (by decide +kernel) ⟨(Nat.le_of_ble_eq_true rfl), (Nat.le_of_ble_eq_true rfl)⟩ rfl (Nat.le_of_ble_eq_true rfl) ⟨(by show _ ≤ _; first | exact Nat.le_of_ble_eq_true rfl | (simp only [room_1]; omega)), (by show _ ≤ _; first | exact Nat.le_of_ble_eq_true rfl | (simp only [room_1]; omega))⟩ dL_law_740 (fun v g_55 H locs hp hT => ?_)
  obtain ⟨r_56, rfl, hI, x_58, m_57⟩ := hp
  have hw : PX 48 2 3 71 72 g_55 om := hw.mono m_57 x_58 r_8 (by decide) (by decide) rfl rfl rfl rfl
  have hN0 : PX 8 39 40 84 85 g_55 om := hN0.mono m_57 x_58 r_8 (by decide) (by decide) rfl rfl rfl rfl
  have hTE : TE g_55 ba ta tz.toInt := hTE.sm m_57 r_13 (by decide) rfl r_14 (by decide) rfl
  have hWT : WT g_55 wt := hWT.sm m_57 r_15 (by decide) rfl
  have hL0 : TE g_55 y0 m0 lz.toInt := hL0.sm m_57 r_16 (by decide) rfl r_19 (by decide) rfl
  have hL1 : TE g_55 y1 m1 lz.toInt := hL1.sm m_57 r_17 (by decide) rfl r_20 (by decide) rfl
  have hL2 : TE g_55 y2 m2 lz.toInt := hL2.sm m_57 r_18 (by decide) rfl r_21 (by decide) rfl
  have hM : Sm mdA g g_55 := sm_all
  have hE : Ex g g_55 := hE.tr x_58
  have r_59 : g_55.1 ox = 7 := (Ex.r x_58 r_7 (by decide))
  have r_60 : g_55.1 om = 8 := (Ex.r x_58 r_8 (by decide))
  have r_61 : g_55.1 tp = 5 := (Ex.r x_58 r_9 (by decide))
  have r_62 : g_55.1 nw = 19 := (Ex.r x_58 r_10 (by decide))
  have r_63 : g_55.1 rl = 1 := (Ex.r x_58 r_11 (by decide))
  have r_64 : g_55.1 lg = 9 := (Ex.r x_58 r_12 (by decide))
  have r_65 : g_55.1 ba = 67 := (Ex.r x_58 r_13 (by decide))
  have r_66 : g_55.1 ta = 79 := (Ex.r x_58 r_14 (by decide))
  have r_67 : g_55.1 wt = 87 := (Ex.r x_58 r_15 (by decide))
  have r_68 : g_55.1 y0 = 64 := (Ex.r x_58 r_16 (by decide))
  have r_69 : g_55.1 y1 = 65 := (Ex.r x_58 r_17 (by decide))
  have r_70 : g_55.1 y2 = 66 := (Ex.r x_58 r_18 (by decide))
  have r_71 : g_55.1 m0 = 76 := (Ex.r x_58 r_19 (by decide))
  have r_72 : g_55.1 m1 = 77 := (Ex.r x_58 r_20 (by decide))
  have r_73 : g_55.1 m2 = 78 := (Ex.r x_58 r_21 (by decide))
  have n_74 : g_55.2.2.1 ba = 100 := (Ex.n x_58 r_13 (by decide) n_22)
  have n_75 : g_55.2.2.1 ta = 100 := (Ex.n x_58 r_14 (by decide) n_23)
  have n_76 : g_55.2.2.1 wt = 24 := (Ex.n x_58 r_15 (by decide) n_24)
  have n_77 : g_55.2.2.1 y0 = 20 := (Ex.n x_58 r_16 (by decide) n_25)
  have n_78 : g_55.2.2.1 y1 = 20 := (Ex.n x_58 r_17 (by decide) n_26)
  have n_79 : g_55.2.2.1 y2 = 20 := (Ex.n x_58 r_18 (by decide) n_27)
  have n_80 : g_55.2.2.1 m0 = 20 := (Ex.n x_58 r_19 (by decide) n_28)
  have n_81 : g_55.2.2.1 m1 = 20 := (Ex.n x_58 r_20 (by decide) n_29)
  have n_82 : g_55.2.2.1 m2 = 20 := (Ex.n x_58 r_21 (by decide) n_30)
  have kn_83 : g_55.2.1 om 22 = .int o1 := (Sm.v m_57 r_8 (by decide) rfl kn_31)
  have kn_84 : g_55.2.1 ox 0 = .ref tp := (Sm.v m_57 r_7 (by decide) rfl kn_32)
  have kn_85 : g_55.2.1 ox 1 = .ref nw := (Sm.v m_57 r_7 (by decide) rfl kn_33)
  have kn_86 : g_55.2.1 ox 2 = .ref rl := (Sm.v m_57 r_7 (by decide) rfl kn_34)
  have kn_87 : g_55.2.1 ox 3 = .ref lg := (Sm.v m_57 r_7 (by decide) rfl kn_35)
  have kn_88 : g_55.2.1 tp 0 = .ref ba := (Sm.v m_57 r_9 (by decide) rfl kn_36)
  have kn_89 : g_55.2.1 om 28 = .ref ta := (Sm.v m_57 r_8 (by decide) rfl kn_37)
  have kn_90 : g_55.2.1 om 42 = .ref wt := (Sm.v m_57 r_8 (by decide) rfl kn_38)
  have kn_91 : g_55.2.1 lg 0 = .ref y0 := (Sm.v m_57 r_12 (by decide) rfl kn_39)
  have kn_92 : g_55.2.1 lg 1 = .ref y1 := (Sm.v m_57 r_12 (by decide) rfl kn_40)
  have kn_93 : g_55.2.1 lg 2 = .ref y2 := (Sm.v m_57 r_12 (by decide) rfl kn_41)
  have kn_94 : g_55.2.1 om 25 = .ref m0 := (Sm.v m_57 r_8 (by decide) rfl kn_42)
  have kn_95 : g_55.2.1 om 26 = .ref m1 := (Sm.v m_57 r_8 (by decide) rfl kn_43)
  have kn_96 : g_55.2.1 om 27 = .ref m2 := (Sm.v m_57 r_8 (by decide) rfl kn_44)
  have kn_97 : g_55.2.1 tp 1 = .int tz := (Sm.v m_57 r_9 (by decide) rfl kn_45)
  have kn_98 : g_55.2.1 om 29 = .int tz := (Sm.v m_57 r_8 (by decide) rfl kn_46)
  have kn_99 : g_55.2.1 nw 1 = .int sv := (Sm.v m_57 r_10 (by decide) rfl kn_47)
  have kn_100 : g_55.2.1 om 0 = .int sv := (Sm.v m_57 r_8 (by decide) rfl kn_48)
  have kn_101 : g_55.2.1 rl 3 = .int rz := (Sm.v m_57 r_11 (by decide) rfl kn_49)
  have kn_102 : g_55.2.1 om 30 = .int rz := (Sm.v m_57 r_8 (by decide) rfl kn_50)
  have kn_103 : g_55.2.1 lg 3 = .int lz := (Sm.v m_57 r_12 (by decide) rfl kn_51)
  have kn_104 : g_55.2.1 om 24 = .int lz := (Sm.v m_57 r_8 (by decide) rfl kn_52)
  refine W.eq (g2 := F0 m 743 ls [.int r_56]) rfl ?_
  refine lv_pop hx hb dL_law_743 rfl ?_
  refine lv_goto (tgt := 829) hx hb dL_law_744 (by decide) ?_
  refine W.widen (k := cells + 4) (n := slots + 28) (by omega) (by omega) ?_
  exact K g_55 o1 tz sv rz lz H locs hT hI r_59 r_60 kn_83 (by have e0_ : (0 : Int32).toInt = 0 := (by decide); omega) (by have e0_ : (0 : Int32).toInt = 0 := (by decide); omega) hw hN0 kn_84 r_61 kn_85 r_62 kn_86 r_63 kn_87 r_64 kn_88 r_65 n_74 kn_89 r_66 n_75 kn_90 r_67 n_76 kn_91 r_68 n_77 kn_92 r_69 n_78 kn_93 r_70 n_79 kn_94 r_71 n_80 kn_95 r_72 n_81 kn_96 r_73 n_82 kn_97 kn_98 (by have e0_ : (0 : Int32).toInt = 0 := (by decide); omega) (by have e0_ : (0 : Int32).toInt = 0 := (by decide); omega) kn_99 kn_100 (by have e0_ : (0 : Int32).toInt = 0 := (by decide); omega) (by have e0_ : (0 : Int32).toInt = 0 := (by decide); omega) kn_101 kn_102 (by have e0_ : (0 : Int32).toInt = 0 := (by decide); omega) (by have e0_ : (0 : Int32).toInt = 0 := (by decide); omega) kn_103 kn_104 (by have e0_ : (0 : Int32).toInt = 0 := (by decide); omega) (by have e0_ : (0 : Int32).toInt = 0 := (by decide); omega) hTE hWT hL0 hL1 hL2
set_option maxHeartbeats 4000000 in
set_option maxRecDepth 100000 in
/-- again -/
theorem law_19 {p : Program} {l : Launch} {e : Env} {s : State} {m : MethodId} {below : List Frame} {meth : Method} {c : Code} {D : va_G} {cI cZ cS cR : ClassId} {N0 : NT} {b L : Nat} {xs : Nat → Int32} (hB : Tz p s m meth c #[Value.ref b] code 4 RL D cI cZ cS cR N0) (hAs : N0.1 = s.heap.size) (hX : va_X b L xs s s.heap) (hbl : b < s.heap.size) (hL : L ≤ 2560) (hr : meth.sig.returnType = ret) {cells slots : Nat} (hcl : cells + 4 ≤ 600000) (hsl : slots + 28 ≤ 7302250) {H : Heap} {locs : List Loc} {ls : Array Slot} (g : GS) (ox om : Nat) (tp : Nat) (nw : Nat) (rl : Nat) (lg : Nat) (ba : Nat) (ta : Nat) (wt : Nat) (y0 : Nat) (y1 : Nat) (y2 : Nat) (m0 : Nat) (m1 : Nat) (m2 : Nat) (i o1 tz sv rz lz : Int32) (hT : Tv D cI cZ cS cR N0 s.heap H locs g) (hI : Inv g) (l_i : 0 ≤ i.toInt) (u_i : i.toInt + 5 ≤ L) : g.1 ox = 7 → g.1 om = 8 → g.2.1 om 22 = .int o1 → 0 ≤ o1.toInt → o1.toInt ≤ 12 * i.toInt → PX 48 2 3 71 72 g om → PX 8 39 40 84 85 g om → g.2.1 ox 0 = .ref tp → g.1 tp = 5 → g.2.1 ox 1 = .ref nw → g.1 nw = 19 → g.2.1 ox 2 = .ref rl → g.1 rl = 1 → g.2.1 ox 3 = .ref lg → g.1 lg = 9 → g.2.1 tp 0 = .ref ba → g.1 ba = 67 → g.2.2.1 ba = 100 → g.2.1 om 28 = .ref ta → g.1 ta = 79 → g.2.2.1 ta = 100 → g.2.1 om 42 = .ref wt → g.1 wt = 87 → g.2.2.1 wt = 24 → g.2.1 lg 0 = .ref y0 → g.1 y0 = 64 → g.2.2.1 y0 = 20 → g.2.1 lg 1 = .ref y1 → g.1 y1 = 65 → g.2.2.1 y1 = 20 → g.2.1 lg 2 = .ref y2 → g.1 y2 = 66 → g.2.2.1 y2 = 20 → g.2.1 om 25 = .ref m0 → g.1 m0 = 76 → g.2.2.1 m0 = 20 → g.2.1 om 26 = .ref m1 → g.1 m1 = 77 → g.2.2.1 m1 = 20 → g.2.1 om 27 = .ref m2 → g.1 m2 = 78 → g.2.2.1 m2 = 20 → g.2.1 tp 1 = .int tz → g.2.1 om 29 = .int tz → 0 ≤ tz.toInt → tz.toInt ≤ 100 → g.2.1 nw 1 = .int sv → g.2.1 om 0 = .int sv → 0 ≤ sv.toInt → sv.toInt ≤ 6 → g.2.1 rl 3 = .int rz → g.2.1 om 30 = .int rz → 0 ≤ rz.toInt → rz.toInt ≤ 6 → g.2.1 lg 3 = .int lz → g.2.1 om 24 = .int lz → 0 ≤ lz.toInt → lz.toInt ≤ 20 → TE g ba ta tz.toInt → WT g wt → TE g y0 m0 lz.toInt → TE g y1 m1 lz.toInt → TE g y2 m2 lz.toInt → (hl : lv_has ls 4 [(3, .int i), (2, .ref om), (1, .ref ox), (0, .ref b)]) → (K : ∀ (g1 : GS) (o1_1 tz_1 sv_1 rz_1 lz_1 : Int32) (H1 : Heap) (locs1 : List Loc), Tv D cI cZ cS cR N0 s.heap H1 locs1 g1 → Inv g1 → g1.1 ox = 7 → g1.1 om = 8 → g1.2.1 om 22 = .int o1_1 → 0 ≤ o1_1.toInt → o1_1.toInt ≤ 12 * i.toInt + 60 → PX 48 2 3 71 72 g1 om → PX 8 39 40 84 85 g1 om → g1.2.1 ox 0 = .ref tp → g1.1 tp = 5 → g1.2.1 ox 1 = .ref nw → g1.1 nw = 19 → g1.2.1 ox 2 = .ref rl → g1.1 rl = 1 → g1.2.1 ox 3 = .ref lg → g1.1 lg = 9 → g1.2.1 tp 0 = .ref ba → g1.1 ba = 67 → g1.2.2.1 ba = 100 → g1.2.1 om 28 = .ref ta → g1.1 ta = 79 → g1.2.2.1 ta = 100 → g1.2.1 om 42 = .ref wt → g1.1 wt = 87 → g1.2.2.1 wt = 24 → g1.2.1 lg 0 = .ref y0 → g1.1 y0 = 64 → g1.2.2.1 y0 = 20 → g1.2.1 lg 1 = .ref y1 → g1.1 y1 = 65 → g1.2.2.1 y1 = 20 → g1.2.1 lg 2 = .ref y2 → g1.1 y2 = 66 → g1.2.2.1 y2 = 20 → g1.2.1 om 25 = .ref m0 → g1.1 m0 = 76 → g1.2.2.1 m0 = 20 → g1.2.1 om 26 = .ref m1 → g1.1 m1 = 77 → g1.2.2.1 m1 = 20 → g1.2.1 om 27 = .ref m2 → g1.1 m2 = 78 → g1.2.2.1 m2 = 20 → g1.2.1 tp 1 = .int tz_1 → g1.2.1 om 29 = .int tz_1 → 0 ≤ tz_1.toInt → tz_1.toInt ≤ 100 → g1.2.1 nw 1 = .int sv_1 → g1.2.1 om 0 = .int sv_1 → 0 ≤ sv_1.toInt → sv_1.toInt ≤ 6 → g1.2.1 rl 3 = .int rz_1 → g1.2.1 om 30 = .int rz_1 → 0 ≤ rz_1.toInt → rz_1.toInt ≤ 6 → g1.2.1 lg 3 = .int lz_1 → g1.2.1 om 24 = .int lz_1 → 0 ≤ lz_1.toInt → lz_1.toInt ≤ 20 → TE g1 ba ta tz_1.toInt → WT g1 wt → TE g1 y0 m0 lz_1.toInt → TE g1 y1 m1 lz_1.toInt → TE g1 y2 m2 lz_1.toInt → W p l e room_1 s m #[Value.ref b] below meth c H1 locs1 (cells + 4) (slots + 28) (lw_Z below #[Value.ref b] s) (F0 m 829 ls [])) → W p l e room_1 s m #[Value.ref b] below meth c H locs cells slots (lw_Z below #[Value.ref b] s) (F0 m 747 ls []) := by
  intro r_ox r_om ko l_o u_o hw hN0 k_tp r_tp k_nw r_nw k_rl r_rl k_lg r_lg k_ba r_ba n_ba k_ta r_ta n_ta k_wt r_wt n_wt k_y0 r_y0 n_y0 k_y1 r_y1 n_y1 k_y2 r_y2 n_y2 k_m0 r_m0 n_m0 k_m1 r_m1 n_m1 k_m2 r_m2 n_m2 kc_tz km_tz l_tz u_tz kc_sv km_sv l_sv u_sv kc_rz km_rz l_rz u_rz kc_lz km_lz l_lz u_lz hTE hWT hL0 hL1 hL2 hl K
  have hx := hB.1
  have hb := hB.2.1
  have hE : Ex g g := Ex.rf
  have hM : Sm mdA g g := sm_all
  have hTE0 := hTE
  have hL00 := hL0
  have hL10 := hL1
  have hL20 := hL2
  refine lv_aload_n hx hb dL_law_747 rfl (lv_at hl 2 rfl) ?_
  refine t_callV (n := 0) (As := []) (rest := []) (ci := 6) hB hT hl.1 (P_again l D cI cZ cS cR N0 g hI ox r_ox) (ro_ci r_ox rfl) rfl k_714 k_57 k_711 k_712 k_713 (by decide +kernel) ⟨(Nat.le_of_ble_eq_true rfl), (Nat.le_of_ble_eq_true rfl)⟩ rfl (Nat.le_of_ble_eq_true rfl) ⟨(by show _ ≤ _; first | exact Nat.le_of_ble_eq_true rfl | (simp only [room_1]; omega)), (by show _ ≤ _; first | exact Nat.le_of_ble_eq_true rfl | (simp only [room_1]; omega))⟩ dL_law_748 (fun v g_1 H locs hp hT => ?_)
  obtain ⟨r_2, rfl, hI, x_4, m_3⟩ := hp
  have hw : PX 48 2 3 71 72 g_1 om := hw.mono m_3 x_4 r_om (by decide) (by decide) rfl rfl rfl rfl
  have hN0 : PX 8 39 40 84 85 g_1 om := hN0.mono m_3 x_4 r_om (by decide) (by decide) rfl rfl rfl rfl
  have hTE : TE g_1 ba ta tz.toInt := hTE.sm m_3 r_ba (by decide) rfl r_ta (by decide) rfl
  have hWT : WT g_1 wt := hWT.sm m_3 r_wt (by decide) rfl
  have hL0 : TE g_1 y0 m0 lz.toInt := hL0.sm m_3 r_y0 (by decide) rfl r_m0 (by decide) rfl
  have hL1 : TE g_1 y1 m1 lz.toInt := hL1.sm m_3 r_y1 (by decide) rfl r_m1 (by decide) rfl
  have hL2 : TE g_1 y2 m2 lz.toInt := hL2.sm m_3 r_y2 (by decide) rfl r_m2 (by decide) rfl
  have hM : Sm mdA g g_1 := sm_all
  have hE : Ex g g_1 := hE.tr x_4
  have r_5 : g_1.1 ox = 7 := (Ex.r x_4 r_ox (by decide))
  have r_6 : g_1.1 om = 8 := (Ex.r x_4 r_om (by decide))
  have r_7 : g_1.1 tp = 5 := (Ex.r x_4 r_tp (by decide))
  have r_8 : g_1.1 nw = 19 := (Ex.r x_4 r_nw (by decide))
  have r_9 : g_1.1 rl = 1 := (Ex.r x_4 r_rl (by decide))
  have r_10 : g_1.1 lg = 9 := (Ex.r x_4 r_lg (by decide))
  have r_11 : g_1.1 ba = 67 := (Ex.r x_4 r_ba (by decide))
  have r_12 : g_1.1 ta = 79 := (Ex.r x_4 r_ta (by decide))
  have r_13 : g_1.1 wt = 87 := (Ex.r x_4 r_wt (by decide))
  have r_14 : g_1.1 y0 = 64 := (Ex.r x_4 r_y0 (by decide))
  have r_15 : g_1.1 y1 = 65 := (Ex.r x_4 r_y1 (by decide))
  have r_16 : g_1.1 y2 = 66 := (Ex.r x_4 r_y2 (by decide))
  have r_17 : g_1.1 m0 = 76 := (Ex.r x_4 r_m0 (by decide))
  have r_18 : g_1.1 m1 = 77 := (Ex.r x_4 r_m1 (by decide))
  have r_19 : g_1.1 m2 = 78 := (Ex.r x_4 r_m2 (by decide))
  have n_20 : g_1.2.2.1 ba = 100 := (Ex.n x_4 r_ba (by decide) n_ba)
  have n_21 : g_1.2.2.1 ta = 100 := (Ex.n x_4 r_ta (by decide) n_ta)
  have n_22 : g_1.2.2.1 wt = 24 := (Ex.n x_4 r_wt (by decide) n_wt)
  have n_23 : g_1.2.2.1 y0 = 20 := (Ex.n x_4 r_y0 (by decide) n_y0)
  have n_24 : g_1.2.2.1 y1 = 20 := (Ex.n x_4 r_y1 (by decide) n_y1)
  have n_25 : g_1.2.2.1 y2 = 20 := (Ex.n x_4 r_y2 (by decide) n_y2)
  have n_26 : g_1.2.2.1 m0 = 20 := (Ex.n x_4 r_m0 (by decide) n_m0)
  have n_27 : g_1.2.2.1 m1 = 20 := (Ex.n x_4 r_m1 (by decide) n_m1)
  have n_28 : g_1.2.2.1 m2 = 20 := (Ex.n x_4 r_m2 (by decide) n_m2)
  have kn_29 : g_1.2.1 om 22 = .int o1 := (Sm.v m_3 r_om (by decide) rfl ko)
  have kn_30 : g_1.2.1 ox 0 = .ref tp := (Sm.v m_3 r_ox (by decide) rfl k_tp)
  have kn_31 : g_1.2.1 ox 1 = .ref nw := (Sm.v m_3 r_ox (by decide) rfl k_nw)
  have kn_32 : g_1.2.1 ox 2 = .ref rl := (Sm.v m_3 r_ox (by decide) rfl k_rl)
  have kn_33 : g_1.2.1 ox 3 = .ref lg := (Sm.v m_3 r_ox (by decide) rfl k_lg)
  have kn_34 : g_1.2.1 tp 0 = .ref ba := (Sm.v m_3 r_tp (by decide) rfl k_ba)
  have kn_35 : g_1.2.1 om 28 = .ref ta := (Sm.v m_3 r_om (by decide) rfl k_ta)
  have kn_36 : g_1.2.1 om 42 = .ref wt := (Sm.v m_3 r_om (by decide) rfl k_wt)
  have kn_37 : g_1.2.1 lg 0 = .ref y0 := (Sm.v m_3 r_lg (by decide) rfl k_y0)
  have kn_38 : g_1.2.1 lg 1 = .ref y1 := (Sm.v m_3 r_lg (by decide) rfl k_y1)
  have kn_39 : g_1.2.1 lg 2 = .ref y2 := (Sm.v m_3 r_lg (by decide) rfl k_y2)
  have kn_40 : g_1.2.1 om 25 = .ref m0 := (Sm.v m_3 r_om (by decide) rfl k_m0)
  have kn_41 : g_1.2.1 om 26 = .ref m1 := (Sm.v m_3 r_om (by decide) rfl k_m1)
  have kn_42 : g_1.2.1 om 27 = .ref m2 := (Sm.v m_3 r_om (by decide) rfl k_m2)
  have kn_43 : g_1.2.1 tp 1 = .int tz := (Sm.v m_3 r_tp (by decide) rfl kc_tz)
  have kn_44 : g_1.2.1 om 29 = .int tz := (Sm.v m_3 r_om (by decide) rfl km_tz)
  have kn_45 : g_1.2.1 nw 1 = .int sv := (Sm.v m_3 r_nw (by decide) rfl kc_sv)
  have kn_46 : g_1.2.1 om 0 = .int sv := (Sm.v m_3 r_om (by decide) rfl km_sv)
  have kn_47 : g_1.2.1 rl 3 = .int rz := (Sm.v m_3 r_rl (by decide) rfl kc_rz)
  have kn_48 : g_1.2.1 om 30 = .int rz := (Sm.v m_3 r_om (by decide) rfl km_rz)
  have kn_49 : g_1.2.1 lg 3 = .int lz := (Sm.v m_3 r_lg (by decide) rfl kc_lz)
  have kn_50 : g_1.2.1 om 24 = .int lz := (Sm.v m_3 r_om (by decide) rfl km_lz)
  refine W.eq (g2 := F0 m 751 ls [.int r_2]) rfl ?_
  refine lv_pop hx hb dL_law_751 rfl ?_
  refine lv_aload_n hx hb dL_law_752 rfl (lv_at hl 1 rfl) ?_
  refine t_callV (n := 0) (As := []) (rest := []) (ci := 7) hB hT hl.1 (m_again l D cI cZ cS cR N0 g_1 hI om r_6 hw) (ro_ci r_6 rfl) rfl k_1177 k_65 k_1174 k_1175 k_1176 (by decide +kernel) ⟨(Nat.le_of_ble_eq_true rfl), (Nat.le_of_ble_eq_true rfl)⟩ rfl (Nat.le_of_ble_eq_true rfl) ⟨(by show _ ≤ _; first | exact Nat.le_of_ble_eq_true rfl | (simp only [room_1]; omega)), (by show _ ≤ _; first | exact Nat.le_of_ble_eq_true rfl | (simp only [room_1]; omega))⟩ dL_law_753 (fun v g_51 H locs hp hT => ?_)
  obtain ⟨r_52, rfl, hI, x_54, m_53⟩ := hp
  have hw : PX 48 2 3 71 72 g_51 om := hw.mono m_53 x_54 r_6 (by decide) (by decide) rfl rfl rfl rfl
  have hN0 : PX 8 39 40 84 85 g_51 om := hN0.mono m_53 x_54 r_6 (by decide) (by decide) rfl rfl rfl rfl
  have hTE : TE g_51 ba ta tz.toInt := hTE.sm m_53 r_11 (by decide) rfl r_12 (by decide) rfl
  have hWT : WT g_51 wt := hWT.sm m_53 r_13 (by decide) rfl
  have hL0 : TE g_51 y0 m0 lz.toInt := hL0.sm m_53 r_14 (by decide) rfl r_17 (by decide) rfl
  have hL1 : TE g_51 y1 m1 lz.toInt := hL1.sm m_53 r_15 (by decide) rfl r_18 (by decide) rfl
  have hL2 : TE g_51 y2 m2 lz.toInt := hL2.sm m_53 r_16 (by decide) rfl r_19 (by decide) rfl
  have hM : Sm mdA g g_51 := sm_all
  have hE : Ex g g_51 := hE.tr x_54
  have r_55 : g_51.1 ox = 7 := (Ex.r x_54 r_5 (by decide))
  have r_56 : g_51.1 om = 8 := (Ex.r x_54 r_6 (by decide))
  have r_57 : g_51.1 tp = 5 := (Ex.r x_54 r_7 (by decide))
  have r_58 : g_51.1 nw = 19 := (Ex.r x_54 r_8 (by decide))
  have r_59 : g_51.1 rl = 1 := (Ex.r x_54 r_9 (by decide))
  have r_60 : g_51.1 lg = 9 := (Ex.r x_54 r_10 (by decide))
  have r_61 : g_51.1 ba = 67 := (Ex.r x_54 r_11 (by decide))
  have r_62 : g_51.1 ta = 79 := (Ex.r x_54 r_12 (by decide))
  have r_63 : g_51.1 wt = 87 := (Ex.r x_54 r_13 (by decide))
  have r_64 : g_51.1 y0 = 64 := (Ex.r x_54 r_14 (by decide))
  have r_65 : g_51.1 y1 = 65 := (Ex.r x_54 r_15 (by decide))
  have r_66 : g_51.1 y2 = 66 := (Ex.r x_54 r_16 (by decide))
  have r_67 : g_51.1 m0 = 76 := (Ex.r x_54 r_17 (by decide))
  have r_68 : g_51.1 m1 = 77 := (Ex.r x_54 r_18 (by decide))
  have r_69 : g_51.1 m2 = 78 := (Ex.r x_54 r_19 (by decide))
  have n_70 : g_51.2.2.1 ba = 100 := (Ex.n x_54 r_11 (by decide) n_20)
  have n_71 : g_51.2.2.1 ta = 100 := (Ex.n x_54 r_12 (by decide) n_21)
  have n_72 : g_51.2.2.1 wt = 24 := (Ex.n x_54 r_13 (by decide) n_22)
  have n_73 : g_51.2.2.1 y0 = 20 := (Ex.n x_54 r_14 (by decide) n_23)
  have n_74 : g_51.2.2.1 y1 = 20 := (Ex.n x_54 r_15 (by decide) n_24)
  have n_75 : g_51.2.2.1 y2 = 20 := (Ex.n x_54 r_16 (by decide) n_25)
  have n_76 : g_51.2.2.1 m0 = 20 := (Ex.n x_54 r_17 (by decide) n_26)
  have n_77 : g_51.2.2.1 m1 = 20 := (Ex.n x_54 r_18 (by decide) n_27)
  have n_78 : g_51.2.2.1 m2 = 20 := (Ex.n x_54 r_19 (by decide) n_28)
  have kn_79 : g_51.2.1 om 22 = .int o1 := (Sm.v m_53 r_6 (by decide) rfl kn_29)
  have kn_80 : g_51.2.1 ox 0 = .ref tp := (Sm.v m_53 r_5 (by decide) rfl kn_30)
  have kn_81 : g_51.2.1 ox 1 = .ref nw := (Sm.v m_53 r_5 (by decide) rfl kn_31)
  have kn_82 : g_51.2.1 ox 2 = .ref rl := (Sm.v m_53 r_5 (by decide) rfl kn_32)
  have kn_83 : g_51.2.1 ox 3 = .ref lg := (Sm.v m_53 r_5 (by decide) rfl kn_33)
  have kn_84 : g_51.2.1 tp 0 = .ref ba := (Sm.v m_53 r_7 (by decide) rfl kn_34)
  have kn_85 : g_51.2.1 om 28 = .ref ta := (Sm.v m_53 r_6 (by decide) rfl kn_35)
  have kn_86 : g_51.2.1 om 42 = .ref wt := (Sm.v m_53 r_6 (by decide) rfl kn_36)
  have kn_87 : g_51.2.1 lg 0 = .ref y0 := (Sm.v m_53 r_10 (by decide) rfl kn_37)
  have kn_88 : g_51.2.1 lg 1 = .ref y1 := (Sm.v m_53 r_10 (by decide) rfl kn_38)
  have kn_89 : g_51.2.1 lg 2 = .ref y2 := (Sm.v m_53 r_10 (by decide) rfl kn_39)
  have kn_90 : g_51.2.1 om 25 = .ref m0 := (Sm.v m_53 r_6 (by decide) rfl kn_40)
  have kn_91 : g_51.2.1 om 26 = .ref m1 := (Sm.v m_53 r_6 (by decide) rfl kn_41)
  have kn_92 : g_51.2.1 om 27 = .ref m2 := (Sm.v m_53 r_6 (by decide) rfl kn_42)
  have kn_93 : g_51.2.1 tp 1 = .int tz := (Sm.v m_53 r_7 (by decide) rfl kn_43)
  have kn_94 : g_51.2.1 om 29 = .int tz := (Sm.v m_53 r_6 (by decide) rfl kn_44)
  have kn_95 : g_51.2.1 nw 1 = .int sv := (Sm.v m_53 r_8 (by decide) rfl kn_45)
  have kn_96 : g_51.2.1 om 0 = .int sv := (Sm.v m_53 r_6 (by decide) rfl kn_46)
  have kn_97 : g_51.2.1 rl 3 = .int rz := (Sm.v m_53 r_9 (by decide) rfl kn_47)
  have kn_98 : g_51.2.1 om 30 = .int rz := (Sm.v m_53 r_6 (by decide) rfl kn_48)
  have kn_99 : g_51.2.1 lg 3 = .int lz := (Sm.v m_53 r_10 (by decide) rfl kn_49)
  have kn_100 : g_51.2.1 om 24 = .int lz := (Sm.v m_53 r_6 (by decide) rfl kn_50)
  refine W.eq (g2 := F0 m 756 ls [.int r_52]) rfl ?_
  refine lv_pop hx hb dL_law_756 rfl ?_
  refine lv_goto (tgt := 829) hx hb dL_law_757 (by decide) ?_
  refine W.widen (k := cells + 4) (n := slots + 28) (by omega) (by omega) ?_
  exact K g_51 o1 tz sv rz lz H locs hT hI r_55 r_56 kn_79 (by have e0_ : (0 : Int32).toInt = 0 := (by decide); omega) (by have e0_ : (0 : Int32).toInt = 0 := (by decide); omega) hw hN0 kn_80 r_57 kn_81 r_58 kn_82 r_59 kn_83 r_60 kn_84 r_61 n_70 kn_85 r_62 n_71 kn_86 r_63 n_72 kn_87 r_64 n_73 kn_88 r_65 n_74 kn_89 r_66 n_75 kn_90 r_67 n_76 kn_91 r_68 n_77 kn_92 r_69 n_78 kn_93 kn_94 (by have e0_ : (0 : Int32).toInt = 0 := (by decide); omega) (by have e0_ : (0 : Int32).toInt = 0 := (by decide); omega) kn_95 kn_96 (by have e0_ : (0 : Int32).toInt = 0 := (by decide); omega) (by have e0_ : (0 : Int32).toInt = 0 := (by decide); omega) kn_97 kn_98 (by have e0_ : (0 : Int32).toInt = 0 := (by decide); omega) (by have e0_ : (0 : Int32).toInt = 0 := (by decide); omega) kn_99 kn_100 (by have e0_ : (0 : Int32).toInt = 0 := (by decide); omega) (by have e0_ : (0 : Int32).toInt = 0 := (by decide); omega) hTE hWT hL0 hL1 hL2
