theorem k_665 : Cond.methodLink RL 85 yX6_enough ∈ tb := mt 665 (by decide +kernel) rfl
theorem k_666 : Cond.instanceMethod yX6_enough ∈ tb := mt 666 (by decide +kernel) rfl
theorem k_667 : Cond.selects RX6 yX6_enough yX6_enough ∈ tb := mt 667 (by decide +kernel) rfl
set_option maxRecDepth 20000 in
theorem k_668 : Cond.code yX6_enough cX6_enough 2 (some .int) ∈ tb := mt 668 rfl rfl
theorem k_673 : Cond.methodLink RL 89 yX6_price ∈ tb := mt 673 (by decide +kernel) rfl
theorem k_674 : Cond.instanceMethod yX6_price ∈ tb := mt 674 (by decide +kernel) rfl
theorem k_675 : Cond.selects RX6 yX6_price yX6_price ∈ tb := mt 675 (by decide +kernel) rfl
set_option maxRecDepth 20000 in
theorem k_676 : Cond.code yX6_price cX6_price 4 (some .int) ∈ tb := mt 676 rfl rfl
theorem k_677 : Cond.methodLink RL 93 yX6_cheapest ∈ tb := mt 677 (by decide +kernel) rfl
theorem k_678 : Cond.instanceMethod yX6_cheapest ∈ tb := mt 678 (by decide +kernel) rfl
theorem k_679 : Cond.selects RX6 yX6_cheapest yX6_cheapest ∈ tb := mt 679 (by decide +kernel) rfl
set_option maxRecDepth 20000 in
theorem k_680 : Cond.code yX6_cheapest cX6_cheapest 4 (some .int) ∈ tb := mt 680 rfl rfl
theorem k_711 : Cond.methodLink RL 97 yX6_again ∈ tb := mt 711 (by decide +kernel) rfl
theorem k_712 : Cond.instanceMethod yX6_again ∈ tb := mt 712 (by decide +kernel) rfl
theorem k_713 : Cond.selects RX6 yX6_again yX6_again ∈ tb := mt 713 (by decide +kernel) rfl
set_option maxRecDepth 20000 in
theorem k_714 : Cond.code yX6_again cX6_again 1 (some .int) ∈ tb := mt 714 rfl rfl
theorem k_719 : Cond.methodLink RL 101 yX6_log ∈ tb := mt 719 (by decide +kernel) rfl
theorem k_720 : Cond.instanceMethod yX6_log ∈ tb := mt 720 (by decide +kernel) rfl
theorem k_721 : Cond.selects RX6 yX6_log yX6_log ∈ tb := mt 721 (by decide +kernel) rfl
set_option maxRecDepth 20000 in
theorem k_722 : Cond.code yX6_log cX6_log 3 (some .int) ∈ tb := mt 722 rfl rfl
theorem k_723 : Cond.methodLink RL 105 yX6_reset ∈ tb := mt 723 (by decide +kernel) rfl
theorem k_724 : Cond.instanceMethod yX6_reset ∈ tb := mt 724 (by decide +kernel) rfl
theorem k_725 : Cond.selects RX6 yX6_reset yX6_reset ∈ tb := mt 725 (by decide +kernel) rfl
set_option maxRecDepth 20000 in
theorem k_726 : Cond.code yX6_reset cX6_reset 2 (some .int) ∈ tb := mt 726 rfl rfl
theorem k_735 : Cond.methodLink RL 109 yX6_count ∈ tb := mt 735 (by decide +kernel) rfl
theorem k_736 : Cond.instanceMethod yX6_count ∈ tb := mt 736 (by decide +kernel) rfl
theorem k_737 : Cond.selects RX6 yX6_count yX6_count ∈ tb := mt 737 (by decide +kernel) rfl
set_option maxRecDepth 20000 in
theorem k_738 : Cond.code yX6_count cX6_count 2 (some .int) ∈ tb := mt 738 rfl rfl
theorem k_1151 : Cond.methodLink RL 88 yX7_enough ∈ tb := mt 1151 (by decide +kernel) rfl
theorem k_1152 : Cond.instanceMethod yX7_enough ∈ tb := mt 1152 (by decide +kernel) rfl
theorem k_1153 : Cond.selects RX7 yX7_enough yX7_enough ∈ tb := mt 1153 (by decide +kernel) rfl
set_option maxRecDepth 20000 in
theorem k_1154 : Cond.code yX7_enough cX7_enough 4 (some .int) ∈ tb := mt 1154 rfl rfl
theorem k_1155 : Cond.methodLink RL 92 yX7_price ∈ tb := mt 1155 (by decide +kernel) rfl
theorem k_1156 : Cond.instanceMethod yX7_price ∈ tb := mt 1156 (by decide +kernel) rfl
theorem k_1157 : Cond.selects RX7 yX7_price yX7_price ∈ tb := mt 1157 (by decide +kernel) rfl
set_option maxRecDepth 20000 in
theorem k_1158 : Cond.code yX7_price cX7_price 4 (some .int) ∈ tb := mt 1158 rfl rfl
theorem k_1159 : Cond.methodLink RL 96 yX7_cheapest ∈ tb := mt 1159 (by decide +kernel) rfl
theorem k_1160 : Cond.instanceMethod yX7_cheapest ∈ tb := mt 1160 (by decide +kernel) rfl
theorem k_1161 : Cond.selects RX7 yX7_cheapest yX7_cheapest ∈ tb := mt 1161 (by decide +kernel) rfl
set_option maxRecDepth 20000 in
theorem k_1162 : Cond.code yX7_cheapest cX7_cheapest 10 (some .int) ∈ tb := mt 1162 rfl rfl
theorem k_1174 : Cond.methodLink RL 100 yX7_again ∈ tb := mt 1174 (by decide +kernel) rfl
theorem k_1175 : Cond.instanceMethod yX7_again ∈ tb := mt 1175 (by decide +kernel) rfl
theorem k_1176 : Cond.selects RX7 yX7_again yX7_again ∈ tb := mt 1176 (by decide +kernel) rfl
set_option maxRecDepth 20000 in
theorem k_1177 : Cond.code yX7_again cX7_again 3 (some .int) ∈ tb := mt 1177 rfl rfl
theorem k_1178 : Cond.methodLink RL 104 yX7_log ∈ tb := mt 1178 (by decide +kernel) rfl
theorem k_1179 : Cond.instanceMethod yX7_log ∈ tb := mt 1179 (by decide +kernel) rfl
theorem k_1180 : Cond.selects RX7 yX7_log yX7_log ∈ tb := mt 1180 (by decide +kernel) rfl
set_option maxRecDepth 20000 in
theorem k_1181 : Cond.code yX7_log cX7_log 3 (some .int) ∈ tb := mt 1181 rfl rfl
theorem k_1182 : Cond.methodLink RL 108 yX7_reset ∈ tb := mt 1182 (by decide +kernel) rfl
theorem k_1183 : Cond.instanceMethod yX7_reset ∈ tb := mt 1183 (by decide +kernel) rfl
theorem k_1184 : Cond.selects RX7 yX7_reset yX7_reset ∈ tb := mt 1184 (by decide +kernel) rfl
set_option maxRecDepth 20000 in
theorem k_1185 : Cond.code yX7_reset cX7_reset 3 (some .int) ∈ tb := mt 1185 rfl rfl
theorem k_1186 : Cond.methodLink RL 112 yX7_count ∈ tb := mt 1186 (by decide +kernel) rfl
theorem k_1187 : Cond.instanceMethod yX7_count ∈ tb := mt 1187 (by decide +kernel) rfl
theorem k_1188 : Cond.selects RX7 yX7_count yX7_count ∈ tb := mt 1188 (by decide +kernel) rfl
set_option maxRecDepth 20000 in
theorem k_1189 : Cond.code yX7_count cX7_count 2 (some .int) ∈ tb := mt 1189 rfl rfl
theorem dL_law_678 : decode cL_law 678 = .ok (.aload_n 1, 1) := by decide +kernel
theorem dL_law_679 : decode cL_law 679 = .ok (.invokevirtual 85, 3) := by decide +kernel
theorem dL_law_682 : decode cL_law 682 = .ok (.pop, 1) := by decide +kernel
theorem dL_law_683 : decode cL_law 683 = .ok (.aload_n 2, 1) := by decide +kernel
theorem dL_law_684 : decode cL_law 684 = .ok (.invokevirtual 88, 3) := by decide +kernel
theorem dL_law_687 : decode cL_law 687 = .ok (.pop, 1) := by decide +kernel
theorem dL_law_688 : decode cL_law 688 = .ok (.goto 141, 3) := by decide +kernel
theorem dL_law_691 : decode cL_law 691 = .ok (.aload_n 1, 1) := by decide +kernel
theorem dL_law_692 : decode cL_law 692 = .ok (.aload_n 0, 1) := by decide +kernel
theorem dL_law_693 : decode cL_law 693 = .ok (.iload_n 3, 1) := by decide +kernel
theorem dL_law_694 : decode cL_law 694 = .ok (.iconst 1, 1) := by decide +kernel
theorem dL_law_695 : decode cL_law 695 = .ok (.iadd, 1) := by decide +kernel
theorem dL_law_696 : decode cL_law 696 = .ok (.iaload, 1) := by decide +kernel
theorem dL_law_697 : decode cL_law 697 = .ok (.aload_n 0, 1) := by decide +kernel
theorem dL_law_698 : decode cL_law 698 = .ok (.iload_n 3, 1) := by decide +kernel
theorem dL_law_699 : decode cL_law 699 = .ok (.iconst 2, 1) := by decide +kernel
theorem dL_law_700 : decode cL_law 700 = .ok (.iadd, 1) := by decide +kernel
theorem dL_law_701 : decode cL_law 701 = .ok (.iaload, 1) := by decide +kernel
theorem dL_law_702 : decode cL_law 702 = .ok (.invokevirtual 89, 3) := by decide +kernel
theorem dL_law_705 : decode cL_law 705 = .ok (.pop, 1) := by decide +kernel
theorem dL_law_706 : decode cL_law 706 = .ok (.aload_n 2, 1) := by decide +kernel
theorem dL_law_707 : decode cL_law 707 = .ok (.aload_n 0, 1) := by decide +kernel
theorem dL_law_708 : decode cL_law 708 = .ok (.iload_n 3, 1) := by decide +kernel
theorem dL_law_709 : decode cL_law 709 = .ok (.iconst 1, 1) := by decide +kernel
theorem dL_law_710 : decode cL_law 710 = .ok (.iadd, 1) := by decide +kernel
theorem dL_law_711 : decode cL_law 711 = .ok (.iaload, 1) := by decide +kernel
theorem dL_law_712 : decode cL_law 712 = .ok (.aload_n 0, 1) := by decide +kernel
theorem dL_law_713 : decode cL_law 713 = .ok (.iload_n 3, 1) := by decide +kernel
theorem dL_law_714 : decode cL_law 714 = .ok (.iconst 2, 1) := by decide +kernel
theorem dL_law_715 : decode cL_law 715 = .ok (.iadd, 1) := by decide +kernel
theorem dL_law_716 : decode cL_law 716 = .ok (.iaload, 1) := by decide +kernel
theorem dL_law_717 : decode cL_law 717 = .ok (.invokevirtual 92, 3) := by decide +kernel
theorem dL_law_720 : decode cL_law 720 = .ok (.pop, 1) := by decide +kernel
theorem dL_law_721 : decode cL_law 721 = .ok (.goto 108, 3) := by decide +kernel
theorem dL_law_724 : decode cL_law 724 = .ok (.aload_n 1, 1) := by decide +kernel
theorem dL_law_725 : decode cL_law 725 = .ok (.aload_n 0, 1) := by decide +kernel
theorem dL_law_726 : decode cL_law 726 = .ok (.iload_n 3, 1) := by decide +kernel
theorem dL_law_727 : decode cL_law 727 = .ok (.iconst 1, 1) := by decide +kernel
theorem dL_law_728 : decode cL_law 728 = .ok (.iadd, 1) := by decide +kernel
theorem dL_law_729 : decode cL_law 729 = .ok (.iaload, 1) := by decide +kernel
theorem dL_law_730 : decode cL_law 730 = .ok (.invokevirtual 93, 3) := by decide +kernel
theorem dL_law_733 : decode cL_law 733 = .ok (.pop, 1) := by decide +kernel
theorem dL_law_734 : decode cL_law 734 = .ok (.aload_n 2, 1) := by decide +kernel
theorem dL_law_735 : decode cL_law 735 = .ok (.aload_n 0, 1) := by decide +kernel
theorem dL_law_736 : decode cL_law 736 = .ok (.iload_n 3, 1) := by decide +kernel
theorem dL_law_737 : decode cL_law 737 = .ok (.iconst 1, 1) := by decide +kernel
theorem dL_law_738 : decode cL_law 738 = .ok (.iadd, 1) := by decide +kernel
theorem dL_law_739 : decode cL_law 739 = .ok (.iaload, 1) := by decide +kernel
theorem dL_law_740 : decode cL_law 740 = .ok (.invokevirtual 96, 3) := by decide +kernel
theorem dL_law_743 : decode cL_law 743 = .ok (.pop, 1) := by decide +kernel
theorem dL_law_744 : decode cL_law 744 = .ok (.goto 85, 3) := by decide +kernel
theorem dL_law_747 : decode cL_law 747 = .ok (.aload_n 1, 1) := by decide +kernel
theorem dL_law_748 : decode cL_law 748 = .ok (.invokevirtual 97, 3) := by decide +kernel
theorem dL_law_751 : decode cL_law 751 = .ok (.pop, 1) := by decide +kernel
theorem dL_law_752 : decode cL_law 752 = .ok (.aload_n 2, 1) := by decide +kernel
theorem dL_law_753 : decode cL_law 753 = .ok (.invokevirtual 100, 3) := by decide +kernel
theorem dL_law_756 : decode cL_law 756 = .ok (.pop, 1) := by decide +kernel
theorem dL_law_757 : decode cL_law 757 = .ok (.goto 72, 3) := by decide +kernel
theorem dL_law_760 : decode cL_law 760 = .ok (.aload_n 1, 1) := by decide +kernel
theorem dL_law_761 : decode cL_law 761 = .ok (.aload_n 0, 1) := by decide +kernel
theorem dL_law_762 : decode cL_law 762 = .ok (.iload_n 3, 1) := by decide +kernel
theorem dL_law_763 : decode cL_law 763 = .ok (.iconst 1, 1) := by decide +kernel
theorem dL_law_764 : decode cL_law 764 = .ok (.iadd, 1) := by decide +kernel
theorem dL_law_765 : decode cL_law 765 = .ok (.iaload, 1) := by decide +kernel
theorem dL_law_766 : decode cL_law 766 = .ok (.aload_n 0, 1) := by decide +kernel
theorem dL_law_767 : decode cL_law 767 = .ok (.iload_n 3, 1) := by decide +kernel
theorem dL_law_768 : decode cL_law 768 = .ok (.iconst 2, 1) := by decide +kernel
theorem dL_law_769 : decode cL_law 769 = .ok (.iadd, 1) := by decide +kernel
theorem dL_law_770 : decode cL_law 770 = .ok (.iaload, 1) := by decide +kernel
theorem dL_law_771 : decode cL_law 771 = .ok (.invokevirtual 101, 3) := by decide +kernel
theorem dL_law_774 : decode cL_law 774 = .ok (.pop, 1) := by decide +kernel
theorem dL_law_775 : decode cL_law 775 = .ok (.aload_n 2, 1) := by decide +kernel
theorem dL_law_776 : decode cL_law 776 = .ok (.aload_n 0, 1) := by decide +kernel
theorem dL_law_777 : decode cL_law 777 = .ok (.iload_n 3, 1) := by decide +kernel
theorem dL_law_778 : decode cL_law 778 = .ok (.iconst 1, 1) := by decide +kernel
theorem dL_law_779 : decode cL_law 779 = .ok (.iadd, 1) := by decide +kernel
theorem dL_law_780 : decode cL_law 780 = .ok (.iaload, 1) := by decide +kernel
theorem dL_law_781 : decode cL_law 781 = .ok (.aload_n 0, 1) := by decide +kernel
theorem dL_law_782 : decode cL_law 782 = .ok (.iload_n 3, 1) := by decide +kernel
theorem dL_law_783 : decode cL_law 783 = .ok (.iconst 2, 1) := by decide +kernel
theorem dL_law_784 : decode cL_law 784 = .ok (.iadd, 1) := by decide +kernel
theorem dL_law_785 : decode cL_law 785 = .ok (.iaload, 1) := by decide +kernel
theorem dL_law_786 : decode cL_law 786 = .ok (.invokevirtual 104, 3) := by decide +kernel
theorem dL_law_789 : decode cL_law 789 = .ok (.pop, 1) := by decide +kernel
theorem dL_law_790 : decode cL_law 790 = .ok (.goto 39, 3) := by decide +kernel
theorem dL_law_793 : decode cL_law 793 = .ok (.aload_n 1, 1) := by decide +kernel
theorem dL_law_794 : decode cL_law 794 = .ok (.invokevirtual 105, 3) := by decide +kernel
theorem dL_law_797 : decode cL_law 797 = .ok (.pop, 1) := by decide +kernel
theorem dL_law_798 : decode cL_law 798 = .ok (.aload_n 2, 1) := by decide +kernel
theorem dL_law_799 : decode cL_law 799 = .ok (.invokevirtual 108, 3) := by decide +kernel
theorem dL_law_802 : decode cL_law 802 = .ok (.pop, 1) := by decide +kernel
theorem dL_law_803 : decode cL_law 803 = .ok (.goto 26, 3) := by decide +kernel
theorem dL_law_806 : decode cL_law 806 = .ok (.aload_n 1, 1) := by decide +kernel
theorem dL_law_807 : decode cL_law 807 = .ok (.aload_n 0, 1) := by decide +kernel
theorem dL_law_808 : decode cL_law 808 = .ok (.iload_n 3, 1) := by decide +kernel
theorem dL_law_809 : decode cL_law 809 = .ok (.iconst 1, 1) := by decide +kernel
theorem dL_law_810 : decode cL_law 810 = .ok (.iadd, 1) := by decide +kernel
theorem dL_law_811 : decode cL_law 811 = .ok (.iaload, 1) := by decide +kernel
theorem dL_law_812 : decode cL_law 812 = .ok (.invokevirtual 109, 3) := by decide +kernel
theorem dL_law_815 : decode cL_law 815 = .ok (.pop, 1) := by decide +kernel
theorem dL_law_816 : decode cL_law 816 = .ok (.aload_n 2, 1) := by decide +kernel
theorem dL_law_817 : decode cL_law 817 = .ok (.aload_n 0, 1) := by decide +kernel
theorem dL_law_818 : decode cL_law 818 = .ok (.iload_n 3, 1) := by decide +kernel
theorem dL_law_819 : decode cL_law 819 = .ok (.iconst 1, 1) := by decide +kernel
theorem dL_law_820 : decode cL_law 820 = .ok (.iadd, 1) := by decide +kernel
theorem dL_law_821 : decode cL_law 821 = .ok (.iaload, 1) := by decide +kernel
theorem dL_law_822 : decode cL_law 822 = .ok (.invokevirtual 112, 3) := by decide +kernel
theorem dL_law_825 : decode cL_law 825 = .ok (.pop, 1) := by decide +kernel
theorem dL_law_826 : decode cL_law 826 = .ok (.goto 3, 3) := by decide +kernel
set_option maxHeartbeats 4000000 in
set_option maxRecDepth 100000 in
/-- enough -/
theorem law_16 {p : Program} {l : Launch} {e : Env} {s : State} {m : MethodId} {below : List Frame} {meth : Method} {c : Code} {D : va_G} {cI cZ cS cR : ClassId} {N0 : NT} {b L : Nat} {xs : Nat → Int32} (hB : Tz p s m meth c #[Value.ref b] code 4 RL D cI cZ cS cR N0) (hAs : N0.1 = s.heap.size) (hX : va_X b L xs s s.heap) (hbl : b < s.heap.size) (hL : L ≤ 2560) (hr : meth.sig.returnType = ret) {cells slots : Nat} (hcl : cells + 4 ≤ 600000) (hsl : slots + 28 ≤ 7302250) {H : Heap} {locs : List Loc} {ls : Array Slot} (g : GS) (ox om : Nat) (i z o1 : Int32) (hT : Tv D cI cZ cS cR N0 s.heap H locs g) (hI : Inv g) (l_i : 0 ≤ i.toInt) (u_i : i.toInt + 5 ≤ L) : g.1 ox = 7 → g.1 om = 8 → g.2.1 ox 6 = .int z → g.2.1 om 34 = .int z → 0 ≤ z.toInt → z.toInt ≤ 1 → g.2.1 om 22 = .int o1 → 0 ≤ o1.toInt → o1.toInt ≤ 12 * i.toInt → PX 48 2 3 71 72 g om → PX 8 39 40 84 85 g om → (hl : lv_has ls 4 [(3, .int i), (2, .ref om), (1, .ref ox), (0, .ref b)]) → (K : ∀ (g1 : GS) (z1 o2 : Int32) (H1 : Heap) (locs1 : List Loc), Tv D cI cZ cS cR N0 s.heap H1 locs1 g1 → Inv g1 → g1.1 ox = 7 → g1.1 om = 8 → g1.2.1 ox 6 = .int z1 → g1.2.1 om 34 = .int z1 → 0 ≤ z1.toInt → z1.toInt ≤ 1 → g1.2.1 om 22 = .int o2 → 0 ≤ o2.toInt → o2.toInt ≤ 12 * i.toInt + 60 → PX 48 2 3 71 72 g1 om → PX 8 39 40 84 85 g1 om → W p l e room_1 s m #[Value.ref b] below meth c H1 locs1 (cells + 4) (slots + 28) (lw_Z below #[Value.ref b] s) (F0 m 829 ls [])) → W p l e room_1 s m #[Value.ref b] below meth c H locs cells slots (lw_Z below #[Value.ref b] s) (F0 m 678 ls []) := by
  intro r_ox r_om kz kz2 l_z u_z ko l_o u_o hw hN0 hl K
  have hx := hB.1
  have hb := hB.2.1
  have hE : Ex g g := Ex.rf
  have hM : Sm mdA g g := sm_all
  refine lv_aload_n hx hb dL_law_678 rfl (lv_at hl 2 rfl) ?_
  refine t_callV (n := 0) (As := []) (rest := []) (ci := 6) hB hT hl.1 (P_enough l D cI cZ cS cR N0 g hI ox r_ox) (ro_ci r_ox rfl) rfl k_668 k_57 k_665 k_666 k_667 (by decide +kernel) ⟨(Nat.le_of_ble_eq_true rfl), (Nat.le_of_ble_eq_true rfl)⟩ rfl (Nat.le_of_ble_eq_true rfl) ⟨(by show _ ≤ _; first | exact Nat.le_of_ble_eq_true rfl | (simp only [room_1]; omega)), (by show _ ≤ _; first | exact Nat.le_of_ble_eq_true rfl | (simp only [room_1]; omega))⟩ dL_law_679 (fun v g_1 H locs hp hT => ?_)
  obtain ⟨r_2, rfl, hI, x_4, m_3⟩ := hp
  have hw : PX 48 2 3 71 72 g_1 om := hw.mono m_3 x_4 r_om (by decide) (by decide) rfl rfl rfl rfl
  have hN0 : PX 8 39 40 84 85 g_1 om := hN0.mono m_3 x_4 r_om (by decide) (by decide) rfl rfl rfl rfl
  have hM : Sm mdA g g_1 := sm_all
  have hE : Ex g g_1 := hE.tr x_4
  have r_5 : g_1.1 ox = 7 := (Ex.r x_4 r_ox (by decide))
  have r_6 : g_1.1 om = 8 := (Ex.r x_4 r_om (by decide))
  have kn_7 : g_1.2.1 ox 6 = .int z := (Sm.v m_3 r_ox (by decide) rfl kz)
  have kn_8 : g_1.2.1 om 34 = .int z := (Sm.v m_3 r_om (by decide) rfl kz2)
  have kn_9 : g_1.2.1 om 22 = .int o1 := (Sm.v m_3 r_om (by decide) rfl ko)
  refine W.eq (g2 := F0 m 682 ls [.int r_2]) rfl ?_
  refine lv_pop hx hb dL_law_682 rfl ?_
  refine lv_aload_n hx hb dL_law_683 rfl (lv_at hl 1 rfl) ?_
  refine t_callV (n := 0) (As := []) (rest := []) (ci := 7) hB hT hl.1 (m_enough l D cI cZ cS cR N0 g_1 hI om r_6 hw) (ro_ci r_6 rfl) rfl k_1154 k_65 k_1151 k_1152 k_1153 (by decide +kernel) ⟨(Nat.le_of_ble_eq_true rfl), (Nat.le_of_ble_eq_true rfl)⟩ rfl (Nat.le_of_ble_eq_true rfl) ⟨(by show _ ≤ _; first | exact Nat.le_of_ble_eq_true rfl | (simp only [room_1]; omega)), (by show _ ≤ _; first | exact Nat.le_of_ble_eq_true rfl | (simp only [room_1]; omega))⟩ dL_law_684 (fun v g_10 H locs hp hT => ?_)
  obtain ⟨r_11, rfl, hI, x_13, m_12⟩ := hp
  have hw : PX 48 2 3 71 72 g_10 om := hw.mono m_12 x_13 r_6 (by decide) (by decide) rfl rfl rfl rfl
  have hN0 : PX 8 39 40 84 85 g_10 om := hN0.mono m_12 x_13 r_6 (by decide) (by decide) rfl rfl rfl rfl
  have hM : Sm mdA g g_10 := sm_all
  have hE : Ex g g_10 := hE.tr x_13
  have r_14 : g_10.1 ox = 7 := (Ex.r x_13 r_5 (by decide))
  have r_15 : g_10.1 om = 8 := (Ex.r x_13 r_6 (by decide))
  have kn_16 : g_10.2.1 ox 6 = .int z := (Sm.v m_12 r_5 (by decide) rfl kn_7)
  have kn_17 : g_10.2.1 om 34 = .int z := (Sm.v m_12 r_6 (by decide) rfl kn_8)
  have kn_18 : g_10.2.1 om 22 = .int o1 := (Sm.v m_12 r_6 (by decide) rfl kn_9)
  refine W.eq (g2 := F0 m 687 ls [.int r_11]) rfl ?_
  refine lv_pop hx hb dL_law_687 rfl ?_
  refine lv_goto (tgt := 829) hx hb dL_law_688 (by decide) ?_
  refine W.widen (k := cells + 4) (n := slots + 28) (by omega) (by omega) ?_
  exact K g_10 z o1 H locs hT hI r_14 r_15 kn_16 kn_17 (by omega) (by omega) kn_18 (by have e0_ : (0 : Int32).toInt = 0 := (by decide); omega) (by have e0_ : (0 : Int32).toInt = 0 := (by decide); omega) hw hN0
set_option maxHeartbeats 4000000 in
set_option maxRecDepth 100000 in
/-- price -/
theorem law_17 {p : Program} {l : Launch} {e : Env} {s : State} {m : MethodId} {below : List Frame} {meth : Method} {c : Code} {D : va_G} {cI cZ cS cR : ClassId} {N0 : NT} {b L : Nat} {xs : Nat → Int32} (hB : Tz p s m meth c #[Value.ref b] code 4 RL D cI cZ cS cR N0) (hAs : N0.1 = s.heap.size) (hX : va_X b L xs s s.heap) (hbl : b < s.heap.size) (hL : L ≤ 2560) (hr : meth.sig.returnType = ret) {cells slots : Nat} (hcl : cells + 4 ≤ 600000) (hsl : slots + 28 ≤ 7302250) {H : Heap} {locs : List Loc} {ls : Array Slot} (g : GS) (ox om : Nat) (i z o1 : Int32) (hT : Tv D cI cZ cS cR N0 s.heap H locs g) (hI : Inv g) (l_i : 0 ≤ i.toInt) (u_i : i.toInt + 5 ≤ L) : g.1 ox = 7 → g.1 om = 8 → g.2.1 ox 6 = .int z → g.2.1 om 34 = .int z → 0 ≤ z.toInt → z.toInt ≤ 1 → g.2.1 om 22 = .int o1 → 0 ≤ o1.toInt → o1.toInt ≤ 12 * i.toInt → PX 48 2 3 71 72 g om → PX 8 39 40 84 85 g om → (hl : lv_has ls 4 [(3, .int i), (2, .ref om), (1, .ref ox), (0, .ref b)]) → (K : ∀ (g1 : GS) (z1 o2 : Int32) (H1 : Heap) (locs1 : List Loc), Tv D cI cZ cS cR N0 s.heap H1 locs1 g1 → Inv g1 → g1.1 ox = 7 → g1.1 om = 8 → g1.2.1 ox 6 = .int z1 → g1.2.1 om 34 = .int z1 → 0 ≤ z1.toInt → z1.toInt ≤ 1 → g1.2.1 om 22 = .int o2 → 0 ≤ o2.toInt → o2.toInt ≤ 12 * i.toInt + 60 → PX 48 2 3 71 72 g1 om → PX 8 39 40 84 85 g1 om → W p l e room_1 s m #[Value.ref b] below meth c H1 locs1 (cells + 4) (slots + 28) (lw_Z below #[Value.ref b] s) (F0 m 829 ls [])) → W p l e room_1 s m #[Value.ref b] below meth c H locs cells slots (lw_Z below #[Value.ref b] s) (F0 m 691 ls []) := by
  intro r_ox r_om kz kz2 l_z u_z ko l_o u_o hw hN0 hl K
  have hx := hB.1
  have hb := hB.2.1
  have hE : Ex g g := Ex.rf
  have hM : Sm mdA g g := sm_all
  refine lv_aload_n hx hb dL_law_691 rfl (lv_at hl 2 rfl) ?_
  refine lv_aload_n hx hb dL_law_692 rfl (lv_at hl 3 rfl) ?_
  refine lv_iload_n hx hb dL_law_693 rfl (lv_at hl 0 rfl) ?_
  refine lv_iconst (v := 1) hx hb dL_law_694 (by decide) ?_
  refine lv_iadd hx hb dL_law_695 ?_
  refine lv_topi (fun z_1 ez_1 => ?_)
  have e_z_1 : z_1.toInt = i.toInt + 1 := i_add ez_1 rfl (by decide) (by omega) (by omega)
  refine va_sld hx hb hX hbl (fun q => by have q_ : N0.1 ≤ b := q; omega) hT.2 (i_in (n := L) rfl (by omega) (by omega)) dL_law_696 ?_
  refine lv_topi (fun u_2 e_u_2 => ?_)
  refine lv_aload_n hx hb dL_law_697 rfl (lv_at hl 3 rfl) ?_
  refine lv_iload_n hx hb dL_law_698 rfl (lv_at hl 0 rfl) ?_
  refine lv_iconst (v := 2) hx hb dL_law_699 (by decide) ?_
  refine lv_iadd hx hb dL_law_700 ?_
  refine lv_topi (fun z_3 ez_3 => ?_)
  have e_z_3 : z_3.toInt = i.toInt + 2 := i_add ez_3 rfl (by decide) (by omega) (by omega)
  refine va_sld hx hb hX hbl (fun q => by have q_ : N0.1 ≤ b := q; omega) hT.2 (i_in (n := L) rfl (by omega) (by omega)) dL_law_701 ?_
  refine lv_topi (fun u_4 e_u_4 => ?_)
  refine t_callV (n := 2) (As := [.int u_2, .int u_4]) (rest := []) (ci := 6) hB hT hl.1 (P_price l D cI cZ cS cR N0 g hI ox u_2 u_4 r_ox) (ro_ci r_ox rfl) rfl k_676 k_57 k_673 k_674 k_675 (by decide +kernel) ⟨(Nat.le_of_ble_eq_true rfl), (Nat.le_of_ble_eq_true rfl)⟩ rfl (Nat.le_of_ble_eq_true rfl) ⟨(by show _ ≤ _; first | exact Nat.le_of_ble_eq_true rfl | (simp only [room_1]; omega)), (by show _ ≤ _; first | exact Nat.le_of_ble_eq_true rfl | (simp only [room_1]; omega))⟩ dL_law_702 (fun v g_5 H locs hp hT => ?_)
  obtain ⟨r_6, rfl, hI, x_8, m_7⟩ := hp
  have hw : PX 48 2 3 71 72 g_5 om := hw.mono m_7 x_8 r_om (by decide) (by decide) rfl rfl rfl rfl
  have hN0 : PX 8 39 40 84 85 g_5 om := hN0.mono m_7 x_8 r_om (by decide) (by decide) rfl rfl rfl rfl
  have hM : Sm mdA g g_5 := sm_all
  have hE : Ex g g_5 := hE.tr x_8
  have r_9 : g_5.1 ox = 7 := (Ex.r x_8 r_ox (by decide))
  have r_10 : g_5.1 om = 8 := (Ex.r x_8 r_om (by decide))
  have kn_11 : g_5.2.1 ox 6 = .int z := (Sm.v m_7 r_ox (by decide) rfl kz)
  have kn_12 : g_5.2.1 om 34 = .int z := (Sm.v m_7 r_om (by decide) rfl kz2)
  have kn_13 : g_5.2.1 om 22 = .int o1 := (Sm.v m_7 r_om (by decide) rfl ko)
  refine W.eq (g2 := F0 m 705 ls [.int r_6]) rfl ?_
  refine lv_pop hx hb dL_law_705 rfl ?_
  refine lv_aload_n hx hb dL_law_706 rfl (lv_at hl 1 rfl) ?_
  refine lv_aload_n hx hb dL_law_707 rfl (lv_at hl 3 rfl) ?_
  refine lv_iload_n hx hb dL_law_708 rfl (lv_at hl 0 rfl) ?_
  refine lv_iconst (v := 1) hx hb dL_law_709 (by decide) ?_
  refine lv_iadd hx hb dL_law_710 ?_
  refine lv_topi (fun z_14 ez_14 => ?_)
  have e_z_14 : z_14.toInt = i.toInt + 1 := i_add ez_14 rfl (by decide) (by omega) (by omega)
  refine va_sld hx hb hX hbl (fun q => by have q_ : N0.1 ≤ b := q; omega) hT.2 (i_in (n := L) rfl (by omega) (by omega)) dL_law_711 ?_
  refine lv_topi (fun u_15 e_u_15 => ?_)
  refine lv_aload_n hx hb dL_law_712 rfl (lv_at hl 3 rfl) ?_
  refine lv_iload_n hx hb dL_law_713 rfl (lv_at hl 0 rfl) ?_
  refine lv_iconst (v := 2) hx hb dL_law_714 (by decide) ?_
  refine lv_iadd hx hb dL_law_715 ?_
  refine lv_topi (fun z_16 ez_16 => ?_)
  have e_z_16 : z_16.toInt = i.toInt + 2 := i_add ez_16 rfl (by decide) (by omega) (by omega)
  refine va_sld hx hb hX hbl (fun q => by have q_ : N0.1 ≤ b := q; omega) hT.2 (i_in (n := L) rfl (by omega) (by omega)) dL_law_716 ?_
  refine lv_topi (fun u_17 e_u_17 => ?_)
  refine t_callV (n := 2) (As := [.int u_15, .int u_17]) (rest := []) (ci := 7) hB hT hl.1 (m_price l D cI cZ cS cR N0 g_5 hI om u_15 u_17 r_10) (ro_ci r_10 rfl) rfl k_1158 k_65 k_1155 k_1156 k_1157 (by decide +kernel) ⟨(Nat.le_of_ble_eq_true rfl), (Nat.le_of_ble_eq_true rfl)⟩ rfl (Nat.le_of_ble_eq_true rfl) ⟨(by show _ ≤ _; first | exact Nat.le_of_ble_eq_true rfl | (simp only [room_1]; omega)), (by show _ ≤ _; first | exact Nat.le_of_ble_eq_true rfl | (simp only [room_1]; omega))⟩ dL_law_717 (fun v g_18 H locs hp hT => ?_)
  obtain ⟨r_19, rfl, hI, x_21, m_20⟩ := hp
  have hw : PX 48 2 3 71 72 g_18 om := hw.mono m_20 x_21 r_10 (by decide) (by decide) rfl rfl rfl rfl
  have hN0 : PX 8 39 40 84 85 g_18 om := hN0.mono m_20 x_21 r_10 (by decide) (by decide) rfl rfl rfl rfl
  have hM : Sm mdA g g_18 := sm_all
  have hE : Ex g g_18 := hE.tr x_21
  have r_22 : g_18.1 ox = 7 := (Ex.r x_21 r_9 (by decide))
  have r_23 : g_18.1 om = 8 := (Ex.r x_21 r_10 (by decide))
  have kn_24 : g_18.2.1 ox 6 = .int z := (Sm.v m_20 r_9 (by decide) rfl kn_11)
  have kn_25 : g_18.2.1 om 34 = .int z := (Sm.v m_20 r_10 (by decide) rfl kn_12)
  have kn_26 : g_18.2.1 om 22 = .int o1 := (Sm.v m_20 r_10 (by decide) rfl kn_13)
  refine W.eq (g2 := F0 m 720 ls [.int r_19]) rfl ?_
  refine lv_pop hx hb dL_law_720 rfl ?_
  refine lv_goto (tgt := 829) hx hb dL_law_721 (by decide) ?_
  refine W.widen (k := cells + 4) (n := slots + 28) (by omega) (by omega) ?_
  exact K g_18 z o1 H locs hT hI r_22 r_23 kn_24 kn_25 (by omega) (by omega) kn_26 (by have e0_ : (0 : Int32).toInt = 0 := (by decide); omega) (by have e0_ : (0 : Int32).toInt = 0 := (by decide); omega) hw hN0
set_option maxHeartbeats 4000000 in
set_option maxRecDepth 100000 in
/-- cheapest -/
theorem law_18 {p : Program} {l : Launch} {e : Env} {s : State} {m : MethodId} {below : List Frame} {meth : Method} {c : Code} {D : va_G} {cI cZ cS cR : ClassId} {N0 : NT} {b L : Nat} {xs : Nat → Int32} (hB : Tz p s m meth c #[Value.ref b] code 4 RL D cI cZ cS cR N0) (hAs : N0.1 = s.heap.size) (hX : va_X b L xs s s.heap) (hbl : b < s.heap.size) (hL : L ≤ 2560) (hr : meth.sig.returnType = ret) {cells slots : Nat} (hcl : cells + 4 ≤ 600000) (hsl : slots + 28 ≤ 7302250) {H : Heap} {locs : List Loc} {ls : Array Slot} (g : GS) (ox om : Nat) (i z o1 : Int32) (hT : Tv D cI cZ cS cR N0 s.heap H locs g) (hI : Inv g) (l_i : 0 ≤ i.toInt) (u_i : i.toInt + 5 ≤ L) : g.1 ox = 7 → g.1 om = 8 → g.2.1 ox 6 = .int z → g.2.1 om 34 = .int z → 0 ≤ z.toInt → z.toInt ≤ 1 → g.2.1 om 22 = .int o1 → 0 ≤ o1.toInt → o1.toInt ≤ 12 * i.toInt → PX 48 2 3 71 72 g om → PX 8 39 40 84 85 g om → (hl : lv_has ls 4 [(3, .int i), (2, .ref om), (1, .ref ox), (0, .ref b)]) → (K : ∀ (g1 : GS) (z1 o2 : Int32) (H1 : Heap) (locs1 : List Loc), Tv D cI cZ cS cR N0 s.heap H1 locs1 g1 → Inv g1 → g1.1 ox = 7 → g1.1 om = 8 → g1.2.1 ox 6 = .int z1 → g1.2.1 om 34 = .int z1 → 0 ≤ z1.toInt → z1.toInt ≤ 1 → g1.2.1 om 22 = .int o2 → 0 ≤ o2.toInt → o2.toInt ≤ 12 * i.toInt + 60 → PX 48 2 3 71 72 g1 om → PX 8 39 40 84 85 g1 om → W p l e room_1 s m #[Value.ref b] below meth c H1 locs1 (cells + 4) (slots + 28) (lw_Z below #[Value.ref b] s) (F0 m 829 ls [])) → W p l e room_1 s m #[Value.ref b] below meth c H locs cells slots (lw_Z below #[Value.ref b] s) (F0 m 724 ls []) := by
  intro r_ox r_om kz kz2 l_z u_z ko l_o u_o hw hN0 hl K
  have hx := hB.1
  have hb := hB.2.1
  have hE : Ex g g := Ex.rf
  have hM : Sm mdA g g := sm_all
  refine lv_aload_n hx hb dL_law_724 rfl (lv_at hl 2 rfl) ?_
  refine lv_aload_n hx hb dL_law_725 rfl (lv_at hl 3 rfl) ?_
  refine lv_iload_n hx hb dL_law_726 rfl (lv_at hl 0 rfl) ?_
  refine lv_iconst (v := 1) hx hb dL_law_727 (by decide) ?_
  refine lv_iadd hx hb dL_law_728 ?_
  refine lv_topi (fun z_1 ez_1 => ?_)
  have e_z_1 : z_1.toInt = i.toInt + 1 := i_add ez_1 rfl (by decide) (by omega) (by omega)
  refine va_sld hx hb hX hbl (fun q => by have q_ : N0.1 ≤ b := q; omega) hT.2 (i_in (n := L) rfl (by omega) (by omega)) dL_law_729 ?_
  refine lv_topi (fun u_2 e_u_2 => ?_)
  refine t_callV (n := 1) (As := [.int u_2]) (rest := []) (ci := 6) hB hT hl.1 (P_cheapest l D cI cZ cS cR N0 g hI ox u_2 r_ox) (ro_ci r_ox rfl) rfl k_680 k_57 k_677 k_678 k_679 (by decide +kernel) ⟨(Nat.le_of_ble_eq_true rfl), (Nat.le_of_ble_eq_true rfl)⟩ rfl (Nat.le_of_ble_eq_true rfl) ⟨(by show _ ≤ _; first | exact Nat.le_of_ble_eq_true rfl | (simp only [room_1]; omega)), (by show _ ≤ _; first | exact Nat.le_of_ble_eq_true rfl | (simp only [room_1]; omega))⟩ dL_law_730 (fun v g_3 H locs hp hT => ?_)
  obtain ⟨r_4, rfl, hI, x_6, m_5⟩ := hp
  have hw : PX 48 2 3 71 72 g_3 om := hw.mono m_5 x_6 r_om (by decide) (by decide) rfl rfl rfl rfl
  have hN0 : PX 8 39 40 84 85 g_3 om := hN0.mono m_5 x_6 r_om (by decide) (by decide) rfl rfl rfl rfl
  have hM : Sm mdA g g_3 := sm_all
  have hE : Ex g g_3 := hE.tr x_6
  have r_7 : g_3.1 ox = 7 := (Ex.r x_6 r_ox (by decide))
  have r_8 : g_3.1 om = 8 := (Ex.r x_6 r_om (by decide))
  have kn_9 : g_3.2.1 ox 6 = .int z := (Sm.v m_5 r_ox (by decide) rfl kz)
  have kn_10 : g_3.2.1 om 34 = .int z := (Sm.v m_5 r_om (by decide) rfl kz2)
  have kn_11 : g_3.2.1 om 22 = .int o1 := (Sm.v m_5 r_om (by decide) rfl ko)
  refine W.eq (g2 := F0 m 733 ls [.int r_4]) rfl ?_
  refine lv_pop hx hb dL_law_733 rfl ?_
  refine lv_aload_n hx hb dL_law_734 rfl (lv_at hl 1 rfl) ?_
  refine lv_aload_n hx hb dL_law_735 rfl (lv_at hl 3 rfl) ?_
  refine lv_iload_n hx hb dL_law_736 rfl (lv_at hl 0 rfl) ?_
  refine lv_iconst (v := 1) hx hb dL_law_737 (by decide) ?_
  refine lv_iadd hx hb dL_law_738 ?_
  refine lv_topi (fun z_12 ez_12 => ?_)
  have e_z_12 : z_12.toInt = i.toInt + 1 := i_add ez_12 rfl (by decide) (by omega) (by omega)
  refine va_sld hx hb hX hbl (fun q => by have q_ : N0.1 ≤ b := q; omega) hT.2 (i_in (n := L) rfl (by omega) (by omega)) dL_law_739 ?_
  refine lv_topi (fun u_13 e_u_13 => ?_)
  refine t_callV (n := 1) (As := [.int u_13]) (rest := []) (ci := 7) hB hT hl.1 (m_cheapest l D cI cZ cS cR N0 g_3 hI om u_13 r_8 hw) (ro_ci r_8 rfl) rfl k_1162 k_65 k_1159 k_1160 k_1161 (by decide +kernel) ⟨(Nat.le_of_ble_eq_true rfl), (Nat.le_of_ble_eq_true rfl)⟩ rfl (Nat.le_of_ble_eq_true rfl) ⟨(by show _ ≤ _; first | exact Nat.le_of_ble_eq_true rfl | (simp only [room_1]; omega)), (by show _ ≤ _; first | exact Nat.le_of_ble_eq_true rfl | (simp only [room_1]; omega))⟩ dL_law_740 (fun v g_14 H locs hp hT => ?_)
  obtain ⟨r_15, rfl, hI, x_17, m_16⟩ := hp
  have hw : PX 48 2 3 71 72 g_14 om := hw.mono m_16 x_17 r_8 (by decide) (by decide) rfl rfl rfl rfl
  have hN0 : PX 8 39 40 84 85 g_14 om := hN0.mono m_16 x_17 r_8 (by decide) (by decide) rfl rfl rfl rfl
  have hM : Sm mdA g g_14 := sm_all
  have hE : Ex g g_14 := hE.tr x_17
  have r_18 : g_14.1 ox = 7 := (Ex.r x_17 r_7 (by decide))
  have r_19 : g_14.1 om = 8 := (Ex.r x_17 r_8 (by decide))
  have kn_20 : g_14.2.1 ox 6 = .int z := (Sm.v m_16 r_7 (by decide) rfl kn_9)
  have kn_21 : g_14.2.1 om 34 = .int z := (Sm.v m_16 r_8 (by decide) rfl kn_10)
  have kn_22 : g_14.2.1 om 22 = .int o1 := (Sm.v m_16 r_8 (by decide) rfl kn_11)
  refine W.eq (g2 := F0 m 743 ls [.int r_15]) rfl ?_
  refine lv_pop hx hb dL_law_743 rfl ?_
  refine lv_goto (tgt := 829) hx hb dL_law_744 (by decide) ?_
  refine W.widen (k := cells + 4) (n := slots + 28) (by omega) (by omega) ?_
  exact K g_14 z o1 H locs hT hI r_18 r_19 kn_20 kn_21 (by omega) (by omega) kn_22 (by have e0_ : (0 : Int32).toInt = 0 := (by decide); omega) (by have e0_ : (0 : Int32).toInt = 0 := (by decide); omega) hw hN0
set_option maxHeartbeats 4000000 in
set_option maxRecDepth 100000 in
/-- again -/
theorem law_19 {p : Program} {l : Launch} {e : Env} {s : State} {m : MethodId} {below : List Frame} {meth : Method} {c : Code} {D : va_G} {cI cZ cS cR : ClassId} {N0 : NT} {b L : Nat} {xs : Nat → Int32} (hB : Tz p s m meth c #[Value.ref b] code 4 RL D cI cZ cS cR N0) (hAs : N0.1 = s.heap.size) (hX : va_X b L xs s s.heap) (hbl : b < s.heap.size) (hL : L ≤ 2560) (hr : meth.sig.returnType = ret) {cells slots : Nat} (hcl : cells + 4 ≤ 600000) (hsl : slots + 28 ≤ 7302250) {H : Heap} {locs : List Loc} {ls : Array Slot} (g : GS) (ox om : Nat) (i z o1 : Int32) (hT : Tv D cI cZ cS cR N0 s.heap H locs g) (hI : Inv g) (l_i : 0 ≤ i.toInt) (u_i : i.toInt + 5 ≤ L) : g.1 ox = 7 → g.1 om = 8 → g.2.1 ox 6 = .int z → g.2.1 om 34 = .int z → 0 ≤ z.toInt → z.toInt ≤ 1 → g.2.1 om 22 = .int o1 → 0 ≤ o1.toInt → o1.toInt ≤ 12 * i.toInt → PX 48 2 3 71 72 g om → PX 8 39 40 84 85 g om → (hl : lv_has ls 4 [(3, .int i), (2, .ref om), (1, .ref ox), (0, .ref b)]) → (K : ∀ (g1 : GS) (z1 o2 : Int32) (H1 : Heap) (locs1 : List Loc), Tv D cI cZ cS cR N0 s.heap H1 locs1 g1 → Inv g1 → g1.1 ox = 7 → g1.1 om = 8 → g1.2.1 ox 6 = .int z1 → g1.2.1 om 34 = .int z1 → 0 ≤ z1.toInt → z1.toInt ≤ 1 → g1.2.1 om 22 = .int o2 → 0 ≤ o2.toInt → o2.toInt ≤ 12 * i.toInt + 60 → PX 48 2 3 71 72 g1 om → PX 8 39 40 84 85 g1 om → W p l e room_1 s m #[Value.ref b] below meth c H1 locs1 (cells + 4) (slots + 28) (lw_Z below #[Value.ref b] s) (F0 m 829 ls [])) → W p l e room_1 s m #[Value.ref b] below meth c H locs cells slots (lw_Z below #[Value.ref b] s) (F0 m 747 ls []) := by
  intro r_ox r_om kz kz2 l_z u_z ko l_o u_o hw hN0 hl K
  have hx := hB.1
  have hb := hB.2.1
  have hE : Ex g g := Ex.rf
  have hM : Sm mdA g g := sm_all
  refine lv_aload_n hx hb dL_law_747 rfl (lv_at hl 2 rfl) ?_
  refine t_callV (n := 0) (As := []) (rest := []) (ci := 6) hB hT hl.1 (P_again l D cI cZ cS cR N0 g hI ox r_ox) (ro_ci r_ox rfl) rfl k_714 k_57 k_711 k_712 k_713 (by decide +kernel) ⟨(Nat.le_of_ble_eq_true rfl), (Nat.le_of_ble_eq_true rfl)⟩ rfl (Nat.le_of_ble_eq_true rfl) ⟨(by show _ ≤ _; first | exact Nat.le_of_ble_eq_true rfl | (simp only [room_1]; omega)), (by show _ ≤ _; first | exact Nat.le_of_ble_eq_true rfl | (simp only [room_1]; omega))⟩ dL_law_748 (fun v g_1 H locs hp hT => ?_)
  obtain ⟨r_2, rfl, hI, x_4, m_3⟩ := hp
  have hw : PX 48 2 3 71 72 g_1 om := hw.mono m_3 x_4 r_om (by decide) (by decide) rfl rfl rfl rfl
  have hN0 : PX 8 39 40 84 85 g_1 om := hN0.mono m_3 x_4 r_om (by decide) (by decide) rfl rfl rfl rfl
  have hM : Sm mdA g g_1 := sm_all
  have hE : Ex g g_1 := hE.tr x_4
  have r_5 : g_1.1 ox = 7 := (Ex.r x_4 r_ox (by decide))
  have r_6 : g_1.1 om = 8 := (Ex.r x_4 r_om (by decide))
  have kn_7 : g_1.2.1 ox 6 = .int z := (Sm.v m_3 r_ox (by decide) rfl kz)
  have kn_8 : g_1.2.1 om 34 = .int z := (Sm.v m_3 r_om (by decide) rfl kz2)
  have kn_9 : g_1.2.1 om 22 = .int o1 := (Sm.v m_3 r_om (by decide) rfl ko)
  refine W.eq (g2 := F0 m 751 ls [.int r_2]) rfl ?_
  refine lv_pop hx hb dL_law_751 rfl ?_
  refine lv_aload_n hx hb dL_law_752 rfl (lv_at hl 1 rfl) ?_
  refine t_callV (n := 0) (As := []) (rest := []) (ci := 7) hB hT hl.1 (m_again l D cI cZ cS cR N0 g_1 hI om r_6 hw) (ro_ci r_6 rfl) rfl k_1177 k_65 k_1174 k_1175 k_1176 (by decide +kernel) ⟨(Nat.le_of_ble_eq_true rfl), (Nat.le_of_ble_eq_true rfl)⟩ rfl (Nat.le_of_ble_eq_true rfl) ⟨(by show _ ≤ _; first | exact Nat.le_of_ble_eq_true rfl | (simp only [room_1]; omega)), (by show _ ≤ _; first | exact Nat.le_of_ble_eq_true rfl | (simp only [room_1]; omega))⟩ dL_law_753 (fun v g_10 H locs hp hT => ?_)
  obtain ⟨r_11, rfl, hI, x_13, m_12⟩ := hp
  have hw : PX 48 2 3 71 72 g_10 om := hw.mono m_12 x_13 r_6 (by decide) (by decide) rfl rfl rfl rfl
  have hN0 : PX 8 39 40 84 85 g_10 om := hN0.mono m_12 x_13 r_6 (by decide) (by decide) rfl rfl rfl rfl
  have hM : Sm mdA g g_10 := sm_all
  have hE : Ex g g_10 := hE.tr x_13
  have r_14 : g_10.1 ox = 7 := (Ex.r x_13 r_5 (by decide))
  have r_15 : g_10.1 om = 8 := (Ex.r x_13 r_6 (by decide))
  have kn_16 : g_10.2.1 ox 6 = .int z := (Sm.v m_12 r_5 (by decide) rfl kn_7)
  have kn_17 : g_10.2.1 om 34 = .int z := (Sm.v m_12 r_6 (by decide) rfl kn_8)
  have kn_18 : g_10.2.1 om 22 = .int o1 := (Sm.v m_12 r_6 (by decide) rfl kn_9)
  refine W.eq (g2 := F0 m 756 ls [.int r_11]) rfl ?_
  refine lv_pop hx hb dL_law_756 rfl ?_
  refine lv_goto (tgt := 829) hx hb dL_law_757 (by decide) ?_
  refine W.widen (k := cells + 4) (n := slots + 28) (by omega) (by omega) ?_
  exact K g_10 z o1 H locs hT hI r_14 r_15 kn_16 kn_17 (by omega) (by omega) kn_18 (by have e0_ : (0 : Int32).toInt = 0 := (by decide); omega) (by have e0_ : (0 : Int32).toInt = 0 := (by decide); omega) hw hN0
set_option maxHeartbeats 4000000 in
set_option maxRecDepth 100000 in
/-- log -/
theorem law_20 {p : Program} {l : Launch} {e : Env} {s : State} {m : MethodId} {below : List Frame} {meth : Method} {c : Code} {D : va_G} {cI cZ cS cR : ClassId} {N0 : NT} {b L : Nat} {xs : Nat → Int32} (hB : Tz p s m meth c #[Value.ref b] code 4 RL D cI cZ cS cR N0) (hAs : N0.1 = s.heap.size) (hX : va_X b L xs s s.heap) (hbl : b < s.heap.size) (hL : L ≤ 2560) (hr : meth.sig.returnType = ret) {cells slots : Nat} (hcl : cells + 4 ≤ 600000) (hsl : slots + 28 ≤ 7302250) {H : Heap} {locs : List Loc} {ls : Array Slot} (g : GS) (ox om : Nat) (i z o1 : Int32) (hT : Tv D cI cZ cS cR N0 s.heap H locs g) (hI : Inv g) (l_i : 0 ≤ i.toInt) (u_i : i.toInt + 5 ≤ L) : g.1 ox = 7 → g.1 om = 8 → g.2.1 ox 6 = .int z → g.2.1 om 34 = .int z → 0 ≤ z.toInt → z.toInt ≤ 1 → g.2.1 om 22 = .int o1 → 0 ≤ o1.toInt → o1.toInt ≤ 12 * i.toInt → PX 48 2 3 71 72 g om → PX 8 39 40 84 85 g om → (hl : lv_has ls 4 [(3, .int i), (2, .ref om), (1, .ref ox), (0, .ref b)]) → (K : ∀ (g1 : GS) (z1 o2 : Int32) (H1 : Heap) (locs1 : List Loc), Tv D cI cZ cS cR N0 s.heap H1 locs1 g1 → Inv g1 → g1.1 ox = 7 → g1.1 om = 8 → g1.2.1 ox 6 = .int z1 → g1.2.1 om 34 = .int z1 → 0 ≤ z1.toInt → z1.toInt ≤ 1 → g1.2.1 om 22 = .int o2 → 0 ≤ o2.toInt → o2.toInt ≤ 12 * i.toInt + 60 → PX 48 2 3 71 72 g1 om → PX 8 39 40 84 85 g1 om → W p l e room_1 s m #[Value.ref b] below meth c H1 locs1 (cells + 4) (slots + 28) (lw_Z below #[Value.ref b] s) (F0 m 829 ls [])) → W p l e room_1 s m #[Value.ref b] below meth c H locs cells slots (lw_Z below #[Value.ref b] s) (F0 m 760 ls []) := by
  intro r_ox r_om kz kz2 l_z u_z ko l_o u_o hw hN0 hl K
  have hx := hB.1
  have hb := hB.2.1
  have hE : Ex g g := Ex.rf
  have hM : Sm mdA g g := sm_all
  refine lv_aload_n hx hb dL_law_760 rfl (lv_at hl 2 rfl) ?_
  refine lv_aload_n hx hb dL_law_761 rfl (lv_at hl 3 rfl) ?_
  refine lv_iload_n hx hb dL_law_762 rfl (lv_at hl 0 rfl) ?_
  refine lv_iconst (v := 1) hx hb dL_law_763 (by decide) ?_
  refine lv_iadd hx hb dL_law_764 ?_
  refine lv_topi (fun z_1 ez_1 => ?_)
  have e_z_1 : z_1.toInt = i.toInt + 1 := i_add ez_1 rfl (by decide) (by omega) (by omega)
  refine va_sld hx hb hX hbl (fun q => by have q_ : N0.1 ≤ b := q; omega) hT.2 (i_in (n := L) rfl (by omega) (by omega)) dL_law_765 ?_
  refine lv_topi (fun u_2 e_u_2 => ?_)
  refine lv_aload_n hx hb dL_law_766 rfl (lv_at hl 3 rfl) ?_
  refine lv_iload_n hx hb dL_law_767 rfl (lv_at hl 0 rfl) ?_
  refine lv_iconst (v := 2) hx hb dL_law_768 (by decide) ?_
  refine lv_iadd hx hb dL_law_769 ?_
  refine lv_topi (fun z_3 ez_3 => ?_)
  have e_z_3 : z_3.toInt = i.toInt + 2 := i_add ez_3 rfl (by decide) (by omega) (by omega)
  refine va_sld hx hb hX hbl (fun q => by have q_ : N0.1 ≤ b := q; omega) hT.2 (i_in (n := L) rfl (by omega) (by omega)) dL_law_770 ?_
  refine lv_topi (fun u_4 e_u_4 => ?_)
  refine t_callV (n := 2) (As := [.int u_2, .int u_4]) (rest := []) (ci := 6) hB hT hl.1 (P_log l D cI cZ cS cR N0 g hI ox u_2 u_4 r_ox) (ro_ci r_ox rfl) rfl k_722 k_57 k_719 k_720 k_721 (by decide +kernel) ⟨(Nat.le_of_ble_eq_true rfl), (Nat.le_of_ble_eq_true rfl)⟩ rfl (Nat.le_of_ble_eq_true rfl) ⟨(by show _ ≤ _; first | exact Nat.le_of_ble_eq_true rfl | (simp only [room_1]; omega)), (by show _ ≤ _; first | exact Nat.le_of_ble_eq_true rfl | (simp only [room_1]; omega))⟩ dL_law_771 (fun v g_5 H locs hp hT => ?_)
  obtain ⟨r_6, rfl, hI, x_8, m_7⟩ := hp
  have hw : PX 48 2 3 71 72 g_5 om := hw.mono m_7 x_8 r_om (by decide) (by decide) rfl rfl rfl rfl
  have hN0 : PX 8 39 40 84 85 g_5 om := hN0.mono m_7 x_8 r_om (by decide) (by decide) rfl rfl rfl rfl
  have hM : Sm mdA g g_5 := sm_all
  have hE : Ex g g_5 := hE.tr x_8
  have r_9 : g_5.1 ox = 7 := (Ex.r x_8 r_ox (by decide))
  have r_10 : g_5.1 om = 8 := (Ex.r x_8 r_om (by decide))
  have kn_11 : g_5.2.1 ox 6 = .int z := (Sm.v m_7 r_ox (by decide) rfl kz)
  have kn_12 : g_5.2.1 om 34 = .int z := (Sm.v m_7 r_om (by decide) rfl kz2)
  have kn_13 : g_5.2.1 om 22 = .int o1 := (Sm.v m_7 r_om (by decide) rfl ko)
  refine W.eq (g2 := F0 m 774 ls [.int r_6]) rfl ?_
  refine lv_pop hx hb dL_law_774 rfl ?_
  refine lv_aload_n hx hb dL_law_775 rfl (lv_at hl 1 rfl) ?_
  refine lv_aload_n hx hb dL_law_776 rfl (lv_at hl 3 rfl) ?_
  refine lv_iload_n hx hb dL_law_777 rfl (lv_at hl 0 rfl) ?_
  refine lv_iconst (v := 1) hx hb dL_law_778 (by decide) ?_
  refine lv_iadd hx hb dL_law_779 ?_
  refine lv_topi (fun z_14 ez_14 => ?_)
  have e_z_14 : z_14.toInt = i.toInt + 1 := i_add ez_14 rfl (by decide) (by omega) (by omega)
  refine va_sld hx hb hX hbl (fun q => by have q_ : N0.1 ≤ b := q; omega) hT.2 (i_in (n := L) rfl (by omega) (by omega)) dL_law_780 ?_
  refine lv_topi (fun u_15 e_u_15 => ?_)
  refine lv_aload_n hx hb dL_law_781 rfl (lv_at hl 3 rfl) ?_
  refine lv_iload_n hx hb dL_law_782 rfl (lv_at hl 0 rfl) ?_
  refine lv_iconst (v := 2) hx hb dL_law_783 (by decide) ?_
  refine lv_iadd hx hb dL_law_784 ?_
  refine lv_topi (fun z_16 ez_16 => ?_)
  have e_z_16 : z_16.toInt = i.toInt + 2 := i_add ez_16 rfl (by decide) (by omega) (by omega)
  refine va_sld hx hb hX hbl (fun q => by have q_ : N0.1 ≤ b := q; omega) hT.2 (i_in (n := L) rfl (by omega) (by omega)) dL_law_785 ?_
  refine lv_topi (fun u_17 e_u_17 => ?_)
  refine t_callV (n := 2) (As := [.int u_15, .int u_17]) (rest := []) (ci := 7) hB hT hl.1 (m_log l D cI cZ cS cR N0 g_5 hI om u_15 u_17 r_10) (ro_ci r_10 rfl) rfl k_1181 k_65 k_1178 k_1179 k_1180 (by decide +kernel) ⟨(Nat.le_of_ble_eq_true rfl), (Nat.le_of_ble_eq_true rfl)⟩ rfl (Nat.le_of_ble_eq_true rfl) ⟨(by show _ ≤ _; first | exact Nat.le_of_ble_eq_true rfl | (simp only [room_1]; omega)), (by show _ ≤ _; first | exact Nat.le_of_ble_eq_true rfl | (simp only [room_1]; omega))⟩ dL_law_786 (fun v g_18 H locs hp hT => ?_)
  obtain ⟨r_19, rfl, hI, x_21, m_20⟩ := hp
  have hw : PX 48 2 3 71 72 g_18 om := hw.mono m_20 x_21 r_10 (by decide) (by decide) rfl rfl rfl rfl
  have hN0 : PX 8 39 40 84 85 g_18 om := hN0.mono m_20 x_21 r_10 (by decide) (by decide) rfl rfl rfl rfl
  have hM : Sm mdA g g_18 := sm_all
  have hE : Ex g g_18 := hE.tr x_21
  have r_22 : g_18.1 ox = 7 := (Ex.r x_21 r_9 (by decide))
  have r_23 : g_18.1 om = 8 := (Ex.r x_21 r_10 (by decide))
  have kn_24 : g_18.2.1 ox 6 = .int z := (Sm.v m_20 r_9 (by decide) rfl kn_11)
  have kn_25 : g_18.2.1 om 34 = .int z := (Sm.v m_20 r_10 (by decide) rfl kn_12)
  have kn_26 : g_18.2.1 om 22 = .int o1 := (Sm.v m_20 r_10 (by decide) rfl kn_13)
  refine W.eq (g2 := F0 m 789 ls [.int r_19]) rfl ?_
  refine lv_pop hx hb dL_law_789 rfl ?_
  refine lv_goto (tgt := 829) hx hb dL_law_790 (by decide) ?_
  refine W.widen (k := cells + 4) (n := slots + 28) (by omega) (by omega) ?_
  exact K g_18 z o1 H locs hT hI r_22 r_23 kn_24 kn_25 (by omega) (by omega) kn_26 (by have e0_ : (0 : Int32).toInt = 0 := (by decide); omega) (by have e0_ : (0 : Int32).toInt = 0 := (by decide); omega) hw hN0
set_option maxHeartbeats 4000000 in
set_option maxRecDepth 100000 in
/-- reset -/
theorem law_21 {p : Program} {l : Launch} {e : Env} {s : State} {m : MethodId} {below : List Frame} {meth : Method} {c : Code} {D : va_G} {cI cZ cS cR : ClassId} {N0 : NT} {b L : Nat} {xs : Nat → Int32} (hB : Tz p s m meth c #[Value.ref b] code 4 RL D cI cZ cS cR N0) (hAs : N0.1 = s.heap.size) (hX : va_X b L xs s s.heap) (hbl : b < s.heap.size) (hL : L ≤ 2560) (hr : meth.sig.returnType = ret) {cells slots : Nat} (hcl : cells + 4 ≤ 600000) (hsl : slots + 28 ≤ 7302250) {H : Heap} {locs : List Loc} {ls : Array Slot} (g : GS) (ox om : Nat) (i z o1 : Int32) (hT : Tv D cI cZ cS cR N0 s.heap H locs g) (hI : Inv g) (l_i : 0 ≤ i.toInt) (u_i : i.toInt + 5 ≤ L) : g.1 ox = 7 → g.1 om = 8 → g.2.1 ox 6 = .int z → g.2.1 om 34 = .int z → 0 ≤ z.toInt → z.toInt ≤ 1 → g.2.1 om 22 = .int o1 → 0 ≤ o1.toInt → o1.toInt ≤ 12 * i.toInt → PX 48 2 3 71 72 g om → PX 8 39 40 84 85 g om → (hl : lv_has ls 4 [(3, .int i), (2, .ref om), (1, .ref ox), (0, .ref b)]) → (K : ∀ (g1 : GS) (z1 o2 : Int32) (H1 : Heap) (locs1 : List Loc), Tv D cI cZ cS cR N0 s.heap H1 locs1 g1 → Inv g1 → g1.1 ox = 7 → g1.1 om = 8 → g1.2.1 ox 6 = .int z1 → g1.2.1 om 34 = .int z1 → 0 ≤ z1.toInt → z1.toInt ≤ 1 → g1.2.1 om 22 = .int o2 → 0 ≤ o2.toInt → o2.toInt ≤ 12 * i.toInt + 60 → PX 48 2 3 71 72 g1 om → PX 8 39 40 84 85 g1 om → W p l e room_1 s m #[Value.ref b] below meth c H1 locs1 (cells + 4) (slots + 28) (lw_Z below #[Value.ref b] s) (F0 m 829 ls [])) → W p l e room_1 s m #[Value.ref b] below meth c H locs cells slots (lw_Z below #[Value.ref b] s) (F0 m 793 ls []) := by
  intro r_ox r_om kz kz2 l_z u_z ko l_o u_o hw hN0 hl K
  have hx := hB.1
  have hb := hB.2.1
  have hE : Ex g g := Ex.rf
  have hM : Sm mdA g g := sm_all
  refine lv_aload_n hx hb dL_law_793 rfl (lv_at hl 2 rfl) ?_
  refine t_callV (n := 0) (As := []) (rest := []) (ci := 6) hB hT hl.1 (P_reset l D cI cZ cS cR N0 g hI ox r_ox) (ro_ci r_ox rfl) rfl k_726 k_57 k_723 k_724 k_725 (by decide +kernel) ⟨(Nat.le_of_ble_eq_true rfl), (Nat.le_of_ble_eq_true rfl)⟩ rfl (Nat.le_of_ble_eq_true rfl) ⟨(by show _ ≤ _; first | exact Nat.le_of_ble_eq_true rfl | (simp only [room_1]; omega)), (by show _ ≤ _; first | exact Nat.le_of_ble_eq_true rfl | (simp only [room_1]; omega))⟩ dL_law_794 (fun v g_1 H locs hp hT => ?_)
  obtain ⟨r_2, rfl, hI, x_4, m_3⟩ := hp
  have hw : PX 48 2 3 71 72 g_1 om := hw.mono m_3 x_4 r_om (by decide) (by decide) rfl rfl rfl rfl
  have hN0 : PX 8 39 40 84 85 g_1 om := hN0.mono m_3 x_4 r_om (by decide) (by decide) rfl rfl rfl rfl
  have hM : Sm mdA g g_1 := sm_all
  have hE : Ex g g_1 := hE.tr x_4
  have r_5 : g_1.1 ox = 7 := (Ex.r x_4 r_ox (by decide))
  have r_6 : g_1.1 om = 8 := (Ex.r x_4 r_om (by decide))
  have kn_7 : g_1.2.1 ox 6 = .int z := (Sm.v m_3 r_ox (by decide) rfl kz)
  have kn_8 : g_1.2.1 om 34 = .int z := (Sm.v m_3 r_om (by decide) rfl kz2)
  have kn_9 : g_1.2.1 om 22 = .int o1 := (Sm.v m_3 r_om (by decide) rfl ko)
  refine W.eq (g2 := F0 m 797 ls [.int r_2]) rfl ?_
  refine lv_pop hx hb dL_law_797 rfl ?_
  refine lv_aload_n hx hb dL_law_798 rfl (lv_at hl 1 rfl) ?_
  refine t_callV (n := 0) (As := []) (rest := []) (ci := 7) hB hT hl.1 (m_reset l D cI cZ cS cR N0 g_1 hI om r_6) (ro_ci r_6 rfl) rfl k_1185 k_65 k_1182 k_1183 k_1184 (by decide +kernel) ⟨(Nat.le_of_ble_eq_true rfl), (Nat.le_of_ble_eq_true rfl)⟩ rfl (Nat.le_of_ble_eq_true rfl) ⟨(by show _ ≤ _; first | exact Nat.le_of_ble_eq_true rfl | (simp only [room_1]; omega)), (by show _ ≤ _; first | exact Nat.le_of_ble_eq_true rfl | (simp only [room_1]; omega))⟩ dL_law_799 (fun v g_10 H locs hp hT => ?_)
  obtain ⟨r_11, rfl, hI, x_14, m_13, f_12⟩ := hp
  have hw : PX 48 2 3 71 72 g_10 om := hw.mono m_13 x_14 r_6 (by decide) (by decide) rfl rfl rfl rfl
  have hN0 : PX 8 39 40 84 85 g_10 om := hN0.mono m_13 x_14 r_6 (by decide) (by decide) rfl rfl rfl rfl
  have hM : Sm mdA g g_10 := sm_all
  have hE : Ex g g_10 := hE.tr x_14
  have r_15 : g_10.1 ox = 7 := (Ex.r x_14 r_5 (by decide))
  have r_16 : g_10.1 om = 8 := (Ex.r x_14 r_6 (by decide))
  have kn_17 : g_10.2.1 ox 6 = .int z := (Sm.v m_13 r_5 (by decide) rfl kn_7)
  have kn_18 : g_10.2.1 om 34 = .int z := (Sm.v m_13 r_6 (by decide) rfl kn_8)
  refine W.eq (g2 := F0 m 802 ls [.int r_11]) rfl ?_
  refine lv_pop hx hb dL_law_802 rfl ?_
  refine lv_goto (tgt := 829) hx hb dL_law_803 (by decide) ?_
  refine W.widen (k := cells + 4) (n := slots + 28) (by omega) (by omega) ?_
  exact K g_10 z (0 : Int32) H locs hT hI r_15 r_16 kn_17 kn_18 (by omega) (by omega) f_12 (by have e0_ : (0 : Int32).toInt = 0 := (by decide); omega) (by have e0_ : (0 : Int32).toInt = 0 := (by decide); omega) hw hN0
set_option maxHeartbeats 4000000 in
set_option maxRecDepth 100000 in
/-- count -/
theorem law_22 {p : Program} {l : Launch} {e : Env} {s : State} {m : MethodId} {below : List Frame} {meth : Method} {c : Code} {D : va_G} {cI cZ cS cR : ClassId} {N0 : NT} {b L : Nat} {xs : Nat → Int32} (hB : Tz p s m meth c #[Value.ref b] code 4 RL D cI cZ cS cR N0) (hAs : N0.1 = s.heap.size) (hX : va_X b L xs s s.heap) (hbl : b < s.heap.size) (hL : L ≤ 2560) (hr : meth.sig.returnType = ret) {cells slots : Nat} (hcl : cells + 4 ≤ 600000) (hsl : slots + 28 ≤ 7302250) {H : Heap} {locs : List Loc} {ls : Array Slot} (g : GS) (ox om : Nat) (i z o1 : Int32) (hT : Tv D cI cZ cS cR N0 s.heap H locs g) (hI : Inv g) (l_i : 0 ≤ i.toInt) (u_i : i.toInt + 5 ≤ L) : g.1 ox = 7 → g.1 om = 8 → g.2.1 ox 6 = .int z → g.2.1 om 34 = .int z → 0 ≤ z.toInt → z.toInt ≤ 1 → g.2.1 om 22 = .int o1 → 0 ≤ o1.toInt → o1.toInt ≤ 12 * i.toInt → PX 48 2 3 71 72 g om → PX 8 39 40 84 85 g om → (hl : lv_has ls 4 [(3, .int i), (2, .ref om), (1, .ref ox), (0, .ref b)]) → (K : ∀ (g1 : GS) (z1 o2 : Int32) (H1 : Heap) (locs1 : List Loc), Tv D cI cZ cS cR N0 s.heap H1 locs1 g1 → Inv g1 → g1.1 ox = 7 → g1.1 om = 8 → g1.2.1 ox 6 = .int z1 → g1.2.1 om 34 = .int z1 → 0 ≤ z1.toInt → z1.toInt ≤ 1 → g1.2.1 om 22 = .int o2 → 0 ≤ o2.toInt → o2.toInt ≤ 12 * i.toInt + 60 → PX 48 2 3 71 72 g1 om → PX 8 39 40 84 85 g1 om → W p l e room_1 s m #[Value.ref b] below meth c H1 locs1 (cells + 4) (slots + 28) (lw_Z below #[Value.ref b] s) (F0 m 829 ls [])) → W p l e room_1 s m #[Value.ref b] below meth c H locs cells slots (lw_Z below #[Value.ref b] s) (F0 m 806 ls []) := by
  intro r_ox r_om kz kz2 l_z u_z ko l_o u_o hw hN0 hl K
  have hx := hB.1
  have hb := hB.2.1
  have hE : Ex g g := Ex.rf
  have hM : Sm mdA g g := sm_all
  refine lv_aload_n hx hb dL_law_806 rfl (lv_at hl 2 rfl) ?_
  refine lv_aload_n hx hb dL_law_807 rfl (lv_at hl 3 rfl) ?_
  refine lv_iload_n hx hb dL_law_808 rfl (lv_at hl 0 rfl) ?_
  refine lv_iconst (v := 1) hx hb dL_law_809 (by decide) ?_
  refine lv_iadd hx hb dL_law_810 ?_
  refine lv_topi (fun z_1 ez_1 => ?_)
  have e_z_1 : z_1.toInt = i.toInt + 1 := i_add ez_1 rfl (by decide) (by omega) (by omega)
  refine va_sld hx hb hX hbl (fun q => by have q_ : N0.1 ≤ b := q; omega) hT.2 (i_in (n := L) rfl (by omega) (by omega)) dL_law_811 ?_
  refine lv_topi (fun u_2 e_u_2 => ?_)
  refine t_callV (n := 1) (As := [.int u_2]) (rest := []) (ci := 6) hB hT hl.1 (P_count l D cI cZ cS cR N0 g hI ox u_2 r_ox) (ro_ci r_ox rfl) rfl k_738 k_57 k_735 k_736 k_737 (by decide +kernel) ⟨(Nat.le_of_ble_eq_true rfl), (Nat.le_of_ble_eq_true rfl)⟩ rfl (Nat.le_of_ble_eq_true rfl) ⟨(by show _ ≤ _; first | exact Nat.le_of_ble_eq_true rfl | (simp only [room_1]; omega)), (by show _ ≤ _; first | exact Nat.le_of_ble_eq_true rfl | (simp only [room_1]; omega))⟩ dL_law_812 (fun v g_3 H locs hp hT => ?_)
  obtain ⟨r_4, rfl, hI, x_6, m_5⟩ := hp
  have hw : PX 48 2 3 71 72 g_3 om := hw.mono m_5 x_6 r_om (by decide) (by decide) rfl rfl rfl rfl
  have hN0 : PX 8 39 40 84 85 g_3 om := hN0.mono m_5 x_6 r_om (by decide) (by decide) rfl rfl rfl rfl
  have hM : Sm mdA g g_3 := sm_all
  have hE : Ex g g_3 := hE.tr x_6
  have r_7 : g_3.1 ox = 7 := (Ex.r x_6 r_ox (by decide))
  have r_8 : g_3.1 om = 8 := (Ex.r x_6 r_om (by decide))
  have kn_9 : g_3.2.1 ox 6 = .int z := (Sm.v m_5 r_ox (by decide) rfl kz)
  have kn_10 : g_3.2.1 om 34 = .int z := (Sm.v m_5 r_om (by decide) rfl kz2)
  have kn_11 : g_3.2.1 om 22 = .int o1 := (Sm.v m_5 r_om (by decide) rfl ko)
  refine W.eq (g2 := F0 m 815 ls [.int r_4]) rfl ?_
  refine lv_pop hx hb dL_law_815 rfl ?_
  refine lv_aload_n hx hb dL_law_816 rfl (lv_at hl 1 rfl) ?_
  refine lv_aload_n hx hb dL_law_817 rfl (lv_at hl 3 rfl) ?_
  refine lv_iload_n hx hb dL_law_818 rfl (lv_at hl 0 rfl) ?_
  refine lv_iconst (v := 1) hx hb dL_law_819 (by decide) ?_
  refine lv_iadd hx hb dL_law_820 ?_
  refine lv_topi (fun z_12 ez_12 => ?_)
  have e_z_12 : z_12.toInt = i.toInt + 1 := i_add ez_12 rfl (by decide) (by omega) (by omega)
  refine va_sld hx hb hX hbl (fun q => by have q_ : N0.1 ≤ b := q; omega) hT.2 (i_in (n := L) rfl (by omega) (by omega)) dL_law_821 ?_
  refine lv_topi (fun u_13 e_u_13 => ?_)
  refine t_callV (n := 1) (As := [.int u_13]) (rest := []) (ci := 7) hB hT hl.1 (m_count l D cI cZ cS cR N0 g_3 hI om u_13 r_8) (ro_ci r_8 rfl) rfl k_1189 k_65 k_1186 k_1187 k_1188 (by decide +kernel) ⟨(Nat.le_of_ble_eq_true rfl), (Nat.le_of_ble_eq_true rfl)⟩ rfl (Nat.le_of_ble_eq_true rfl) ⟨(by show _ ≤ _; first | exact Nat.le_of_ble_eq_true rfl | (simp only [room_1]; omega)), (by show _ ≤ _; first | exact Nat.le_of_ble_eq_true rfl | (simp only [room_1]; omega))⟩ dL_law_822 (fun v g_14 H locs hp hT => ?_)
  obtain ⟨r_15, rfl, hI, x_17, m_16⟩ := hp
  have hw : PX 48 2 3 71 72 g_14 om := hw.mono m_16 x_17 r_8 (by decide) (by decide) rfl rfl rfl rfl
  have hN0 : PX 8 39 40 84 85 g_14 om := hN0.mono m_16 x_17 r_8 (by decide) (by decide) rfl rfl rfl rfl
  have hM : Sm mdA g g_14 := sm_all
  have hE : Ex g g_14 := hE.tr x_17
  have r_18 : g_14.1 ox = 7 := (Ex.r x_17 r_7 (by decide))
  have r_19 : g_14.1 om = 8 := (Ex.r x_17 r_8 (by decide))
  have kn_20 : g_14.2.1 ox 6 = .int z := (Sm.v m_16 r_7 (by decide) rfl kn_9)
  have kn_21 : g_14.2.1 om 34 = .int z := (Sm.v m_16 r_8 (by decide) rfl kn_10)
  have kn_22 : g_14.2.1 om 22 = .int o1 := (Sm.v m_16 r_8 (by decide) rfl kn_11)
  refine W.eq (g2 := F0 m 825 ls [.int r_15]) rfl ?_
  refine lv_pop hx hb dL_law_825 rfl ?_
  refine lv_goto (tgt := 829) hx hb dL_law_826 (by decide) ?_
  refine W.widen (k := cells + 4) (n := slots + 28) (by omega) (by omega) ?_
  exact K g_14 z o1 H locs hT hI r_18 r_19 kn_20 kn_21 (by omega) (by omega) kn_22 (by have e0_ : (0 : Int32).toInt = 0 := (by decide); omega) (by have e0_ : (0 : Int32).toInt = 0 := (by decide); omega) hw hN0
