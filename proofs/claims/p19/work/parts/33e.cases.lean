theorem k_665 : Cond.methodLink RL 85 yX6_enough ∈ tb := mt 665 (by decide +kernel) rfl
theorem k_666 : Cond.instanceMethod yX6_enough ∈ tb := mt 666 (by decide +kernel) rfl
theorem k_667 : Cond.selects RX6 yX6_enough yX6_enough ∈ tb := mt 667 (by decide +kernel) rfl
set_option maxRecDepth 20000 in
theorem k_668 : Cond.code yX6_enough cX6_enough 2 (some .int) ∈ tb := mt 668 rfl rfl
theorem k_673 : Cond.methodLink RL 89 yX6_price ∈ tb := mt 673 (by decide +kernel) rfl
theorem k_674 : Cond.instanceMethod yX6_price ∈ tb := mt 674 (by decide +kernel) rfl
theorem k_675 : Cond.selects RX6 yX6_price yX6_price ∈ tb := mt 675 (by decide +kernel) rfl
set_option maxRecDepth 20000 in
theorem k_676 : Cond.code yX6_price cX6_price 4 (some .int) ∈ tb := mt 676 rfl rfl
theorem k_677 : Cond.methodLink RL 93 yX6_cheapest ∈ tb := mt 677 (by decide +kernel) rfl
theorem k_678 : Cond.instanceMethod yX6_cheapest ∈ tb := mt 678 (by decide +kernel) rfl
theorem k_679 : Cond.selects RX6 yX6_cheapest yX6_cheapest ∈ tb := mt 679 (by decide +kernel) rfl
set_option maxRecDepth 20000 in
theorem k_680 : Cond.code yX6_cheapest cX6_cheapest 4 (some .int) ∈ tb := mt 680 rfl rfl
theorem k_711 : Cond.methodLink RL 97 yX6_again ∈ tb := mt 711 (by decide +kernel) rfl
theorem k_712 : Cond.instanceMethod yX6_again ∈ tb := mt 712 (by decide +kernel) rfl
theorem k_713 : Cond.selects RX6 yX6_again yX6_again ∈ tb := mt 713 (by decide +kernel) rfl
set_option maxRecDepth 20000 in
theorem k_714 : Cond.code yX6_again cX6_again 1 (some .int) ∈ tb := mt 714 rfl rfl
theorem k_1151 : Cond.methodLink RL 88 yX7_enough ∈ tb := mt 1151 (by decide +kernel) rfl
theorem k_1152 : Cond.instanceMethod yX7_enough ∈ tb := mt 1152 (by decide +kernel) rfl
theorem k_1153 : Cond.selects RX7 yX7_enough yX7_enough ∈ tb := mt 1153 (by decide +kernel) rfl
set_option maxRecDepth 20000 in
theorem k_1154 : Cond.code yX7_enough cX7_enough 4 (some .int) ∈ tb := mt 1154 rfl rfl
theorem k_1155 : Cond.methodLink RL 92 yX7_price ∈ tb := mt 1155 (by decide +kernel) rfl
theorem k_1156 : Cond.instanceMethod yX7_price ∈ tb := mt 1156 (by decide +kernel) rfl
theorem k_1157 : Cond.selects RX7 yX7_price yX7_price ∈ tb := mt 1157 (by decide +kernel) rfl
set_option maxRecDepth 20000 in
theorem k_1158 : Cond.code yX7_price cX7_price 4 (some .int) ∈ tb := mt 1158 rfl rfl
theorem k_1159 : Cond.methodLink RL 96 yX7_cheapest ∈ tb := mt 1159 (by decide +kernel) rfl
theorem k_1160 : Cond.instanceMethod yX7_cheapest ∈ tb := mt 1160 (by decide +kernel) rfl
theorem k_1161 : Cond.selects RX7 yX7_cheapest yX7_cheapest ∈ tb := mt 1161 (by decide +kernel) rfl
set_option maxRecDepth 20000 in
theorem k_1162 : Cond.code yX7_cheapest cX7_cheapest 10 (some .int) ∈ tb := mt 1162 rfl rfl
theorem k_1174 : Cond.methodLink RL 100 yX7_again ∈ tb := mt 1174 (by decide +kernel) rfl
theorem k_1175 : Cond.instanceMethod yX7_again ∈ tb := mt 1175 (by decide +kernel) rfl
theorem k_1176 : Cond.selects RX7 yX7_again yX7_again ∈ tb := mt 1176 (by decide +kernel) rfl
set_option maxRecDepth 20000 in
theorem k_1177 : Cond.code yX7_again cX7_again 3 (some .int) ∈ tb := mt 1177 rfl rfl
theorem dL_law_678 : decode cL_law 678 = .ok (.aload_n 1, 1) := by decide +kernel
theorem dL_law_679 : decode cL_law 679 = .ok (.invokevirtual 85, 3) := by decide +kernel
theorem dL_law_682 : decode cL_law 682 = .ok (.pop, 1) := by decide +kernel
theorem dL_law_683 : decode cL_law 683 = .ok (.aload_n 2, 1) := by decide +kernel
theorem dL_law_684 : decode cL_law 684 = .ok (.invokevirtual 88, 3) := by decide +kernel
theorem dL_law_687 : decode cL_law 687 = .ok (.pop, 1) := by decide +kernel
theorem dL_law_688 : decode cL_law 688 = .ok (.goto 141, 3) := by decide +kernel
theorem dL_law_691 : decode cL_law 691 = .ok (.aload_n 1, 1) := by decide +kernel
theorem dL_law_692 : decode cL_law 692 = .ok (.aload_n 0, 1) := by decide +kernel
theorem dL_law_693 : decode cL_law 693 = .ok (.iload_n 3, 1) := by decide +kernel
theorem dL_law_694 : decode cL_law 694 = .ok (.iconst 1, 1) := by decide +kernel
theorem dL_law_695 : decode cL_law 695 = .ok (.iadd, 1) := by decide +kernel
theorem dL_law_696 : decode cL_law 696 = .ok (.iaload, 1) := by decide +kernel
theorem dL_law_697 : decode cL_law 697 = .ok (.aload_n 0, 1) := by decide +kernel
theorem dL_law_698 : decode cL_law 698 = .ok (.iload_n 3, 1) := by decide +kernel
theorem dL_law_699 : decode cL_law 699 = .ok (.iconst 2, 1) := by decide +kernel
theorem dL_law_700 : decode cL_law 700 = .ok (.iadd, 1) := by decide +kernel
theorem dL_law_701 : decode cL_law 701 = .ok (.iaload, 1) := by decide +kernel
theorem dL_law_702 : decode cL_law 702 = .ok (.invokevirtual 89, 3) := by decide +kernel
theorem dL_law_705 : decode cL_law 705 = .ok (.aload_n 2, 1) := by decide +kernel
theorem dL_law_706 : decode cL_law 706 = .ok (.aload_n 0, 1) := by decide +kernel
theorem dL_law_707 : decode cL_law 707 = .ok (.iload_n 3, 1) := by decide +kernel
theorem dL_law_708 : decode cL_law 708 = .ok (.iconst 1, 1) := by decide +kernel
theorem dL_law_709 : decode cL_law 709 = .ok (.iadd, 1) := by decide +kernel
theorem dL_law_710 : decode cL_law 710 = .ok (.iaload, 1) := by decide +kernel
theorem dL_law_711 : decode cL_law 711 = .ok (.aload_n 0, 1) := by decide +kernel
theorem dL_law_712 : decode cL_law 712 = .ok (.iload_n 3, 1) := by decide +kernel
theorem dL_law_713 : decode cL_law 713 = .ok (.iconst 2, 1) := by decide +kernel
theorem dL_law_714 : decode cL_law 714 = .ok (.iadd, 1) := by decide +kernel
theorem dL_law_715 : decode cL_law 715 = .ok (.iaload, 1) := by decide +kernel
theorem dL_law_716 : decode cL_law 716 = .ok (.invokevirtual 92, 3) := by decide +kernel
theorem dL_law_719 : decode cL_law 719 = .ok (.if_icmp .eq 110, 3) := by decide +kernel
theorem dL_law_724 : decode cL_law 724 = .ok (.aload_n 1, 1) := by decide +kernel
theorem dL_law_725 : decode cL_law 725 = .ok (.aload_n 0, 1) := by decide +kernel
theorem dL_law_726 : decode cL_law 726 = .ok (.iload_n 3, 1) := by decide +kernel
theorem dL_law_727 : decode cL_law 727 = .ok (.iconst 1, 1) := by decide +kernel
theorem dL_law_728 : decode cL_law 728 = .ok (.iadd, 1) := by decide +kernel
theorem dL_law_729 : decode cL_law 729 = .ok (.iaload, 1) := by decide +kernel
theorem dL_law_730 : decode cL_law 730 = .ok (.invokevirtual 93, 3) := by decide +kernel
theorem dL_law_733 : decode cL_law 733 = .ok (.pop, 1) := by decide +kernel
theorem dL_law_734 : decode cL_law 734 = .ok (.aload_n 2, 1) := by decide +kernel
theorem dL_law_735 : decode cL_law 735 = .ok (.aload_n 0, 1) := by decide +kernel
theorem dL_law_736 : decode cL_law 736 = .ok (.iload_n 3, 1) := by decide +kernel
theorem dL_law_737 : decode cL_law 737 = .ok (.iconst 1, 1) := by decide +kernel
theorem dL_law_738 : decode cL_law 738 = .ok (.iadd, 1) := by decide +kernel
theorem dL_law_739 : decode cL_law 739 = .ok (.iaload, 1) := by decide +kernel
theorem dL_law_740 : decode cL_law 740 = .ok (.invokevirtual 96, 3) := by decide +kernel
theorem dL_law_743 : decode cL_law 743 = .ok (.pop, 1) := by decide +kernel
theorem dL_law_744 : decode cL_law 744 = .ok (.goto 85, 3) := by decide +kernel
theorem dL_law_747 : decode cL_law 747 = .ok (.aload_n 1, 1) := by decide +kernel
theorem dL_law_748 : decode cL_law 748 = .ok (.invokevirtual 97, 3) := by decide +kernel
theorem dL_law_751 : decode cL_law 751 = .ok (.pop, 1) := by decide +kernel
theorem dL_law_752 : decode cL_law 752 = .ok (.aload_n 2, 1) := by decide +kernel
theorem dL_law_753 : decode cL_law 753 = .ok (.invokevirtual 100, 3) := by decide +kernel
theorem dL_law_756 : decode cL_law 756 = .ok (.pop, 1) := by decide +kernel
theorem dL_law_757 : decode cL_law 757 = .ok (.goto 72, 3) := by decide +kernel
set_option maxHeartbeats 4000000 in
set_option maxRecDepth 100000 in
/-- enough -/
theorem law_16 {p : Program} {l : Launch} {e : Env} {s : State} {m : MethodId} {below : List Frame} {meth : Method} {c : Code} {D : va_G} {cI cZ cS cR : ClassId} {N0 : NT} {b L : Nat} {xs : Nat → Int32} (hB : Tz p s m meth c #[Value.ref b] code 4 RL D cI cZ cS cR N0) (hAs : N0.1 = s.heap.size) (hX : va_X b L xs s s.heap) (hbl : b < s.heap.size) (hL : L ≤ 2560) (hr : meth.sig.returnType = ret) {cells slots : Nat} (hcl : cells + 4 ≤ 600000) (hsl : slots + 28 ≤ 7302250) {H : Heap} {locs : List Loc} {ls : Array Slot} (g : GS) (ox om : Nat) (pa : Nat) (pb : Nat) (i o1 : Int32) (hT : Tv D cI cZ cS cR N0 s.heap H locs g) (hI : Inv g) (l_i : 0 ≤ i.toInt) (u_i : i.toInt + 5 ≤ L) : g.1 ox = 7 → g.1 om = 8 → g.2.1 om 22 = .int o1 → 0 ≤ o1.toInt → o1.toInt ≤ 12 * i.toInt → PX 48 2 3 71 72 g om → PX 8 39 40 84 85 g om → g.2.1 ox 5 = .ref pa → g.2.1 om 35 = .ref pb → g.1 pa = 60 → g.1 pb = 83 → g.2.2.1 pa = 4 → g.2.2.1 pb = 4 → QE g pa pb → (hl : lv_has ls 4 [(3, .int i), (2, .ref om), (1, .ref ox), (0, .ref b)]) → (K : ∀ (g1 : GS) (o1_1 : Int32) (H1 : Heap) (locs1 : List Loc), Tv D cI cZ cS cR N0 s.heap H1 locs1 g1 → Inv g1 → g1.1 ox = 7 → g1.1 om = 8 → g1.2.1 om 22 = .int o1_1 → 0 ≤ o1_1.toInt → o1_1.toInt ≤ 12 * i.toInt + 60 → PX 48 2 3 71 72 g1 om → PX 8 39 40 84 85 g1 om → g1.2.1 ox 5 = .ref pa → g1.2.1 om 35 = .ref pb → g1.1 pa = 60 → g1.1 pb = 83 → g1.2.2.1 pa = 4 → g1.2.2.1 pb = 4 → QE g1 pa pb → W p l e room_1 s m #[Value.ref b] below meth c H1 locs1 (cells + 4) (slots + 28) (lw_Z below #[Value.ref b] s) (F0 m 829 ls [])) → W p l e room_1 s m #[Value.ref b] below meth c H locs cells slots (lw_Z below #[Value.ref b] s) (F0 m 678 ls []) := by
  intro r_ox r_om ko l_o u_o hw hN0 k5 k35 r_pa r_pb n_pa n_pb hq hl K
  have hx := hB.1
  have hb := hB.2.1
  have hE : Ex g g := Ex.rf
  have hM : Sm mdA g g := sm_all
  refine lv_aload_n hx hb dL_law_678 rfl (lv_at hl 2 rfl) ?_
  refine t_callV (n := 0) (As := []) (rest := []) (ci := 6) hB hT hl.1 (P_enough l D cI cZ cS cR N0 g hI ox r_ox) (ro_ci r_ox rfl) rfl k_668 k_57 k_665 k_666 k_667 (by decide +kernel) ⟨(Nat.le_of_ble_eq_true rfl), (Nat.le_of_ble_eq_true rfl)⟩ rfl (Nat.le_of_ble_eq_true rfl) ⟨(by show _ ≤ _; first | exact Nat.le_of_ble_eq_true rfl | (simp only [room_1]; omega)), (by show _ ≤ _; first | exact Nat.le_of_ble_eq_true rfl | (simp only [room_1]; omega))⟩ dL_law_679 (fun v g_1 H locs hp hT => ?_)
  obtain ⟨r_2, rfl, hI, x_4, m_3⟩ := hp
  have hw : PX 48 2 3 71 72 g_1 om := hw.mono m_3 x_4 r_om (by decide) (by decide) rfl rfl rfl rfl
  have hN0 : PX 8 39 40 84 85 g_1 om := hN0.mono m_3 x_4 r_om (by decide) (by decide) rfl rfl rfl rfl
  have hq : QE g_1 pa pb := hq.sm m_3 r_pa (by decide) rfl r_pb (by decide) rfl
  have hM : Sm mdA g g_1 := sm_all
  have hE : Ex g g_1 := hE.tr x_4
  have r_5 : g_1.1 ox = 7 := (Ex.r x_4 r_ox (by decide))
  have r_6 : g_1.1 om = 8 := (Ex.r x_4 r_om (by decide))
  have r_7 : g_1.1 pa = 60 := (Ex.r x_4 r_pa (by decide))
  have r_8 : g_1.1 pb = 83 := (Ex.r x_4 r_pb (by decide))
  have n_9 : g_1.2.2.1 pa = 4 := (Ex.n x_4 r_pa (by decide) n_pa)
  have n_10 : g_1.2.2.1 pb = 4 := (Ex.n x_4 r_pb (by decide) n_pb)
  have kn_11 : g_1.2.1 om 22 = .int o1 := (Sm.v m_3 r_om (by decide) rfl ko)
  have kn_12 : g_1.2.1 ox 5 = .ref pa := (Sm.v m_3 r_ox (by decide) rfl k5)
  have kn_13 : g_1.2.1 om 35 = .ref pb := (Sm.v m_3 r_om (by decide) rfl k35)
  refine W.eq (g2 := F0 m 682 ls [.int r_2]) rfl ?_
  refine lv_pop hx hb dL_law_682 rfl ?_
  refine lv_aload_n hx hb dL_law_683 rfl (lv_at hl 1 rfl) ?_
  refine t_callV (n := 0) (As := []) (rest := []) (ci := 7) hB hT hl.1 (m_enough l D cI cZ cS cR N0 g_1 hI om r_6 hw) (ro_ci r_6 rfl) rfl k_1154 k_65 k_1151 k_1152 k_1153 (by decide +kernel) ⟨(Nat.le_of_ble_eq_true rfl), (Nat.le_of_ble_eq_true rfl)⟩ rfl (Nat.le_of_ble_eq_true rfl) ⟨(by show _ ≤ _; first | exact Nat.le_of_ble_eq_true rfl | (simp only [room_1]; omega)), (by show _ ≤ _; first | exact Nat.le_of_ble_eq_true rfl | (simp only [room_1]; omega))⟩ dL_law_684 (fun v g_14 H locs hp hT => ?_)
  obtain ⟨r_15, rfl, hI, x_17, m_16⟩ := hp
  have hw : PX 48 2 3 71 72 g_14 om := hw.mono m_16 x_17 r_6 (by decide) (by decide) rfl rfl rfl rfl
  have hN0 : PX 8 39 40 84 85 g_14 om := hN0.mono m_16 x_17 r_6 (by decide) (by decide) rfl rfl rfl rfl
  have hq : QE g_14 pa pb := hq.sm m_16 r_7 (by decide) rfl r_8 (by decide) rfl
  have hM : Sm mdA g g_14 := sm_all
  have hE : Ex g g_14 := hE.tr x_17
  have r_18 : g_14.1 ox = 7 := (Ex.r x_17 r_5 (by decide))
  have r_19 : g_14.1 om = 8 := (Ex.r x_17 r_6 (by decide))
  have r_20 : g_14.1 pa = 60 := (Ex.r x_17 r_7 (by decide))
  have r_21 : g_14.1 pb = 83 := (Ex.r x_17 r_8 (by decide))
  have n_22 : g_14.2.2.1 pa = 4 := (Ex.n x_17 r_7 (by decide) n_9)
  have n_23 : g_14.2.2.1 pb = 4 := (Ex.n x_17 r_8 (by decide) n_10)
  have kn_24 : g_14.2.1 om 22 = .int o1 := (Sm.v m_16 r_6 (by decide) rfl kn_11)
  have kn_25 : g_14.2.1 ox 5 = .ref pa := (Sm.v m_16 r_5 (by decide) rfl kn_12)
  have kn_26 : g_14.2.1 om 35 = .ref pb := (Sm.v m_16 r_6 (by decide) rfl kn_13)
  refine W.eq (g2 := F0 m 687 ls [.int r_15]) rfl ?_
  refine lv_pop hx hb dL_law_687 rfl ?_
  refine lv_goto (tgt := 829) hx hb dL_law_688 (by decide) ?_
  refine W.widen (k := cells + 4) (n := slots + 28) (by omega) (by omega) ?_
  exact K g_14 o1 H locs hT hI r_18 r_19 kn_24 (by have e0_ : (0 : Int32).toInt = 0 := (by decide); omega) (by have e0_ : (0 : Int32).toInt = 0 := (by decide); omega) hw hN0 kn_25 kn_26 r_20 r_21 n_22 n_23 hq
set_option maxHeartbeats 4000000 in
set_option maxRecDepth 100000 in
/-- price -/
theorem law_17 {p : Program} {l : Launch} {e : Env} {s : State} {m : MethodId} {below : List Frame} {meth : Method} {c : Code} {D : va_G} {cI cZ cS cR : ClassId} {N0 : NT} {b L : Nat} {xs : Nat → Int32} (hB : Tz p s m meth c #[Value.ref b] code 4 RL D cI cZ cS cR N0) (hAs : N0.1 = s.heap.size) (hX : va_X b L xs s s.heap) (hbl : b < s.heap.size) (hL : L ≤ 2560) (hr : meth.sig.returnType = ret) {cells slots : Nat} (hcl : cells + 4 ≤ 600000) (hsl : slots + 28 ≤ 7302250) {H : Heap} {locs : List Loc} {ls : Array Slot} (g : GS) (ox om : Nat) (pa : Nat) (pb : Nat) (i o1 : Int32) (hT : Tv D cI cZ cS cR N0 s.heap H locs g) (hI : Inv g) (l_i : 0 ≤ i.toInt) (u_i : i.toInt + 5 ≤ L) : g.1 ox = 7 → g.1 om = 8 → g.2.1 om 22 = .int o1 → 0 ≤ o1.toInt → o1.toInt ≤ 12 * i.toInt → PX 48 2 3 71 72 g om → PX 8 39 40 84 85 g om → g.2.1 ox 5 = .ref pa → g.2.1 om 35 = .ref pb → g.1 pa = 60 → g.1 pb = 83 → g.2.2.1 pa = 4 → g.2.2.1 pb = 4 → QE g pa pb → (hl : lv_has ls 4 [(3, .int i), (2, .ref om), (1, .ref ox), (0, .ref b)]) → (K : ∀ (g1 : GS) (o1_1 : Int32) (H1 : Heap) (locs1 : List Loc), Tv D cI cZ cS cR N0 s.heap H1 locs1 g1 → Inv g1 → g1.1 ox = 7 → g1.1 om = 8 → g1.2.1 om 22 = .int o1_1 → 0 ≤ o1_1.toInt → o1_1.toInt ≤ 12 * i.toInt + 60 → PX 48 2 3 71 72 g1 om → PX 8 39 40 84 85 g1 om → g1.2.1 ox 5 = .ref pa → g1.2.1 om 35 = .ref pb → g1.1 pa = 60 → g1.1 pb = 83 → g1.2.2.1 pa = 4 → g1.2.2.1 pb = 4 → QE g1 pa pb → W p l e room_1 s m #[Value.ref b] below meth c H1 locs1 (cells + 4) (slots + 28) (lw_Z below #[Value.ref b] s) (F0 m 829 ls [])) → W p l e room_1 s m #[Value.ref b] below meth c H locs cells slots (lw_Z below #[Value.ref b] s) (F0 m 691 ls []) := by
  intro r_ox r_om ko l_o u_o hw hN0 k5 k35 r_pa r_pb n_pa n_pb hq hl K
  have hx := hB.1
  have hb := hB.2.1
  have hE : Ex g g := Ex.rf
  have hM : Sm mdA g g := sm_all
  refine lv_aload_n hx hb dL_law_691 rfl (lv_at hl 2 rfl) ?_
  refine lv_aload_n hx hb dL_law_692 rfl (lv_at hl 3 rfl) ?_
  refine lv_iload_n hx hb dL_law_693 rfl (lv_at hl 0 rfl) ?_
  refine lv_iconst (v := 1) hx hb dL_law_694 (by decide) ?_
  refine lv_iadd hx hb dL_law_695 ?_
  refine lv_topi (fun z_1 ez_1 => ?_)
  have e_z_1 : z_1.toInt = i.toInt + 1 := i_add ez_1 rfl (by decide) (by omega) (by omega)
  refine va_sld hx hb hX hbl (fun q => by have q_ : N0.1 ≤ b := q; omega) hT.2 (i_in (n := L) rfl (by omega) (by omega)) dL_law_696 ?_
  refine lv_topi (fun u_2 e_u_2 => ?_)
  refine lv_aload_n hx hb dL_law_697 rfl (lv_at hl 3 rfl) ?_
  refine lv_iload_n hx hb dL_law_698 rfl (lv_at hl 0 rfl) ?_
  refine lv_iconst (v := 2) hx hb dL_law_699 (by decide) ?_
  refine lv_iadd hx hb dL_law_700 ?_
  refine lv_topi (fun z_3 ez_3 => ?_)
  have e_z_3 : z_3.toInt = i.toInt + 2 := i_add ez_3 rfl (by decide) (by omega) (by omega)
  refine va_sld hx hb hX hbl (fun q => by have q_ : N0.1 ≤ b := q; omega) hT.2 (i_in (n := L) rfl (by omega) (by omega)) dL_law_701 ?_
  refine lv_topi (fun u_4 e_u_4 => ?_)
  refine t_callV (n := 2) (As := [.int u_2, .int u_4]) (rest := []) (ci := 6) hB hT hl.1 (P_price l D cI cZ cS cR N0 g hI ox u_2 u_4 pa r_ox r_pa n_pa k5) (ro_ci r_ox rfl) rfl k_676 k_57 k_673 k_674 k_675 (by decide +kernel) ⟨(Nat.le_of_ble_eq_true rfl), (Nat.le_of_ble_eq_true rfl)⟩ rfl (Nat.le_of_ble_eq_true rfl) ⟨(by show _ ≤ _; first | exact Nat.le_of_ble_eq_true rfl | (simp only [room_1]; omega)), (by show _ ≤ _; first | exact Nat.le_of_ble_eq_true rfl | (simp only [room_1]; omega))⟩ dL_law_702 (fun v g_5 H locs hp hT => ?_)
  obtain ⟨r_6, rfl, hI, x_10, m_9, f_7, f_8⟩ := hp
  have hw : PX 48 2 3 71 72 g_5 om := hw.mono m_9 x_10 r_om (by decide) (by decide) rfl rfl rfl rfl
  have hN0 : PX 8 39 40 84 85 g_5 om := hN0.mono m_9 x_10 r_om (by decide) (by decide) rfl rfl rfl rfl
  have hM : Sm mdA g g_5 := sm_all
  have hE : Ex g g_5 := hE.tr x_10
  have r_11 : g_5.1 ox = 7 := (Ex.r x_10 r_ox (by decide))
  have r_12 : g_5.1 om = 8 := (Ex.r x_10 r_om (by decide))
  have r_13 : g_5.1 pa = 60 := (Ex.r x_10 r_pa (by decide))
  have r_14 : g_5.1 pb = 83 := (Ex.r x_10 r_pb (by decide))
  have n_15 : g_5.2.2.1 pa = 4 := (Ex.n x_10 r_pa (by decide) n_pa)
  have n_16 : g_5.2.2.1 pb = 4 := (Ex.n x_10 r_pb (by decide) n_pb)
  have kn_17 : g_5.2.1 om 22 = .int o1 := (Sm.v m_9 r_om (by decide) rfl ko)
  have kn_18 : g_5.2.1 ox 5 = .ref pa := (Sm.v m_9 r_ox (by decide) rfl k5)
  have kn_19 : g_5.2.1 om 35 = .ref pb := (Sm.v m_9 r_om (by decide) rfl k35)
  refine W.eq (g2 := F0 m 705 ls [.int r_6]) rfl ?_
  refine lv_aload_n hx hb dL_law_705 rfl (lv_at hl 1 rfl) ?_
  refine lv_aload_n hx hb dL_law_706 rfl (lv_at hl 3 rfl) ?_
  refine lv_iload_n hx hb dL_law_707 rfl (lv_at hl 0 rfl) ?_
  refine lv_iconst (v := 1) hx hb dL_law_708 (by decide) ?_
  refine lv_iadd hx hb dL_law_709 ?_
  refine lv_topi (fun z_20 ez_20 => ?_)
  have e_z_20 : z_20.toInt = i.toInt + 1 := i_add ez_20 rfl (by decide) (by omega) (by omega)
  refine va_sld hx hb hX hbl (fun q => by have q_ : N0.1 ≤ b := q; omega) hT.2 (i_in (n := L) rfl (by omega) (by omega)) dL_law_710 ?_
  refine lv_topi (fun u_21 e_u_21 => ?_)
  refine lv_aload_n hx hb dL_law_711 rfl (lv_at hl 3 rfl) ?_
  refine lv_iload_n hx hb dL_law_712 rfl (lv_at hl 0 rfl) ?_
  refine lv_iconst (v := 2) hx hb dL_law_713 (by decide) ?_
  refine lv_iadd hx hb dL_law_714 ?_
  refine lv_topi (fun z_22 ez_22 => ?_)
  have e_z_22 : z_22.toInt = i.toInt + 2 := i_add ez_22 rfl (by decide) (by omega) (by omega)
  refine va_sld hx hb hX hbl (fun q => by have q_ : N0.1 ≤ b := q; omega) hT.2 (i_in (n := L) rfl (by omega) (by omega)) dL_law_715 ?_
  refine lv_topi (fun u_23 e_u_23 => ?_)
  refine t_callV (n := 2) (As := [.int u_21, .int u_23]) (rest := [.int r_6]) (ci := 7) hB hT hl.1 (m_price l D cI cZ cS cR N0 g_5 hI om u_21 u_23 pb r_12 r_14 n_16 kn_19) (ro_ci r_12 rfl) rfl k_1158 k_65 k_1155 k_1156 k_1157 (by decide +kernel) ⟨(Nat.le_of_ble_eq_true rfl), (Nat.le_of_ble_eq_true rfl)⟩ rfl (Nat.le_of_ble_eq_true rfl) ⟨(by show _ ≤ _; first | exact Nat.le_of_ble_eq_true rfl | (simp only [room_1]; omega)), (by show _ ≤ _; first | exact Nat.le_of_ble_eq_true rfl | (simp only [room_1]; omega))⟩ dL_law_716 (fun v g_24 H locs hp hT => ?_)
  obtain ⟨r_25, rfl, hI, x_29, m_28, f_26, f_27⟩ := hp
  have hw : PX 48 2 3 71 72 g_24 om := hw.mono m_28 x_29 r_12 (by decide) (by decide) rfl rfl rfl rfl
  have hN0 : PX 8 39 40 84 85 g_24 om := hN0.mono m_28 x_29 r_12 (by decide) (by decide) rfl rfl rfl rfl
  have hM : Sm mdA g g_24 := sm_all
  have hE : Ex g g_24 := hE.tr x_29
  have r_30 : g_24.1 ox = 7 := (Ex.r x_29 r_11 (by decide))
  have r_31 : g_24.1 om = 8 := (Ex.r x_29 r_12 (by decide))
  have r_32 : g_24.1 pa = 60 := (Ex.r x_29 r_13 (by decide))
  have r_33 : g_24.1 pb = 83 := (Ex.r x_29 r_14 (by decide))
  have n_34 : g_24.2.2.1 pa = 4 := (Ex.n x_29 r_13 (by decide) n_15)
  have n_35 : g_24.2.2.1 pb = 4 := (Ex.n x_29 r_14 (by decide) n_16)
  have kn_36 : g_24.2.1 om 22 = .int o1 := (Sm.v m_28 r_12 (by decide) rfl kn_17)
  have kn_37 : g_24.2.1 ox 5 = .ref pa := (Sm.v m_28 r_11 (by decide) rfl kn_18)
  have kn_38 : g_24.2.1 om 35 = .ref pb := (Sm.v m_28 r_12 (by decide) rfl kn_19)
  refine W.eq (g2 := F0 m 719 ls [.int r_25, .int r_6]) rfl ?_
  have eq_u_21 : u_21 = u_2 := e_u_21.trans ((congrArg xs (i_nt (by omega))).trans e_u_2.symm)
  have eqi_u_21 : u_21.toInt = u_2.toInt := congrArg Int32.toInt eq_u_21
  have eq_u_23 : u_23 = u_4 := e_u_23.trans ((congrArg xs (i_nt (by omega))).trans e_u_4.symm)
  have eqi_u_23 : u_23.toInt = u_4.toInt := congrArg Int32.toInt eq_u_23
  have hcb := Sm.cf m_9 r_pb (by decide) rfl
  have hca := Sm.cf m_28 r_13 (by decide) rfl
  rw [hcb] at f_26 f_27
  have hrr := prR_eq eq_u_21 eq_u_23 hq
  have hq : QE g_24 pa pb := fun i_ hi_ => by rw [f_27 i_, hca, f_8 i_]; exact prC_eq eq_u_21 eq_u_23 hq i_ hi_
  refine lv_icmp_eq (tgt := 829) hx hb dL_law_719 (by decide) (fun c_ => ?_) (fun c_ => absurd (f_7.trans (hrr.trans f_26.symm)) c_)
  refine W.widen (k := cells + 4) (n := slots + 28) (by omega) (by omega) ?_
  exact K g_24 o1 H locs hT hI r_30 r_31 kn_36 (by have e0_ : (0 : Int32).toInt = 0 := (by decide); omega) (by have e0_ : (0 : Int32).toInt = 0 := (by decide); omega) hw hN0 kn_37 kn_38 r_32 r_33 n_34 n_35 hq
set_option maxHeartbeats 4000000 in
set_option maxRecDepth 100000 in
/-- cheapest -/
theorem law_18 {p : Program} {l : Launch} {e : Env} {s : State} {m : MethodId} {below : List Frame} {meth : Method} {c : Code} {D : va_G} {cI cZ cS cR : ClassId} {N0 : NT} {b L : Nat} {xs : Nat → Int32} (hB : Tz p s m meth c #[Value.ref b] code 4 RL D cI cZ cS cR N0) (hAs : N0.1 = s.heap.size) (hX : va_X b L xs s s.heap) (hbl : b < s.heap.size) (hL : L ≤ 2560) (hr : meth.sig.returnType = ret) {cells slots : Nat} (hcl : cells + 4 ≤ 600000) (hsl : slots + 28 ≤ 7302250) {H : Heap} {locs : List Loc} {ls : Array Slot} (g : GS) (ox om : Nat) (pa : Nat) (pb : Nat) (i o1 : Int32) (hT : Tv D cI cZ cS cR N0 s.heap H locs g) (hI : Inv g) (l_i : 0 ≤ i.toInt) (u_i : i.toInt + 5 ≤ L) : g.1 ox = 7 → g.1 om = 8 → g.2.1 om 22 = .int o1 → 0 ≤ o1.toInt → o1.toInt ≤ 12 * i.toInt → PX 48 2 3 71 72 g om → PX 8 39 40 84 85 g om → g.2.1 ox 5 = .ref pa → g.2.1 om 35 = .ref pb → g.1 pa = 60 → g.1 pb = 83 → g.2.2.1 pa = 4 → g.2.2.1 pb = 4 → QE g pa pb → (hl : lv_has ls 4 [(3, .int i), (2, .ref om), (1, .ref ox), (0, .ref b)]) → (K : ∀ (g1 : GS) (o1_1 : Int32) (H1 : Heap) (locs1 : List Loc), Tv D cI cZ cS cR N0 s.heap H1 locs1 g1 → Inv g1 → g1.1 ox = 7 → g1.1 om = 8 → g1.2.1 om 22 = .int o1_1 → 0 ≤ o1_1.toInt → o1_1.toInt ≤ 12 * i.toInt + 60 → PX 48 2 3 71 72 g1 om → PX 8 39 40 84 85 g1 om → g1.2.1 ox 5 = .ref pa → g1.2.1 om 35 = .ref pb → g1.1 pa = 60 → g1.1 pb = 83 → g1.2.2.1 pa = 4 → g1.2.2.1 pb = 4 → QE g1 pa pb → W p l e room_1 s m #[Value.ref b] below meth c H1 locs1 (cells + 4) (slots + 28) (lw_Z below #[Value.ref b] s) (F0 m 829 ls [])) → W p l e room_1 s m #[Value.ref b] below meth c H locs cells slots (lw_Z below #[Value.ref b] s) (F0 m 724 ls []) := by
  intro r_ox r_om ko l_o u_o hw hN0 k5 k35 r_pa r_pb n_pa n_pb hq hl K
  have hx := hB.1
  have hb := hB.2.1
  have hE : Ex g g := Ex.rf
  have hM : Sm mdA g g := sm_all
  refine lv_aload_n hx hb dL_law_724 rfl (lv_at hl 2 rfl) ?_
  refine lv_aload_n hx hb dL_law_725 rfl (lv_at hl 3 rfl) ?_
  refine lv_iload_n hx hb dL_law_726 rfl (lv_at hl 0 rfl) ?_
  refine lv_iconst (v := 1) hx hb dL_law_727 (by decide) ?_
  refine lv_iadd hx hb dL_law_728 ?_
  refine lv_topi (fun z_1 ez_1 => ?_)
  have e_z_1 : z_1.toInt = i.toInt + 1 := i_add ez_1 rfl (by decide) (by omega) (by omega)
  refine va_sld hx hb hX hbl (fun q => by have q_ : N0.1 ≤ b := q; omega) hT.2 (i_in (n := L) rfl (by omega) (by omega)) dL_law_729 ?_
  refine lv_topi (fun u_2 e_u_2 => ?_)
  refine t_callV (n := 1) (As := [.int u_2]) (rest := []) (ci := 6) hB hT hl.1 (P_cheapest l D cI cZ cS cR N0 g hI ox u_2 r_ox) (ro_ci r_ox rfl) rfl k_680 k_57 k_677 k_678 k_679 (by decide +kernel) ⟨(Nat.le_of_ble_eq_true rfl), (Nat.le_of_ble_eq_true rfl)⟩ rfl (Nat.le_of_ble_eq_true rfl) ⟨(by show _ ≤ _; first | exact Nat.le_of_ble_eq_true rfl | (simp only [room_1]; omega)), (by show _ ≤ _; first | exact Nat.le_of_ble_eq_true rfl | (simp only [room_1]; omega))⟩ dL_law_730 (fun v g_3 H locs hp hT => ?_)
  obtain ⟨r_4, rfl, hI, x_6, m_5⟩ := hp
  have hw : PX 48 2 3 71 72 g_3 om := hw.mono m_5 x_6 r_om (by decide) (by decide) rfl rfl rfl rfl
  have hN0 : PX 8 39 40 84 85 g_3 om := hN0.mono m_5 x_6 r_om (by decide) (by decide) rfl rfl rfl rfl
  have hq : QE g_3 pa pb := hq.sm m_5 r_pa (by decide) rfl r_pb (by decide) rfl
  have hM : Sm mdA g g_3 := sm_all
  have hE : Ex g g_3 := hE.tr x_6
  have r_7 : g_3.1 ox = 7 := (Ex.r x_6 r_ox (by decide))
  have r_8 : g_3.1 om = 8 := (Ex.r x_6 r_om (by decide))
  have r_9 : g_3.1 pa = 60 := (Ex.r x_6 r_pa (by decide))
  have r_10 : g_3.1 pb = 83 := (Ex.r x_6 r_pb (by decide))
  have n_11 : g_3.2.2.1 pa = 4 := (Ex.n x_6 r_pa (by decide) n_pa)
  have n_12 : g_3.2.2.1 pb = 4 := (Ex.n x_6 r_pb (by decide) n_pb)
  have kn_13 : g_3.2.1 om 22 = .int o1 := (Sm.v m_5 r_om (by decide) rfl ko)
  have kn_14 : g_3.2.1 ox 5 = .ref pa := (Sm.v m_5 r_ox (by decide) rfl k5)
  have kn_15 : g_3.2.1 om 35 = .ref pb := (Sm.v m_5 r_om (by decide) rfl k35)
  refine W.eq (g2 := F0 m 733 ls [.int r_4]) rfl ?_
  refine lv_pop hx hb dL_law_733 rfl ?_
  refine lv_aload_n hx hb dL_law_734 rfl (lv_at hl 1 rfl) ?_
  refine lv_aload_n hx hb dL_law_735 rfl (lv_at hl 3 rfl) ?_
  refine lv_iload_n hx hb dL_law_736 rfl (lv_at hl 0 rfl) ?_
  refine lv_iconst (v := 1) hx hb dL_law_737 (by decide) ?_
  refine lv_iadd hx hb dL_law_738 ?_
  refine lv_topi (fun z_16 ez_16 => ?_)
  have e_z_16 : z_16.toInt = i.toInt + 1 := i_add ez_16 rfl (by decide) (by omega) (by omega)
  refine va_sld hx hb hX hbl (fun q => by have q_ : N0.1 ≤ b := q; omega) hT.2 (i_in (n := L) rfl (by omega) (by omega)) dL_law_739 ?_
  refine lv_topi (fun u_17 e_u_17 => ?_)
  refine t_callV (n := 1) (As := [.int u_17]) (rest := []) (ci := 7) hB hT hl.1 (m_cheapest l D cI cZ cS cR N0 g_3 hI om u_17 r_8 hw) (ro_ci r_8 rfl) rfl k_1162 k_65 k_1159 k_1160 k_1161 (by decide +kernel) ⟨(Nat.le_of_ble_eq_true rfl), (Nat.le_of_ble_eq_true rfl)⟩ rfl (Nat.le_of_ble_eq_true rfl) ⟨(by show _ ≤ _; first | exact Nat.le_of_ble_eq_true rfl | (simp only [room_1]; omega)), (by show _ ≤ _; first | exact Nat.le_of_ble_eq_true rfl | (simp only [room_1]; omega))⟩ dL_law_740 (fun v g_18 H locs hp hT => ?_)
  obtain ⟨r_19, rfl, hI, x_21, m_20⟩ := hp
  have hw : PX 48 2 3 71 72 g_18 om := hw.mono m_20 x_21 r_8 (by decide) (by decide) rfl rfl rfl rfl
  have hN0 : PX 8 39 40 84 85 g_18 om := hN0.mono m_20 x_21 r_8 (by decide) (by decide) rfl rfl rfl rfl
  have hq : QE g_18 pa pb := hq.sm m_20 r_9 (by decide) rfl r_10 (by decide) rfl
  have hM : Sm mdA g g_18 := sm_all
  have hE : Ex g g_18 := hE.tr x_21
  have r_22 : g_18.1 ox = 7 := (Ex.r x_21 r_7 (by decide))
  have r_23 : g_18.1 om = 8 := (Ex.r x_21 r_8 (by decide))
  have r_24 : g_18.1 pa = 60 := (Ex.r x_21 r_9 (by decide))
  have r_25 : g_18.1 pb = 83 := (Ex.r x_21 r_10 (by decide))
  have n_26 : g_18.2.2.1 pa = 4 := (Ex.n x_21 r_9 (by decide) n_11)
  have n_27 : g_18.2.2.1 pb = 4 := (Ex.n x_21 r_10 (by decide) n_12)
  have kn_28 : g_18.2.1 om 22 = .int o1 := (Sm.v m_20 r_8 (by decide) rfl kn_13)
  have kn_29 : g_18.2.1 ox 5 = .ref pa := (Sm.v m_20 r_7 (by decide) rfl kn_14)
  have kn_30 : g_18.2.1 om 35 = .ref pb := (Sm.v m_20 r_8 (by decide) rfl kn_15)
  refine W.eq (g2 := F0 m 743 ls [.int r_19]) rfl ?_
  refine lv_pop hx hb dL_law_743 rfl ?_
  refine lv_goto (tgt := 829) hx hb dL_law_744 (by decide) ?_
  refine W.widen (k := cells + 4) (n := slots + 28) (by omega) (by omega) ?_
  exact K g_18 o1 H locs hT hI r_22 r_23 kn_28 (by have e0_ : (0 : Int32).toInt = 0 := (by decide); omega) (by have e0_ : (0 : Int32).toInt = 0 := (by decide); omega) hw hN0 kn_29 kn_30 r_24 r_25 n_26 n_27 hq
set_option maxHeartbeats 4000000 in
set_option maxRecDepth 100000 in
/-- again -/
theorem law_19 {p : Program} {l : Launch} {e : Env} {s : State} {m : MethodId} {below : List Frame} {meth : Method} {c : Code} {D : va_G} {cI cZ cS cR : ClassId} {N0 : NT} {b L : Nat} {xs : Nat → Int32} (hB : Tz p s m meth c #[Value.ref b] code 4 RL D cI cZ cS cR N0) (hAs : N0.1 = s.heap.size) (hX : va_X b L xs s s.heap) (hbl : b < s.heap.size) (hL : L ≤ 2560) (hr : meth.sig.returnType = ret) {cells slots : Nat} (hcl : cells + 4 ≤ 600000) (hsl : slots + 28 ≤ 7302250) {H : Heap} {locs : List Loc} {ls : Array Slot} (g : GS) (ox om : Nat) (pa : Nat) (pb : Nat) (i o1 : Int32) (hT : Tv D cI cZ cS cR N0 s.heap H locs g) (hI : Inv g) (l_i : 0 ≤ i.toInt) (u_i : i.toInt + 5 ≤ L) : g.1 ox = 7 → g.1 om = 8 → g.2.1 om 22 = .int o1 → 0 ≤ o1.toInt → o1.toInt ≤ 12 * i.toInt → PX 48 2 3 71 72 g om → PX 8 39 40 84 85 g om → g.2.1 ox 5 = .ref pa → g.2.1 om 35 = .ref pb → g.1 pa = 60 → g.1 pb = 83 → g.2.2.1 pa = 4 → g.2.2.1 pb = 4 → QE g pa pb → (hl : lv_has ls 4 [(3, .int i), (2, .ref om), (1, .ref ox), (0, .ref b)]) → (K : ∀ (g1 : GS) (o1_1 : Int32) (H1 : Heap) (locs1 : List Loc), Tv D cI cZ cS cR N0 s.heap H1 locs1 g1 → Inv g1 → g1.1 ox = 7 → g1.1 om = 8 → g1.2.1 om 22 = .int o1_1 → 0 ≤ o1_1.toInt → o1_1.toInt ≤ 12 * i.toInt + 60 → PX 48 2 3 71 72 g1 om → PX 8 39 40 84 85 g1 om → g1.2.1 ox 5 = .ref pa → g1.2.1 om 35 = .ref pb → g1.1 pa = 60 → g1.1 pb = 83 → g1.2.2.1 pa = 4 → g1.2.2.1 pb = 4 → QE g1 pa pb → W p l e room_1 s m #[Value.ref b] below meth c H1 locs1 (cells + 4) (slots + 28) (lw_Z below #[Value.ref b] s) (F0 m 829 ls [])) → W p l e room_1 s m #[Value.ref b] below meth c H locs cells slots (lw_Z below #[Value.ref b] s) (F0 m 747 ls []) := by
  intro r_ox r_om ko l_o u_o hw hN0 k5 k35 r_pa r_pb n_pa n_pb hq hl K
  have hx := hB.1
  have hb := hB.2.1
  have hE : Ex g g := Ex.rf
  have hM : Sm mdA g g := sm_all
  refine lv_aload_n hx hb dL_law_747 rfl (lv_at hl 2 rfl) ?_
  refine t_callV (n := 0) (As := []) (rest := []) (ci := 6) hB hT hl.1 (P_again l D cI cZ cS cR N0 g hI ox r_ox) (ro_ci r_ox rfl) rfl k_714 k_57 k_711 k_712 k_713 (by decide +kernel) ⟨(Nat.le_of_ble_eq_true rfl), (Nat.le_of_ble_eq_true rfl)⟩ rfl (Nat.le_of_ble_eq_true rfl) ⟨(by show _ ≤ _; first | exact Nat.le_of_ble_eq_true rfl | (simp only [room_1]; omega)), (by show _ ≤ _; first | exact Nat.le_of_ble_eq_true rfl | (simp only [room_1]; omega))⟩ dL_law_748 (fun v g_1 H locs hp hT => ?_)
  obtain ⟨r_2, rfl, hI, x_4, m_3⟩ := hp
  have hw : PX 48 2 3 71 72 g_1 om := hw.mono m_3 x_4 r_om (by decide) (by decide) rfl rfl rfl rfl
  have hN0 : PX 8 39 40 84 85 g_1 om := hN0.mono m_3 x_4 r_om (by decide) (by decide) rfl rfl rfl rfl
  have hq : QE g_1 pa pb := hq.sm m_3 r_pa (by decide) rfl r_pb (by decide) rfl
  have hM : Sm mdA g g_1 := sm_all
  have hE : Ex g g_1 := hE.tr x_4
  have r_5 : g_1.1 ox = 7 := (Ex.r x_4 r_ox (by decide))
  have r_6 : g_1.1 om = 8 := (Ex.r x_4 r_om (by decide))
  have r_7 : g_1.1 pa = 60 := (Ex.r x_4 r_pa (by decide))
  have r_8 : g_1.1 pb = 83 := (Ex.r x_4 r_pb (by decide))
  have n_9 : g_1.2.2.1 pa = 4 := (Ex.n x_4 r_pa (by decide) n_pa)
  have n_10 : g_1.2.2.1 pb = 4 := (Ex.n x_4 r_pb (by decide) n_pb)
  have kn_11 : g_1.2.1 om 22 = .int o1 := (Sm.v m_3 r_om (by decide) rfl ko)
  have kn_12 : g_1.2.1 ox 5 = .ref pa := (Sm.v m_3 r_ox (by decide) rfl k5)
  have kn_13 : g_1.2.1 om 35 = .ref pb := (Sm.v m_3 r_om (by decide) rfl k35)
  refine W.eq (g2 := F0 m 751 ls [.int r_2]) rfl ?_
  refine lv_pop hx hb dL_law_751 rfl ?_
  refine lv_aload_n hx hb dL_law_752 rfl (lv_at hl 1 rfl) ?_
  refine t_callV (n := 0) (As := []) (rest := []) (ci := 7) hB hT hl.1 (m_again l D cI cZ cS cR N0 g_1 hI om r_6 hw) (ro_ci r_6 rfl) rfl k_1177 k_65 k_1174 k_1175 k_1176 (by decide +kernel) ⟨(Nat.le_of_ble_eq_true rfl), (Nat.le_of_ble_eq_true rfl)⟩ rfl (Nat.le_of_ble_eq_true rfl) ⟨(by show _ ≤ _; first | exact Nat.le_of_ble_eq_true rfl | (simp only [room_1]; omega)), (by show _ ≤ _; first | exact Nat.le_of_ble_eq_true rfl | (simp only [room_1]; omega))⟩ dL_law_753 (fun v g_14 H locs hp hT => ?_)
  obtain ⟨r_15, rfl, hI, x_17, m_16⟩ := hp
  have hw : PX 48 2 3 71 72 g_14 om := hw.mono m_16 x_17 r_6 (by decide) (by decide) rfl rfl rfl rfl
  have hN0 : PX 8 39 40 84 85 g_14 om := hN0.mono m_16 x_17 r_6 (by decide) (by decide) rfl rfl rfl rfl
  have hq : QE g_14 pa pb := hq.sm m_16 r_7 (by decide) rfl r_8 (by decide) rfl
  have hM : Sm mdA g g_14 := sm_all
  have hE : Ex g g_14 := hE.tr x_17
  have r_18 : g_14.1 ox = 7 := (Ex.r x_17 r_5 (by decide))
  have r_19 : g_14.1 om = 8 := (Ex.r x_17 r_6 (by decide))
  have r_20 : g_14.1 pa = 60 := (Ex.r x_17 r_7 (by decide))
  have r_21 : g_14.1 pb = 83 := (Ex.r x_17 r_8 (by decide))
  have n_22 : g_14.2.2.1 pa = 4 := (Ex.n x_17 r_7 (by decide) n_9)
  have n_23 : g_14.2.2.1 pb = 4 := (Ex.n x_17 r_8 (by decide) n_10)
  have kn_24 : g_14.2.1 om 22 = .int o1 := (Sm.v m_16 r_6 (by decide) rfl kn_11)
  have kn_25 : g_14.2.1 ox 5 = .ref pa := (Sm.v m_16 r_5 (by decide) rfl kn_12)
  have kn_26 : g_14.2.1 om 35 = .ref pb := (Sm.v m_16 r_6 (by decide) rfl kn_13)
  refine W.eq (g2 := F0 m 756 ls [.int r_15]) rfl ?_
  refine lv_pop hx hb dL_law_756 rfl ?_
  refine lv_goto (tgt := 829) hx hb dL_law_757 (by decide) ?_
  refine W.widen (k := cells + 4) (n := slots + 28) (by omega) (by omega) ?_
  exact K g_14 o1 H locs hT hI r_18 r_19 kn_24 (by have e0_ : (0 : Int32).toInt = 0 := (by decide); omega) (by have e0_ : (0 : Int32).toInt = 0 := (by decide); omega) hw hN0 kn_25 kn_26 r_20 r_21 n_22 n_23 hq
