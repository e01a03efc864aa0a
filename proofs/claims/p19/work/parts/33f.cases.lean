theorem k_719 : Cond.methodLink RL 101 yX6_log ∈ tb := mt 719 (by decide +kernel) rfl
theorem k_720 : Cond.instanceMethod yX6_log ∈ tb := mt 720 (by decide +kernel) rfl
theorem k_721 : Cond.selects RX6 yX6_log yX6_log ∈ tb := mt 721 (by decide +kernel) rfl
set_option maxRecDepth 20000 in
theorem k_722 : Cond.code yX6_log cX6_log 3 (some .int) ∈ tb := mt 722 rfl rfl
theorem k_723 : Cond.methodLink RL 105 yX6_reset ∈ tb := mt 723 (by decide +kernel) rfl
theorem k_724 : Cond.instanceMethod yX6_reset ∈ tb := mt 724 (by decide +kernel) rfl
theorem k_725 : Cond.selects RX6 yX6_reset yX6_reset ∈ tb := mt 725 (by decide +kernel) rfl
set_option maxRecDepth 20000 in
theorem k_726 : Cond.code yX6_reset cX6_reset 2 (some .int) ∈ tb := mt 726 rfl rfl
theorem k_735 : Cond.methodLink RL 109 yX6_count ∈ tb := mt 735 (by decide +kernel) rfl
theorem k_736 : Cond.instanceMethod yX6_count ∈ tb := mt 736 (by decide +kernel) rfl
theorem k_737 : Cond.selects RX6 yX6_count yX6_count ∈ tb := mt 737 (by decide +kernel) rfl
set_option maxRecDepth 20000 in
theorem k_738 : Cond.code yX6_count cX6_count 2 (some .int) ∈ tb := mt 738 rfl rfl
theorem k_1178 : Cond.methodLink RL 104 yX7_log ∈ tb := mt 1178 (by decide +kernel) rfl
theorem k_1179 : Cond.instanceMethod yX7_log ∈ tb := mt 1179 (by decide +kernel) rfl
theorem k_1180 : Cond.selects RX7 yX7_log yX7_log ∈ tb := mt 1180 (by decide +kernel) rfl
set_option maxRecDepth 20000 in
theorem k_1181 : Cond.code yX7_log cX7_log 3 (some .int) ∈ tb := mt 1181 rfl rfl
theorem k_1182 : Cond.methodLink RL 108 yX7_reset ∈ tb := mt 1182 (by decide +kernel) rfl
theorem k_1183 : Cond.instanceMethod yX7_reset ∈ tb := mt 1183 (by decide +kernel) rfl
theorem k_1184 : Cond.selects RX7 yX7_reset yX7_reset ∈ tb := mt 1184 (by decide +kernel) rfl
set_option maxRecDepth 20000 in
theorem k_1185 : Cond.code yX7_reset cX7_reset 3 (some .int) ∈ tb := mt 1185 rfl rfl
theorem k_1186 : Cond.methodLink RL 112 yX7_count ∈ tb := mt 1186 (by decide +kernel) rfl
theorem k_1187 : Cond.instanceMethod yX7_count ∈ tb := mt 1187 (by decide +kernel) rfl
theorem k_1188 : Cond.selects RX7 yX7_count yX7_count ∈ tb := mt 1188 (by decide +kernel) rfl
set_option maxRecDepth 20000 in
theorem k_1189 : Cond.code yX7_count cX7_count 2 (some .int) ∈ tb := mt 1189 rfl rfl
theorem dL_law_760 : decode cL_law 760 = .ok (.aload_n 1, 1) := by decide +kernel
theorem dL_law_761 : decode cL_law 761 = .ok (.aload_n 0, 1) := by decide +kernel
theorem dL_law_762 : decode cL_law 762 = .ok (.iload_n 3, 1) := by decide +kernel
theorem dL_law_763 : decode cL_law 763 = .ok (.iconst 1, 1) := by decide +kernel
theorem dL_law_764 : decode cL_law 764 = .ok (.iadd, 1) := by decide +kernel
theorem dL_law_765 : decode cL_law 765 = .ok (.iaload, 1) := by decide +kernel
theorem dL_law_766 : decode cL_law 766 = .ok (.aload_n 0, 1) := by decide +kernel
theorem dL_law_767 : decode cL_law 767 = .ok (.iload_n 3, 1) := by decide +kernel
theorem dL_law_768 : decode cL_law 768 = .ok (.iconst 2, 1) := by decide +kernel
theorem dL_law_769 : decode cL_law 769 = .ok (.iadd, 1) := by decide +kernel
theorem dL_law_770 : decode cL_law 770 = .ok (.iaload, 1) := by decide +kernel
theorem dL_law_771 : decode cL_law 771 = .ok (.invokevirtual 101, 3) := by decide +kernel
theorem dL_law_774 : decode cL_law 774 = .ok (.pop, 1) := by decide +kernel
theorem dL_law_775 : decode cL_law 775 = .ok (.aload_n 2, 1) := by decide +kernel
theorem dL_law_776 : decode cL_law 776 = .ok (.aload_n 0, 1) := by decide +kernel
theorem dL_law_777 : decode cL_law 777 = .ok (.iload_n 3, 1) := by decide +kernel
theorem dL_law_778 : decode cL_law 778 = .ok (.iconst 1, 1) := by decide +kernel
theorem dL_law_779 : decode cL_law 779 = .ok (.iadd, 1) := by decide +kernel
theorem dL_law_780 : decode cL_law 780 = .ok (.iaload, 1) := by decide +kernel
theorem dL_law_781 : decode cL_law 781 = .ok (.aload_n 0, 1) := by decide +kernel
theorem dL_law_782 : decode cL_law 782 = .ok (.iload_n 3, 1) := by decide +kernel
theorem dL_law_783 : decode cL_law 783 = .ok (.iconst 2, 1) := by decide +kernel
theorem dL_law_784 : decode cL_law 784 = .ok (.iadd, 1) := by decide +kernel
theorem dL_law_785 : decode cL_law 785 = .ok (.iaload, 1) := by decide +kernel
theorem dL_law_786 : decode cL_law 786 = .ok (.invokevirtual 104, 3) := by decide +kernel
theorem dL_law_789 : decode cL_law 789 = .ok (.pop, 1) := by decide +kernel
theorem dL_law_790 : decode cL_law 790 = .ok (.goto 39, 3) := by decide +kernel
theorem dL_law_793 : decode cL_law 793 = .ok (.aload_n 1, 1) := by decide +kernel
theorem dL_law_794 : decode cL_law 794 = .ok (.invokevirtual 105, 3) := by decide +kernel
theorem dL_law_797 : decode cL_law 797 = .ok (.pop, 1) := by decide +kernel
theorem dL_law_798 : decode cL_law 798 = .ok (.aload_n 2, 1) := by decide +kernel
theorem dL_law_799 : decode cL_law 799 = .ok (.invokevirtual 108, 3) := by decide +kernel
theorem dL_law_802 : decode cL_law 802 = .ok (.pop, 1) := by decide +kernel
theorem dL_law_803 : decode cL_law 803 = .ok (.goto 26, 3) := by decide +kernel
theorem dL_law_806 : decode cL_law 806 = .ok (.aload_n 1, 1) := by decide +kernel
theorem dL_law_807 : decode cL_law 807 = .ok (.aload_n 0, 1) := by decide +kernel
theorem dL_law_808 : decode cL_law 808 = .ok (.iload_n 3, 1) := by decide +kernel
theorem dL_law_809 : decode cL_law 809 = .ok (.iconst 1, 1) := by decide +kernel
theorem dL_law_810 : decode cL_law 810 = .ok (.iadd, 1) := by decide +kernel
theorem dL_law_811 : decode cL_law 811 = .ok (.iaload, 1) := by decide +kernel
theorem dL_law_812 : decode cL_law 812 = .ok (.invokevirtual 109, 3) := by decide +kernel
theorem dL_law_815 : decode cL_law 815 = .ok (.pop, 1) := by decide +kernel
theorem dL_law_816 : decode cL_law 816 = .ok (.aload_n 2, 1) := by decide +kernel
theorem dL_law_817 : decode cL_law 817 = .ok (.aload_n 0, 1) := by decide +kernel
theorem dL_law_818 : decode cL_law 818 = .ok (.iload_n 3, 1) := by decide +kernel
theorem dL_law_819 : decode cL_law 819 = .ok (.iconst 1, 1) := by decide +kernel
theorem dL_law_820 : decode cL_law 820 = .ok (.iadd, 1) := by decide +kernel
theorem dL_law_821 : decode cL_law 821 = .ok (.iaload, 1) := by decide +kernel
theorem dL_law_822 : decode cL_law 822 = .ok (.invokevirtual 112, 3) := by decide +kernel
theorem dL_law_825 : decode cL_law 825 = .ok (.pop, 1) := by decide +kernel
theorem dL_law_826 : decode cL_law 826 = .ok (.goto 3, 3) := by decide +kernel
set_option maxHeartbeats 4000000 in
set_option maxRecDepth 100000 in
/-- log -/
theorem law_20 {p : Program} {l : Launch} {e : Env} {s : State} {m : MethodId} {below : List Frame} {meth : Method} {c : Code} {D : va_G} {cI cZ cS cR : ClassId} {N0 : NT} {b L : Nat} {xs : Nat → Int32} (hB : Tz p s m meth c #[Value.ref b] code 4 RL D cI cZ cS cR N0) (hAs : N0.1 = s.heap.size) (hX : va_X b L xs s s.heap) (hbl : b < s.heap.size) (hL : L ≤ 2560) (hr : meth.sig.returnType = ret) {cells slots : Nat} (hcl : cells + 4 ≤ 600000) (hsl : slots + 28 ≤ 7302250) {H : Heap} {locs : List Loc} {ls : Array Slot} (g : GS) (ox om : Nat) (pa : Nat) (pb : Nat) (i o1 : Int32) (hT : Tv D cI cZ cS cR N0 s.heap H locs g) (hI : Inv g) (l_i : 0 ≤ i.toInt) (u_i : i.toInt + 5 ≤ L) : g.1 ox = 7 → g.1 om = 8 → g.2.1 om 22 = .int o1 → 0 ≤ o1.toInt → o1.toInt ≤ 12 * i.toInt → PX 48 2 3 71 72 g om → PX 8 39 40 84 85 g om → g.2.1 ox 5 = .ref pa → g.2.1 om 35 = .ref pb → g.1 pa = 60 → g.1 pb = 83 → g.2.2.1 pa = 4 → g.2.2.1 pb = 4 → QE g pa pb → (hl : lv_has ls 4 [(3, .int i), (2, .ref om), (1, .ref ox), (0, .ref b)]) → (K : ∀ (g1 : GS) (o1_1 : Int32) (H1 : Heap) (locs1 : List Loc), Tv D cI cZ cS cR N0 s.heap H1 locs1 g1 → Inv g1 → g1.1 ox = 7 → g1.1 om = 8 → g1.2.1 om 22 = .int o1_1 → 0 ≤ o1_1.toInt → o1_1.toInt ≤ 12 * i.toInt + 60 → PX 48 2 3 71 72 g1 om → PX 8 39 40 84 85 g1 om → g1.2.1 ox 5 = .ref pa → g1.2.1 om 35 = .ref pb → g1.1 pa = 60 → g1.1 pb = 83 → g1.2.2.1 pa = 4 → g1.2.2.1 pb = 4 → QE g1 pa pb → W p l e room_1 s m #[Value.ref b] below meth c H1 locs1 (cells + 4) (slots + 28) (lw_Z below #[Value.ref b] s) (F0 m 829 ls [])) → W p l e room_1 s m #[Value.ref b] below meth c H locs cells slots (lw_Z below #[Value.ref b] s) (F0 m 760 ls []) := by
  intro r_ox r_om ko l_o u_o hw hN0 k5 k35 r_pa r_pb n_pa n_pb hq hl K
  have hx := hB.1
  have hb := hB.2.1
  have hE : Ex g g := Ex.rf
  have hM : Sm mdA g g := sm_all
  refine lv_aload_n hx hb dL_law_760 rfl (lv_at hl 2 rfl) ?_
  refine lv_aload_n hx hb dL_law_761 rfl (lv_at hl 3 rfl) ?_
  refine lv_iload_n hx hb dL_law_762 rfl (lv_at hl 0 rfl) ?_
  refine lv_iconst (v := 1) hx hb dL_law_763 (by decide) ?_
  refine lv_iadd hx hb dL_law_764 ?_
  refine lv_topi (fun z_1 ez_1 => ?_)
  have e_z_1 : z_1.toInt = i.toInt + 1 := i_add ez_1 rfl (by decide) (by omega) (by omega)
  refine va_sld hx hb hX hbl (fun q => by have q_ : N0.1 ≤ b := q; omega) hT.2 (i_in (n := L) rfl (by omega) (by omega)) dL_law_765 ?_
  refine lv_topi (fun u_2 e_u_2 => ?_)
  refine lv_aload_n hx hb dL_law_766 rfl (lv_at hl 3 rfl) ?_
  refine lv_iload_n hx hb dL_law_767 rfl (lv_at hl 0 rfl) ?_
  refine lv_iconst (v := 2) hx hb dL_law_768 (by decide) ?_
  refine lv_iadd hx hb dL_law_769 ?_
  refine lv_topi (fun z_3 ez_3 => ?_)
  have e_z_3 : z_3.toInt = i.toInt + 2 := i_add ez_3 rfl (by decide) (by omega) (by omega)
  refine va_sld hx hb hX hbl (fun q => by have q_ : N0.1 ≤ b := q; omega) hT.2 (i_in (n := L) rfl (by omega) (by omega)) dL_law_770 ?_
  refine lv_topi (fun u_4 e_u_4 => ?_)
  refine t_callV (n := 2) (As := [.int u_2, .int u_4]) (rest := []) (ci := 6) hB hT hl.1 (P_log l D cI cZ cS cR N0 g hI ox u_2 u_4 r_ox) (ro_ci r_ox rfl) rfl k_722 k_57 k_719 k_720 k_721 (by decide +kernel) ⟨(Nat.le_of_ble_eq_true rfl), (Nat.le_of_ble_eq_true rfl)⟩ rfl (Nat.le_of_ble_eq_true rfl) ⟨(by show _ ≤ _; first | exact Nat.le_of_ble_eq_true rfl | (simp only [room_1]; omega)), (by show _ ≤ _; first | exact Nat.le_of_ble_eq_true rfl | (simp only [room_1]; omega))⟩ dL_law_771 (fun v g_5 H locs hp hT => ?_)
  obtain ⟨r_6, rfl, hI, x_8, m_7⟩ := hp
  have hw : PX 48 2 3 71 72 g_5 om := hw.mono m_7 x_8 r_om (by decide) (by decide) rfl rfl rfl rfl
  have hN0 : PX 8 39 40 84 85 g_5 om := hN0.mono m_7 x_8 r_om (by decide) (by decide) rfl rfl rfl rfl
  have hq : QE g_5 pa pb := hq.sm m_7 r_pa (by decide) rfl r_pb (by decide) rfl
  have hM : Sm mdA g g_5 := sm_all
  have hE : Ex g g_5 := hE.tr x_8
  have r_9 : g_5.1 ox = 7 := (Ex.r x_8 r_ox (by decide))
  have r_10 : g_5.1 om = 8 := (Ex.r x_8 r_om (by decide))
  have r_11 : g_5.1 pa = 60 := (Ex.r x_8 r_pa (by decide))
  have r_12 : g_5.1 pb = 83 := (Ex.r x_8 r_pb (by decide))
  have n_13 : g_5.2.2.1 pa = 4 := (Ex.n x_8 r_pa (by decide) n_pa)
  have n_14 : g_5.2.2.1 pb = 4 := (Ex.n x_8 r_pb (by decide) n_pb)
  have kn_15 : g_5.2.1 om 22 = .int o1 := (Sm.v m_7 r_om (by decide) rfl ko)
  have kn_16 : g_5.2.1 ox 5 = .ref pa := (Sm.v m_7 r_ox (by decide) rfl k5)
  have kn_17 : g_5.2.1 om 35 = .ref pb := (Sm.v m_7 r_om (by decide) rfl k35)
  refine W.eq (g2 := F0 m 774 ls [.int r_6]) rfl ?_
  refine lv_pop hx hb dL_law_774 rfl ?_
  refine lv_aload_n hx hb dL_law_775 rfl (lv_at hl 1 rfl) ?_
  refine lv_aload_n hx hb dL_law_776 rfl (lv_at hl 3 rfl) ?_
  refine lv_iload_n hx hb dL_law_777 rfl (lv_at hl 0 rfl) ?_
  refine lv_iconst (v := 1) hx hb dL_law_778 (by decide) ?_
  refine lv_iadd hx hb dL_law_779 ?_
  refine lv_topi (fun z_18 ez_18 => ?_)
  have e_z_18 : z_18.toInt = i.toInt + 1 := i_add ez_18 rfl (by decide) (by omega) (by omega)
  refine va_sld hx hb hX hbl (fun q => by have q_ : N0.1 ≤ b := q; omega) hT.2 (i_in (n := L) rfl (by omega) (by omega)) dL_law_780 ?_
  refine lv_topi (fun u_19 e_u_19 => ?_)
  refine lv_aload_n hx hb dL_law_781 rfl (lv_at hl 3 rfl) ?_
  refine lv_iload_n hx hb dL_law_782 rfl (lv_at hl 0 rfl) ?_
  refine lv_iconst (v := 2) hx hb dL_law_783 (by decide) ?_
  refine lv_iadd hx hb dL_law_784 ?_
  refine lv_topi (fun z_20 ez_20 => ?_)
  have e_z_20 : z_20.toInt = i.toInt + 2 := i_add ez_20 rfl (by decide) (by omega) (by omega)
  refine va_sld hx hb hX hbl (fun q => by have q_ : N0.1 ≤ b := q; omega) hT.2 (i_in (n := L) rfl (by omega) (by omega)) dL_law_785 ?_
  refine lv_topi (fun u_21 e_u_21 => ?_)
  refine t_callV (n := 2) (As := [.int u_19, .int u_21]) (rest := []) (ci := 7) hB hT hl.1 (m_log l D cI cZ cS cR N0 g_5 hI om u_19 u_21 r_10) (ro_ci r_10 rfl) rfl k_1181 k_65 k_1178 k_1179 k_1180 (by decide +kernel) ⟨(Nat.le_of_ble_eq_true rfl), (Nat.le_of_ble_eq_true rfl)⟩ rfl (Nat.le_of_ble_eq_true rfl) ⟨(by show _ ≤ _; first | exact Nat.le_of_ble_eq_true rfl | (simp only [room_1]; omega)), (by show _ ≤ _; first | exact Nat.le_of_ble_eq_true rfl | (simp only [room_1]; omega))⟩ dL_law_786 (fun v g_22 H locs hp hT => ?_)
  obtain ⟨r_23, rfl, hI, x_25, m_24⟩ := hp
  have hw : PX 48 2 3 71 72 g_22 om := hw.mono m_24 x_25 r_10 (by decide) (by decide) rfl rfl rfl rfl
  have hN0 : PX 8 39 40 84 85 g_22 om := hN0.mono m_24 x_25 r_10 (by decide) (by decide) rfl rfl rfl rfl
  have hq : QE g_22 pa pb := hq.sm m_24 r_11 (by decide) rfl r_12 (by decide) rfl
  have hM : Sm mdA g g_22 := sm_all
  have hE : Ex g g_22 := hE.tr x_25
  have r_26 : g_22.1 ox = 7 := (Ex.r x_25 r_9 (by decide))
  have r_27 : g_22.1 om = 8 := (Ex.r x_25 r_10 (by decide))
  have r_28 : g_22.1 pa = 60 := (Ex.r x_25 r_11 (by decide))
  have r_29 : g_22.1 pb = 83 := (Ex.r x_25 r_12 (by decide))
  have n_30 : g_22.2.2.1 pa = 4 := (Ex.n x_25 r_11 (by decide) n_13)
  have n_31 : g_22.2.2.1 pb = 4 := (Ex.n x_25 r_12 (by decide) n_14)
  have kn_32 : g_22.2.1 om 22 = .int o1 := (Sm.v m_24 r_10 (by decide) rfl kn_15)
  have kn_33 : g_22.2.1 ox 5 = .ref pa := (Sm.v m_24 r_9 (by decide) rfl kn_16)
  have kn_34 : g_22.2.1 om 35 = .ref pb := (Sm.v m_24 r_10 (by decide) rfl kn_17)
  refine W.eq (g2 := F0 m 789 ls [.int r_23]) rfl ?_
  refine lv_pop hx hb dL_law_789 rfl ?_
  refine lv_goto (tgt := 829) hx hb dL_law_790 (by decide) ?_
  refine W.widen (k := cells + 4) (n := slots + 28) (by omega) (by omega) ?_
  exact K g_22 o1 H locs hT hI r_26 r_27 kn_32 (by have e0_ : (0 : Int32).toInt = 0 := (by decide); omega) (by have e0_ : (0 : Int32).toInt = 0 := (by decide); omega) hw hN0 kn_33 kn_34 r_28 r_29 n_30 n_31 hq
set_option maxHeartbeats 4000000 in
set_option maxRecDepth 100000 in
/-- reset -/
theorem law_21 {p : Program} {l : Launch} {e : Env} {s : State} {m : MethodId} {below : List Frame} {meth : Method} {c : Code} {D : va_G} {cI cZ cS cR : ClassId} {N0 : NT} {b L : Nat} {xs : Nat → Int32} (hB : Tz p s m meth c #[Value.ref b] code 4 RL D cI cZ cS cR N0) (hAs : N0.1 = s.heap.size) (hX : va_X b L xs s s.heap) (hbl : b < s.heap.size) (hL : L ≤ 2560) (hr : meth.sig.returnType = ret) {cells slots : Nat} (hcl : cells + 4 ≤ 600000) (hsl : slots + 28 ≤ 7302250) {H : Heap} {locs : List Loc} {ls : Array Slot} (g : GS) (ox om : Nat) (pa : Nat) (pb : Nat) (i o1 : Int32) (hT : Tv D cI cZ cS cR N0 s.heap H locs g) (hI : Inv g) (l_i : 0 ≤ i.toInt) (u_i : i.toInt + 5 ≤ L) : g.1 ox = 7 → g.1 om = 8 → g.2.1 om 22 = .int o1 → 0 ≤ o1.toInt → o1.toInt ≤ 12 * i.toInt → PX 48 2 3 71 72 g om → PX 8 39 40 84 85 g om → g.2.1 ox 5 = .ref pa → g.2.1 om 35 = .ref pb → g.1 pa = 60 → g.1 pb = 83 → g.2.2.1 pa = 4 → g.2.2.1 pb = 4 → QE g pa pb → (hl : lv_has ls 4 [(3, .int i), (2, .ref om), (1, .ref ox), (0, .ref b)]) → (K : ∀ (g1 : GS) (o1_1 : Int32) (H1 : Heap) (locs1 : List Loc), Tv D cI cZ cS cR N0 s.heap H1 locs1 g1 → Inv g1 → g1.1 ox = 7 → g1.1 om = 8 → g1.2.1 om 22 = .int o1_1 → 0 ≤ o1_1.toInt → o1_1.toInt ≤ 12 * i.toInt + 60 → PX 48 2 3 71 72 g1 om → PX 8 39 40 84 85 g1 om → g1.2.1 ox 5 = .ref pa → g1.2.1 om 35 = .ref pb → g1.1 pa = 60 → g1.1 pb = 83 → g1.2.2.1 pa = 4 → g1.2.2.1 pb = 4 → QE g1 pa pb → W p l e room_1 s m #[Value.ref b] below meth c H1 locs1 (cells + 4) (slots + 28) (lw_Z below #[Value.ref b] s) (F0 m 829 ls [])) → W p l e room_1 s m #[Value.ref b] below meth c H locs cells slots (lw_Z below #[Value.ref b] s) (F0 m 793 ls []) := by
  intro r_ox r_om ko l_o u_o hw hN0 k5 k35 r_pa r_pb n_pa n_pb hq hl K
  have hx := hB.1
  have hb := hB.2.1
  have hE : Ex g g := Ex.rf
  have hM : Sm mdA g g := sm_all
  refine lv_aload_n hx hb dL_law_793 rfl (lv_at hl 2 rfl) ?_
  refine t_callV (n := 0) (As := []) (rest := []) (ci := 6) hB hT hl.1 (P_reset l D cI cZ cS cR N0 g hI ox r_ox) (ro_ci r_ox rfl) rfl k_726 k_57 k_723 k_724 k_725 (by decide +kernel) ⟨(Nat.le_of_ble_eq_true rfl), (Nat.le_of_ble_eq_true rfl)⟩ rfl (Nat.le_of_ble_eq_true rfl) ⟨(by show _ ≤ _; first | exact Nat.le_of_ble_eq_true rfl | (simp only [room_1]; omega)), (by show _ ≤ _; first | exact Nat.le_of_ble_eq_true rfl | (simp only [room_1]; omega))⟩ dL_law_794 (fun v g_1 H locs hp hT => ?_)
  obtain ⟨r_2, rfl, hI, x_4, m_3⟩ := hp
  have hw : PX 48 2 3 71 72 g_1 om := hw.mono m_3 x_4 r_om (by decide) (by decide) rfl rfl rfl rfl
  have hN0 : PX 8 39 40 84 85 g_1 om := hN0.mono m_3 x_4 r_om (by decide) (by decide) rfl rfl rfl rfl
  have hq : QE g_1 pa pb := hq.sm m_3 r_pa (by decide) rfl r_pb (by decide) rfl
  have hM : Sm mdA g g_1 := sm_all
  have hE : Ex g g_1 := hE.tr x_4
  have r_5 : g_1.1 ox = 7 := (Ex.r x_4 r_ox (by decide))
  have r_6 : g_1.1 om = 8 := (Ex.r x_4 r_om (by decide))
  have r_7 : g_1.1 pa = 60 := (Ex.r x_4 r_pa (by decide))
  have r_8 : g_1.1 pb = 83 := (Ex.r x_4 r_pb (by decide))
  have n_9 : g_1.2.2.1 pa = 4 := (Ex.n x_4 r_pa (by decide) n_pa)
  have n_10 : g_1.2.2.1 pb = 4 := (Ex.n x_4 r_pb (by decide) n_pb)
  have kn_11 : g_1.2.1 om 22 = .int o1 := (Sm.v m_3 r_om (by decide) rfl ko)
  have kn_12 : g_1.2.1 ox 5 = .ref pa := (Sm.v m_3 r_ox (by decide) rfl k5)
  have kn_13 : g_1.2.1 om 35 = .ref pb := (Sm.v m_3 r_om (by decide) rfl k35)
  refine W.eq (g2 := F0 m 797 ls [.int r_2]) rfl ?_
  refine lv_pop hx hb dL_law_797 rfl ?_
  refine lv_aload_n hx hb dL_law_798 rfl (lv_at hl 1 rfl) ?_
  refine t_callV (n := 0) (As := []) (rest := []) (ci := 7) hB hT hl.1 (m_reset l D cI cZ cS cR N0 g_1 hI om r_6) (ro_ci r_6 rfl) rfl k_1185 k_65 k_1182 k_1183 k_1184 (by decide +kernel) ⟨(Nat.le_of_ble_eq_true rfl), (Nat.le_of_ble_eq_true rfl)⟩ rfl (Nat.le_of_ble_eq_true rfl) ⟨(by show _ ≤ _; first | exact Nat.le_of_ble_eq_true rfl | (simp only [room_1]; omega)), (by show _ ≤ _; first | exact Nat.le_of_ble_eq_true rfl | (simp only [room_1]; omega))⟩ dL_law_799 (fun v g_14 H locs hp hT => ?_)
  obtain ⟨r_15, rfl, hI, x_18, m_17, f_16⟩ := hp
  have hw : PX 48 2 3 71 72 g_14 om := hw.mono m_17 x_18 r_6 (by decide) (by decide) rfl rfl rfl rfl
  have hN0 : PX 8 39 40 84 85 g_14 om := hN0.mono m_17 x_18 r_6 (by decide) (by decide) rfl rfl rfl rfl
  have hq : QE g_14 pa pb := hq.sm m_17 r_7 (by decide) rfl r_8 (by decide) rfl
  have hM : Sm mdA g g_14 := sm_all
  have hE : Ex g g_14 := hE.tr x_18
  have r_19 : g_14.1 ox = 7 := (Ex.r x_18 r_5 (by decide))
  have r_20 : g_14.1 om = 8 := (Ex.r x_18 r_6 (by decide))
  have r_21 : g_14.1 pa = 60 := (Ex.r x_18 r_7 (by decide))
  have r_22 : g_14.1 pb = 83 := (Ex.r x_18 r_8 (by decide))
  have n_23 : g_14.2.2.1 pa = 4 := (Ex.n x_18 r_7 (by decide) n_9)
  have n_24 : g_14.2.2.1 pb = 4 := (Ex.n x_18 r_8 (by decide) n_10)
  have kn_25 : g_14.2.1 ox 5 = .ref pa := (Sm.v m_17 r_5 (by decide) rfl kn_12)
  have kn_26 : g_14.2.1 om 35 = .ref pb := (Sm.v m_17 r_6 (by decide) rfl kn_13)
  refine W.eq (g2 := F0 m 802 ls [.int r_15]) rfl ?_
  refine lv_pop hx hb dL_law_802 rfl ?_
  refine lv_goto (tgt := 829) hx hb dL_law_803 (by decide) ?_
  refine W.widen (k := cells + 4) (n := slots + 28) (by omega) (by omega) ?_
  exact K g_14 (0 : Int32) H locs hT hI r_19 r_20 f_16 (by have e0_ : (0 : Int32).toInt = 0 := (by decide); omega) (by have e0_ : (0 : Int32).toInt = 0 := (by decide); omega) hw hN0 kn_25 kn_26 r_21 r_22 n_23 n_24 hq
set_option maxHeartbeats 4000000 in
set_option maxRecDepth 100000 in
/-- count -/
theorem law_22 {p : Program} {l : Launch} {e : Env} {s : State} {m : MethodId} {below : List Frame} {meth : Method} {c : Code} {D : va_G} {cI cZ cS cR : ClassId} {N0 : NT} {b L : Nat} {xs : Nat → Int32} (hB : Tz p s m meth c #[Value.ref b] code 4 RL D cI cZ cS cR N0) (hAs : N0.1 = s.heap.size) (hX : va_X b L xs s s.heap) (hbl : b < s.heap.size) (hL : L ≤ 2560) (hr : meth.sig.returnType = ret) {cells slots : Nat} (hcl : cells + 4 ≤ 600000) (hsl : slots + 28 ≤ 7302250) {H : Heap} {locs : List Loc} {ls : Array Slot} (g : GS) (ox om : Nat) (pa : Nat) (pb : Nat) (i o1 : Int32) (hT : Tv D cI cZ cS cR N0 s.heap H locs g) (hI : Inv g) (l_i : 0 ≤ i.toInt) (u_i : i.toInt + 5 ≤ L) : g.1 ox = 7 → g.1 om = 8 → g.2.1 om 22 = .int o1 → 0 ≤ o1.toInt → o1.toInt ≤ 12 * i.toInt → PX 48 2 3 71 72 g om → PX 8 39 40 84 85 g om → g.2.1 ox 5 = .ref pa → g.2.1 om 35 = .ref pb → g.1 pa = 60 → g.1 pb = 83 → g.2.2.1 pa = 4 → g.2.2.1 pb = 4 → QE g pa pb → (hl : lv_has ls 4 [(3, .int i), (2, .ref om), (1, .ref ox), (0, .ref b)]) → (K : ∀ (g1 : GS) (o1_1 : Int32) (H1 : Heap) (locs1 : List Loc), Tv D cI cZ cS cR N0 s.heap H1 locs1 g1 → Inv g1 → g1.1 ox = 7 → g1.1 om = 8 → g1.2.1 om 22 = .int o1_1 → 0 ≤ o1_1.toInt → o1_1.toInt ≤ 12 * i.toInt + 60 → PX 48 2 3 71 72 g1 om → PX 8 39 40 84 85 g1 om → g1.2.1 ox 5 = .ref pa → g1.2.1 om 35 = .ref pb → g1.1 pa = 60 → g1.1 pb = 83 → g1.2.2.1 pa = 4 → g1.2.2.1 pb = 4 → QE g1 pa pb → W p l e room_1 s m #[Value.ref b] below meth c H1 locs1 (cells + 4) (slots + 28) (lw_Z below #[Value.ref b] s) (F0 m 829 ls [])) → W p l e room_1 s m #[Value.ref b] below meth c H locs cells slots (lw_Z below #[Value.ref b] s) (F0 m 806 ls []) := by
  intro r_ox r_om ko l_o u_o hw hN0 k5 k35 r_pa r_pb n_pa n_pb hq hl K
  have hx := hB.1
  have hb := hB.2.1
  have hE : Ex g g := Ex.rf
  have hM : Sm mdA g g := sm_all
  refine lv_aload_n hx hb dL_law_806 rfl (lv_at hl 2 rfl) ?_
  refine lv_aload_n hx hb dL_law_807 rfl (lv_at hl 3 rfl) ?_
  refine lv_iload_n hx hb dL_law_808 rfl (lv_at hl 0 rfl) ?_
  refine lv_iconst (v := 1) hx hb dL_law_809 (by decide) ?_
  refine lv_iadd hx hb dL_law_810 ?_
  refine lv_topi (fun z_1 ez_1 => ?_)
  have e_z_1 : z_1.toInt = i.toInt + 1 := i_add ez_1 rfl (by decide) (by omega) (by omega)
  refine va_sld hx hb hX hbl (fun q => by have q_ : N0.1 ≤ b := q; omega) hT.2 (i_in (n := L) rfl (by omega) (by omega)) dL_law_811 ?_
  refine lv_topi (fun u_2 e_u_2 => ?_)
  refine t_callV (n := 1) (As := [.int u_2]) (rest := []) (ci := 6) hB hT hl.1 (P_count l D cI cZ cS cR N0 g hI ox u_2 r_ox) (ro_ci r_ox rfl) rfl k_738 k_57 k_735 k_736 k_737 (by decide +kernel) ⟨(Nat.le_of_ble_eq_true rfl), (Nat.le_of_ble_eq_true rfl)⟩ rfl (Nat.le_of_ble_eq_true rfl) ⟨(by show _ ≤ _; first | exact Nat.le_of_ble_eq_true rfl | (simp only [room_1]; omega)), (by show _ ≤ _; first | exact Nat.le_of_ble_eq_true rfl | (simp only [room_1]; omega))⟩ dL_law_812 (fun v g_3 H locs hp hT => ?_)
  obtain ⟨r_4, rfl, hI, x_6, m_5⟩ := hp
  have hw : PX 48 2 3 71 72 g_3 om := hw.mono m_5 x_6 r_om (by decide) (by decide) rfl rfl rfl rfl
  have hN0 : PX 8 39 40 84 85 g_3 om := hN0.mono m_5 x_6 r_om (by decide) (by decide) rfl rfl rfl rfl
  have hq : QE g_3 pa pb := hq.sm m_5 r_pa (by decide) rfl r_pb (by decide) rfl
  have hM : Sm mdA g g_3 := sm_all
  have hE : Ex g g_3 := hE.tr x_6
  have r_7 : g_3.1 ox = 7 := (Ex.r x_6 r_ox (by decide))
  have r_8 : g_3.1 om = 8 := (Ex.r x_6 r_om (by decide))
  have r_9 : g_3.1 pa = 60 := (Ex.r x_6 r_pa (by decide))
  have r_10 : g_3.1 pb = 83 := (Ex.r x_6 r_pb (by decide))
  have n_11 : g_3.2.2.1 pa = 4 := (Ex.n x_6 r_pa (by decide) n_pa)
  have n_12 : g_3.2.2.1 pb = 4 := (Ex.n x_6 r_pb (by decide) n_pb)
  have kn_13 : g_3.2.1 om 22 = .int o1 := (Sm.v m_5 r_om (by decide) rfl ko)
  have kn_14 : g_3.2.1 ox 5 = .ref pa := (Sm.v m_5 r_ox (by decide) rfl k5)
  have kn_15 : g_3.2.1 om 35 = .ref pb := (Sm.v m_5 r_om (by decide) rfl k35)
  refine W.eq (g2 := F0 m 815 ls [.int r_4]) rfl ?_
  refine lv_pop hx hb dL_law_815 rfl ?_
  refine lv_aload_n hx hb dL_law_816 rfl (lv_at hl 1 rfl) ?_
  refine lv_aload_n hx hb dL_law_817 rfl (lv_at hl 3 rfl) ?_
  refine lv_iload_n hx hb dL_law_818 rfl (lv_at hl 0 rfl) ?_
  refine lv_iconst (v := 1) hx hb dL_law_819 (by decide) ?_
  refine lv_iadd hx hb dL_law_820 ?_
  refine lv_topi (fun z_16 ez_16 => ?_)
  have e_z_16 : z_16.toInt = i.toInt + 1 := i_add ez_16 rfl (by decide) (by omega) (by omega)
  refine va_sld hx hb hX hbl (fun q => by have q_ : N0.1 ≤ b := q; omega) hT.2 (i_in (n := L) rfl (by omega) (by omega)) dL_law_821 ?_
  refine lv_topi (fun u_17 e_u_17 => ?_)
  refine t_callV (n := 1) (As := [.int u_17]) (rest := []) (ci := 7) hB hT hl.1 (m_count l D cI cZ cS cR N0 g_3 hI om u_17 r_8) (ro_ci r_8 rfl) rfl k_1189 k_65 k_1186 k_1187 k_1188 (by decide +kernel) ⟨(Nat.le_of_ble_eq_true rfl), (Nat.le_of_ble_eq_true rfl)⟩ rfl (Nat.le_of_ble_eq_true rfl) ⟨(by show _ ≤ _; first | exact Nat.le_of_ble_eq_true rfl | (simp only [room_1]; omega)), (by show _ ≤ _; first | exact Nat.le_of_ble_eq_true rfl | (simp only [room_1]; omega))⟩ dL_law_822 (fun v g_18 H locs hp hT => ?_)
  obtain ⟨r_19, rfl, hI, x_21, m_20⟩ := hp
  have hw : PX 48 2 3 71 72 g_18 om := hw.mono m_20 x_21 r_8 (by decide) (by decide) rfl rfl rfl rfl
  have hN0 : PX 8 39 40 84 85 g_18 om := hN0.mono m_20 x_21 r_8 (by decide) (by decide) rfl rfl rfl rfl
  have hq : QE g_18 pa pb := hq.sm m_20 r_9 (by decide) rfl r_10 (by decide) rfl
  have hM : Sm mdA g g_18 := sm_all
  have hE : Ex g g_18 := hE.tr x_21
  have r_22 : g_18.1 ox = 7 := (Ex.r x_21 r_7 (by decide))
  have r_23 : g_18.1 om = 8 := (Ex.r x_21 r_8 (by decide))
  have r_24 : g_18.1 pa = 60 := (Ex.r x_21 r_9 (by decide))
  have r_25 : g_18.1 pb = 83 := (Ex.r x_21 r_10 (by decide))
  have n_26 : g_18.2.2.1 pa = 4 := (Ex.n x_21 r_9 (by decide) n_11)
  have n_27 : g_18.2.2.1 pb = 4 := (Ex.n x_21 r_10 (by decide) n_12)
  have kn_28 : g_18.2.1 om 22 = .int o1 := (Sm.v m_20 r_8 (by decide) rfl kn_13)
  have kn_29 : g_18.2.1 ox 5 = .ref pa := (Sm.v m_20 r_7 (by decide) rfl kn_14)
  have kn_30 : g_18.2.1 om 35 = .ref pb := (Sm.v m_20 r_8 (by decide) rfl kn_15)
  refine W.eq (g2 := F0 m 825 ls [.int r_19]) rfl ?_
  refine lv_pop hx hb dL_law_825 rfl ?_
  refine lv_goto (tgt := 829) hx hb dL_law_826 (by decide) ?_
  refine W.widen (k := cells + 4) (n := slots + 28) (by omega) (by omega) ?_
  exact K g_18 o1 H locs hT hI r_22 r_23 kn_28 (by have e0_ : (0 : Int32).toInt = 0 := (by decide); omega) (by have e0_ : (0 : Int32).toInt = 0 := (by decide); omega) hw hN0 kn_29 kn_30 r_24 r_25 n_26 n_27 hq
