theorem k_719 : Cond.methodLink RL 101 yX6_log ∈ tb := mt 719 (by decide +kernel) rfl
theorem k_720 : Cond.instanceMethod yX6_log ∈ tb := mt 720 (by decide +kernel) rfl
theorem k_721 : Cond.selects RX6 yX6_log yX6_log ∈ tb := mt 721 (by decide +kernel) rfl
set_option maxRecDepth 20000 in
theorem k_722 : Cond.code yX6_log cX6_log 3 (some .int) ∈ tb := mt 722 rfl rfl
theorem k_723 : Cond.methodLink RL 105 yX6_reset ∈ tb := mt 723 (by decide +kernel) rfl
theorem k_724 : Cond.instanceMethod yX6_reset ∈ tb := mt 724 (by decide +kernel) rfl
theorem k_725 : Cond.selects RX6 yX6_reset yX6_reset ∈ tb := mt 725 (by decide +kernel) rfl
set_option maxRecDepth 20000 in
theorem k_726 : Cond.code yX6_reset cX6_reset 2 (some .int) ∈ tb := mt 726 rfl rfl
theorem k_735 : Cond.methodLink RL 109 yX6_count ∈ tb := mt 735 (by decide +kernel) rfl
theorem k_736 : Cond.instanceMethod yX6_count ∈ tb := mt 736 (by decide +kernel) rfl
theorem k_737 : Cond.selects RX6 yX6_count yX6_count ∈ tb := mt 737 (by decide +kernel) rfl
set_option maxRecDepth 20000 in
theorem k_738 : Cond.code yX6_count cX6_count 2 (some .int) ∈ tb := mt 738 rfl rfl
theorem k_1178 : Cond.methodLink RL 104 yX7_log ∈ tb := mt 1178 (by decide +kernel) rfl
theorem k_1179 : Cond.instanceMethod yX7_log ∈ tb := mt 1179 (by decide +kernel) rfl
theorem k_1180 : Cond.selects RX7 yX7_log yX7_log ∈ tb := mt 1180 (by decide +kernel) rfl
set_option maxRecDepth 20000 in
theorem k_1181 : Cond.code yX7_log cX7_log 3 (some .int) ∈ tb := mt 1181 rfl rfl
theorem k_1182 : Cond.methodLink RL 108 yX7_reset ∈ tb := mt 1182 (by decide +kernel) rfl
theorem k_1183 : Cond.instanceMethod yX7_reset ∈ tb := mt 1183 (by decide +kernel) rfl
theorem k_1184 : Cond.selects RX7 yX7_reset yX7_reset ∈ tb := mt 1184 (by decide +kernel) rfl
set_option maxRecDepth 20000 in
theorem k_1185 : Cond.code yX7_reset cX7_reset 3 (some .int) ∈ tb := mt 1185 rfl rfl
theorem k_1186 : Cond.methodLink RL 112 yX7_count ∈ tb := mt 1186 (by decide +kernel) rfl
theorem k_1187 : Cond.instanceMethod yX7_count ∈ tb := mt 1187 (by decide +kernel) rfl
theorem k_1188 : Cond.selects RX7 yX7_count yX7_count ∈ tb := mt 1188 (by decide +kernel) rfl
set_option maxRecDepth 20000 in
theorem k_1189 : Cond.code yX7_count cX7_count 2 (some .int) ∈ tb := mt 1189 rfl rfl
theorem dL_law_760 : decode cL_law 760 = .ok (.aload_n 1, 1) := by decide +kernel
theorem dL_law_761 : decode cL_law 761 = .ok (.aload_n 0, 1) := by decide +kernel
theorem dL_law_762 : decode cL_law 762 = .ok (.iload_n 3, 1) := by decide +kernel
theorem dL_law_763 : decode cL_law 763 = .ok (.iconst 1, 1) := by decide +kernel
theorem dL_law_764 : decode cL_law 764 = .ok (.iadd, 1) := by decide +kernel
theorem dL_law_765 : decode cL_law 765 = .ok (.iaload, 1) := by decide +kernel
theorem dL_law_766 : decode cL_law 766 = .ok (.aload_n 0, 1) := by decide +kernel
theorem dL_law_767 : decode cL_law 767 = .ok (.iload_n 3, 1) := by decide +kernel
theorem dL_law_768 : decode cL_law 768 = .ok (.iconst 2, 1) := by decide +kernel
theorem dL_law_769 : decode cL_law 769 = .ok (.iadd, 1) := by decide +kernel
theorem dL_law_770 : decode cL_law 770 = .ok (.iaload, 1) := by decide +kernel
theorem dL_law_771 : decode cL_law 771 = .ok (.invokevirtual 101, 3) := by decide +kernel
theorem dL_law_774 : decode cL_law 774 = .ok (.aload_n 2, 1) := by decide +kernel
theorem dL_law_775 : decode cL_law 775 = .ok (.aload_n 0, 1) := by decide +kernel
theorem dL_law_776 : decode cL_law 776 = .ok (.iload_n 3, 1) := by decide +kernel
theorem dL_law_777 : decode cL_law 777 = .ok (.iconst 1, 1) := by decide +kernel
theorem dL_law_778 : decode cL_law 778 = .ok (.iadd, 1) := by decide +kernel
theorem dL_law_779 : decode cL_law 779 = .ok (.iaload, 1) := by decide +kernel
theorem dL_law_780 : decode cL_law 780 = .ok (.aload_n 0, 1) := by decide +kernel
theorem dL_law_781 : decode cL_law 781 = .ok (.iload_n 3, 1) := by decide +kernel
theorem dL_law_782 : decode cL_law 782 = .ok (.iconst 2, 1) := by decide +kernel
theorem dL_law_783 : decode cL_law 783 = .ok (.iadd, 1) := by decide +kernel
theorem dL_law_784 : decode cL_law 784 = .ok (.iaload, 1) := by decide +kernel
theorem dL_law_785 : decode cL_law 785 = .ok (.invokevirtual 104, 3) := by decide +kernel
theorem dL_law_788 : decode cL_law 788 = .ok (.if_icmp .eq 41, 3) := by decide +kernel
theorem dL_law_793 : decode cL_law 793 = .ok (.aload_n 1, 1) := by decide +kernel
theorem dL_law_794 : decode cL_law 794 = .ok (.invokevirtual 105, 3) := by decide +kernel
theorem dL_law_797 : decode cL_law 797 = .ok (.pop, 1) := by decide +kernel
theorem dL_law_798 : decode cL_law 798 = .ok (.aload_n 2, 1) := by decide +kernel
theorem dL_law_799 : decode cL_law 799 = .ok (.invokevirtual 108, 3) := by decide +kernel
theorem dL_law_802 : decode cL_law 802 = .ok (.pop, 1) := by decide +kernel
theorem dL_law_803 : decode cL_law 803 = .ok (.goto 26, 3) := by decide +kernel
theorem dL_law_806 : decode cL_law 806 = .ok (.aload_n 1, 1) := by decide +kernel
theorem dL_law_807 : decode cL_law 807 = .ok (.aload_n 0, 1) := by decide +kernel
theorem dL_law_808 : decode cL_law 808 = .ok (.iload_n 3, 1) := by decide +kernel
theorem dL_law_809 : decode cL_law 809 = .ok (.iconst 1, 1) := by decide +kernel
theorem dL_law_810 : decode cL_law 810 = .ok (.iadd, 1) := by decide +kernel
theorem dL_law_811 : decode cL_law 811 = .ok (.iaload, 1) := by decide +kernel
theorem dL_law_812 : decode cL_law 812 = .ok (.invokevirtual 109, 3) := by decide +kernel
theorem dL_law_815 : decode cL_law 815 = .ok (.pop, 1) := by decide +kernel
theorem dL_law_816 : decode cL_law 816 = .ok (.aload_n 2, 1) := by decide +kernel
theorem dL_law_817 : decode cL_law 817 = .ok (.aload_n 0, 1) := by decide +kernel
theorem dL_law_818 : decode cL_law 818 = .ok (.iload_n 3, 1) := by decide +kernel
theorem dL_law_819 : decode cL_law 819 = .ok (.iconst 1, 1) := by decide +kernel
theorem dL_law_820 : decode cL_law 820 = .ok (.iadd, 1) := by decide +kernel
theorem dL_law_821 : decode cL_law 821 = .ok (.iaload, 1) := by decide +kernel
theorem dL_law_822 : decode cL_law 822 = .ok (.invokevirtual 112, 3) := by decide +kernel
theorem dL_law_825 : decode cL_law 825 = .ok (.pop, 1) := by decide +kernel
theorem dL_law_826 : decode cL_law 826 = .ok (.goto 3, 3) := by decide +kernel
set_option maxHeartbeats 4000000 in
set_option maxRecDepth 100000 in
/-- log -/
theorem law_20 {p : Program} {l : Launch} {e : Env} {s : State} {m : MethodId} {below : List Frame} {meth : Method} {c : Code} {D : va_G} {cI cZ cS cR : ClassId} {N0 : NT} {b L : Nat} {xs : Nat → Int32} (hB : Tz p s m meth c #[Value.ref b] code 4 RL D cI cZ cS cR N0) (hAs : N0.1 = s.heap.size) (hX : va_X b L xs s s.heap) (hbl : b < s.heap.size) (hL : L ≤ 2560) (hr : meth.sig.returnType = ret) {cells slots : Nat} (hcl : cells + 4 ≤ 600000) (hsl : slots + 28 ≤ 7302250) {H : Heap} {locs : List Loc} {ls : Array Slot} (g : GS) (ox om : Nat) (tp : Nat) (nw : Nat) (rl : Nat) (lg : Nat) (ba : Nat) (ta : Nat) (wt : Nat) (y0 : Nat) (y1 : Nat) (y2 : Nat) (m0 : Nat) (m1 : Nat) (m2 : Nat) (i o1 tz sv rz lz : Int32) (hT : Tv D cI cZ cS cR N0 s.heap H locs g) (hI : Inv g) (l_i : 0 ≤ i.toInt) (u_i : i.toInt + 5 ≤ L) : g.1 ox = 7 → g.1 om = 8 → g.2.1 om 22 = .int o1 → 0 ≤ o1.toInt → o1.toInt ≤ 12 * i.toInt → PX 48 2 3 71 72 g om → PX 8 39 40 84 85 g om → g.2.1 ox 0 = .ref tp → g.1 tp = 5 → g.2.1 ox 1 = .ref nw → g.1 nw = 19 → g.2.1 ox 2 = .ref rl → g.1 rl = 1 → g.2.1 ox 3 = .ref lg → g.1 lg = 9 → g.2.1 tp 0 = .ref ba → g.1 ba = 67 → g.2.2.1 ba = 100 → g.2.1 om 28 = .ref ta → g.1 ta = 79 → g.2.2.1 ta = 100 → g.2.1 om 42 = .ref wt → g.1 wt = 87 → g.2.2.1 wt = 24 → g.2.1 lg 0 = .ref y0 → g.1 y0 = 64 → g.2.2.1 y0 = 20 → g.2.1 lg 1 = .ref y1 → g.1 y1 = 65 → g.2.2.1 y1 = 20 → g.2.1 lg 2 = .ref y2 → g.1 y2 = 66 → g.2.2.1 y2 = 20 → g.2.1 om 25 = .ref m0 → g.1 m0 = 76 → g.2.2.1 m0 = 20 → g.2.1 om 26 = .ref m1 → g.1 m1 = 77 → g.2.2.1 m1 = 20 → g.2.1 om 27 = .ref m2 → g.1 m2 = 78 → g.2.2.1 m2 = 20 → g.2.1 tp 1 = .int tz → g.2.1 om 29 = .int tz → 0 ≤ tz.toInt → tz.toInt ≤ 100 → g.2.1 nw 1 = .int sv → g.2.1 om 0 = .int sv → 0 ≤ sv.toInt → sv.toInt ≤ 6 → g.2.1 rl 3 = .int rz → g.2.1 om 30 = .int rz → 0 ≤ rz.toInt → rz.toInt ≤ 6 → g.2.1 lg 3 = .int lz → g.2.1 om 24 = .int lz → 0 ≤ lz.toInt → lz.toInt ≤ 20 → TE g ba ta tz.toInt → WT g wt → TE g y0 m0 lz.toInt → TE g y1 m1 lz.toInt → TE g y2 m2 lz.toInt → (hl : lv_has ls 4 [(3, .int i), (2, .ref om), (1, .ref ox), (0, .ref b)]) → (K : ∀ (g1 : GS) (o1_1 tz_1 sv_1 rz_1 lz_1 : Int32) (H1 : Heap) (locs1 : List Loc), Tv D cI cZ cS cR N0 s.heap H1 locs1 g1 → Inv g1 → g1.1 ox = 7 → g1.1 om = 8 → g1.2.1 om 22 = .int o1_1 → 0 ≤ o1_1.toInt → o1_1.toInt ≤ 12 * i.toInt + 60 → PX 48 2 3 71 72 g1 om → PX 8 39 40 84 85 g1 om → g1.2.1 ox 0 = .ref tp → g1.1 tp = 5 → g1.2.1 ox 1 = .ref nw → g1.1 nw = 19 → g1.2.1 ox 2 = .ref rl → g1.1 rl = 1 → g1.2.1 ox 3 = .ref lg → g1.1 lg = 9 → g1.2.1 tp 0 = .ref ba → g1.1 ba = 67 → g1.2.2.1 ba = 100 → g1.2.1 om 28 = .ref ta → g1.1 ta = 79 → g1.2.2.1 ta = 100 → g1.2.1 om 42 = .ref wt → g1.1 wt = 87 → g1.2.2.1 wt = 24 → g1.2.1 lg 0 = .ref y0 → g1.1 y0 = 64 → g1.2.2.1 y0 = 20 → g1.2.1 lg 1 = .ref y1 → g1.1 y1 = 65 → g1.2.2.1 y1 = 20 → g1.2.1 lg 2 = .ref y2 → g1.1 y2 = 66 → g1.2.2.1 y2 = 20 → g1.2.1 om 25 = .ref m0 → g1.1 m0 = 76 → g1.2.2.1 m0 = 20 → g1.2.1 om 26 = .ref m1 → g1.1 m1 = 77 → g1.2.2.1 m1 = 20 → g1.2.1 om 27 = .ref m2 → g1.1 m2 = 78 → g1.2.2.1 m2 = 20 → g1.2.1 tp 1 = .int tz_1 → g1.2.1 om 29 = .int tz_1 → 0 ≤ tz_1.toInt → tz_1.toInt ≤ 100 → g1.2.1 nw 1 = .int sv_1 → g1.2.1 om 0 = .int sv_1 → 0 ≤ sv_1.toInt → sv_1.toInt ≤ 6 → g1.2.1 rl 3 = .int rz_1 → g1.2.1 om 30 = .int rz_1 → 0 ≤ rz_1.toInt → rz_1.toInt ≤ 6 → g1.2.1 lg 3 = .int lz_1 → g1.2.1 om 24 = .int lz_1 → 0 ≤ lz_1.toInt → lz_1.toInt ≤ 20 → TE g1 ba ta tz_1.toInt → WT g1 wt → TE g1 y0 m0 lz_1.toInt → TE g1 y1 m1 lz_1.toInt → TE g1 y2 m2 lz_1.toInt → W p l e room_1 s m #[Value.ref b] below meth c H1 locs1 (cells + 4) (slots + 28) (lw_Z below #[Value.ref b] s) (F0 m 829 ls [])) → W p l e room_1 s m #[Value.ref b] below meth c H locs cells slots (lw_Z below #[Value.ref b] s) (F0 m 760 ls []) := by
  intro r_ox r_om ko l_o u_o hw hN0 k_tp r_tp k_nw r_nw k_rl r_rl k_lg r_lg k_ba r_ba n_ba k_ta r_ta n_ta k_wt r_wt n_wt k_y0 r_y0 n_y0 k_y1 r_y1 n_y1 k_y2 r_y2 n_y2 k_m0 r_m0 n_m0 k_m1 r_m1 n_m1 k_m2 r_m2 n_m2 kc_tz km_tz l_tz u_tz kc_sv km_sv l_sv u_sv kc_rz km_rz l_rz u_rz kc_lz km_lz l_lz u_lz hTE hWT hL0 hL1 hL2 hl K
  have hx := hB.1
  have hb := hB.2.1
  have hE : Ex g g := Ex.rf
  have hM : Sm mdA g g := sm_all
  have hTE0 := hTE
  have hL00 := hL0
  have hL10 := hL1
  have hL20 := hL2
  refine lv_aload_n hx hb dL_law_760 rfl (lv_at hl 2 rfl) ?_
  refine lv_aload_n hx hb dL_law_761 rfl (lv_at hl 3 rfl) ?_
  refine lv_iload_n hx hb dL_law_762 rfl (lv_at hl 0 rfl) ?_
  refine lv_iconst (v := 1) hx hb dL_law_763 (by decide) ?_
  refine lv_iadd hx hb dL_law_764 ?_
  refine lv_topi (fun z_1 ez_1 => ?_)
  have e_z_1 : z_1.toInt = i.toInt + 1 := i_add ez_1 rfl (by decide) (by omega) (by omega)
  refine va_sld hx hb hX hbl (fun q => by have q_ : N0.1 ≤ b := q; omega) hT.2 (i_in (n := L) rfl (by omega) (by omega)) dL_law_765 ?_
  refine lv_topi (fun u_2 e_u_2 => ?_)
  refine lv_aload_n hx hb dL_law_766 rfl (lv_at hl 3 rfl) ?_
  refine lv_iload_n hx hb dL_law_767 rfl (lv_at hl 0 rfl) ?_
  refine lv_iconst (v := 2) hx hb dL_law_768 (by decide) ?_
  refine lv_iadd hx hb dL_law_769 ?_
  refine lv_topi (fun z_3 ez_3 => ?_)
  have e_z_3 : z_3.toInt = i.toInt + 2 := i_add ez_3 rfl (by decide) (by omega) (by omega)
  refine va_sld hx hb hX hbl (fun q => by have q_ : N0.1 ≤ b := q; omega) hT.2 (i_in (n := L) rfl (by omega) (by omega)) dL_law_770 ?_
  refine lv_topi (fun u_4 e_u_4 => ?_)
  refine t_callV (n := 2) (As := [.int u_2, .int u_4]) (rest := []) (ci := 6) hB hT hl.1 (P_log l D cI cZ cS cR N0 g hI ox u_2 u_4 lg lz y0 y1 y2 r_ox r_lg r_y0 n_y0 r_y1 n_y1 r_y2 n_y2 k_lg kc_lz k_y0 k_y1 k_y2 (by omega) (by omega)) (ro_ci r_ox rfl) rfl k_722 k_57 k_719 k_720 k_721 (by decide +kernel) ⟨(Nat.le_of_ble_eq_true rfl), (Nat.le_of_ble_eq_true rfl)⟩ rfl (Nat.le_of_ble_eq_true rfl) ⟨(by show _ ≤ _; first | exact Nat.le_of_ble_eq_true rfl | (simp only [room_1]; omega)), (by show _ ≤ _; first | exact Nat.le_of_ble_eq_true rfl | (simp only [room_1]; omega))⟩ dL_law_771 (fun v g_5 H locs hp hT => ?_)
  obtain ⟨r_6, rfl, hI, x_9, m_8, f_7⟩ := hp
  have hw : PX 48 2 3 71 72 g_5 om := hw.mono m_8 x_9 r_om (by decide) (by decide) rfl rfl rfl rfl
  have hN0 : PX 8 39 40 84 85 g_5 om := hN0.mono m_8 x_9 r_om (by decide) (by decide) rfl rfl rfl rfl
  have hTE : TE g_5 ba ta tz.toInt := hTE.sm m_8 r_ba (by decide) rfl r_ta (by decide) rfl
  have hWT : WT g_5 wt := hWT.sm m_8 r_wt (by decide) rfl
  have hL0 : TE g_5 y0 m0 lz.toInt := hL0.sm m_8 r_y0 (by decide) rfl r_m0 (by decide) rfl
  have hL1 : TE g_5 y1 m1 lz.toInt := hL1.sm m_8 r_y1 (by decide) rfl r_m1 (by decide) rfl
  have hL2 : TE g_5 y2 m2 lz.toInt := hL2.sm m_8 r_y2 (by decide) rfl r_m2 (by decide) rfl
  have hM : Sm mdA g g_5 := sm_all
  have hE : Ex g g_5 := hE.tr x_9
  have r_10 : g_5.1 ox = 7 := (Ex.r x_9 r_ox (by decide))
  have r_11 : g_5.1 om = 8 := (Ex.r x_9 r_om (by decide))
  have r_12 : g_5.1 tp = 5 := (Ex.r x_9 r_tp (by decide))
  have r_13 : g_5.1 nw = 19 := (Ex.r x_9 r_nw (by decide))
  have r_14 : g_5.1 rl = 1 := (Ex.r x_9 r_rl (by decide))
  have r_15 : g_5.1 lg = 9 := (Ex.r x_9 r_lg (by decide))
  have r_16 : g_5.1 ba = 67 := (Ex.r x_9 r_ba (by decide))
  have r_17 : g_5.1 ta = 79 := (Ex.r x_9 r_ta (by decide))
  have r_18 : g_5.1 wt = 87 := (Ex.r x_9 r_wt (by decide))
  have r_19 : g_5.1 y0 = 64 := (Ex.r x_9 r_y0 (by decide))
  have r_20 : g_5.1 y1 = 65 := (Ex.r x_9 r_y1 (by decide))
  have r_21 : g_5.1 y2 = 66 := (Ex.r x_9 r_y2 (by decide))
  have r_22 : g_5.1 m0 = 76 := (Ex.r x_9 r_m0 (by decide))
  have r_23 : g_5.1 m1 = 77 := (Ex.r x_9 r_m1 (by decide))
  have r_24 : g_5.1 m2 = 78 := (Ex.r x_9 r_m2 (by decide))
  have n_25 : g_5.2.2.1 ba = 100 := (Ex.n x_9 r_ba (by decide) n_ba)
  have n_26 : g_5.2.2.1 ta = 100 := (Ex.n x_9 r_ta (by decide) n_ta)
  have n_27 : g_5.2.2.1 wt = 24 := (Ex.n x_9 r_wt (by decide) n_wt)
  have n_28 : g_5.2.2.1 y0 = 20 := (Ex.n x_9 r_y0 (by decide) n_y0)
  have n_29 : g_5.2.2.1 y1 = 20 := (Ex.n x_9 r_y1 (by decide) n_y1)
  have n_30 : g_5.2.2.1 y2 = 20 := (Ex.n x_9 r_y2 (by decide) n_y2)
  have n_31 : g_5.2.2.1 m0 = 20 := (Ex.n x_9 r_m0 (by decide) n_m0)
  have n_32 : g_5.2.2.1 m1 = 20 := (Ex.n x_9 r_m1 (by decide) n_m1)
  have n_33 : g_5.2.2.1 m2 = 20 := (Ex.n x_9 r_m2 (by decide) n_m2)
  have kn_34 : g_5.2.1 om 22 = .int o1 := (Sm.v m_8 r_om (by decide) rfl ko)
  have kn_35 : g_5.2.1 ox 0 = .ref tp := (Sm.v m_8 r_ox (by decide) rfl k_tp)
  have kn_36 : g_5.2.1 ox 1 = .ref nw := (Sm.v m_8 r_ox (by decide) rfl k_nw)
  have kn_37 : g_5.2.1 ox 2 = .ref rl := (Sm.v m_8 r_ox (by decide) rfl k_rl)
  have kn_38 : g_5.2.1 ox 3 = .ref lg := (Sm.v m_8 r_ox (by decide) rfl k_lg)
  have kn_39 : g_5.2.1 tp 0 = .ref ba := (Sm.v m_8 r_tp (by decide) rfl k_ba)
  have kn_40 : g_5.2.1 om 28 = .ref ta := (Sm.v m_8 r_om (by decide) rfl k_ta)
  have kn_41 : g_5.2.1 om 42 = .ref wt := (Sm.v m_8 r_om (by decide) rfl k_wt)
  have kn_42 : g_5.2.1 lg 0 = .ref y0 := (Sm.v m_8 r_lg (by decide) rfl k_y0)
  have kn_43 : g_5.2.1 lg 1 = .ref y1 := (Sm.v m_8 r_lg (by decide) rfl k_y1)
  have kn_44 : g_5.2.1 lg 2 = .ref y2 := (Sm.v m_8 r_lg (by decide) rfl k_y2)
  have kn_45 : g_5.2.1 om 25 = .ref m0 := (Sm.v m_8 r_om (by decide) rfl k_m0)
  have kn_46 : g_5.2.1 om 26 = .ref m1 := (Sm.v m_8 r_om (by decide) rfl k_m1)
  have kn_47 : g_5.2.1 om 27 = .ref m2 := (Sm.v m_8 r_om (by decide) rfl k_m2)
  have kn_48 : g_5.2.1 tp 1 = .int tz := (Sm.v m_8 r_tp (by decide) rfl kc_tz)
  have kn_49 : g_5.2.1 om 29 = .int tz := (Sm.v m_8 r_om (by decide) rfl km_tz)
  have kn_50 : g_5.2.1 nw 1 = .int sv := (Sm.v m_8 r_nw (by decide) rfl kc_sv)
  have kn_51 : g_5.2.1 om 0 = .int sv := (Sm.v m_8 r_om (by decide) rfl km_sv)
  have kn_52 : g_5.2.1 rl 3 = .int rz := (Sm.v m_8 r_rl (by decide) rfl kc_rz)
  have kn_53 : g_5.2.1 om 30 = .int rz := (Sm.v m_8 r_om (by decide) rfl km_rz)
  have kn_54 : g_5.2.1 lg 3 = .int lz := (Sm.v m_8 r_lg (by decide) rfl kc_lz)
  have kn_55 : g_5.2.1 om 24 = .int lz := (Sm.v m_8 r_om (by decide) rfl km_lz)
  refine W.eq (g2 := F0 m 774 ls [.int r_6]) rfl ?_
  refine lv_aload_n hx hb dL_law_774 rfl (lv_at hl 1 rfl) ?_
  refine lv_aload_n hx hb dL_law_775 rfl (lv_at hl 3 rfl) ?_
  refine lv_iload_n hx hb dL_law_776 rfl (lv_at hl 0 rfl) ?_
  refine lv_iconst (v := 1) hx hb dL_law_777 (by decide) ?_
  refine lv_iadd hx hb dL_law_778 ?_
  refine lv_topi (fun z_56 ez_56 => ?_)
  have e_z_56 : z_56.toInt = i.toInt + 1 := i_add ez_56 rfl (by decide) (by omega) (by omega)
  refine va_sld hx hb hX hbl (fun q => by have q_ : N0.1 ≤ b := q; omega) hT.2 (i_in (n := L) rfl (by omega) (by omega)) dL_law_779 ?_
  refine lv_topi (fun u_57 e_u_57 => ?_)
  refine lv_aload_n hx hb dL_law_780 rfl (lv_at hl 3 rfl) ?_
  refine lv_iload_n hx hb dL_law_781 rfl (lv_at hl 0 rfl) ?_
  refine lv_iconst (v := 2) hx hb dL_law_782 (by decide) ?_
  refine lv_iadd hx hb dL_law_783 ?_
  refine lv_topi (fun z_58 ez_58 => ?_)
  have e_z_58 : z_58.toInt = i.toInt + 2 := i_add ez_58 rfl (by decide) (by omega) (by omega)
  refine va_sld hx hb hX hbl (fun q => by have q_ : N0.1 ≤ b := q; omega) hT.2 (i_in (n := L) rfl (by omega) (by omega)) dL_law_784 ?_
  refine lv_topi (fun u_59 e_u_59 => ?_)
  refine t_callV (n := 2) (As := [.int u_57, .int u_59]) (rest := [.int r_6]) (ci := 7) hB hT hl.1 (m_log l D cI cZ cS cR N0 g_5 hI om u_57 u_59 lz m0 m1 m2 r_11 r_22 n_31 r_23 n_32 r_24 n_33 kn_55 kn_45 kn_46 kn_47 (by omega) (by omega)) (ro_ci r_11 rfl) rfl k_1181 k_65 k_1178 k_1179 k_1180 (by decide +kernel) ⟨(Nat.le_of_ble_eq_true rfl), (Nat.le_of_ble_eq_true rfl)⟩ rfl (Nat.le_of_ble_eq_true rfl) ⟨(by show _ ≤ _; first | exact Nat.le_of_ble_eq_true rfl | (simp only [room_1]; omega)), (by show _ ≤ _; first | exact Nat.le_of_ble_eq_true rfl | (simp only [room_1]; omega))⟩ dL_law_785 (fun v g_60 H locs hp hT => ?_)
  obtain ⟨r_61, rfl, hI, x_64, m_63, f_62⟩ := hp
  have hw : PX 48 2 3 71 72 g_60 om := hw.mono m_63 x_64 r_11 (by decide) (by decide) rfl rfl rfl rfl
  have hN0 : PX 8 39 40 84 85 g_60 om := hN0.mono m_63 x_64 r_11 (by decide) (by decide) rfl rfl rfl rfl
  have hTE : TE g_60 ba ta tz.toInt := hTE.sm m_63 r_16 (by decide) rfl r_17 (by decide) rfl
  have hWT : WT g_60 wt := hWT.sm m_63 r_18 (by decide) rfl
  have hL0 : TE g_60 y0 m0 lz.toInt := hL0.sm m_63 r_19 (by decide) rfl r_22 (by decide) rfl
  have hL1 : TE g_60 y1 m1 lz.toInt := hL1.sm m_63 r_20 (by decide) rfl r_23 (by decide) rfl
  have hL2 : TE g_60 y2 m2 lz.toInt := hL2.sm m_63 r_21 (by decide) rfl r_24 (by decide) rfl
  have hM : Sm mdA g g_60 := sm_all
  have hE : Ex g g_60 := hE.tr x_64
  have r_65 : g_60.1 ox = 7 := (Ex.r x_64 r_10 (by decide))
  have r_66 : g_60.1 om = 8 := (Ex.r x_64 r_11 (by decide))
  have r_67 : g_60.1 tp = 5 := (Ex.r x_64 r_12 (by decide))
  have r_68 : g_60.1 nw = 19 := (Ex.r x_64 r_13 (by decide))
  have r_69 : g_60.1 rl = 1 := (Ex.r x_64 r_14 (by decide))
  have r_70 : g_60.1 lg = 9 := (Ex.r x_64 r_15 (by decide))
  have r_71 : g_60.1 ba = 67 := (Ex.r x_64 r_16 (by decide))
  have r_72 : g_60.1 ta = 79 := (Ex.r x_64 r_17 (by decide))
  have r_73 : g_60.1 wt = 87 := (Ex.r x_64 r_18 (by decide))
  have r_74 : g_60.1 y0 = 64 := (Ex.r x_64 r_19 (by decide))
  have r_75 : g_60.1 y1 = 65 := (Ex.r x_64 r_20 (by decide))
  have r_76 : g_60.1 y2 = 66 := (Ex.r x_64 r_21 (by decide))
  have r_77 : g_60.1 m0 = 76 := (Ex.r x_64 r_22 (by decide))
  have r_78 : g_60.1 m1 = 77 := (Ex.r x_64 r_23 (by decide))
  have r_79 : g_60.1 m2 = 78 := (Ex.r x_64 r_24 (by decide))
  have n_80 : g_60.2.2.1 ba = 100 := (Ex.n x_64 r_16 (by decide) n_25)
  have n_81 : g_60.2.2.1 ta = 100 := (Ex.n x_64 r_17 (by decide) n_26)
  have n_82 : g_60.2.2.1 wt = 24 := (Ex.n x_64 r_18 (by decide) n_27)
  have n_83 : g_60.2.2.1 y0 = 20 := (Ex.n x_64 r_19 (by decide) n_28)
  have n_84 : g_60.2.2.1 y1 = 20 := (Ex.n x_64 r_20 (by decide) n_29)
  have n_85 : g_60.2.2.1 y2 = 20 := (Ex.n x_64 r_21 (by decide) n_30)
  have n_86 : g_60.2.2.1 m0 = 20 := (Ex.n x_64 r_22 (by decide) n_31)
  have n_87 : g_60.2.2.1 m1 = 20 := (Ex.n x_64 r_23 (by decide) n_32)
  have n_88 : g_60.2.2.1 m2 = 20 := (Ex.n x_64 r_24 (by decide) n_33)
  have kn_89 : g_60.2.1 om 22 = .int o1 := (Sm.v m_63 r_11 (by decide) rfl kn_34)
  have kn_90 : g_60.2.1 ox 0 = .ref tp := (Sm.v m_63 r_10 (by decide) rfl kn_35)
  have kn_91 : g_60.2.1 ox 1 = .ref nw := (Sm.v m_63 r_10 (by decide) rfl kn_36)
  have kn_92 : g_60.2.1 ox 2 = .ref rl := (Sm.v m_63 r_10 (by decide) rfl kn_37)
  have kn_93 : g_60.2.1 ox 3 = .ref lg := (Sm.v m_63 r_10 (by decide) rfl kn_38)
  have kn_94 : g_60.2.1 tp 0 = .ref ba := (Sm.v m_63 r_12 (by decide) rfl kn_39)
  have kn_95 : g_60.2.1 om 28 = .ref ta := (Sm.v m_63 r_11 (by decide) rfl kn_40)
  have kn_96 : g_60.2.1 om 42 = .ref wt := (Sm.v m_63 r_11 (by decide) rfl kn_41)
  have kn_97 : g_60.2.1 lg 0 = .ref y0 := (Sm.v m_63 r_15 (by decide) rfl kn_42)
  have kn_98 : g_60.2.1 lg 1 = .ref y1 := (Sm.v m_63 r_15 (by decide) rfl kn_43)
  have kn_99 : g_60.2.1 lg 2 = .ref y2 := (Sm.v m_63 r_15 (by decide) rfl kn_44)
  have kn_100 : g_60.2.1 om 25 = .ref m0 := (Sm.v m_63 r_11 (by decide) rfl kn_45)
  have kn_101 : g_60.2.1 om 26 = .ref m1 := (Sm.v m_63 r_11 (by decide) rfl kn_46)
  have kn_102 : g_60.2.1 om 27 = .ref m2 := (Sm.v m_63 r_11 (by decide) rfl kn_47)
  have kn_103 : g_60.2.1 tp 1 = .int tz := (Sm.v m_63 r_12 (by decide) rfl kn_48)
  have kn_104 : g_60.2.1 om 29 = .int tz := (Sm.v m_63 r_11 (by decide) rfl kn_49)
  have kn_105 : g_60.2.1 nw 1 = .int sv := (Sm.v m_63 r_13 (by decide) rfl kn_50)
  have kn_106 : g_60.2.1 om 0 = .int sv := (Sm.v m_63 r_11 (by decide) rfl kn_51)
  have kn_107 : g_60.2.1 rl 3 = .int rz := (Sm.v m_63 r_14 (by decide) rfl kn_52)
  have kn_108 : g_60.2.1 om 30 = .int rz := (Sm.v m_63 r_11 (by decide) rfl kn_53)
  have kn_109 : g_60.2.1 lg 3 = .int lz := (Sm.v m_63 r_15 (by decide) rfl kn_54)
  have kn_110 : g_60.2.1 om 24 = .int lz := (Sm.v m_63 r_11 (by decide) rfl kn_55)
  refine W.eq (g2 := F0 m 788 ls [.int r_61, .int r_6]) rfl ?_
  have eq_u_57 : u_57 = u_2 := e_u_57.trans ((congrArg xs (i_nt (by omega))).trans e_u_2.symm)
  have eqi_u_57 : u_57.toInt = u_2.toInt := congrArg Int32.toInt eq_u_57
  have eq_u_59 : u_59 = u_4 := e_u_59.trans ((congrArg xs (i_nt (by omega))).trans e_u_4.symm)
  have eqi_u_59 : u_59.toInt = u_4.toInt := congrArg Int32.toInt eq_u_59
  have hlm_ := f_62
  rw [eq_u_57] at hlm_
  rw [eq_u_59] at hlm_
  refine lv_icmp_eq (tgt := 829) hx hb dL_law_788 (by decide) (fun c_ => ?_) (fun c_ => absurd (f_7.trans ((lgR_eq (fun i_ hi_ => (hL00 i_ hi_).trans (congrFun (Sm.cf m_8 r_m0 (by decide) rfl).symm i_)) (fun i_ hi_ => (hL10 i_ hi_).trans (congrFun (Sm.cf m_8 r_m1 (by decide) rfl).symm i_)) (fun i_ hi_ => (hL20 i_ hi_).trans (congrFun (Sm.cf m_8 r_m2 (by decide) rfl).symm i_))).trans hlm_.symm)) c_)
  refine W.widen (k := cells + 4) (n := slots + 28) (by omega) (by omega) ?_
  exact K g_60 o1 tz sv rz lz H locs hT hI r_65 r_66 kn_89 (by have e0_ : (0 : Int32).toInt = 0 := (by decide); omega) (by have e0_ : (0 : Int32).toInt = 0 := (by decide); omega) hw hN0 kn_90 r_67 kn_91 r_68 kn_92 r_69 kn_93 r_70 kn_94 r_71 n_80 kn_95 r_72 n_81 kn_96 r_73 n_82 kn_97 r_74 n_83 kn_98 r_75 n_84 kn_99 r_76 n_85 kn_100 r_77 n_86 kn_101 r_78 n_87 kn_102 r_79 n_88 kn_103 kn_104 (by have e0_ : (0 : Int32).toInt = 0 := (by decide); omega) (by have e0_ : (0 : Int32).toInt = 0 := (by decide); omega) kn_105 kn_106 (by have e0_ : (0 : Int32).toInt = 0 := (by decide); omega) (by have e0_ : (0 : Int32).toInt = 0 := (by decide); omega) kn_107 kn_108 (by have e0_ : (0 : Int32).toInt = 0 := (by decide); omega) (by have e0_ : (0 : Int32).toInt = 0 := (by decide); omega) kn_109 kn_110 (by have e0_ : (0 : Int32).toInt = 0 := (by decide); omega) (by have e0_ : (0 : Int32).toInt = 0 := (by decide); omega) hTE hWT hL0 hL1 hL2
set_option maxHeartbeats 4000000 in
set_option maxRecDepth 100000 in
/-- reset -/
theorem law_21 {p : Program} {l : Launch} {e : Env} {s : State} {m : MethodId} {below : List Frame} {meth : Method} {c : Code} {D : va_G} {cI cZ cS cR : ClassId} {N0 : NT} {b L : Nat} {xs : Nat → Int32} (hB : Tz p s m meth c #[Value.ref b] code 4 RL D cI cZ cS cR N0) (hAs : N0.1 = s.heap.size) (hX : va_X b L xs s s.heap) (hbl : b < s.heap.size) (hL : L ≤ 2560) (hr : meth.sig.returnType = ret) {cells slots : Nat} (hcl : cells + 4 ≤ 600000) (hsl : slots + 28 ≤ 7302250) {H : Heap} {locs : List Loc} {ls : Array Slot} (g : GS) (ox om : Nat) (tp : Nat) (nw : Nat) (rl : Nat) (lg : Nat) (ba : Nat) (ta : Nat) (wt : Nat) (y0 : Nat) (y1 : Nat) (y2 : Nat) (m0 : Nat) (m1 : Nat) (m2 : Nat) (i o1 tz sv rz lz : Int32) (hT : Tv D cI cZ cS cR N0 s.heap H locs g) (hI : Inv g) (l_i : 0 ≤ i.toInt) (u_i : i.toInt + 5 ≤ L) : g.1 ox = 7 → g.1 om = 8 → g.2.1 om 22 = .int o1 → 0 ≤ o1.toInt → o1.toInt ≤ 12 * i.toInt → PX 48 2 3 71 72 g om → PX 8 39 40 84 85 g om → g.2.1 ox 0 = .ref tp → g.1 tp = 5 → g.2.1 ox 1 = .ref nw → g.1 nw = 19 → g.2.1 ox 2 = .ref rl → g.1 rl = 1 → g.2.1 ox 3 = .ref lg → g.1 lg = 9 → g.2.1 tp 0 = .ref ba → g.1 ba = 67 → g.2.2.1 ba = 100 → g.2.1 om 28 = .ref ta → g.1 ta = 79 → g.2.2.1 ta = 100 → g.2.1 om 42 = .ref wt → g.1 wt = 87 → g.2.2.1 wt = 24 → g.2.1 lg 0 = .ref y0 → g.1 y0 = 64 → g.2.2.1 y0 = 20 → g.2.1 lg 1 = .ref y1 → g.1 y1 = 65 → g.2.2.1 y1 = 20 → g.2.1 lg 2 = .ref y2 → g.1 y2 = 66 → g.2.2.1 y2 = 20 → g.2.1 om 25 = .ref m0 → g.1 m0 = 76 → g.2.2.1 m0 = 20 → g.2.1 om 26 = .ref m1 → g.1 m1 = 77 → g.2.2.1 m1 = 20 → g.2.1 om 27 = .ref m2 → g.1 m2 = 78 → g.2.2.1 m2 = 20 → g.2.1 tp 1 = .int tz → g.2.1 om 29 = .int tz → 0 ≤ tz.toInt → tz.toInt ≤ 100 → g.2.1 nw 1 = .int sv → g.2.1 om 0 = .int sv → 0 ≤ sv.toInt → sv.toInt ≤ 6 → g.2.1 rl 3 = .int rz → g.2.1 om 30 = .int rz → 0 ≤ rz.toInt → rz.toInt ≤ 6 → g.2.1 lg 3 = .int lz → g.2.1 om 24 = .int lz → 0 ≤ lz.toInt → lz.toInt ≤ 20 → TE g ba ta tz.toInt → WT g wt → TE g y0 m0 lz.toInt → TE g y1 m1 lz.toInt → TE g y2 m2 lz.toInt → (hl : lv_has ls 4 [(3, .int i), (2, .ref om), (1, .ref ox), (0, .ref b)]) → (K : ∀ (g1 : GS) (o1_1 tz_1 sv_1 rz_1 lz_1 : Int32) (H1 : Heap) (locs1 : List Loc), Tv D cI cZ cS cR N0 s.heap H1 locs1 g1 → Inv g1 → g1.1 ox = 7 → g1.1 om = 8 → g1.2.1 om 22 = .int o1_1 → 0 ≤ o1_1.toInt → o1_1.toInt ≤ 12 * i.toInt + 60 → PX 48 2 3 71 72 g1 om → PX 8 39 40 84 85 g1 om → g1.2.1 ox 0 = .ref tp → g1.1 tp = 5 → g1.2.1 ox 1 = .ref nw → g1.1 nw = 19 → g1.2.1 ox 2 = .ref rl → g1.1 rl = 1 → g1.2.1 ox 3 = .ref lg → g1.1 lg = 9 → g1.2.1 tp 0 = .ref ba → g1.1 ba = 67 → g1.2.2.1 ba = 100 → g1.2.1 om 28 = .ref ta → g1.1 ta = 79 → g1.2.2.1 ta = 100 → g1.2.1 om 42 = .ref wt → g1.1 wt = 87 → g1.2.2.1 wt = 24 → g1.2.1 lg 0 = .ref y0 → g1.1 y0 = 64 → g1.2.2.1 y0 = 20 → g1.2.1 lg 1 = .ref y1 → g1.1 y1 = 65 → g1.2.2.1 y1 = 20 → g1.2.1 lg 2 = .ref y2 → g1.1 y2 = 66 → g1.2.2.1 y2 = 20 → g1.2.1 om 25 = .ref m0 → g1.1 m0 = 76 → g1.2.2.1 m0 = 20 → g1.2.1 om 26 = .ref m1 → g1.1 m1 = 77 → g1.2.2.1 m1 = 20 → g1.2.1 om 27 = .ref m2 → g1.1 m2 = 78 → g1.2.2.1 m2 = 20 → g1.2.1 tp 1 = .int tz_1 → g1.2.1 om 29 = .int tz_1 → 0 ≤ tz_1.toInt → tz_1.toInt ≤ 100 → g1.2.1 nw 1 = .int sv_1 → g1.2.1 om 0 = .int sv_1 → 0 ≤ sv_1.toInt → sv_1.toInt ≤ 6 → g1.2.1 rl 3 = .int rz_1 → g1.2.1 om 30 = .int rz_1 → 0 ≤ rz_1.toInt → rz_1.toInt ≤ 6 → g1.2.1 lg 3 = .int lz_1 → g1.2.1 om 24 = .int lz_1 → 0 ≤ lz_1.toInt → lz_1.toInt ≤ 20 → TE g1 ba ta tz_1.toInt → WT g1 wt → TE g1 y0 m0 lz_1.toInt → TE g1 y1 m1 lz_1.toInt → TE g1 y2 m2 lz_1.toInt → W p l e room_1 s m #[Value.ref b] below meth c H1 locs1 (cells + 4) (slots + 28) (lw_Z below #[Value.ref b] s) (F0 m 829 ls [])) → W p l e room_1 s m #[Value.ref b] below meth c H locs cells slots (lw_Z below #[Value.ref b] s) (F0 m 793 ls []) := by
  intro r_ox r_om ko l_o u_o hw hN0 k_tp r_tp k_nw r_nw k_rl r_rl k_lg r_lg k_ba r_ba n_ba k_ta r_ta n_ta k_wt r_wt n_wt k_y0 r_y0 n_y0 k_y1 r_y1 n_y1 k_y2 r_y2 n_y2 k_m0 r_m0 n_m0 k_m1 r_m1 n_m1 k_m2 r_m2 n_m2 kc_tz km_tz l_tz u_tz kc_sv km_sv l_sv u_sv kc_rz km_rz l_rz u_rz kc_lz km_lz l_lz u_lz hTE hWT hL0 hL1 hL2 hl K
  have hx := hB.1
  have hb := hB.2.1
  have hE : Ex g g := Ex.rf
  have hM : Sm mdA g g := sm_all
  have hTE0 := hTE
  have hL00 := hL0
  have hL10 := hL1
  have hL20 := hL2
  refine lv_aload_n hx hb dL_law_793 rfl (lv_at hl 2 rfl) ?_
  refine t_callV (n := 0) (As := []) (rest := []) (ci := 6) hB hT hl.1 (P_reset l D cI cZ cS cR N0 g hI ox lg lz r_ox r_lg k_lg kc_lz (by omega) (by omega)) (ro_ci r_ox rfl) rfl k_726 k_57 k_723 k_724 k_725 (by decide +kernel) ⟨(Nat.le_of_ble_eq_true rfl), (Nat.le_of_ble_eq_true rfl)⟩ rfl (Nat.le_of_ble_eq_true rfl) ⟨(by show _ ≤ _; first | exact Nat.le_of_ble_eq_true rfl | (simp only [room_1]; omega)), (by show _ ≤ _; first | exact Nat.le_of_ble_eq_true rfl | (simp only [room_1]; omega))⟩ dL_law_794 (fun v g_1 H locs hp hT => ?_)
  obtain ⟨r_2, rfl, hI, x_6, m_5, f_3, f_4⟩ := hp
  have hw : PX 48 2 3 71 72 g_1 om := hw.mono m_5 x_6 r_om (by decide) (by decide) rfl rfl rfl rfl
  have hN0 : PX 8 39 40 84 85 g_1 om := hN0.mono m_5 x_6 r_om (by decide) (by decide) rfl rfl rfl rfl
  have hTE : TE g_1 ba ta tz.toInt := hTE.sm m_5 r_ba (by decide) rfl r_ta (by decide) rfl
  have hWT : WT g_1 wt := hWT.sm m_5 r_wt (by decide) rfl
  have hL0 : TE g_1 y0 m0 lz.toInt := hL0.sm m_5 r_y0 (by decide) rfl r_m0 (by decide) rfl
  have hL1 : TE g_1 y1 m1 lz.toInt := hL1.sm m_5 r_y1 (by decide) rfl r_m1 (by decide) rfl
  have hL2 : TE g_1 y2 m2 lz.toInt := hL2.sm m_5 r_y2 (by decide) rfl r_m2 (by decide) rfl
  have hM : Sm mdA g g_1 := sm_all
  have hE : Ex g g_1 := hE.tr x_6
  have r_7 : g_1.1 ox = 7 := (Ex.r x_6 r_ox (by decide))
  have r_8 : g_1.1 om = 8 := (Ex.r x_6 r_om (by decide))
  have r_9 : g_1.1 tp = 5 := (Ex.r x_6 r_tp (by decide))
  have r_10 : g_1.1 nw = 19 := (Ex.r x_6 r_nw (by decide))
  have r_11 : g_1.1 rl = 1 := (Ex.r x_6 r_rl (by decide))
  have r_12 : g_1.1 lg = 9 := (Ex.r x_6 r_lg (by decide))
  have r_13 : g_1.1 ba = 67 := (Ex.r x_6 r_ba (by decide))
  have r_14 : g_1.1 ta = 79 := (Ex.r x_6 r_ta (by decide))
  have r_15 : g_1.1 wt = 87 := (Ex.r x_6 r_wt (by decide))
  have r_16 : g_1.1 y0 = 64 := (Ex.r x_6 r_y0 (by decide))
  have r_17 : g_1.1 y1 = 65 := (Ex.r x_6 r_y1 (by decide))
  have r_18 : g_1.1 y2 = 66 := (Ex.r x_6 r_y2 (by decide))
  have r_19 : g_1.1 m0 = 76 := (Ex.r x_6 r_m0 (by decide))
  have r_20 : g_1.1 m1 = 77 := (Ex.r x_6 r_m1 (by decide))
  have r_21 : g_1.1 m2 = 78 := (Ex.r x_6 r_m2 (by decide))
  have n_22 : g_1.2.2.1 ba = 100 := (Ex.n x_6 r_ba (by decide) n_ba)
  have n_23 : g_1.2.2.1 ta = 100 := (Ex.n x_6 r_ta (by decide) n_ta)
  have n_24 : g_1.2.2.1 wt = 24 := (Ex.n x_6 r_wt (by decide) n_wt)
  have n_25 : g_1.2.2.1 y0 = 20 := (Ex.n x_6 r_y0 (by decide) n_y0)
  have n_26 : g_1.2.2.1 y1 = 20 := (Ex.n x_6 r_y1 (by decide) n_y1)
  have n_27 : g_1.2.2.1 y2 = 20 := (Ex.n x_6 r_y2 (by decide) n_y2)
  have n_28 : g_1.2.2.1 m0 = 20 := (Ex.n x_6 r_m0 (by decide) n_m0)
  have n_29 : g_1.2.2.1 m1 = 20 := (Ex.n x_6 r_m1 (by decide) n_m1)
  have n_30 : g_1.2.2.1 m2 = 20 := (Ex.n x_6 r_m2 (by decide) n_m2)
  have kn_31 : g_1.2.1 om 22 = .int o1 := (Sm.v m_5 r_om (by decide) rfl ko)
  have kn_32 : g_1.2.1 ox 0 = .ref tp := (Sm.v m_5 r_ox (by decide) rfl k_tp)
  have kn_33 : g_1.2.1 ox 1 = .ref nw := (Sm.v m_5 r_ox (by decide) rfl k_nw)
  have kn_34 : g_1.2.1 ox 2 = .ref rl := (Sm.v m_5 r_ox (by decide) rfl k_rl)
  have kn_35 : g_1.2.1 ox 3 = .ref lg := (Sm.v m_5 r_ox (by decide) rfl k_lg)
  have kn_36 : g_1.2.1 tp 0 = .ref ba := (Sm.v m_5 r_tp (by decide) rfl k_ba)
  have kn_37 : g_1.2.1 om 28 = .ref ta := (Sm.v m_5 r_om (by decide) rfl k_ta)
  have kn_38 : g_1.2.1 om 42 = .ref wt := (Sm.v m_5 r_om (by decide) rfl k_wt)
  have kn_39 : g_1.2.1 lg 0 = .ref y0 := (Sm.v m_5 r_lg (by decide) rfl k_y0)
  have kn_40 : g_1.2.1 lg 1 = .ref y1 := (Sm.v m_5 r_lg (by decide) rfl k_y1)
  have kn_41 : g_1.2.1 lg 2 = .ref y2 := (Sm.v m_5 r_lg (by decide) rfl k_y2)
  have kn_42 : g_1.2.1 om 25 = .ref m0 := (Sm.v m_5 r_om (by decide) rfl k_m0)
  have kn_43 : g_1.2.1 om 26 = .ref m1 := (Sm.v m_5 r_om (by decide) rfl k_m1)
  have kn_44 : g_1.2.1 om 27 = .ref m2 := (Sm.v m_5 r_om (by decide) rfl k_m2)
  have kn_45 : g_1.2.1 tp 1 = .int tz := (Sm.v m_5 r_tp (by decide) rfl kc_tz)
  have kn_46 : g_1.2.1 om 29 = .int tz := (Sm.v m_5 r_om (by decide) rfl km_tz)
  have kn_47 : g_1.2.1 nw 1 = .int sv := (Sm.v m_5 r_nw (by decide) rfl kc_sv)
  have kn_48 : g_1.2.1 om 0 = .int sv := (Sm.v m_5 r_om (by decide) rfl km_sv)
  have kn_49 : g_1.2.1 rl 3 = .int rz := (Sm.v m_5 r_rl (by decide) rfl kc_rz)
  have kn_50 : g_1.2.1 om 30 = .int rz := (Sm.v m_5 r_om (by decide) rfl km_rz)
  have kn_51 : g_1.2.1 om 24 = .int lz := (Sm.v m_5 r_om (by decide) rfl km_lz)
  refine W.eq (g2 := F0 m 797 ls [.int r_2]) rfl ?_
  refine lv_pop hx hb dL_law_797 rfl ?_
  refine lv_aload_n hx hb dL_law_798 rfl (lv_at hl 1 rfl) ?_
  refine t_callV (n := 0) (As := []) (rest := []) (ci := 7) hB hT hl.1 (m_reset l D cI cZ cS cR N0 g_1 hI om lz r_8 kn_51 (by omega) (by omega)) (ro_ci r_8 rfl) rfl k_1185 k_65 k_1182 k_1183 k_1184 (by decide +kernel) ⟨(Nat.le_of_ble_eq_true rfl), (Nat.le_of_ble_eq_true rfl)⟩ rfl (Nat.le_of_ble_eq_true rfl) ⟨(by show _ ≤ _; first | exact Nat.le_of_ble_eq_true rfl | (simp only [room_1]; omega)), (by show _ ≤ _; first | exact Nat.le_of_ble_eq_true rfl | (simp only [room_1]; omega))⟩ dL_law_799 (fun v g_52 H locs hp hT => ?_)
  obtain ⟨r_53, rfl, hI, x_58, m_57, f_54, f_55, f_56⟩ := hp
  have hw : PX 48 2 3 71 72 g_52 om := hw.mono m_57 x_58 r_8 (by decide) (by decide) rfl rfl rfl rfl
  have hN0 : PX 8 39 40 84 85 g_52 om := hN0.mono m_57 x_58 r_8 (by decide) (by decide) rfl rfl rfl rfl
  have hTE : TE g_52 ba ta tz.toInt := hTE.sm m_57 r_13 (by decide) rfl r_14 (by decide) rfl
  have hWT : WT g_52 wt := hWT.sm m_57 r_15 (by decide) rfl
  have hL0 : TE g_52 y0 m0 lz.toInt := hL0.sm m_57 r_16 (by decide) rfl r_19 (by decide) rfl
  have hL1 : TE g_52 y1 m1 lz.toInt := hL1.sm m_57 r_17 (by decide) rfl r_20 (by decide) rfl
  have hL2 : TE g_52 y2 m2 lz.toInt := hL2.sm m_57 r_18 (by decide) rfl r_21 (by decide) rfl
  have hM : Sm mdA g g_52 := sm_all
  have hE : Ex g g_52 := hE.tr x_58
  have r_59 : g_52.1 ox = 7 := (Ex.r x_58 r_7 (by decide))
  have r_60 : g_52.1 om = 8 := (Ex.r x_58 r_8 (by decide))
  have r_61 : g_52.1 tp = 5 := (Ex.r x_58 r_9 (by decide))
  have r_62 : g_52.1 nw = 19 := (Ex.r x_58 r_10 (by decide))
  have r_63 : g_52.1 rl = 1 := (Ex.r x_58 r_11 (by decide))
  have r_64 : g_52.1 lg = 9 := (Ex.r x_58 r_12 (by decide))
  have r_65 : g_52.1 ba = 67 := (Ex.r x_58 r_13 (by decide))
  have r_66 : g_52.1 ta = 79 := (Ex.r x_58 r_14 (by decide))
  have r_67 : g_52.1 wt = 87 := (Ex.r x_58 r_15 (by decide))
  have r_68 : g_52.1 y0 = 64 := (Ex.r x_58 r_16 (by decide))
  have r_69 : g_52.1 y1 = 65 := (Ex.r x_58 r_17 (by decide))
  have r_70 : g_52.1 y2 = 66 := (Ex.r x_58 r_18 (by decide))
  have r_71 : g_52.1 m0 = 76 := (Ex.r x_58 r_19 (by decide))
  have r_72 : g_52.1 m1 = 77 := (Ex.r x_58 r_20 (by decide))
  have r_73 : g_52.1 m2 = 78 := (Ex.r x_58 r_21 (by decide))
  have n_74 : g_52.2.2.1 ba = 100 := (Ex.n x_58 r_13 (by decide) n_22)
  have n_75 : g_52.2.2.1 ta = 100 := (Ex.n x_58 r_14 (by decide) n_23)
  have n_76 : g_52.2.2.1 wt = 24 := (Ex.n x_58 r_15 (by decide) n_24)
  have n_77 : g_52.2.2.1 y0 = 20 := (Ex.n x_58 r_16 (by decide) n_25)
  have n_78 : g_52.2.2.1 y1 = 20 := (Ex.n x_58 r_17 (by decide) n_26)
  have n_79 : g_52.2.2.1 y2 = 20 := (Ex.n x_58 r_18 (by decide) n_27)
  have n_80 : g_52.2.2.1 m0 = 20 := (Ex.n x_58 r_19 (by decide) n_28)
  have n_81 : g_52.2.2.1 m1 = 20 := (Ex.n x_58 r_20 (by decide) n_29)
  have n_82 : g_52.2.2.1 m2 = 20 := (Ex.n x_58 r_21 (by decide) n_30)
  have kn_83 : g_52.2.1 ox 0 = .ref tp := (Sm.v m_57 r_7 (by decide) rfl kn_32)
  have kn_84 : g_52.2.1 ox 1 = .ref nw := (Sm.v m_57 r_7 (by decide) rfl kn_33)
  have kn_85 : g_52.2.1 ox 2 = .ref rl := (Sm.v m_57 r_7 (by decide) rfl kn_34)
  have kn_86 : g_52.2.1 ox 3 = .ref lg := (Sm.v m_57 r_7 (by decide) rfl kn_35)
  have kn_87 : g_52.2.1 tp 0 = .ref ba := (Sm.v m_57 r_9 (by decide) rfl kn_36)
  have kn_88 : g_52.2.1 om 28 = .ref ta := (Sm.v m_57 r_8 (by decide) rfl kn_37)
  have kn_89 : g_52.2.1 om 42 = .ref wt := (Sm.v m_57 r_8 (by decide) rfl kn_38)
  have kn_90 : g_52.2.1 lg 0 = .ref y0 := (Sm.v m_57 r_12 (by decide) rfl kn_39)
  have kn_91 : g_52.2.1 lg 1 = .ref y1 := (Sm.v m_57 r_12 (by decide) rfl kn_40)
  have kn_92 : g_52.2.1 lg 2 = .ref y2 := (Sm.v m_57 r_12 (by decide) rfl kn_41)
  have kn_93 : g_52.2.1 om 25 = .ref m0 := (Sm.v m_57 r_8 (by decide) rfl kn_42)
  have kn_94 : g_52.2.1 om 26 = .ref m1 := (Sm.v m_57 r_8 (by decide) rfl kn_43)
  have kn_95 : g_52.2.1 om 27 = .ref m2 := (Sm.v m_57 r_8 (by decide) rfl kn_44)
  have kn_96 : g_52.2.1 tp 1 = .int tz := (Sm.v m_57 r_9 (by decide) rfl kn_45)
  have kn_97 : g_52.2.1 om 29 = .int tz := (Sm.v m_57 r_8 (by decide) rfl kn_46)
  have kn_98 : g_52.2.1 nw 1 = .int sv := (Sm.v m_57 r_10 (by decide) rfl kn_47)
  have kn_99 : g_52.2.1 om 0 = .int sv := (Sm.v m_57 r_8 (by decide) rfl kn_48)
  have kn_100 : g_52.2.1 rl 3 = .int rz := (Sm.v m_57 r_11 (by decide) rfl kn_49)
  have kn_101 : g_52.2.1 om 30 = .int rz := (Sm.v m_57 r_8 (by decide) rfl kn_50)
  have kn_102 : g_52.2.1 lg 3 = .int 0 := (Sm.v m_57 r_12 (by decide) rfl f_3)
  refine W.eq (g2 := F0 m 802 ls [.int r_53]) rfl ?_
  refine lv_pop hx hb dL_law_802 rfl ?_
  refine lv_goto (tgt := 829) hx hb dL_law_803 (by decide) ?_
  refine W.widen (k := cells + 4) (n := slots + 28) (by omega) (by omega) ?_
  exact K g_52 (0 : Int32) tz sv rz (0 : Int32) H locs hT hI r_59 r_60 f_54 (by have e0_ : (0 : Int32).toInt = 0 := (by decide); omega) (by have e0_ : (0 : Int32).toInt = 0 := (by decide); omega) hw hN0 kn_83 r_61 kn_84 r_62 kn_85 r_63 kn_86 r_64 kn_87 r_65 n_74 kn_88 r_66 n_75 kn_89 r_67 n_76 kn_90 r_68 n_77 kn_91 r_69 n_78 kn_92 r_70 n_79 kn_93 r_71 n_80 kn_94 r_72 n_81 kn_95 r_73 n_82 kn_96 kn_97 (by have e0_ : (0 : Int32).toInt = 0 := (by decide); omega) (by have e0_ : (0 : Int32).toInt = 0 := (by decide); omega) kn_98 kn_99 (by have e0_ : (0 : Int32).toInt = 0 := (by decide); omega) (by have e0_ : (0 : Int32).toInt = 0 := (by decide); omega) kn_100 kn_101 (by have e0_ : (0 : Int32).toInt = 0 := (by decide); omega) (by have e0_ : (0 : Int32).toInt = 0 := (by decide); omega) kn_102 f_55 (by have e0_ : (0 : Int32).toInt = 0 := (by decide); omega) (by have e0_ : (0 : Int32).toInt = 0 := (by decide); omega) hTE hWT (hL0.cast (by have e0_ : (0 : Int32).toInt = 0 := (by decide); omega)) (hL1.cast (by have e0_ : (0 : Int32).toInt = 0 := (by decide); omega)) (hL2.cast (by have e0_ : (0 : Int32).toInt = 0 := (by decide); omega))
set_option maxHeartbeats 4000000 in
set_option maxRecDepth 100000 in
/-- count -/
theorem law_22 {p : Program} {l : Launch} {e : Env} {s : State} {m : MethodId} {below : List Frame} {meth : Method} {c : Code} {D : va_G} {cI cZ cS cR : ClassId} {N0 : NT} {b L : Nat} {xs : Nat → Int32} (hB : Tz p s m meth c #[Value.ref b] code 4 RL D cI cZ cS cR N0) (hAs : N0.1 = s.heap.size) (hX : va_X b L xs s s.heap) (hbl : b < s.heap.size) (hL : L ≤ 2560) (hr : meth.sig.returnType = ret) {cells slots : Nat} (hcl : cells + 4 ≤ 600000) (hsl : slots + 28 ≤ 7302250) {H : Heap} {locs : List Loc} {ls : Array Slot} (g : GS) (ox om : Nat) (tp : Nat) (nw : Nat) (rl : Nat) (lg : Nat) (ba : Nat) (ta : Nat) (wt : Nat) (y0 : Nat) (y1 : Nat) (y2 : Nat) (m0 : Nat) (m1 : Nat) (m2 : Nat) (i o1 tz sv rz lz : Int32) (hT : Tv D cI cZ cS cR N0 s.heap H locs g) (hI : Inv g) (l_i : 0 ≤ i.toInt) (u_i : i.toInt + 5 ≤ L) : g.1 ox = 7 → g.1 om = 8 → g.2.1 om 22 = .int o1 → 0 ≤ o1.toInt → o1.toInt ≤ 12 * i.toInt → PX 48 2 3 71 72 g om → PX 8 39 40 84 85 g om → g.2.1 ox 0 = .ref tp → g.1 tp = 5 → g.2.1 ox 1 = .ref nw → g.1 nw = 19 → g.2.1 ox 2 = .ref rl → g.1 rl = 1 → g.2.1 ox 3 = .ref lg → g.1 lg = 9 → g.2.1 tp 0 = .ref ba → g.1 ba = 67 → g.2.2.1 ba = 100 → g.2.1 om 28 = .ref ta → g.1 ta = 79 → g.2.2.1 ta = 100 → g.2.1 om 42 = .ref wt → g.1 wt = 87 → g.2.2.1 wt = 24 → g.2.1 lg 0 = .ref y0 → g.1 y0 = 64 → g.2.2.1 y0 = 20 → g.2.1 lg 1 = .ref y1 → g.1 y1 = 65 → g.2.2.1 y1 = 20 → g.2.1 lg 2 = .ref y2 → g.1 y2 = 66 → g.2.2.1 y2 = 20 → g.2.1 om 25 = .ref m0 → g.1 m0 = 76 → g.2.2.1 m0 = 20 → g.2.1 om 26 = .ref m1 → g.1 m1 = 77 → g.2.2.1 m1 = 20 → g.2.1 om 27 = .ref m2 → g.1 m2 = 78 → g.2.2.1 m2 = 20 → g.2.1 tp 1 = .int tz → g.2.1 om 29 = .int tz → 0 ≤ tz.toInt → tz.toInt ≤ 100 → g.2.1 nw 1 = .int sv → g.2.1 om 0 = .int sv → 0 ≤ sv.toInt → sv.toInt ≤ 6 → g.2.1 rl 3 = .int rz → g.2.1 om 30 = .int rz → 0 ≤ rz.toInt → rz.toInt ≤ 6 → g.2.1 lg 3 = .int lz → g.2.1 om 24 = .int lz → 0 ≤ lz.toInt → lz.toInt ≤ 20 → TE g ba ta tz.toInt → WT g wt → TE g y0 m0 lz.toInt → TE g y1 m1 lz.toInt → TE g y2 m2 lz.toInt → (hl : lv_has ls 4 [(3, .int i), (2, .ref om), (1, .ref ox), (0, .ref b)]) → (K : ∀ (g1 : GS) (o1_1 tz_1 sv_1 rz_1 lz_1 : Int32) (H1 : Heap) (locs1 : List Loc), Tv D cI cZ cS cR N0 s.heap H1 locs1 g1 → Inv g1 → g1.1 ox = 7 → g1.1 om = 8 → g1.2.1 om 22 = .int o1_1 → 0 ≤ o1_1.toInt → o1_1.toInt ≤ 12 * i.toInt + 60 → PX 48 2 3 71 72 g1 om → PX 8 39 40 84 85 g1 om → g1.2.1 ox 0 = .ref tp → g1.1 tp = 5 → g1.2.1 ox 1 = .ref nw → g1.1 nw = 19 → g1.2.1 ox 2 = .ref rl → g1.1 rl = 1 → g1.2.1 ox 3 = .ref lg → g1.1 lg = 9 → g1.2.1 tp 0 = .ref ba → g1.1 ba = 67 → g1.2.2.1 ba = 100 → g1.2.1 om 28 = .ref ta → g1.1 ta = 79 → g1.2.2.1 ta = 100 → g1.2.1 om 42 = .ref wt → g1.1 wt = 87 → g1.2.2.1 wt = 24 → g1.2.1 lg 0 = .ref y0 → g1.1 y0 = 64 → g1.2.2.1 y0 = 20 → g1.2.1 lg 1 = .ref y1 → g1.1 y1 = 65 → g1.2.2.1 y1 = 20 → g1.2.1 lg 2 = .ref y2 → g1.1 y2 = 66 → g1.2.2.1 y2 = 20 → g1.2.1 om 25 = .ref m0 → g1.1 m0 = 76 → g1.2.2.1 m0 = 20 → g1.2.1 om 26 = .ref m1 → g1.1 m1 = 77 → g1.2.2.1 m1 = 20 → g1.2.1 om 27 = .ref m2 → g1.1 m2 = 78 → g1.2.2.1 m2 = 20 → g1.2.1 tp 1 = .int tz_1 → g1.2.1 om 29 = .int tz_1 → 0 ≤ tz_1.toInt → tz_1.toInt ≤ 100 → g1.2.1 nw 1 = .int sv_1 → g1.2.1 om 0 = .int sv_1 → 0 ≤ sv_1.toInt → sv_1.toInt ≤ 6 → g1.2.1 rl 3 = .int rz_1 → g1.2.1 om 30 = .int rz_1 → 0 ≤ rz_1.toInt → rz_1.toInt ≤ 6 → g1.2.1 lg 3 = .int lz_1 → g1.2.1 om 24 = .int lz_1 → 0 ≤ lz_1.toInt → lz_1.toInt ≤ 20 → TE g1 ba ta tz_1.toInt → WT g1 wt → TE g1 y0 m0 lz_1.toInt → TE g1 y1 m1 lz_1.toInt → TE g1 y2 m2 lz_1.toInt → W p l e room_1 s m #[Value.ref b] below meth c H1 locs1 (cells + 4) (slots + 28) (lw_Z below #[Value.ref b] s) (F0 m 829 ls [])) → W p l e room_1 s m #[Value.ref b] below meth c H locs cells slots (lw_Z below #[Value.ref b] s) (F0 m 806 ls []) := by
  intro r_ox r_om ko l_o u_o hw hN0 k_tp r_tp k_nw r_nw k_rl r_rl k_lg r_lg k_ba r_ba n_ba k_ta r_ta n_ta k_wt r_wt n_wt k_y0 r_y0 n_y0 k_y1 r_y1 n_y1 k_y2 r_y2 n_y2 k_m0 r_m0 n_m0 k_m1 r_m1 n_m1 k_m2 r_m2 n_m2 kc_tz km_tz l_tz u_tz kc_sv km_sv l_sv u_sv kc_rz km_rz l_rz u_rz kc_lz km_lz l_lz u_lz hTE hWT hL0 hL1 hL2 hl K
  have hx := hB.1
  have hb := hB.2.1
  have hE : Ex g g := Ex.rf
  have hM : Sm mdA g g := sm_all
  have hTE0 := hTE
  have hL00 := hL0
  have hL10 := hL1
  have hL20 := hL2
  refine lv_aload_n hx hb dL_law_806 rfl (lv_at hl 2 rfl) ?_
  refine lv_aload_n hx hb dL_law_807 rfl (lv_at hl 3 rfl) ?_
  refine lv_iload_n hx hb dL_law_808 rfl (lv_at hl 0 rfl) ?_
  refine lv_iconst (v := 1) hx hb dL_law_809 (by decide) ?_
  refine lv_iadd hx hb dL_law_810 ?_
  refine lv_topi (fun z_1 ez_1 => ?_)
  have e_z_1 : z_1.toInt = i.toInt + 1 := i_add ez_1 rfl (by decide) (by omega) (by omega)
  refine va_sld hx hb hX hbl (fun q => by have q_ : N0.1 ≤ b := q; omega) hT.2 (i_in (n := L) rfl (by omega) (by omega)) dL_law_811 ?_
  refine lv_topi (fun u_2 e_u_2 => ?_)
  refine t_callV (n := 1) (As := [.int u_2]) (rest := []) (ci := 6) hB hT hl.1 (P_count l D cI cZ cS cR N0 g hI ox u_2 r_ox) (ro_ci r_ox rfl) rfl k_738 k_57 k_735 k_736 k_737 (by decide +kernel) ⟨(Nat.le_of_ble_eq_true rfl), (Nat.le_of_ble_eq_true rfl)⟩ rfl (Nat.le_of_ble_eq_true rfl) ⟨(by show _ ≤ _; first | exact Nat.le_of_ble_eq_true rfl | (simp only [room_1]; omega)), (by show _ ≤ _; first | exact Nat.le_of_ble_eq_true rfl | (simp only [room_1]; omega))⟩ dL_law_812 (fun v g_3 H locs hp hT => ?_)
  obtain ⟨r_4, rfl, hI, x_6, m_5⟩ := hp
  have hw : PX 48 2 3 71 72 g_3 om := hw.mono m_5 x_6 r_om (by decide) (by decide) rfl rfl rfl rfl
  have hN0 : PX 8 39 40 84 85 g_3 om := hN0.mono m_5 x_6 r_om (by decide) (by decide) rfl rfl rfl rfl
  have hTE : TE g_3 ba ta tz.toInt := hTE.sm m_5 r_ba (by decide) rfl r_ta (by decide) rfl
  have hWT : WT g_3 wt := hWT.sm m_5 r_wt (by decide) rfl
  have hL0 : TE g_3 y0 m0 lz.toInt := hL0.sm m_5 r_y0 (by decide) rfl r_m0 (by decide) rfl
  have hL1 : TE g_3 y1 m1 lz.toInt := hL1.sm m_5 r_y1 (by decide) rfl r_m1 (by decide) rfl
  have hL2 : TE g_3 y2 m2 lz.toInt := hL2.sm m_5 r_y2 (by decide) rfl r_m2 (by decide) rfl
  have hM : Sm mdA g g_3 := sm_all
  have hE : Ex g g_3 := hE.tr x_6
  have r_7 : g_3.1 ox = 7 := (Ex.r x_6 r_ox (by decide))
  have r_8 : g_3.1 om = 8 := (Ex.r x_6 r_om (by decide))
  have r_9 : g_3.1 tp = 5 := (Ex.r x_6 r_tp (by decide))
  have r_10 : g_3.1 nw = 19 := (Ex.r x_6 r_nw (by decide))
  have r_11 : g_3.1 rl = 1 := (Ex.r x_6 r_rl (by decide))
  have r_12 : g_3.1 lg = 9 := (Ex.r x_6 r_lg (by decide))
  have r_13 : g_3.1 ba = 67 := (Ex.r x_6 r_ba (by decide))
  have r_14 : g_3.1 ta = 79 := (Ex.r x_6 r_ta (by decide))
  have r_15 : g_3.1 wt = 87 := (Ex.r x_6 r_wt (by decide))
  have r_16 : g_3.1 y0 = 64 := (Ex.r x_6 r_y0 (by decide))
  have r_17 : g_3.1 y1 = 65 := (Ex.r x_6 r_y1 (by decide))
  have r_18 : g_3.1 y2 = 66 := (Ex.r x_6 r_y2 (by decide))
  have r_19 : g_3.1 m0 = 76 := (Ex.r x_6 r_m0 (by decide))
  have r_20 : g_3.1 m1 = 77 := (Ex.r x_6 r_m1 (by decide))
  have r_21 : g_3.1 m2 = 78 := (Ex.r x_6 r_m2 (by decide))
  have n_22 : g_3.2.2.1 ba = 100 := (Ex.n x_6 r_ba (by decide) n_ba)
  have n_23 : g_3.2.2.1 ta = 100 := (Ex.n x_6 r_ta (by decide) n_ta)
  have n_24 : g_3.2.2.1 wt = 24 := (Ex.n x_6 r_wt (by decide) n_wt)
  have n_25 : g_3.2.2.1 y0 = 20 := (Ex.n x_6 r_y0 (by decide) n_y0)
  have n_26 : g_3.2.2.1 y1 = 20 := (Ex.n x_6 r_y1 (by decide) n_y1)
  have n_27 : g_3.2.2.1 y2 = 20 := (Ex.n x_6 r_y2 (by decide) n_y2)
  have n_28 : g_3.2.2.1 m0 = 20 := (Ex.n x_6 r_m0 (by decide) n_m0)
  have n_29 : g_3.2.2.1 m1 = 20 := (Ex.n x_6 r_m1 (by decide) n_m1)
  have n_30 : g_3.2.2.1 m2 = 20 := (Ex.n x_6 r_m2 (by decide) n_m2)
  have kn_31 : g_3.2.1 om 22 = .int o1 := (Sm.v m_5 r_om (by decide) rfl ko)
  have kn_32 : g_3.2.1 ox 0 = .ref tp := (Sm.v m_5 r_ox (by decide) rfl k_tp)
  have kn_33 : g_3.2.1 ox 1 = .ref nw := (Sm.v m_5 r_ox (by decide) rfl k_nw)
  have kn_34 : g_3.2.1 ox 2 = .ref rl := (Sm.v m_5 r_ox (by decide) rfl k_rl)
  have kn_35 : g_3.2.1 ox 3 = .ref lg := (Sm.v m_5 r_ox (by decide) rfl k_lg)
  have kn_36 : g_3.2.1 tp 0 = .ref ba := (Sm.v m_5 r_tp (by decide) rfl k_ba)
  have kn_37 : g_3.2.1 om 28 = .ref ta := (Sm.v m_5 r_om (by decide) rfl k_ta)
  have kn_38 : g_3.2.1 om 42 = .ref wt := (Sm.v m_5 r_om (by decide) rfl k_wt)
  have kn_39 : g_3.2.1 lg 0 = .ref y0 := (Sm.v m_5 r_lg (by decide) rfl k_y0)
  have kn_40 : g_3.2.1 lg 1 = .ref y1 := (Sm.v m_5 r_lg (by decide) rfl k_y1)
  have kn_41 : g_3.2.1 lg 2 = .ref y2 := (Sm.v m_5 r_lg (by decide) rfl k_y2)
  have kn_42 : g_3.2.1 om 25 = .ref m0 := (Sm.v m_5 r_om (by decide) rfl k_m0)
  have kn_43 : g_3.2.1 om 26 = .ref m1 := (Sm.v m_5 r_om (by decide) rfl k_m1)
  have kn_44 : g_3.2.1 om 27 = .ref m2 := (Sm.v m_5 r_om (by decide) rfl k_m2)
  have kn_45 : g_3.2.1 tp 1 = .int tz := (Sm.v m_5 r_tp (by decide) rfl kc_tz)
  have kn_46 : g_3.2.1 om 29 = .int tz := (Sm.v m_5 r_om (by decide) rfl km_tz)
  have kn_47 : g_3.2.1 nw 1 = .int sv := (Sm.v m_5 r_nw (by decide) rfl kc_sv)
  have kn_48 : g_3.2.1 om 0 = .int sv := (Sm.v m_5 r_om (by decide) rfl km_sv)
  have kn_49 : g_3.2.1 rl 3 = .int rz := (Sm.v m_5 r_rl (by decide) rfl kc_rz)
  have kn_50 : g_3.2.1 om 30 = .int rz := (Sm.v m_5 r_om (by decide) rfl km_rz)
  have kn_51 : g_3.2.1 lg 3 = .int lz := (Sm.v m_5 r_lg (by decide) rfl kc_lz)
  have kn_52 : g_3.2.1 om 24 = .int lz := (Sm.v m_5 r_om (by decide) rfl km_lz)
  refine W.eq (g2 := F0 m 815 ls [.int r_4]) rfl ?_
  refine lv_pop hx hb dL_law_815 rfl ?_
  refine lv_aload_n hx hb dL_law_816 rfl (lv_at hl 1 rfl) ?_
  refine lv_aload_n hx hb dL_law_817 rfl (lv_at hl 3 rfl) ?_
  refine lv_iload_n hx hb dL_law_818 rfl (lv_at hl 0 rfl) ?_
  refine lv_iconst (v := 1) hx hb dL_law_819 (by decide) ?_
  refine lv_iadd hx hb dL_law_820 ?_
  refine lv_topi (fun z_53 ez_53 => ?_)
  have e_z_53 : z_53.toInt = i.toInt + 1 := i_add ez_53 rfl (by decide) (by omega) (by omega)
  refine va_sld hx hb hX hbl (fun q => by have q_ : N0.1 ≤ b := q; omega) hT.2 (i_in (n := L) rfl (by omega) (by omega)) dL_law_821 ?_
  refine lv_topi (fun u_54 e_u_54 => ?_)
  refine t_callV (n := 1) (As := [.int u_54]) (rest := []) (ci := 7) hB hT hl.1 (m_count l D cI cZ cS cR N0 g_3 hI om u_54 r_8) (ro_ci r_8 rfl) rfl k_1189 k_65 k_1186 k_1187 k_1188 (by decide +kernel) ⟨(Nat.le_of_ble_eq_true rfl), (Nat.le_of_ble_eq_true rfl)⟩ rfl (Nat.le_of_ble_eq_true rfl) ⟨(by show _ ≤ _; first | exact Nat.le_of_ble_eq_true rfl | (simp only [room_1]; omega)), (by show _ ≤ _; first | exact Nat.le_of_ble_eq_true rfl | (simp only [room_1]; omega))⟩ dL_law_822 (fun v g_55 H locs hp hT => ?_)
  obtain ⟨r_56, rfl, hI, x_58, m_57⟩ := hp
  have hw : PX 48 2 3 71 72 g_55 om := hw.mono m_57 x_58 r_8 (by decide) (by decide) rfl rfl rfl rfl
  have hN0 : PX 8 39 40 84 85 g_55 om := hN0.mono m_57 x_58 r_8 (by decide) (by decide) rfl rfl rfl rfl
  have hTE : TE g_55 ba ta tz.toInt := hTE.sm m_57 r_13 (by decide) rfl r_14 (by decide) rfl
  have hWT : WT g_55 wt := hWT.sm m_57 r_15 (by decide) rfl
  have hL0 : TE g_55 y0 m0 lz.toInt := hL0.sm m_57 r_16 (by decide) rfl r_19 (by decide) rfl
  have hL1 : TE g_55 y1 m1 lz.toInt := hL1.sm m_57 r_17 (by decide) rfl r_20 (by decide) rfl
  have hL2 : TE g_55 y2 m2 lz.toInt := hL2.sm m_57 r_18 (by decide) rfl r_21 (by decide) rfl
  have hM : Sm mdA g g_55 := sm_all
  have hE : Ex g g_55 := hE.tr x_58
  have r_59 : g_55.1 ox = 7 := (Ex.r x_58 r_7 (by decide))
  have r_60 : g_55.1 om = 8 := (Ex.r x_58 r_8 (by decide))
  have r_61 : g_55.1 tp = 5 := (Ex.r x_58 r_9 (by decide))
  have r_62 : g_55.1 nw = 19 := (Ex.r x_58 r_10 (by decide))
  have r_63 : g_55.1 rl = 1 := (Ex.r x_58 r_11 (by decide))
  have r_64 : g_55.1 lg = 9 := (Ex.r x_58 r_12 (by decide))
  have r_65 : g_55.1 ba = 67 := (Ex.r x_58 r_13 (by decide))
  have r_66 : g_55.1 ta = 79 := (Ex.r x_58 r_14 (by decide))
  have r_67 : g_55.1 wt = 87 := (Ex.r x_58 r_15 (by decide))
  have r_68 : g_55.1 y0 = 64 := (Ex.r x_58 r_16 (by decide))
  have r_69 : g_55.1 y1 = 65 := (Ex.r x_58 r_17 (by decide))
  have r_70 : g_55.1 y2 = 66 := (Ex.r x_58 r_18 (by decide))
  have r_71 : g_55.1 m0 = 76 := (Ex.r x_58 r_19 (by decide))
  have r_72 : g_55.1 m1 = 77 := (Ex.r x_58 r_20 (by decide))
  have r_73 : g_55.1 m2 = 78 := (Ex.r x_58 r_21 (by decide))
  have n_74 : g_55.2.2.1 ba = 100 := (Ex.n x_58 r_13 (by decide) n_22)
  have n_75 : g_55.2.2.1 ta = 100 := (Ex.n x_58 r_14 (by decide) n_23)
  have n_76 : g_55.2.2.1 wt = 24 := (Ex.n x_58 r_15 (by decide) n_24)
  have n_77 : g_55.2.2.1 y0 = 20 := (Ex.n x_58 r_16 (by decide) n_25)
  have n_78 : g_55.2.2.1 y1 = 20 := (Ex.n x_58 r_17 (by decide) n_26)
  have n_79 : g_55.2.2.1 y2 = 20 := (Ex.n x_58 r_18 (by decide) n_27)
  have n_80 : g_55.2.2.1 m0 = 20 := (Ex.n x_58 r_19 (by decide) n_28)
  have n_81 : g_55.2.2.1 m1 = 20 := (Ex.n x_58 r_20 (by decide) n_29)
  have n_82 : g_55.2.2.1 m2 = 20 := (Ex.n x_58 r_21 (by decide) n_30)
  have kn_83 : g_55.2.1 om 22 = .int o1 := (Sm.v m_57 r_8 (by decide) rfl kn_31)
  have kn_84 : g_55.2.1 ox 0 = .ref tp := (Sm.v m_57 r_7 (by decide) rfl kn_32)
  have kn_85 : g_55.2.1 ox 1 = .ref nw := (Sm.v m_57 r_7 (by decide) rfl kn_33)
  have kn_86 : g_55.2.1 ox 2 = .ref rl := (Sm.v m_57 r_7 (by decide) rfl kn_34)
  have kn_87 : g_55.2.1 ox 3 = .ref lg := (Sm.v m_57 r_7 (by decide) rfl kn_35)
  have kn_88 : g_55.2.1 tp 0 = .ref ba := (Sm.v m_57 r_9 (by decide) rfl kn_36)
  have kn_89 : g_55.2.1 om 28 = .ref ta := (Sm.v m_57 r_8 (by decide) rfl kn_37)
  have kn_90 : g_55.2.1 om 42 = .ref wt := (Sm.v m_57 r_8 (by decide) rfl kn_38)
  have kn_91 : g_55.2.1 lg 0 = .ref y0 := (Sm.v m_57 r_12 (by decide) rfl kn_39)
  have kn_92 : g_55.2.1 lg 1 = .ref y1 := (Sm.v m_57 r_12 (by decide) rfl kn_40)
  have kn_93 : g_55.2.1 lg 2 = .ref y2 := (Sm.v m_57 r_12 (by decide) rfl kn_41)
  have kn_94 : g_55.2.1 om 25 = .ref m0 := (Sm.v m_57 r_8 (by decide) rfl kn_42)
  have kn_95 : g_55.2.1 om 26 = .ref m1 := (Sm.v m_57 r_8 (by decide) rfl kn_43)
  have kn_96 : g_55.2.1 om 27 = .ref m2 := (Sm.v m_57 r_8 (by decide) rfl kn_44)
  have kn_97 : g_55.2.1 tp 1 = .int tz := (Sm.v m_57 r_9 (by decide) rfl kn_45)
  have kn_98 : g_55.2.1 om 29 = .int tz := (Sm.v m_57 r_8 (by decide) rfl kn_46)
  have kn_99 : g_55.2.1 nw 1 = .int sv := (Sm.v m_57 r_10 (by decide) rfl kn_47)
  have kn_100 : g_55.2.1 om 0 = .int sv := (Sm.v m_57 r_8 (by decide) rfl kn_48)
  have kn_101 : g_55.2.1 rl 3 = .int rz := (Sm.v m_57 r_11 (by decide) rfl kn_49)
  have kn_102 : g_55.2.1 om 30 = .int rz := (Sm.v m_57 r_8 (by decide) rfl kn_50)
  have kn_103 : g_55.2.1 lg 3 = .int lz := (Sm.v m_57 r_12 (by decide) rfl kn_51)
  have kn_104 : g_55.2.1 om 24 = .int lz := (Sm.v m_57 r_8 (by decide) rfl kn_52)
  refine W.eq (g2 := F0 m 825 ls [.int r_56]) rfl ?_
  refine lv_pop hx hb dL_law_825 rfl ?_
  refine lv_goto (tgt := 829) hx hb dL_law_826 (by decide) ?_
  refine W.widen (k := cells + 4) (n := slots + 28) (by omega) (by omega) ?_
  exact K g_55 o1 tz sv rz lz H locs hT hI r_59 r_60 kn_83 (by have e0_ : (0 : Int32).toInt = 0 := (by decide); omega) (by have e0_ : (0 : Int32).toInt = 0 := (by decide); omega) hw hN0 kn_84 r_61 kn_85 r_62 kn_86 r_63 kn_87 r_64 kn_88 r_65 n_74 kn_89 r_66 n_75 kn_90 r_67 n_76 kn_91 r_68 n_77 kn_92 r_69 n_78 kn_93 r_70 n_79 kn_94 r_71 n_80 kn_95 r_72 n_81 kn_96 r_73 n_82 kn_97 kn_98 (by have e0_ : (0 : Int32).toInt = 0 := (by decide); omega) (by have e0_ : (0 : Int32).toInt = 0 := (by decide); omega) kn_99 kn_100 (by have e0_ : (0 : Int32).toInt = 0 := (by decide); omega) (by have e0_ : (0 : Int32).toInt = 0 := (by decide); omega) kn_101 kn_102 (by have e0_ : (0 : Int32).toInt = 0 := (by decide); omega) (by have e0_ : (0 : Int32).toInt = 0 := (by decide); omega) kn_103 kn_104 (by have e0_ : (0 : Int32).toInt = 0 := (by decide); omega) (by have e0_ : (0 : Int32).toInt = 0 := (by decide); omega) hTE hWT hL0 hL1 hL2
