theorem k_719 : Cond.methodLink RL 101 yX6_log ∈ tb := mt 719 (by decide +kernel) rfl
theorem k_720 : Cond.instanceMethod yX6_log ∈ tb := mt 720 (by decide +kernel) rfl
theorem k_721 : Cond.selects RX6 yX6_log yX6_log ∈ tb := mt 721 (by decide +kernel) rfl
set_option maxRecDepth 20000 in
theorem k_722 : Cond.code yX6_log cX6_log 3 (some .int) ∈ tb := mt 722 rfl rfl
theorem k_723 : Cond.methodLink RL 105 yX6_reset ∈ tb := mt 723 (by decide +kernel) rfl
theorem k_724 : Cond.instanceMethod yX6_reset ∈ tb := mt 724 (by decide +kernel) rfl
theorem k_725 : Cond.selects RX6 yX6_reset yX6_reset ∈ tb := mt 725 (by decide +kernel) rfl
set_option maxRecDepth 20000 in
theorem k_726 : Cond.code yX6_reset cX6_reset 2 (some .int) ∈ tb := mt 726 rfl rfl
theorem k_735 : Cond.methodLink RL 109 yX6_count ∈ tb := mt 735 (by decide +kernel) rfl
theorem k_736 : Cond.instanceMethod yX6_count ∈ tb := mt 736 (by decide +kernel) rfl
theorem k_737 : Cond.selects RX6 yX6_count yX6_count ∈ tb := mt 737 (by decide +kernel) rfl
set_option maxRecDepth 20000 in
theorem k_738 : Cond.code yX6_count cX6_count 2 (some .int) ∈ tb := mt 738 rfl rfl
theorem k_1178 : Cond.methodLink RL 104 yX7_log ∈ tb := mt 1178 (by decide +kernel) rfl
theorem k_1179 : Cond.instanceMethod yX7_log ∈ tb := mt 1179 (by decide +kernel) rfl
theorem k_1180 : Cond.selects RX7 yX7_log yX7_log ∈ tb := mt 1180 (by decide +kernel) rfl
set_option maxRecDepth 20000 in
theorem k_1181 : Cond.code yX7_log cX7_log 3 (some .int) ∈ tb := mt 1181 rfl rfl
theorem k_1182 : Cond.methodLink RL 108 yX7_reset ∈ tb := mt 1182 (by decide +kernel) rfl
theorem k_1183 : Cond.instanceMethod yX7_reset ∈ tb := mt 1183 (by decide +kernel) rfl
theorem k_1184 : Cond.selects RX7 yX7_reset yX7_reset ∈ tb := mt 1184 (by decide +kernel) rfl
set_option maxRecDepth 20000 in
theorem k_1185 : Cond.code yX7_reset cX7_reset 3 (some .int) ∈ tb := mt 1185 rfl rfl
theorem k_1186 : Cond.methodLink RL 112 yX7_count ∈ tb := mt 1186 (by decide +kernel) rfl
theorem k_1187 : Cond.instanceMethod yX7_count ∈ tb := mt 1187 (by decide +kernel) rfl
theorem k_1188 : Cond.selects RX7 yX7_count yX7_count ∈ tb := mt 1188 (by decide +kernel) rfl
set_option maxRecDepth 20000 in
theorem k_1189 : Cond.code yX7_count cX7_count 2 (some .int) ∈ tb := mt 1189 rfl rfl
theorem dL_law_760 : decode cL_law 760 = .ok (.aload_n 1, 1) := by decide +kernel
theorem dL_law_761 : decode cL_law 761 = .ok (.aload_n 0, 1) := by decide +kernel
theorem dL_law_762 : decode cL_law 762 = .ok (.iload_n 3, 1) := by decide +kernel
theorem dL_law_763 : decode cL_law 763 = .ok (.iconst 1, 1) := by decide +kernel
theorem dL_law_764 : decode cL_law 764 = .ok (.iadd, 1) := by decide +kernel
theorem dL_law_765 : decode cL_law 765 = .ok (.iaload, 1) := by decide +kernel
theorem dL_law_766 : decode cL_law 766 = .ok (.aload_n 0, 1) := by decide +kernel
theorem dL_law_767 : decode cL_law 767 = .ok (.iload_n 3, 1) := by decide +kernel
theorem dL_law_768 : decode cL_law 768 = .ok (.iconst 2, 1) := by decide +kernel
theorem dL_law_769 : decode cL_law 769 = .ok (.iadd, 1) := by decide +kernel
theorem dL_law_770 : decode cL_law 770 = .ok (.iaload, 1) := by decide +kernel
theorem dL_law_771 : decode cL_law 771 = .ok (.invokevirtual 101, 3) := by decide +kernel
theorem dL_law_774 : decode cL_law 774 = .ok (.pop, 1) := by decide +kernel
theorem dL_law_775 : decode cL_law 775 = .ok (.aload_n 2, 1) := by decide +kernel
theorem dL_law_776 : decode cL_law 776 = .ok (.aload_n 0, 1) := by decide +kernel
theorem dL_law_777 : decode cL_law 777 = .ok (.iload_n 3, 1) := by decide +kernel
theorem dL_law_778 : decode cL_law 778 = .ok (.iconst 1, 1) := by decide +kernel
theorem dL_law_779 : decode cL_law 779 = .ok (.iadd, 1) := by decide +kernel
theorem dL_law_780 : decode cL_law 780 = .ok (.iaload, 1) := by decide +kernel
theorem dL_law_781 : decode cL_law 781 = .ok (.aload_n 0, 1) := by decide +kernel
theorem dL_law_782 : decode cL_law 782 = .ok (.iload_n 3, 1) := by decide +kernel
theorem dL_law_783 : decode cL_law 783 = .ok (.iconst 2, 1) := by decide +kernel
theorem dL_law_784 : decode cL_law 784 = .ok (.iadd, 1) := by decide +kernel
theorem dL_law_785 : decode cL_law 785 = .ok (.iaload, 1) := by decide +kernel
theorem dL_law_786 : decode cL_law 786 = .ok (.invokevirtual 104, 3) := by decide +kernel
theorem dL_law_789 : decode cL_law 789 = .ok (.pop, 1) := by decide +kernel
theorem dL_law_790 : decode cL_law 790 = .ok (.goto 39, 3) := by decide +kernel
theorem dL_law_793 : decode cL_law 793 = .ok (.aload_n 1, 1) := by decide +kernel
theorem dL_law_794 : decode cL_law 794 = .ok (.invokevirtual 105, 3) := by decide +kernel
theorem dL_law_797 : decode cL_law 797 = .ok (.pop, 1) := by decide +kernel
theorem dL_law_798 : decode cL_law 798 = .ok (.aload_n 2, 1) := by decide +kernel
theorem dL_law_799 : decode cL_law 799 = .ok (.invokevirtual 108, 3) := by decide +kernel
theorem dL_law_802 : decode cL_law 802 = .ok (.pop, 1) := by decide +kernel
theorem dL_law_803 : decode cL_law 803 = .ok (.goto 26, 3) := by decide +kernel
theorem dL_law_806 : decode cL_law 806 = .ok (.aload_n 1, 1) := by decide +kernel
theorem dL_law_807 : decode cL_law 807 = .ok (.aload_n 0, 1) := by decide +kernel
theorem dL_law_808 : decode cL_law 808 = .ok (.iload_n 3, 1) := by decide +kernel
theorem dL_law_809 : decode cL_law 809 = .ok (.iconst 1, 1) := by decide +kernel
theorem dL_law_810 : decode cL_law 810 = .ok (.iadd, 1) := by decide +kernel
theorem dL_law_811 : decode cL_law 811 = .ok (.iaload, 1) := by decide +kernel
theorem dL_law_812 : decode cL_law 812 = .ok (.invokevirtual 109, 3) := by decide +kernel
theorem dL_law_815 : decode cL_law 815 = .ok (.pop, 1) := by decide +kernel
theorem dL_law_816 : decode cL_law 816 = .ok (.aload_n 2, 1) := by decide +kernel
theorem dL_law_817 : decode cL_law 817 = .ok (.aload_n 0, 1) := by decide +kernel
theorem dL_law_818 : decode cL_law 818 = .ok (.iload_n 3, 1) := by decide +kernel
theorem dL_law_819 : decode cL_law 819 = .ok (.iconst 1, 1) := by decide +kernel
theorem dL_law_820 : decode cL_law 820 = .ok (.iadd, 1) := by decide +kernel
theorem dL_law_821 : decode cL_law 821 = .ok (.iaload, 1) := by decide +kernel
theorem dL_law_822 : decode cL_law 822 = .ok (.invokevirtual 112, 3) := by decide +kernel
theorem dL_law_825 : decode cL_law 825 = .ok (.pop, 1) := by decide +kernel
theorem dL_law_826 : decode cL_law 826 = .ok (.goto 3, 3) := by decide +kernel
set_option maxHeartbeats 4000000 in
set_option maxRecDepth 100000 in
/-- log -/
theorem law_20 {p : Program} {l : Launch} {e : Env} {s : State} {m : MethodId} {below : List Frame} {meth : Method} {c : Code} {D : va_G} {cI cZ cS cR : ClassId} {N0 : NT} {b L : Nat} {xs : Nat → Int32} (hB : Tz p s m meth c #[Value.ref b] code 4 RL D cI cZ cS cR N0) (hAs : N0.1 = s.heap.size) (hX : va_X b L xs s s.heap) (hbl : b < s.heap.size) (hL : L ≤ 2560) (hr : meth.sig.returnType = ret) {cells slots : Nat} (hcl : cells + 4 ≤ 600000) (hsl : slots + 28 ≤ 7302250) {H : Heap} {locs : List Loc} {ls : Array Slot} (g : GS) (ox om : Nat) (tp : Nat) (nw : Nat) (rl : Nat) (ba : Nat) (ta : Nat) (wt : Nat) (sa : Nat) (ha : Nat) (i o1 tz sv rz : Int32) (hT : Tv D cI cZ cS cR N0 s.heap H locs g) (hI : Inv g) (l_i : 0 ≤ i.toInt) (u_i : i.toInt + 5 ≤ L) : g.1 ox = 7 → g.1 om = 8 → g.2.1 om 22 = .int o1 → 0 ≤ o1.toInt → o1.toInt ≤ 12 * i.toInt → PX 48 2 3 71 72 g om → PX 8 39 40 84 85 g om → g.2.1 ox 0 = .ref tp → g.1 tp = 5 → g.2.1 ox 1 = .ref nw → g.1 nw = 19 → g.2.1 ox 2 = .ref rl → g.1 rl = 1 → g.2.1 tp 0 = .ref ba → g.1 ba = 67 → g.2.2.1 ba = 100 → g.2.1 om 28 = .ref ta → g.1 ta = 79 → g.2.2.1 ta = 100 → g.2.1 om 42 = .ref wt → g.1 wt = 87 → g.2.2.1 wt = 24 → g.2.1 nw 0 = .ref sa → g.1 sa = 42 → g.2.2.1 sa = 6 → g.2.1 om 5 = .ref ha → g.1 ha = 74 → g.2.2.1 ha = 6 → g.2.1 tp 1 = .int tz → g.2.1 om 29 = .int tz → 0 ≤ tz.toInt → tz.toInt ≤ 100 → g.2.1 nw 1 = .int sv → g.2.1 om 0 = .int sv → 0 ≤ sv.toInt → sv.toInt ≤ 6 → g.2.1 rl 3 = .int rz → g.2.1 om 30 = .int rz → 0 ≤ rz.toInt → rz.toInt ≤ 6 → TE g ba ta tz.toInt → WT g wt → HO 3 0 g sa ha sv.toInt → (hl : lv_has ls 4 [(3, .int i), (2, .ref om), (1, .ref ox), (0, .ref b)]) → (K : ∀ (g1 : GS) (o1_1 tz_1 sv_1 rz_1 : Int32) (H1 : Heap) (locs1 : List Loc), Tv D cI cZ cS cR N0 s.heap H1 locs1 g1 → Inv g1 → g1.1 ox = 7 → g1.1 om = 8 → g1.2.1 om 22 = .int o1_1 → 0 ≤ o1_1.toInt → o1_1.toInt ≤ 12 * i.toInt + 60 → PX 48 2 3 71 72 g1 om → PX 8 39 40 84 85 g1 om → g1.2.1 ox 0 = .ref tp → g1.1 tp = 5 → g1.2.1 ox 1 = .ref nw → g1.1 nw = 19 → g1.2.1 ox 2 = .ref rl → g1.1 rl = 1 → g1.2.1 tp 0 = .ref ba → g1.1 ba = 67 → g1.2.2.1 ba = 100 → g1.2.1 om 28 = .ref ta → g1.1 ta = 79 → g1.2.2.1 ta = 100 → g1.2.1 om 42 = .ref wt → g1.1 wt = 87 → g1.2.2.1 wt = 24 → g1.2.1 nw 0 = .ref sa → g1.1 sa = 42 → g1.2.2.1 sa = 6 → g1.2.1 om 5 = .ref ha → g1.1 ha = 74 → g1.2.2.1 ha = 6 → g1.2.1 tp 1 = .int tz_1 → g1.2.1 om 29 = .int tz_1 → 0 ≤ tz_1.toInt → tz_1.toInt ≤ 100 → g1.2.1 nw 1 = .int sv_1 → g1.2.1 om 0 = .int sv_1 → 0 ≤ sv_1.toInt → sv_1.toInt ≤ 6 → g1.2.1 rl 3 = .int rz_1 → g1.2.1 om 30 = .int rz_1 → 0 ≤ rz_1.toInt → rz_1.toInt ≤ 6 → TE g1 ba ta tz_1.toInt → WT g1 wt → HO 3 0 g1 sa ha sv_1.toInt → W p l e room_1 s m #[Value.ref b] below meth c H1 locs1 (cells + 4) (slots + 28) (lw_Z below #[Value.ref b] s) (F0 m 829 ls [])) → W p l e room_1 s m #[Value.ref b] below meth c H locs cells slots (lw_Z below #[Value.ref b] s) (F0 m 760 ls []) := by
  intro r_ox r_om ko l_o u_o hw hN0 k_tp r_tp k_nw r_nw k_rl r_rl k_ba r_ba n_ba k_ta r_ta n_ta k_wt r_wt n_wt k_sa r_sa n_sa k_ha r_ha n_ha kc_tz km_tz l_tz u_tz kc_sv km_sv l_sv u_sv kc_rz km_rz l_rz u_rz hTE hWT hHO hl K
  have hx := hB.1
  have hb := hB.2.1
  have hE : Ex g g := Ex.rf
  have hM : Sm mdA g g := sm_all
  have hTE0 := hTE
  refine lv_aload_n hx hb dL_law_760 rfl (lv_at hl 2 rfl) ?_
  refine lv_aload_n hx hb dL_law_761 rfl (lv_at hl 3 rfl) ?_
  refine lv_iload_n hx hb dL_law_762 rfl (lv_at hl 0 rfl) ?_
  refine lv_iconst (v := 1) hx hb dL_law_763 (by decide) ?_
  refine lv_iadd hx hb dL_law_764 ?_
  refine lv_topi (fun z_1 ez_1 => ?_)
  have e_z_1 : z_1.toInt = i.toInt + 1 := i_add ez_1 rfl (by decide) (by omega) (by omega)
  refine va_sld hx hb hX hbl (fun q => by have q_ : N0.1 ≤ b := q; omega) hT.2 (i_in (n := L) rfl (by omega) (by omega)) dL_law_765 ?_
  refine lv_topi (fun u_2 e_u_2 => ?_)
  refine lv_aload_n hx hb dL_law_766 rfl (lv_at hl 3 rfl) ?_
  refine lv_iload_n hx hb dL_law_767 rfl (lv_at hl 0 rfl) ?_
  refine lv_iconst (v := 2) hx hb dL_law_768 (by decide) ?_
  refine lv_iadd hx hb dL_law_769 ?_
  refine lv_topi (fun z_3 ez_3 => ?_)
  have e_z_3 : z_3.toInt = i.toInt + 2 := i_add ez_3 rfl (by decide) (by omega) (by omega)
  refine va_sld hx hb hX hbl (fun q => by have q_ : N0.1 ≤ b := q; omega) hT.2 (i_in (n := L) rfl (by omega) (by omega)) dL_law_770 ?_
  refine lv_topi (fun u_4 e_u_4 => ?_)
  refine t_callV (n := 2) (As := [.int u_2, .int u_4]) (rest := []) (ci := 6) hB hT hl.1 (P_log l D cI cZ cS cR N0 g hI ox u_2 u_4 r_ox) (ro_ci r_ox rfl) rfl k_722 k_57 k_719 k_720 k_721 (by decide +kernel) ⟨(Nat.le_of_ble_eq_true rfl), (Nat.le_of_ble_eq_true rfl)⟩ rfl (Nat.le_of_ble_eq_true rfl) ⟨(by show _ ≤ _; first | exact Nat.le_of_ble_eq_true rfl | (simp only [room_1]; omega)), (by show _ ≤ _; first | exact Nat.le_of_ble_eq_true rfl | (simp only [room_1]; omega))⟩ dL_law_771 (fun v g_5 H locs hp hT => ?_)
  obtain ⟨r_6, rfl, hI, x_8, m_7⟩ := hp
  have hw : PX 48 2 3 71 72 g_5 om := hw.mono m_7 x_8 r_om (by decide) (by decide) rfl rfl rfl rfl
  have hN0 : PX 8 39 40 84 85 g_5 om := hN0.mono m_7 x_8 r_om (by decide) (by decide) rfl rfl rfl rfl
  have hTE : TE g_5 ba ta tz.toInt := hTE.sm m_7 r_ba (by decide) rfl r_ta (by decide) rfl
  have hWT : WT g_5 wt := hWT.sm m_7 r_wt (by decide) rfl
  have hHO : HO 3 0 g_5 sa ha sv.toInt := hHO.mono m_7 x_8 r_sa r_ha (by decide) rfl rfl rfl
  have hM : Sm mdA g g_5 := sm_all
  have hE : Ex g g_5 := hE.tr x_8
  have r_9 : g_5.1 ox = 7 := (Ex.r x_8 r_ox (by decide))
  have r_10 : g_5.1 om = 8 := (Ex.r x_8 r_om (by decide))
  have r_11 : g_5.1 tp = 5 := (Ex.r x_8 r_tp (by decide))
  have r_12 : g_5.1 nw = 19 := (Ex.r x_8 r_nw (by decide))
  have r_13 : g_5.1 rl = 1 := (Ex.r x_8 r_rl (by decide))
  have r_14 : g_5.1 ba = 67 := (Ex.r x_8 r_ba (by decide))
  have r_15 : g_5.1 ta = 79 := (Ex.r x_8 r_ta (by decide))
  have r_16 : g_5.1 wt = 87 := (Ex.r x_8 r_wt (by decide))
  have r_17 : g_5.1 sa = 42 := (Ex.r x_8 r_sa (by decide))
  have r_18 : g_5.1 ha = 74 := (Ex.r x_8 r_ha (by decide))
  have n_19 : g_5.2.2.1 ba = 100 := (Ex.n x_8 r_ba (by decide) n_ba)
  have n_20 : g_5.2.2.1 ta = 100 := (Ex.n x_8 r_ta (by decide) n_ta)
  have n_21 : g_5.2.2.1 wt = 24 := (Ex.n x_8 r_wt (by decide) n_wt)
  have n_22 : g_5.2.2.1 sa = 6 := (Ex.n x_8 r_sa (by decide) n_sa)
  have n_23 : g_5.2.2.1 ha = 6 := (Ex.n x_8 r_ha (by decide) n_ha)
  have kn_24 : g_5.2.1 om 22 = .int o1 := (Sm.v m_7 r_om (by decide) rfl ko)
  have kn_25 : g_5.2.1 ox 0 = .ref tp := (Sm.v m_7 r_ox (by decide) rfl k_tp)
  have kn_26 : g_5.2.1 ox 1 = .ref nw := (Sm.v m_7 r_ox (by decide) rfl k_nw)
  have kn_27 : g_5.2.1 ox 2 = .ref rl := (Sm.v m_7 r_ox (by decide) rfl k_rl)
  have kn_28 : g_5.2.1 tp 0 = .ref ba := (Sm.v m_7 r_tp (by decide) rfl k_ba)
  have kn_29 : g_5.2.1 om 28 = .ref ta := (Sm.v m_7 r_om (by decide) rfl k_ta)
  have kn_30 : g_5.2.1 om 42 = .ref wt := (Sm.v m_7 r_om (by decide) rfl k_wt)
  have kn_31 : g_5.2.1 nw 0 = .ref sa := (Sm.v m_7 r_nw (by decide) rfl k_sa)
  have kn_32 : g_5.2.1 om 5 = .ref ha := (Sm.v m_7 r_om (by decide) rfl k_ha)
  have kn_33 : g_5.2.1 tp 1 = .int tz := (Sm.v m_7 r_tp (by decide) rfl kc_tz)
  have kn_34 : g_5.2.1 om 29 = .int tz := (Sm.v m_7 r_om (by decide) rfl km_tz)
  have kn_35 : g_5.2.1 nw 1 = .int sv := (Sm.v m_7 r_nw (by decide) rfl kc_sv)
  have kn_36 : g_5.2.1 om 0 = .int sv := (Sm.v m_7 r_om (by decide) rfl km_sv)
  have kn_37 : g_5.2.1 rl 3 = .int rz := (Sm.v m_7 r_rl (by decide) rfl kc_rz)
  have kn_38 : g_5.2.1 om 30 = .int rz := (Sm.v m_7 r_om (by decide) rfl km_rz)
  refine W.eq (g2 := F0 m 774 ls [.int r_6]) rfl ?_
  refine lv_pop hx hb dL_law_774 rfl ?_
  refine lv_aload_n hx hb dL_law_775 rfl (lv_at hl 1 rfl) ?_
  refine lv_aload_n hx hb dL_law_776 rfl (lv_at hl 3 rfl) ?_
  refine lv_iload_n hx hb dL_law_777 rfl (lv_at hl 0 rfl) ?_
  refine lv_iconst (v := 1) hx hb dL_law_778 (by decide) ?_
  refine lv_iadd hx hb dL_law_779 ?_
  refine lv_topi (fun z_39 ez_39 => ?_)
  have e_z_39 : z_39.toInt = i.toInt + 1 := i_add ez_39 rfl (by decide) (by omega) (by omega)
  refine va_sld hx hb hX hbl (fun q => by have q_ : N0.1 ≤ b := q; omega) hT.2 (i_in (n := L) rfl (by omega) (by omega)) dL_law_780 ?_
  refine lv_topi (fun u_40 e_u_40 => ?_)
  refine lv_aload_n hx hb dL_law_781 rfl (lv_at hl 3 rfl) ?_
  refine lv_iload_n hx hb dL_law_782 rfl (lv_at hl 0 rfl) ?_
  refine lv_iconst (v := 2) hx hb dL_law_783 (by decide) ?_
  refine lv_iadd hx hb dL_law_784 ?_
  refine lv_topi (fun z_41 ez_41 => ?_)
  have e_z_41 : z_41.toInt = i.toInt + 2 := i_add ez_41 rfl (by decide) (by omega) (by omega)
  refine va_sld hx hb hX hbl (fun q => by have q_ : N0.1 ≤ b := q; omega) hT.2 (i_in (n := L) rfl (by omega) (by omega)) dL_law_785 ?_
  refine lv_topi (fun u_42 e_u_42 => ?_)
  refine t_callV (n := 2) (As := [.int u_40, .int u_42]) (rest := []) (ci := 7) hB hT hl.1 (m_log l D cI cZ cS cR N0 g_5 hI om u_40 u_42 r_10) (ro_ci r_10 rfl) rfl k_1181 k_65 k_1178 k_1179 k_1180 (by decide +kernel) ⟨(Nat.le_of_ble_eq_true rfl), (Nat.le_of_ble_eq_true rfl)⟩ rfl (Nat.le_of_ble_eq_true rfl) ⟨(by show _ ≤ _; first | exact Nat.le_of_ble_eq_true rfl | (simp only [room_1]; omega)), (by show _ ≤ _; first | exact Nat.le_of_ble_eq_true rfl | (simp only [room_1]; omega))⟩ dL_law_786 (fun v g_43 H locs hp hT => ?_)
  obtain ⟨r_44, rfl, hI, x_46, m_45⟩ := hp
  have hw : PX 48 2 3 71 72 g_43 om := hw.mono m_45 x_46 r_10 (by decide) (by decide) rfl rfl rfl rfl
  have hN0 : PX 8 39 40 84 85 g_43 om := hN0.mono m_45 x_46 r_10 (by decide) (by decide) rfl rfl rfl rfl
  have hTE : TE g_43 ba ta tz.toInt := hTE.sm m_45 r_14 (by decide) rfl r_15 (by decide) rfl
  have hWT : WT g_43 wt := hWT.sm m_45 r_16 (by decide) rfl
  have hHO : HO 3 0 g_43 sa ha sv.toInt := hHO.mono m_45 x_46 r_17 r_18 (by decide) rfl rfl rfl
  have hM : Sm mdA g g_43 := sm_all
  have hE : Ex g g_43 := hE.tr x_46
  have r_47 : g_43.1 ox = 7 := (Ex.r x_46 r_9 (by decide))
  have r_48 : g_43.1 om = 8 := (Ex.r x_46 r_10 (by decide))
  have r_49 : g_43.1 tp = 5 := (Ex.r x_46 r_11 (by decide))
  have r_50 : g_43.1 nw = 19 := (Ex.r x_46 r_12 (by decide))
  have r_51 : g_43.1 rl = 1 := (Ex.r x_46 r_13 (by decide))
  have r_52 : g_43.1 ba = 67 := (Ex.r x_46 r_14 (by decide))
  have r_53 : g_43.1 ta = 79 := (Ex.r x_46 r_15 (by decide))
  have r_54 : g_43.1 wt = 87 := (Ex.r x_46 r_16 (by decide))
  have r_55 : g_43.1 sa = 42 := (Ex.r x_46 r_17 (by decide))
  have r_56 : g_43.1 ha = 74 := (Ex.r x_46 r_18 (by decide))
  have n_57 : g_43.2.2.1 ba = 100 := (Ex.n x_46 r_14 (by decide) n_19)
  have n_58 : g_43.2.2.1 ta = 100 := (Ex.n x_46 r_15 (by decide) n_20)
  have n_59 : g_43.2.2.1 wt = 24 := (Ex.n x_46 r_16 (by decide) n_21)
  have n_60 : g_43.2.2.1 sa = 6 := (Ex.n x_46 r_17 (by decide) n_22)
  have n_61 : g_43.2.2.1 ha = 6 := (Ex.n x_46 r_18 (by decide) n_23)
  have kn_62 : g_43.2.1 om 22 = .int o1 := (Sm.v m_45 r_10 (by decide) rfl kn_24)
  have kn_63 : g_43.2.1 ox 0 = .ref tp := (Sm.v m_45 r_9 (by decide) rfl kn_25)
  have kn_64 : g_43.2.1 ox 1 = .ref nw := (Sm.v m_45 r_9 (by decide) rfl kn_26)
  have kn_65 : g_43.2.1 ox 2 = .ref rl := (Sm.v m_45 r_9 (by decide) rfl kn_27)
  have kn_66 : g_43.2.1 tp 0 = .ref ba := (Sm.v m_45 r_11 (by decide) rfl kn_28)
  have kn_67 : g_43.2.1 om 28 = .ref ta := (Sm.v m_45 r_10 (by decide) rfl kn_29)
  have kn_68 : g_43.2.1 om 42 = .ref wt := (Sm.v m_45 r_10 (by decide) rfl kn_30)
  have kn_69 : g_43.2.1 nw 0 = .ref sa := (Sm.v m_45 r_12 (by decide) rfl kn_31)
  have kn_70 : g_43.2.1 om 5 = .ref ha := (Sm.v m_45 r_10 (by decide) rfl kn_32)
  have kn_71 : g_43.2.1 tp 1 = .int tz := (Sm.v m_45 r_11 (by decide) rfl kn_33)
  have kn_72 : g_43.2.1 om 29 = .int tz := (Sm.v m_45 r_10 (by decide) rfl kn_34)
  have kn_73 : g_43.2.1 nw 1 = .int sv := (Sm.v m_45 r_12 (by decide) rfl kn_35)
  have kn_74 : g_43.2.1 om 0 = .int sv := (Sm.v m_45 r_10 (by decide) rfl kn_36)
  have kn_75 : g_43.2.1 rl 3 = .int rz := (Sm.v m_45 r_13 (by decide) rfl kn_37)
  have kn_76 : g_43.2.1 om 30 = .int rz := (Sm.v m_45 r_10 (by decide) rfl kn_38)
  refine W.eq (g2 := F0 m 789 ls [.int r_44]) rfl ?_
  refine lv_pop hx hb dL_law_789 rfl ?_
  refine lv_goto (tgt := 829) hx hb dL_law_790 (by decide) ?_
  refine W.widen (k := cells + 4) (n := slots + 28) (by omega) (by omega) ?_
  exact K g_43 o1 tz sv rz H locs hT hI r_47 r_48 kn_62 (by have e0_ : (0 : Int32).toInt = 0 := (by decide); omega) (by have e0_ : (0 : Int32).toInt = 0 := (by decide); omega) hw hN0 kn_63 r_49 kn_64 r_50 kn_65 r_51 kn_66 r_52 n_57 kn_67 r_53 n_58 kn_68 r_54 n_59 kn_69 r_55 n_60 kn_70 r_56 n_61 kn_71 kn_72 (by have e0_ : (0 : Int32).toInt = 0 := (by decide); omega) (by have e0_ : (0 : Int32).toInt = 0 := (by decide); omega) kn_73 kn_74 (by have e0_ : (0 : Int32).toInt = 0 := (by decide); omega) (by have e0_ : (0 : Int32).toInt = 0 := (by decide); omega) kn_75 kn_76 (by have e0_ : (0 : Int32).toInt = 0 := (by decide); omega) (by have e0_ : (0 : Int32).toInt = 0 := (by decide); omega) hTE hWT hHO
set_option maxHeartbeats 4000000 in
set_option maxRecDepth 100000 in
/-- reset -/
theorem law_21 {p : Program} {l : Launch} {e : Env} {s : State} {m : MethodId} {below : List Frame} {meth : Method} {c : Code} {D : va_G} {cI cZ cS cR : ClassId} {N0 : NT} {b L : Nat} {xs : Nat → Int32} (hB : Tz p s m meth c #[Value.ref b] code 4 RL D cI cZ cS cR N0) (hAs : N0.1 = s.heap.size) (hX : va_X b L xs s s.heap) (hbl : b < s.heap.size) (hL : L ≤ 2560) (hr : meth.sig.returnType = ret) {cells slots : Nat} (hcl : cells + 4 ≤ 600000) (hsl : slots + 28 ≤ 7302250) {H : Heap} {locs : List Loc} {ls : Array Slot} (g : GS) (ox om : Nat) (tp : Nat) (nw : Nat) (rl : Nat) (ba : Nat) (ta : Nat) (wt : Nat) (sa : Nat) (ha : Nat) (i o1 tz sv rz : Int32) (hT : Tv D cI cZ cS cR N0 s.heap H locs g) (hI : Inv g) (l_i : 0 ≤ i.toInt) (u_i : i.toInt + 5 ≤ L) : g.1 ox = 7 → g.1 om = 8 → g.2.1 om 22 = .int o1 → 0 ≤ o1.toInt → o1.toInt ≤ 12 * i.toInt → PX 48 2 3 71 72 g om → PX 8 39 40 84 85 g om → g.2.1 ox 0 = .ref tp → g.1 tp = 5 → g.2.1 ox 1 = .ref nw → g.1 nw = 19 → g.2.1 ox 2 = .ref rl → g.1 rl = 1 → g.2.1 tp 0 = .ref ba → g.1 ba = 67 → g.2.2.1 ba = 100 → g.2.1 om 28 = .ref ta → g.1 ta = 79 → g.2.2.1 ta = 100 → g.2.1 om 42 = .ref wt → g.1 wt = 87 → g.2.2.1 wt = 24 → g.2.1 nw 0 = .ref sa → g.1 sa = 42 → g.2.2.1 sa = 6 → g.2.1 om 5 = .ref ha → g.1 ha = 74 → g.2.2.1 ha = 6 → g.2.1 tp 1 = .int tz → g.2.1 om 29 = .int tz → 0 ≤ tz.toInt → tz.toInt ≤ 100 → g.2.1 nw 1 = .int sv → g.2.1 om 0 = .int sv → 0 ≤ sv.toInt → sv.toInt ≤ 6 → g.2.1 rl 3 = .int rz → g.2.1 om 30 = .int rz → 0 ≤ rz.toInt → rz.toInt ≤ 6 → TE g ba ta tz.toInt → WT g wt → HO 3 0 g sa ha sv.toInt → (hl : lv_has ls 4 [(3, .int i), (2, .ref om), (1, .ref ox), (0, .ref b)]) → (K : ∀ (g1 : GS) (o1_1 tz_1 sv_1 rz_1 : Int32) (H1 : Heap) (locs1 : List Loc), Tv D cI cZ cS cR N0 s.heap H1 locs1 g1 → Inv g1 → g1.1 ox = 7 → g1.1 om = 8 → g1.2.1 om 22 = .int o1_1 → 0 ≤ o1_1.toInt → o1_1.toInt ≤ 12 * i.toInt + 60 → PX 48 2 3 71 72 g1 om → PX 8 39 40 84 85 g1 om → g1.2.1 ox 0 = .ref tp → g1.1 tp = 5 → g1.2.1 ox 1 = .ref nw → g1.1 nw = 19 → g1.2.1 ox 2 = .ref rl → g1.1 rl = 1 → g1.2.1 tp 0 = .ref ba → g1.1 ba = 67 → g1.2.2.1 ba = 100 → g1.2.1 om 28 = .ref ta → g1.1 ta = 79 → g1.2.2.1 ta = 100 → g1.2.1 om 42 = .ref wt → g1.1 wt = 87 → g1.2.2.1 wt = 24 → g1.2.1 nw 0 = .ref sa → g1.1 sa = 42 → g1.2.2.1 sa = 6 → g1.2.1 om 5 = .ref ha → g1.1 ha = 74 → g1.2.2.1 ha = 6 → g1.2.1 tp 1 = .int tz_1 → g1.2.1 om 29 = .int tz_1 → 0 ≤ tz_1.toInt → tz_1.toInt ≤ 100 → g1.2.1 nw 1 = .int sv_1 → g1.2.1 om 0 = .int sv_1 → 0 ≤ sv_1.toInt → sv_1.toInt ≤ 6 → g1.2.1 rl 3 = .int rz_1 → g1.2.1 om 30 = .int rz_1 → 0 ≤ rz_1.toInt → rz_1.toInt ≤ 6 → TE g1 ba ta tz_1.toInt → WT g1 wt → HO 3 0 g1 sa ha sv_1.toInt → W p l e room_1 s m #[Value.ref b] below meth c H1 locs1 (cells + 4) (slots + 28) (lw_Z below #[Value.ref b] s) (F0 m 829 ls [])) → W p l e room_1 s m #[Value.ref b] below meth c H locs cells slots (lw_Z below #[Value.ref b] s) (F0 m 793 ls []) := by
  intro r_ox r_om ko l_o u_o hw hN0 k_tp r_tp k_nw r_nw k_rl r_rl k_ba r_ba n_ba k_ta r_ta n_ta k_wt r_wt n_wt k_sa r_sa n_sa k_ha r_ha n_ha kc_tz km_tz l_tz u_tz kc_sv km_sv l_sv u_sv kc_rz km_rz l_rz u_rz hTE hWT hHO hl K
  have hx := hB.1
  have hb := hB.2.1
  have hE : Ex g g := Ex.rf
  have hM : Sm mdA g g := sm_all
  have hTE0 := hTE
  refine lv_aload_n hx hb dL_law_793 rfl (lv_at hl 2 rfl) ?_
  refine t_callV (n := 0) (As := []) (rest := []) (ci := 6) hB hT hl.1 (P_reset l D cI cZ cS cR N0 g hI ox r_ox) (ro_ci r_ox rfl) rfl k_726 k_57 k_723 k_724 k_725 (by decide +kernel) ⟨(Nat.le_of_ble_eq_true rfl), (Nat.le_of_ble_eq_true rfl)⟩ rfl (Nat.le_of_ble_eq_true rfl) ⟨(by show _ ≤ _; first | exact Nat.le_of_ble_eq_true rfl | (simp only [room_1]; omega)), (by show _ ≤ _; first | exact Nat.le_of_ble_eq_true rfl | (simp only [room_1]; omega))⟩ dL_law_794 (fun v g_1 H locs hp hT => ?_)
  obtain ⟨r_2, rfl, hI, x_4, m_3⟩ := hp
  have hw : PX 48 2 3 71 72 g_1 om := hw.mono m_3 x_4 r_om (by decide) (by decide) rfl rfl rfl rfl
  have hN0 : PX 8 39 40 84 85 g_1 om := hN0.mono m_3 x_4 r_om (by decide) (by decide) rfl rfl rfl rfl
  have hTE : TE g_1 ba ta tz.toInt := hTE.sm m_3 r_ba (by decide) rfl r_ta (by decide) rfl
  have hWT : WT g_1 wt := hWT.sm m_3 r_wt (by decide) rfl
  have hHO : HO 3 0 g_1 sa ha sv.toInt := hHO.mono m_3 x_4 r_sa r_ha (by decide) rfl rfl rfl
  have hM : Sm mdA g g_1 := sm_all
  have hE : Ex g g_1 := hE.tr x_4
  have r_5 : g_1.1 ox = 7 := (Ex.r x_4 r_ox (by decide))
  have r_6 : g_1.1 om = 8 := (Ex.r x_4 r_om (by decide))
  have r_7 : g_1.1 tp = 5 := (Ex.r x_4 r_tp (by decide))
  have r_8 : g_1.1 nw = 19 := (Ex.r x_4 r_nw (by decide))
  have r_9 : g_1.1 rl = 1 := (Ex.r x_4 r_rl (by decide))
  have r_10 : g_1.1 ba = 67 := (Ex.r x_4 r_ba (by decide))
  have r_11 : g_1.1 ta = 79 := (Ex.r x_4 r_ta (by decide))
  have r_12 : g_1.1 wt = 87 := (Ex.r x_4 r_wt (by decide))
  have r_13 : g_1.1 sa = 42 := (Ex.r x_4 r_sa (by decide))
  have r_14 : g_1.1 ha = 74 := (Ex.r x_4 r_ha (by decide))
  have n_15 : g_1.2.2.1 ba = 100 := (Ex.n x_4 r_ba (by decide) n_ba)
  have n_16 : g_1.2.2.1 ta = 100 := (Ex.n x_4 r_ta (by decide) n_ta)
  have n_17 : g_1.2.2.1 wt = 24 := (Ex.n x_4 r_wt (by decide) n_wt)
  have n_18 : g_1.2.2.1 sa = 6 := (Ex.n x_4 r_sa (by decide) n_sa)
  have n_19 : g_1.2.2.1 ha = 6 := (Ex.n x_4 r_ha (by decide) n_ha)
  have kn_20 : g_1.2.1 om 22 = .int o1 := (Sm.v m_3 r_om (by decide) rfl ko)
  have kn_21 : g_1.2.1 ox 0 = .ref tp := (Sm.v m_3 r_ox (by decide) rfl k_tp)
  have kn_22 : g_1.2.1 ox 1 = .ref nw := (Sm.v m_3 r_ox (by decide) rfl k_nw)
  have kn_23 : g_1.2.1 ox 2 = .ref rl := (Sm.v m_3 r_ox (by decide) rfl k_rl)
  have kn_24 : g_1.2.1 tp 0 = .ref ba := (Sm.v m_3 r_tp (by decide) rfl k_ba)
  have kn_25 : g_1.2.1 om 28 = .ref ta := (Sm.v m_3 r_om (by decide) rfl k_ta)
  have kn_26 : g_1.2.1 om 42 = .ref wt := (Sm.v m_3 r_om (by decide) rfl k_wt)
  have kn_27 : g_1.2.1 nw 0 = .ref sa := (Sm.v m_3 r_nw (by decide) rfl k_sa)
  have kn_28 : g_1.2.1 om 5 = .ref ha := (Sm.v m_3 r_om (by decide) rfl k_ha)
  have kn_29 : g_1.2.1 tp 1 = .int tz := (Sm.v m_3 r_tp (by decide) rfl kc_tz)
  have kn_30 : g_1.2.1 om 29 = .int tz := (Sm.v m_3 r_om (by decide) rfl km_tz)
  have kn_31 : g_1.2.1 nw 1 = .int sv := (Sm.v m_3 r_nw (by decide) rfl kc_sv)
  have kn_32 : g_1.2.1 om 0 = .int sv := (Sm.v m_3 r_om (by decide) rfl km_sv)
  have kn_33 : g_1.2.1 rl 3 = .int rz := (Sm.v m_3 r_rl (by decide) rfl kc_rz)
  have kn_34 : g_1.2.1 om 30 = .int rz := (Sm.v m_3 r_om (by decide) rfl km_rz)
  refine W.eq (g2 := F0 m 797 ls [.int r_2]) rfl ?_
  refine lv_pop hx hb dL_law_797 rfl ?_
  refine lv_aload_n hx hb dL_law_798 rfl (lv_at hl 1 rfl) ?_
  refine t_callV (n := 0) (As := []) (rest := []) (ci := 7) hB hT hl.1 (m_reset l D cI cZ cS cR N0 g_1 hI om r_6) (ro_ci r_6 rfl) rfl k_1185 k_65 k_1182 k_1183 k_1184 (by decide +kernel) ⟨(Nat.le_of_ble_eq_true rfl), (Nat.le_of_ble_eq_true rfl)⟩ rfl (Nat.le_of_ble_eq_true rfl) ⟨(by show _ ≤ _; first | exact Nat.le_of_ble_eq_true rfl | (simp only [room_1]; omega)), (by show _ ≤ _; first | exact Nat.le_of_ble_eq_true rfl | (simp only [room_1]; omega))⟩ dL_law_799 (fun v g_35 H locs hp hT => ?_)
  obtain ⟨r_36, rfl, hI, x_39, m_38, f_37⟩ := hp
  have hw : PX 48 2 3 71 72 g_35 om := hw.mono m_38 x_39 r_6 (by decide) (by decide) rfl rfl rfl rfl
  have hN0 : PX 8 39 40 84 85 g_35 om := hN0.mono m_38 x_39 r_6 (by decide) (by decide) rfl rfl rfl rfl
  have hTE : TE g_35 ba ta tz.toInt := hTE.sm m_38 r_10 (by decide) rfl r_11 (by decide) rfl
  have hWT : WT g_35 wt := hWT.sm m_38 r_12 (by decide) rfl
  have hHO : HO 3 0 g_35 sa ha sv.toInt := hHO.mono m_38 x_39 r_13 r_14 (by decide) rfl rfl rfl
  have hM : Sm mdA g g_35 := sm_all
  have hE : Ex g g_35 := hE.tr x_39
  have r_40 : g_35.1 ox = 7 := (Ex.r x_39 r_5 (by decide))
  have r_41 : g_35.1 om = 8 := (Ex.r x_39 r_6 (by decide))
  have r_42 : g_35.1 tp = 5 := (Ex.r x_39 r_7 (by decide))
  have r_43 : g_35.1 nw = 19 := (Ex.r x_39 r_8 (by decide))
  have r_44 : g_35.1 rl = 1 := (Ex.r x_39 r_9 (by decide))
  have r_45 : g_35.1 ba = 67 := (Ex.r x_39 r_10 (by decide))
  have r_46 : g_35.1 ta = 79 := (Ex.r x_39 r_11 (by decide))
  have r_47 : g_35.1 wt = 87 := (Ex.r x_39 r_12 (by decide))
  have r_48 : g_35.1 sa = 42 := (Ex.r x_39 r_13 (by decide))
  have r_49 : g_35.1 ha = 74 := (Ex.r x_39 r_14 (by decide))
  have n_50 : g_35.2.2.1 ba = 100 := (Ex.n x_39 r_10 (by decide) n_15)
  have n_51 : g_35.2.2.1 ta = 100 := (Ex.n x_39 r_11 (by decide) n_16)
  have n_52 : g_35.2.2.1 wt = 24 := (Ex.n x_39 r_12 (by decide) n_17)
  have n_53 : g_35.2.2.1 sa = 6 := (Ex.n x_39 r_13 (by decide) n_18)
  have n_54 : g_35.2.2.1 ha = 6 := (Ex.n x_39 r_14 (by decide) n_19)
  have kn_55 : g_35.2.1 ox 0 = .ref tp := (Sm.v m_38 r_5 (by decide) rfl kn_21)
  have kn_56 : g_35.2.1 ox 1 = .ref nw := (Sm.v m_38 r_5 (by decide) rfl kn_22)
  have kn_57 : g_35.2.1 ox 2 = .ref rl := (Sm.v m_38 r_5 (by decide) rfl kn_23)
  have kn_58 : g_35.2.1 tp 0 = .ref ba := (Sm.v m_38 r_7 (by decide) rfl kn_24)
  have kn_59 : g_35.2.1 om 28 = .ref ta := (Sm.v m_38 r_6 (by decide) rfl kn_25)
  have kn_60 : g_35.2.1 om 42 = .ref wt := (Sm.v m_38 r_6 (by decide) rfl kn_26)
  have kn_61 : g_35.2.1 nw 0 = .ref sa := (Sm.v m_38 r_8 (by decide) rfl kn_27)
  have kn_62 : g_35.2.1 om 5 = .ref ha := (Sm.v m_38 r_6 (by decide) rfl kn_28)
  have kn_63 : g_35.2.1 tp 1 = .int tz := (Sm.v m_38 r_7 (by decide) rfl kn_29)
  have kn_64 : g_35.2.1 om 29 = .int tz := (Sm.v m_38 r_6 (by decide) rfl kn_30)
  have kn_65 : g_35.2.1 nw 1 = .int sv := (Sm.v m_38 r_8 (by decide) rfl kn_31)
  have kn_66 : g_35.2.1 om 0 = .int sv := (Sm.v m_38 r_6 (by decide) rfl kn_32)
  have kn_67 : g_35.2.1 rl 3 = .int rz := (Sm.v m_38 r_9 (by decide) rfl kn_33)
  have kn_68 : g_35.2.1 om 30 = .int rz := (Sm.v m_38 r_6 (by decide) rfl kn_34)
  refine W.eq (g2 := F0 m 802 ls [.int r_36]) rfl ?_
  refine lv_pop hx hb dL_law_802 rfl ?_
  refine lv_goto (tgt := 829) hx hb dL_law_803 (by decide) ?_
  refine W.widen (k := cells + 4) (n := slots + 28) (by omega) (by omega) ?_
  exact K g_35 (0 : Int32) tz sv rz H locs hT hI r_40 r_41 f_37 (by have e0_ : (0 : Int32).toInt = 0 := (by decide); omega) (by have e0_ : (0 : Int32).toInt = 0 := (by decide); omega) hw hN0 kn_55 r_42 kn_56 r_43 kn_57 r_44 kn_58 r_45 n_50 kn_59 r_46 n_51 kn_60 r_47 n_52 kn_61 r_48 n_53 kn_62 r_49 n_54 kn_63 kn_64 (by have e0_ : (0 : Int32).toInt = 0 := (by decide); omega) (by have e0_ : (0 : Int32).toInt = 0 := (by decide); omega) kn_65 kn_66 (by have e0_ : (0 : Int32).toInt = 0 := (by decide); omega) (by have e0_ : (0 : Int32).toInt = 0 := (by decide); omega) kn_67 kn_68 (by have e0_ : (0 : Int32).toInt = 0 := (by decide); omega) (by have e0_ : (0 : Int32).toInt = 0 := (by decide); omega) hTE hWT hHO
set_option maxHeartbeats 4000000 in
set_option maxRecDepth 100000 in
/-- count -/
theorem law_22 {p : Program} {l : Launch} {e : Env} {s : State} {m : MethodId} {below : List Frame} {meth : Method} {c : Code} {D : va_G} {cI cZ cS cR : ClassId} {N0 : NT} {b L : Nat} {xs : Nat → Int32} (hB : Tz p s m meth c #[Value.ref b] code 4 RL D cI cZ cS cR N0) (hAs : N0.1 = s.heap.size) (hX : va_X b L xs s s.heap) (hbl : b < s.heap.size) (hL : L ≤ 2560) (hr : meth.sig.returnType = ret) {cells slots : Nat} (hcl : cells + 4 ≤ 600000) (hsl : slots + 28 ≤ 7302250) {H : Heap} {locs : List Loc} {ls : Array Slot} (g : GS) (ox om : Nat) (tp : Nat) (nw : Nat) (rl : Nat) (ba : Nat) (ta : Nat) (wt : Nat) (sa : Nat) (ha : Nat) (i o1 tz sv rz : Int32) (hT : Tv D cI cZ cS cR N0 s.heap H locs g) (hI : Inv g) (l_i : 0 ≤ i.toInt) (u_i : i.toInt + 5 ≤ L) : g.1 ox = 7 → g.1 om = 8 → g.2.1 om 22 = .int o1 → 0 ≤ o1.toInt → o1.toInt ≤ 12 * i.toInt → PX 48 2 3 71 72 g om → PX 8 39 40 84 85 g om → g.2.1 ox 0 = .ref tp → g.1 tp = 5 → g.2.1 ox 1 = .ref nw → g.1 nw = 19 → g.2.1 ox 2 = .ref rl → g.1 rl = 1 → g.2.1 tp 0 = .ref ba → g.1 ba = 67 → g.2.2.1 ba = 100 → g.2.1 om 28 = .ref ta → g.1 ta = 79 → g.2.2.1 ta = 100 → g.2.1 om 42 = .ref wt → g.1 wt = 87 → g.2.2.1 wt = 24 → g.2.1 nw 0 = .ref sa → g.1 sa = 42 → g.2.2.1 sa = 6 → g.2.1 om 5 = .ref ha → g.1 ha = 74 → g.2.2.1 ha = 6 → g.2.1 tp 1 = .int tz → g.2.1 om 29 = .int tz → 0 ≤ tz.toInt → tz.toInt ≤ 100 → g.2.1 nw 1 = .int sv → g.2.1 om 0 = .int sv → 0 ≤ sv.toInt → sv.toInt ≤ 6 → g.2.1 rl 3 = .int rz → g.2.1 om 30 = .int rz → 0 ≤ rz.toInt → rz.toInt ≤ 6 → TE g ba ta tz.toInt → WT g wt → HO 3 0 g sa ha sv.toInt → (hl : lv_has ls 4 [(3, .int i), (2, .ref om), (1, .ref ox), (0, .ref b)]) → (K : ∀ (g1 : GS) (o1_1 tz_1 sv_1 rz_1 : Int32) (H1 : Heap) (locs1 : List Loc), Tv D cI cZ cS cR N0 s.heap H1 locs1 g1 → Inv g1 → g1.1 ox = 7 → g1.1 om = 8 → g1.2.1 om 22 = .int o1_1 → 0 ≤ o1_1.toInt → o1_1.toInt ≤ 12 * i.toInt + 60 → PX 48 2 3 71 72 g1 om → PX 8 39 40 84 85 g1 om → g1.2.1 ox 0 = .ref tp → g1.1 tp = 5 → g1.2.1 ox 1 = .ref nw → g1.1 nw = 19 → g1.2.1 ox 2 = .ref rl → g1.1 rl = 1 → g1.2.1 tp 0 = .ref ba → g1.1 ba = 67 → g1.2.2.1 ba = 100 → g1.2.1 om 28 = .ref ta → g1.1 ta = 79 → g1.2.2.1 ta = 100 → g1.2.1 om 42 = .ref wt → g1.1 wt = 87 → g1.2.2.1 wt = 24 → g1.2.1 nw 0 = .ref sa → g1.1 sa = 42 → g1.2.2.1 sa = 6 → g1.2.1 om 5 = .ref ha → g1.1 ha = 74 → g1.2.2.1 ha = 6 → g1.2.1 tp 1 = .int tz_1 → g1.2.1 om 29 = .int tz_1 → 0 ≤ tz_1.toInt → tz_1.toInt ≤ 100 → g1.2.1 nw 1 = .int sv_1 → g1.2.1 om 0 = .int sv_1 → 0 ≤ sv_1.toInt → sv_1.toInt ≤ 6 → g1.2.1 rl 3 = .int rz_1 → g1.2.1 om 30 = .int rz_1 → 0 ≤ rz_1.toInt → rz_1.toInt ≤ 6 → TE g1 ba ta tz_1.toInt → WT g1 wt → HO 3 0 g1 sa ha sv_1.toInt → W p l e room_1 s m #[Value.ref b] below meth c H1 locs1 (cells + 4) (slots + 28) (lw_Z below #[Value.ref b] s) (F0 m 829 ls [])) → W p l e room_1 s m #[Value.ref b] below meth c H locs cells slots (lw_Z below #[Value.ref b] s) (F0 m 806 ls []) := by
  intro r_ox r_om ko l_o u_o hw hN0 k_tp r_tp k_nw r_nw k_rl r_rl k_ba r_ba n_ba k_ta r_ta n_ta k_wt r_wt n_wt k_sa r_sa n_sa k_ha r_ha n_ha kc_tz km_tz l_tz u_tz kc_sv km_sv l_sv u_sv kc_rz km_rz l_rz u_rz hTE hWT hHO hl K
  have hx := hB.1
  have hb := hB.2.1
  have hE : Ex g g := Ex.rf
  have hM : Sm mdA g g := sm_all
  have hTE0 := hTE
  refine lv_aload_n hx hb dL_law_806 rfl (lv_at hl 2 rfl) ?_
  refine lv_aload_n hx hb dL_law_807 rfl (lv_at hl 3 rfl) ?_
  refine lv_iload_n hx hb dL_law_808 rfl (lv_at hl 0 rfl) ?_
  refine lv_iconst (v := 1) hx hb dL_law_809 (by decide) ?_
  refine lv_iadd hx hb dL_law_810 ?_
  refine lv_topi (fun z_1 ez_1 => ?_)
  have e_z_1 : z_1.toInt = i.toInt + 1 := i_add ez_1 rfl (by decide) (by omega) (by omega)
  refine va_sld hx hb hX hbl (fun q => by have q_ : N0.1 ≤ b := q; omega) hT.2 (i_in (n := L) rfl (by omega) (by omega)) dL_law_811 ?_
  refine lv_topi (fun u_2 e_u_2 => ?_)
  refine t_callV (n := 1) (As := [.int u_2]) (rest := []) (ci := 6) hB hT hl.1 (P_count l D cI cZ cS cR N0 g hI ox u_2 r_ox) (ro_ci r_ox rfl) rfl k_738 k_57 k_735 k_736 k_737 (by decide +kernel) ⟨(Nat.le_of_ble_eq_true rfl), (Nat.le_of_ble_eq_true rfl)⟩ rfl (Nat.le_of_ble_eq_true rfl) ⟨(by show _ ≤ _; first | exact Nat.le_of_ble_eq_true rfl | (simp only [room_1]; omega)), (by show _ ≤ _; first | exact Nat.le_of_ble_eq_true rfl | (simp only [room_1]; omega))⟩ dL_law_812 (fun v g_3 H locs hp hT => ?_)
  obtain ⟨r_4, rfl, hI, x_6, m_5⟩ := hp
  have hw : PX 48 2 3 71 72 g_3 om := hw.mono m_5 x_6 r_om (by decide) (by decide) rfl rfl rfl rfl
  have hN0 : PX 8 39 40 84 85 g_3 om := hN0.mono m_5 x_6 r_om (by decide) (by decide) rfl rfl rfl rfl
  have hTE : TE g_3 ba ta tz.toInt := hTE.sm m_5 r_ba (by decide) rfl r_ta (by decide) rfl
  have hWT : WT g_3 wt := hWT.sm m_5 r_wt (by decide) rfl
  have hHO : HO 3 0 g_3 sa ha sv.toInt := hHO.mono m_5 x_6 r_sa r_ha (by decide) rfl rfl rfl
  have hM : Sm mdA g g_3 := sm_all
  have hE : Ex g g_3 := hE.tr x_6
  have r_7 : g_3.1 ox = 7 := (Ex.r x_6 r_ox (by decide))
  have r_8 : g_3.1 om = 8 := (Ex.r x_6 r_om (by decide))
  have r_9 : g_3.1 tp = 5 := (Ex.r x_6 r_tp (by decide))
  have r_10 : g_3.1 nw = 19 := (Ex.r x_6 r_nw (by decide))
  have r_11 : g_3.1 rl = 1 := (Ex.r x_6 r_rl (by decide))
  have r_12 : g_3.1 ba = 67 := (Ex.r x_6 r_ba (by decide))
  have r_13 : g_3.1 ta = 79 := (Ex.r x_6 r_ta (by decide))
  have r_14 : g_3.1 wt = 87 := (Ex.r x_6 r_wt (by decide))
  have r_15 : g_3.1 sa = 42 := (Ex.r x_6 r_sa (by decide))
  have r_16 : g_3.1 ha = 74 := (Ex.r x_6 r_ha (by decide))
  have n_17 : g_3.2.2.1 ba = 100 := (Ex.n x_6 r_ba (by decide) n_ba)
  have n_18 : g_3.2.2.1 ta = 100 := (Ex.n x_6 r_ta (by decide) n_ta)
  have n_19 : g_3.2.2.1 wt = 24 := (Ex.n x_6 r_wt (by decide) n_wt)
  have n_20 : g_3.2.2.1 sa = 6 := (Ex.n x_6 r_sa (by decide) n_sa)
  have n_21 : g_3.2.2.1 ha = 6 := (Ex.n x_6 r_ha (by decide) n_ha)
  have kn_22 : g_3.2.1 om 22 = .int o1 := (Sm.v m_5 r_om (by decide) rfl ko)
  have kn_23 : g_3.2.1 ox 0 = .ref tp := (Sm.v m_5 r_ox (by decide) rfl k_tp)
  have kn_24 : g_3.2.1 ox 1 = .ref nw := (Sm.v m_5 r_ox (by decide) rfl k_nw)
  have kn_25 : g_3.2.1 ox 2 = .ref rl := (Sm.v m_5 r_ox (by decide) rfl k_rl)
  have kn_26 : g_3.2.1 tp 0 = .ref ba := (Sm.v m_5 r_tp (by decide) rfl k_ba)
  have kn_27 : g_3.2.1 om 28 = .ref ta := (Sm.v m_5 r_om (by decide) rfl k_ta)
  have kn_28 : g_3.2.1 om 42 = .ref wt := (Sm.v m_5 r_om (by decide) rfl k_wt)
  have kn_29 : g_3.2.1 nw 0 = .ref sa := (Sm.v m_5 r_nw (by decide) rfl k_sa)
  have kn_30 : g_3.2.1 om 5 = .ref ha := (Sm.v m_5 r_om (by decide) rfl k_ha)
  have kn_31 : g_3.2.1 tp 1 = .int tz := (Sm.v m_5 r_tp (by decide) rfl kc_tz)
  have kn_32 : g_3.2.1 om 29 = .int tz := (Sm.v m_5 r_om (by decide) rfl km_tz)
  have kn_33 : g_3.2.1 nw 1 = .int sv := (Sm.v m_5 r_nw (by decide) rfl kc_sv)
  have kn_34 : g_3.2.1 om 0 = .int sv := (Sm.v m_5 r_om (by decide) rfl km_sv)
  have kn_35 : g_3.2.1 rl 3 = .int rz := (Sm.v m_5 r_rl (by decide) rfl kc_rz)
  have kn_36 : g_3.2.1 om 30 = .int rz := (Sm.v m_5 r_om (by decide) rfl km_rz)
  refine W.eq (g2 := F0 m 815 ls [.int r_4]) rfl ?_
  refine lv_pop hx hb dL_law_815 rfl ?_
  refine lv_aload_n hx hb dL_law_816 rfl (lv_at hl 1 rfl) ?_
  refine lv_aload_n hx hb dL_law_817 rfl (lv_at hl 3 rfl) ?_
  refine lv_iload_n hx hb dL_law_818 rfl (lv_at hl 0 rfl) ?_
  refine lv_iconst (v := 1) hx hb dL_law_819 (by decide) ?_
  refine lv_iadd hx hb dL_law_820 ?_
  refine lv_topi (fun z_37 ez_37 => ?_)
  have e_z_37 : z_37.toInt = i.toInt + 1 := i_add ez_37 rfl (by decide) (by omega) (by omega)
  refine va_sld hx hb hX hbl (fun q => by have q_ : N0.1 ≤ b := q; omega) hT.2 (i_in (n := L) rfl (by omega) (by omega)) dL_law_821 ?_
  refine lv_topi (fun u_38 e_u_38 => ?_)
  refine t_callV (n := 1) (As := [.int u_38]) (rest := []) (ci := 7) hB hT hl.1 (m_count l D cI cZ cS cR N0 g_3 hI om u_38 r_8) (ro_ci r_8 rfl) rfl k_1189 k_65 k_1186 k_1187 k_1188 (by decide +kernel) ⟨(Nat.le_of_ble_eq_true rfl), (Nat.le_of_ble_eq_true rfl)⟩ rfl (Nat.le_of_ble_eq_true rfl) ⟨(by show _ ≤ _; first | exact Nat.le_of_ble_eq_true rfl | (simp only [room_1]; omega)), (by show _ ≤ _; first | exact Nat.le_of_ble_eq_true rfl | (simp only [room_1]; omega))⟩ dL_law_822 (fun v g_39 H locs hp hT => ?_)
  obtain ⟨r_40, rfl, hI, x_42, m_41⟩ := hp
  have hw : PX 48 2 3 71 72 g_39 om := hw.mono m_41 x_42 r_8 (by decide) (by decide) rfl rfl rfl rfl
  have hN0 : PX 8 39 40 84 85 g_39 om := hN0.mono m_41 x_42 r_8 (by decide) (by decide) rfl rfl rfl rfl
  have hTE : TE g_39 ba ta tz.toInt := hTE.sm m_41 r_12 (by decide) rfl r_13 (by decide) rfl
  have hWT : WT g_39 wt := hWT.sm m_41 r_14 (by decide) rfl
  have hHO : HO 3 0 g_39 sa ha sv.toInt := hHO.mono m_41 x_42 r_15 r_16 (by decide) rfl rfl rfl
  have hM : Sm mdA g g_39 := sm_all
  have hE : Ex g g_39 := hE.tr x_42
  have r_43 : g_39.1 ox = 7 := (Ex.r x_42 r_7 (by decide))
  have r_44 : g_39.1 om = 8 := (Ex.r x_42 r_8 (by decide))
  have r_45 : g_39.1 tp = 5 := (Ex.r x_42 r_9 (by decide))
  have r_46 : g_39.1 nw = 19 := (Ex.r x_42 r_10 (by decide))
  have r_47 : g_39.1 rl = 1 := (Ex.r x_42 r_11 (by decide))
  have r_48 : g_39.1 ba = 67 := (Ex.r x_42 r_12 (by decide))
  have r_49 : g_39.1 ta = 79 := (Ex.r x_42 r_13 (by decide))
  have r_50 : g_39.1 wt = 87 := (Ex.r x_42 r_14 (by decide))
  have r_51 : g_39.1 sa = 42 := (Ex.r x_42 r_15 (by decide))
  have r_52 : g_39.1 ha = 74 := (Ex.r x_42 r_16 (by decide))
  have n_53 : g_39.2.2.1 ba = 100 := (Ex.n x_42 r_12 (by decide) n_17)
  have n_54 : g_39.2.2.1 ta = 100 := (Ex.n x_42 r_13 (by decide) n_18)
  have n_55 : g_39.2.2.1 wt = 24 := (Ex.n x_42 r_14 (by decide) n_19)
  have n_56 : g_39.2.2.1 sa = 6 := (Ex.n x_42 r_15 (by decide) n_20)
  have n_57 : g_39.2.2.1 ha = 6 := (Ex.n x_42 r_16 (by decide) n_21)
  have kn_58 : g_39.2.1 om 22 = .int o1 := (Sm.v m_41 r_8 (by decide) rfl kn_22)
  have kn_59 : g_39.2.1 ox 0 = .ref tp := (Sm.v m_41 r_7 (by decide) rfl kn_23)
  have kn_60 : g_39.2.1 ox 1 = .ref nw := (Sm.v m_41 r_7 (by decide) rfl kn_24)
  have kn_61 : g_39.2.1 ox 2 = .ref rl := (Sm.v m_41 r_7 (by decide) rfl kn_25)
  have kn_62 : g_39.2.1 tp 0 = .ref ba := (Sm.v m_41 r_9 (by decide) rfl kn_26)
  have kn_63 : g_39.2.1 om 28 = .ref ta := (Sm.v m_41 r_8 (by decide) rfl kn_27)
  have kn_64 : g_39.2.1 om 42 = .ref wt := (Sm.v m_41 r_8 (by decide) rfl kn_28)
  have kn_65 : g_39.2.1 nw 0 = .ref sa := (Sm.v m_41 r_10 (by decide) rfl kn_29)
  have kn_66 : g_39.2.1 om 5 = .ref ha := (Sm.v m_41 r_8 (by decide) rfl kn_30)
  have kn_67 : g_39.2.1 tp 1 = .int tz := (Sm.v m_41 r_9 (by decide) rfl kn_31)
  have kn_68 : g_39.2.1 om 29 = .int tz := (Sm.v m_41 r_8 (by decide) rfl kn_32)
  have kn_69 : g_39.2.1 nw 1 = .int sv := (Sm.v m_41 r_10 (by decide) rfl kn_33)
  have kn_70 : g_39.2.1 om 0 = .int sv := (Sm.v m_41 r_8 (by decide) rfl kn_34)
  have kn_71 : g_39.2.1 rl 3 = .int rz := (Sm.v m_41 r_11 (by decide) rfl kn_35)
  have kn_72 : g_39.2.1 om 30 = .int rz := (Sm.v m_41 r_8 (by decide) rfl kn_36)
  refine W.eq (g2 := F0 m 825 ls [.int r_40]) rfl ?_
  refine lv_pop hx hb dL_law_825 rfl ?_
  refine lv_goto (tgt := 829) hx hb dL_law_826 (by decide) ?_
  refine W.widen (k := cells + 4) (n := slots + 28) (by omega) (by omega) ?_
  exact K g_39 o1 tz sv rz H locs hT hI r_43 r_44 kn_58 (by have e0_ : (0 : Int32).toInt = 0 := (by decide); omega) (by have e0_ : (0 : Int32).toInt = 0 := (by decide); omega) hw hN0 kn_59 r_45 kn_60 r_46 kn_61 r_47 kn_62 r_48 n_53 kn_63 r_49 n_54 kn_64 r_50 n_55 kn_65 r_51 n_56 kn_66 r_52 n_57 kn_67 kn_68 (by have e0_ : (0 : Int32).toInt = 0 := (by decide); omega) (by have e0_ : (0 : Int32).toInt = 0 := (by decide); omega) kn_69 kn_70 (by have e0_ : (0 : Int32).toInt = 0 := (by decide); omega) (by have e0_ : (0 : Int32).toInt = 0 := (by decide); omega) kn_71 kn_72 (by have e0_ : (0 : Int32).toInt = 0 := (by decide); omega) (by have e0_ : (0 : Int32).toInt = 0 := (by decide); omega) hTE hWT hHO
