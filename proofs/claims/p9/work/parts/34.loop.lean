theorem dL_law_829 : decode cL_law 829 = .ok (.iinc 3 5, 3) := by decide +kernel
theorem dL_law_832 : decode cL_law 832 = .ok (.goto (-814), 3) := by decide +kernel
theorem dL_law_18 : decode cL_law 18 = .ok (.iload_n 3, 1) := by decide +kernel
theorem dL_law_19 : decode cL_law 19 = .ok (.aload_n 0, 1) := by decide +kernel
theorem dL_law_20 : decode cL_law 20 = .ok (.arraylength, 1) := by decide +kernel
theorem dL_law_21 : decode cL_law 21 = .ok (.iconst 5, 1) := by decide +kernel
theorem dL_law_22 : decode cL_law 22 = .ok (.isub, 1) := by decide +kernel
theorem dL_law_23 : decode cL_law 23 = .ok (.if_icmp .gt 812, 3) := by decide +kernel
theorem dL_law_835 : decode cL_law 835 = .ok (.iconst 1, 1) := by decide +kernel
theorem dL_law_836 : decode cL_law 836 = .ok (.ireturn, 1) := by decide +kernel
theorem dL_law_26 : decode cL_law 26 = .ok (.aload_n 0, 1) := by decide +kernel
theorem dL_law_27 : decode cL_law 27 = .ok (.iload_n 3, 1) := by decide +kernel
theorem dL_law_28 : decode cL_law 28 = .ok (.iaload, 1) := by decide +kernel
theorem dL_law_29 : decode cL_law 29 = .ok (.bipush 31, 2) := by decide +kernel
theorem dL_law_31 : decode cL_law 31 = .ok (.iand, 1) := by decide +kernel
theorem dL_law_32 : decode cL_law 32 = .ok (.tableswitch 797 0 22 #[108, 171, 184, 207, 250, 283, 326, 359, 402, 455, 478, 521, 534, 557, 600, 613, 646, 659, 692, 715, 728, 761, 774], 108) := by decide +kernel
set_option maxHeartbeats 4000000 in
set_option maxRecDepth 100000 in
theorem law_loop {p : Program} {l : Launch} {e : Env} {s : State} {m : MethodId} {below : List Frame} {meth : Method} {c : Code} {D : va_G} {cI cZ cS cR : ClassId} {N0 : NT} {b L : Nat} {xs : Nat → Int32} (hB : Tz p s m meth c #[Value.ref b] code 4 RL D cI cZ cS cR N0) (hAs : N0.1 = s.heap.size) (hX : va_X b L xs s s.heap) (hbl : b < s.heap.size) (hL : L ≤ 2560) (hr : meth.sig.returnType = ret) (ox om : Nat) (tp : Nat) (nw : Nat) (rl : Nat) (ba : Nat) (ta : Nat) (wt : Nat) (sa : Nat) (aa : Nat) (wo : Nat) (pl : Nat) (wr : Nat) : ∀ (kf cells slots : Nat) (g : GS) (i o1 tz sv rz : Int32) (H : Heap) (locs : List Loc) (ls : Array Slot), Tv D cI cZ cS cR N0 s.heap H locs g → Inv g → g.1 ox = 7 → g.1 om = 8 → g.2.1 om 22 = .int o1 → 0 ≤ o1.toInt → o1.toInt ≤ 12 * i.toInt → PX 48 2 3 71 72 g om → PX 8 39 40 84 85 g om → g.2.1 ox 0 = .ref tp → g.1 tp = 5 → g.2.1 ox 1 = .ref nw → g.1 nw = 19 → g.2.1 ox 2 = .ref rl → g.1 rl = 1 → g.2.1 tp 0 = .ref ba → g.1 ba = 67 → g.2.2.1 ba = 100 → g.2.1 om 28 = .ref ta → g.1 ta = 79 → g.2.2.1 ta = 100 → g.2.1 om 42 = .ref wt → g.1 wt = 87 → g.2.2.1 wt = 24 → g.2.1 nw 0 = .ref sa → g.1 sa = 42 → g.2.2.1 sa = 6 → g.2.1 om 1 = .ref aa → g.1 aa = 88 → g.2.2.1 aa = 6 → g.2.1 om 2 = .ref wo → g.1 wo = 71 → g.2.2.1 wo = 48 → g.2.1 om 3 = .ref pl → g.1 pl = 72 → g.2.2.1 pl = 48 → g.2.1 om 4 = .ref wr → g.1 wr = 73 → g.2.2.1 wr = 48 → g.2.1 tp 1 = .int tz → g.2.1 om 29 = .int tz → 0 ≤ tz.toInt → tz.toInt ≤ 100 → g.2.1 nw 1 = .int sv → g.2.1 om 0 = .int sv → 0 ≤ sv.toInt → sv.toInt ≤ 6 → g.2.1 rl 3 = .int rz → g.2.1 om 30 = .int rz → 0 ≤ rz.toInt → rz.toInt ≤ 6 → TE g ba ta tz.toInt → WT g wt → PGI g sa aa wo pl wr sv.toInt → 0 ≤ i.toInt → i.toInt ≤ 2560 → (L : Int) ≤ i.toInt + 5 * kf → cells + 4 * kf ≤ 600000 → slots + 28 * kf ≤ 7302250 → lv_has ls 4 [(3, .int i), (2, .ref om), (1, .ref ox), (0, .ref b)] → W p l e room_1 s m #[Value.ref b] below meth c H locs cells slots (lw_Z below #[Value.ref b] s) (F0 m 18 ls []) := by
  have hx := hB.1
  have hb := hB.2.1
  intro kf
  induction kf using Nat.strongRecOn with
  | ind kf ih =>
    intro cells slots g i o1 tz sv rz H locs ls hT hI r_ox r_om ko l_o u_o hw hN0 k_tp r_tp k_nw r_nw k_rl r_rl k_ba r_ba n_ba k_ta r_ta n_ta k_wt r_wt n_wt k_sa r_sa n_sa k_aa r_aa n_aa k_wo r_wo n_wo k_pl r_pl n_pl k_wr r_wr n_wr kc_tz km_tz l_tz u_tz kc_sv km_sv l_sv u_sv kc_rz km_rz l_rz u_rz hTE hWT hPI l_i u_i hk hcl hsl hl
    have next : i.toInt + 5 ≤ L → ∀ (g1 : GS) (o1_1 tz_1 sv_1 rz_1 : Int32) (H1 : Heap) (locs1 : List Loc), Tv D cI cZ cS cR N0 s.heap H1 locs1 g1 → Inv g1 → g1.1 ox = 7 → g1.1 om = 8 → g1.2.1 om 22 = .int o1_1 → 0 ≤ o1_1.toInt → o1_1.toInt ≤ 12 * i.toInt + 60 → PX 48 2 3 71 72 g1 om → PX 8 39 40 84 85 g1 om → g1.2.1 ox 0 = .ref tp → g1.1 tp = 5 → g1.2.1 ox 1 = .ref nw → g1.1 nw = 19 → g1.2.1 ox 2 = .ref rl → g1.1 rl = 1 → g1.2.1 tp 0 = .ref ba → g1.1 ba = 67 → g1.2.2.1 ba = 100 → g1.2.1 om 28 = .ref ta → g1.1 ta = 79 → g1.2.2.1 ta = 100 → g1.2.1 om 42 = .ref wt → g1.1 wt = 87 → g1.2.2.1 wt = 24 → g1.2.1 nw 0 = .ref sa → g1.1 sa = 42 → g1.2.2.1 sa = 6 → g1.2.1 om 1 = .ref aa → g1.1 aa = 88 → g1.2.2.1 aa = 6 → g1.2.1 om 2 = .ref wo → g1.1 wo = 71 → g1.2.2.1 wo = 48 → g1.2.1 om 3 = .ref pl → g1.1 pl = 72 → g1.2.2.1 pl = 48 → g1.2.1 om 4 = .ref wr → g1.1 wr = 73 → g1.2.2.1 wr = 48 → g1.2.1 tp 1 = .int tz_1 → g1.2.1 om 29 = .int tz_1 → 0 ≤ tz_1.toInt → tz_1.toInt ≤ 100 → g1.2.1 nw 1 = .int sv_1 → g1.2.1 om 0 = .int sv_1 → 0 ≤ sv_1.toInt → sv_1.toInt ≤ 6 → g1.2.1 rl 3 = .int rz_1 → g1.2.1 om 30 = .int rz_1 → 0 ≤ rz_1.toInt → rz_1.toInt ≤ 6 → TE g1 ba ta tz_1.toInt → WT g1 wt → PGI g1 sa aa wo pl wr sv_1.toInt → W p l e room_1 s m #[Value.ref b] below meth c H1 locs1 (cells + 4) (slots + 28) (lw_Z below #[Value.ref b] s) (F0 m 829 ls []) := by
      intro h5 g1 o1_1 tz_1 sv_1 rz_1 H locs hT hI r_ox r_om ko l_o u_o hw hN0 k_tp r_tp k_nw r_nw k_rl r_rl k_ba r_ba n_ba k_ta r_ta n_ta k_wt r_wt n_wt k_sa r_sa n_sa k_aa r_aa n_aa k_wo r_wo n_wo k_pl r_pl n_pl k_wr r_wr n_wr kc_tz km_tz l_tz u_tz kc_sv km_sv l_sv u_sv kc_rz km_rz l_rz u_rz hTE hWT hPI
      obtain ⟨z_1, ez_1⟩ : ∃ z : Int32, z = i + 5 := ⟨_, rfl⟩
      have e_z_1 : z_1.toInt = i.toInt + 5 := i_add ez_1 rfl (by decide) (by omega) (by omega)
      refine lv_iinc (v := z_1) (lv' := [(3, .int z_1), (2, .ref om), (1, .ref ox), (0, .ref b)]) hx hb dL_law_829 hl (k := 0) rfl (by rw [ez_1]; rfl) (by decide) rfl (fun ls hl => ?_)
      refine lv_goto (tgt := 18) hx hb dL_law_832 (by decide) ?_
      exact ih (kf - 1) (by omega) (cells + 4) (slots + 28) g1 z_1 o1_1 tz_1 sv_1 rz_1 H locs ls hT hI r_ox r_om ko l_o (by omega) hw hN0 k_tp r_tp k_nw r_nw k_rl r_rl k_ba r_ba n_ba k_ta r_ta n_ta k_wt r_wt n_wt k_sa r_sa n_sa k_aa r_aa n_aa k_wo r_wo n_wo k_pl r_pl n_pl k_wr r_wr n_wr kc_tz km_tz l_tz u_tz kc_sv km_sv l_sv u_sv kc_rz km_rz l_rz u_rz hTE hWT hPI (by omega) (by omega) (by omega) (by omega) (by omega) (lv_sub hl [0, 1, 2, 3] rfl)
    have hE : Ex g g := Ex.rf
    have hM : Sm mdA g g := sm_all
    refine lv_iload_n hx hb dL_law_18 rfl (lv_at hl 0 rfl) ?_
    refine lv_aload_n hx hb dL_law_19 rfl (lv_at hl 3 rfl) ?_
    refine va_slen hx hb hX hbl (fun q => by have q_ : N0.1 ≤ b := q; omega) hT.2 dL_law_20 ?_
    refine lv_topi (fun ln eln => ?_)
    have hln : ln.toInt = (L : Int) := by rw [eln]; exact nI_toInt (by omega)
    refine lv_iconst (v := 5) hx hb dL_law_21 (by decide) ?_
    refine lv_isub hx hb dL_law_22 ?_
    refine lv_topi (fun z_2 ez_2 => ?_)
    have e_z_2 : z_2.toInt = ln.toInt - 5 := i_sub ez_2 rfl (by decide) (by omega) (by omega)
    refine lv_icmp_gt (tgt := 835) hx hb dL_law_23 (by decide) (fun c_3 => ?_) (fun c_3 => ?_)
    · have c_3' : z_2.toInt < i.toInt := i_lt c_3 rfl rfl
      refine lv_iconst (v := 1) hx hb dL_law_835 (by decide) ?_
      refine va_forget (fun q hq => Nat.le_trans (Nat.le_of_eq hAs.symm) (hT.2.2.2 q hq)) ?_
      refine W.widen (k := 600000) (n := 7302250) (by omega) (by omega) ?_
      exact lw_ret hx hb hr hB.2.2.2.2.2.2.2.2 dL_law_836
    · have c_3' : i.toInt ≤ z_2.toInt := i_nlt c_3 rfl rfl
      refine lv_aload_n hx hb dL_law_26 rfl (lv_at hl 3 rfl) ?_
      refine lv_iload_n hx hb dL_law_27 rfl (lv_at hl 0 rfl) ?_
      refine va_sld hx hb hX hbl (fun q => by have q_ : N0.1 ≤ b := q; omega) hT.2 (i_in (n := L) rfl (by omega) (by omega)) dL_law_28 ?_
      refine lv_topi (fun u_4 e_u_4 => ?_)
      refine lv_bipush (v := 31) hx hb dL_law_29 (by decide) ?_
      refine lv_iand hx hb dL_law_31 ?_
      refine lv_topi (fun z_5 ez_5 => ?_)
      have e_z_5 := i_and 5 (b := 31) ez_5 (by decide) (by decide) (by decide)
      by_cases ht_6 : (z_5 < 0 ∨ 22 < z_5)
      · refine lv_tableOut (tgt := 829) hx hb dL_law_32 (sw_out ht_6) (by decide) ?_
        refine W.widen (k := cells + 4) (n := slots + 28) (by omega) (by omega) ?_
        exact next (by omega) g o1 tz sv rz H locs hT hI r_ox r_om ko l_o (by omega) hw hN0 k_tp r_tp k_nw r_nw k_rl r_rl k_ba r_ba n_ba k_ta r_ta n_ta k_wt r_wt n_wt k_sa r_sa n_sa k_aa r_aa n_aa k_wo r_wo n_wo k_pl r_pl n_pl k_wr r_wr n_wr kc_tz km_tz l_tz u_tz kc_sv km_sv l_sv u_sv kc_rz km_rz l_rz u_rz hTE hWT hPI
      · obtain ⟨j_7, hj_7, ej_7⟩ := sw_in (n := 23) rfl ht_6
        rcases (show j_7 = 0 ∨ j_7 = 1 ∨ j_7 = 2 ∨ j_7 = 3 ∨ j_7 = 4 ∨ j_7 = 5 ∨ j_7 = 6 ∨ j_7 = 7 ∨ j_7 = 8 ∨ j_7 = 9 ∨ j_7 = 10 ∨ j_7 = 11 ∨ j_7 = 12 ∨ j_7 = 13 ∨ j_7 = 14 ∨ j_7 = 15 ∨ j_7 = 16 ∨ j_7 = 17 ∨ j_7 = 18 ∨ j_7 = 19 ∨ j_7 = 20 ∨ j_7 = 21 ∨ j_7 = 22 by omega) with rfl | rfl | rfl | rfl | rfl | rfl | rfl | rfl | rfl | rfl | rfl | rfl | rfl | rfl | rfl | rfl | rfl | rfl | rfl | rfl | rfl | rfl | rfl
        · refine x_ev (y := 0) ej_7 ?_
          refine lv_tableIn (off := 108) (tgt := 140) hx hb dL_law_32 (by decide) (by decide) rfl (by decide) ?_
          exact law_0 hB hAs hX hbl hL hr (by omega) (by omega) g ox om tp nw rl ba ta wt sa aa wo pl wr i o1 tz sv rz hT hI l_i (by omega) r_ox r_om ko l_o u_o hw hN0 k_tp r_tp k_nw r_nw k_rl r_rl k_ba r_ba n_ba k_ta r_ta n_ta k_wt r_wt n_wt k_sa r_sa n_sa k_aa r_aa n_aa k_wo r_wo n_wo k_pl r_pl n_pl k_wr r_wr n_wr kc_tz km_tz l_tz u_tz kc_sv km_sv l_sv u_sv kc_rz km_rz l_rz u_rz hTE hWT hPI hl (next (by omega))
        · refine x_ev (y := 1) ej_7 ?_
          refine lv_tableIn (off := 171) (tgt := 203) hx hb dL_law_32 (by decide) (by decide) rfl (by decide) ?_
          exact law_1 hB hAs hX hbl hL hr (by omega) (by omega) g ox om tp nw rl ba ta wt sa aa wo pl wr i o1 tz sv rz hT hI l_i (by omega) r_ox r_om ko l_o u_o hw hN0 k_tp r_tp k_nw r_nw k_rl r_rl k_ba r_ba n_ba k_ta r_ta n_ta k_wt r_wt n_wt k_sa r_sa n_sa k_aa r_aa n_aa k_wo r_wo n_wo k_pl r_pl n_pl k_wr r_wr n_wr kc_tz km_tz l_tz u_tz kc_sv km_sv l_sv u_sv kc_rz km_rz l_rz u_rz hTE hWT hPI hl (next (by omega))
        · refine x_ev (y := 2) ej_7 ?_
          refine lv_tableIn (off := 184) (tgt := 216) hx hb dL_law_32 (by decide) (by decide) rfl (by decide) ?_
          exact law_2 hB hAs hX hbl hL hr (by omega) (by omega) g ox om tp nw rl ba ta wt sa aa wo pl wr i o1 tz sv rz hT hI l_i (by omega) r_ox r_om ko l_o u_o hw hN0 k_tp r_tp k_nw r_nw k_rl r_rl k_ba r_ba n_ba k_ta r_ta n_ta k_wt r_wt n_wt k_sa r_sa n_sa k_aa r_aa n_aa k_wo r_wo n_wo k_pl r_pl n_pl k_wr r_wr n_wr kc_tz km_tz l_tz u_tz kc_sv km_sv l_sv u_sv kc_rz km_rz l_rz u_rz hTE hWT hPI hl (next (by omega))
        · refine x_ev (y := 3) ej_7 ?_
          refine lv_tableIn (off := 207) (tgt := 239) hx hb dL_law_32 (by decide) (by decide) rfl (by decide) ?_
          exact law_3 hB hAs hX hbl hL hr (by omega) (by omega) g ox om tp nw rl ba ta wt sa aa wo pl wr i o1 tz sv rz hT hI l_i (by omega) r_ox r_om ko l_o u_o hw hN0 k_tp r_tp k_nw r_nw k_rl r_rl k_ba r_ba n_ba k_ta r_ta n_ta k_wt r_wt n_wt k_sa r_sa n_sa k_aa r_aa n_aa k_wo r_wo n_wo k_pl r_pl n_pl k_wr r_wr n_wr kc_tz km_tz l_tz u_tz kc_sv km_sv l_sv u_sv kc_rz km_rz l_rz u_rz hTE hWT hPI hl (next (by omega))
        · refine x_ev (y := 4) ej_7 ?_
          refine lv_tableIn (off := 250) (tgt := 282) hx hb dL_law_32 (by decide) (by decide) rfl (by decide) ?_
          exact law_4 hB hAs hX hbl hL hr (by omega) (by omega) g ox om tp nw rl ba ta wt sa aa wo pl wr i o1 tz sv rz hT hI l_i (by omega) r_ox r_om ko l_o u_o hw hN0 k_tp r_tp k_nw r_nw k_rl r_rl k_ba r_ba n_ba k_ta r_ta n_ta k_wt r_wt n_wt k_sa r_sa n_sa k_aa r_aa n_aa k_wo r_wo n_wo k_pl r_pl n_pl k_wr r_wr n_wr kc_tz km_tz l_tz u_tz kc_sv km_sv l_sv u_sv kc_rz km_rz l_rz u_rz hTE hWT hPI hl (next (by omega))
        · refine x_ev (y := 5) ej_7 ?_
          refine lv_tableIn (off := 283) (tgt := 315) hx hb dL_law_32 (by decide) (by decide) rfl (by decide) ?_
          exact law_5 hB hAs hX hbl hL hr (by omega) (by omega) g ox om tp nw rl ba ta wt sa aa wo pl wr i o1 tz sv rz hT hI l_i (by omega) r_ox r_om ko l_o u_o hw hN0 k_tp r_tp k_nw r_nw k_rl r_rl k_ba r_ba n_ba k_ta r_ta n_ta k_wt r_wt n_wt k_sa r_sa n_sa k_aa r_aa n_aa k_wo r_wo n_wo k_pl r_pl n_pl k_wr r_wr n_wr kc_tz km_tz l_tz u_tz kc_sv km_sv l_sv u_sv kc_rz km_rz l_rz u_rz hTE hWT hPI hl (next (by omega))
        · refine x_ev (y := 6) ej_7 ?_
          refine lv_tableIn (off := 326) (tgt := 358) hx hb dL_law_32 (by decide) (by decide) rfl (by decide) ?_
          exact law_6 hB hAs hX hbl hL hr (by omega) (by omega) g ox om tp nw rl ba ta wt sa aa wo pl wr i o1 tz sv rz hT hI l_i (by omega) r_ox r_om ko l_o u_o hw hN0 k_tp r_tp k_nw r_nw k_rl r_rl k_ba r_ba n_ba k_ta r_ta n_ta k_wt r_wt n_wt k_sa r_sa n_sa k_aa r_aa n_aa k_wo r_wo n_wo k_pl r_pl n_pl k_wr r_wr n_wr kc_tz km_tz l_tz u_tz kc_sv km_sv l_sv u_sv kc_rz km_rz l_rz u_rz hTE hWT hPI hl (next (by omega))
        · refine x_ev (y := 7) ej_7 ?_
          refine lv_tableIn (off := 359) (tgt := 391) hx hb dL_law_32 (by decide) (by decide) rfl (by decide) ?_
          exact law_7 hB hAs hX hbl hL hr (by omega) (by omega) g ox om tp nw rl ba ta wt sa aa wo pl wr i o1 tz sv rz hT hI l_i (by omega) r_ox r_om ko l_o u_o hw hN0 k_tp r_tp k_nw r_nw k_rl r_rl k_ba r_ba n_ba k_ta r_ta n_ta k_wt r_wt n_wt k_sa r_sa n_sa k_aa r_aa n_aa k_wo r_wo n_wo k_pl r_pl n_pl k_wr r_wr n_wr kc_tz km_tz l_tz u_tz kc_sv km_sv l_sv u_sv kc_rz km_rz l_rz u_rz hTE hWT hPI hl (next (by omega))
        · refine x_ev (y := 8) ej_7 ?_
          refine lv_tableIn (off := 402) (tgt := 434) hx hb dL_law_32 (by decide) (by decide) rfl (by decide) ?_
          exact law_8 hB hAs hX hbl hL hr (by omega) (by omega) g ox om tp nw rl ba ta wt sa aa wo pl wr i o1 tz sv rz hT hI l_i (by omega) r_ox r_om ko l_o u_o hw hN0 k_tp r_tp k_nw r_nw k_rl r_rl k_ba r_ba n_ba k_ta r_ta n_ta k_wt r_wt n_wt k_sa r_sa n_sa k_aa r_aa n_aa k_wo r_wo n_wo k_pl r_pl n_pl k_wr r_wr n_wr kc_tz km_tz l_tz u_tz kc_sv km_sv l_sv u_sv kc_rz km_rz l_rz u_rz hTE hWT hPI hl (next (by omega))
        · refine x_ev (y := 9) ej_7 ?_
          refine lv_tableIn (off := 455) (tgt := 487) hx hb dL_law_32 (by decide) (by decide) rfl (by decide) ?_
          exact law_9 hB hAs hX hbl hL hr (by omega) (by omega) g ox om tp nw rl ba ta wt sa aa wo pl wr i o1 tz sv rz hT hI l_i (by omega) r_ox r_om ko l_o u_o hw hN0 k_tp r_tp k_nw r_nw k_rl r_rl k_ba r_ba n_ba k_ta r_ta n_ta k_wt r_wt n_wt k_sa r_sa n_sa k_aa r_aa n_aa k_wo r_wo n_wo k_pl r_pl n_pl k_wr r_wr n_wr kc_tz km_tz l_tz u_tz kc_sv km_sv l_sv u_sv kc_rz km_rz l_rz u_rz hTE hWT hPI hl (next (by omega))
        · refine x_ev (y := 10) ej_7 ?_
          refine lv_tableIn (off := 478) (tgt := 510) hx hb dL_law_32 (by decide) (by decide) rfl (by decide) ?_
          exact law_10 hB hAs hX hbl hL hr (by omega) (by omega) g ox om tp nw rl ba ta wt sa aa wo pl wr i o1 tz sv rz hT hI l_i (by omega) r_ox r_om ko l_o u_o hw hN0 k_tp r_tp k_nw r_nw k_rl r_rl k_ba r_ba n_ba k_ta r_ta n_ta k_wt r_wt n_wt k_sa r_sa n_sa k_aa r_aa n_aa k_wo r_wo n_wo k_pl r_pl n_pl k_wr r_wr n_wr kc_tz km_tz l_tz u_tz kc_sv km_sv l_sv u_sv kc_rz km_rz l_rz u_rz hTE hWT hPI hl (next (by omega))
        · refine x_ev (y := 11) ej_7 ?_
          refine lv_tableIn (off := 521) (tgt := 553) hx hb dL_law_32 (by decide) (by decide) rfl (by decide) ?_
          exact law_11 hB hAs hX hbl hL hr (by omega) (by omega) g ox om tp nw rl ba ta wt sa aa wo pl wr i o1 tz sv rz hT hI l_i (by omega) r_ox r_om ko l_o u_o hw hN0 k_tp r_tp k_nw r_nw k_rl r_rl k_ba r_ba n_ba k_ta r_ta n_ta k_wt r_wt n_wt k_sa r_sa n_sa k_aa r_aa n_aa k_wo r_wo n_wo k_pl r_pl n_pl k_wr r_wr n_wr kc_tz km_tz l_tz u_tz kc_sv km_sv l_sv u_sv kc_rz km_rz l_rz u_rz hTE hWT hPI hl (next (by omega))
        · refine x_ev (y := 12) ej_7 ?_
          refine lv_tableIn (off := 534) (tgt := 566) hx hb dL_law_32 (by decide) (by decide) rfl (by decide) ?_
          exact law_12 hB hAs hX hbl hL hr (by omega) (by omega) g ox om tp nw rl ba ta wt sa aa wo pl wr i o1 tz sv rz hT hI l_i (by omega) r_ox r_om ko l_o u_o hw hN0 k_tp r_tp k_nw r_nw k_rl r_rl k_ba r_ba n_ba k_ta r_ta n_ta k_wt r_wt n_wt k_sa r_sa n_sa k_aa r_aa n_aa k_wo r_wo n_wo k_pl r_pl n_pl k_wr r_wr n_wr kc_tz km_tz l_tz u_tz kc_sv km_sv l_sv u_sv kc_rz km_rz l_rz u_rz hTE hWT hPI hl (next (by omega))
        · refine x_ev (y := 13) ej_7 ?_
          refine lv_tableIn (off := 557) (tgt := 589) hx hb dL_law_32 (by decide) (by decide) rfl (by decide) ?_
          exact law_13 hB hAs hX hbl hL hr (by omega) (by omega) g ox om tp nw rl ba ta wt sa aa wo pl wr i o1 tz sv rz hT hI l_i (by omega) r_ox r_om ko l_o u_o hw hN0 k_tp r_tp k_nw r_nw k_rl r_rl k_ba r_ba n_ba k_ta r_ta n_ta k_wt r_wt n_wt k_sa r_sa n_sa k_aa r_aa n_aa k_wo r_wo n_wo k_pl r_pl n_pl k_wr r_wr n_wr kc_tz km_tz l_tz u_tz kc_sv km_sv l_sv u_sv kc_rz km_rz l_rz u_rz hTE hWT hPI hl (next (by omega))
        · refine x_ev (y := 14) ej_7 ?_
          refine lv_tableIn (off := 600) (tgt := 632) hx hb dL_law_32 (by decide) (by decide) rfl (by decide) ?_
          exact law_14 hB hAs hX hbl hL hr (by omega) (by omega) g ox om tp nw rl ba ta wt sa aa wo pl wr i o1 tz sv rz hT hI l_i (by omega) r_ox r_om ko l_o u_o hw hN0 k_tp r_tp k_nw r_nw k_rl r_rl k_ba r_ba n_ba k_ta r_ta n_ta k_wt r_wt n_wt k_sa r_sa n_sa k_aa r_aa n_aa k_wo r_wo n_wo k_pl r_pl n_pl k_wr r_wr n_wr kc_tz km_tz l_tz u_tz kc_sv km_sv l_sv u_sv kc_rz km_rz l_rz u_rz hTE hWT hPI hl (next (by omega))
        · refine x_ev (y := 15) ej_7 ?_
          refine lv_tableIn (off := 613) (tgt := 645) hx hb dL_law_32 (by decide) (by decide) rfl (by decide) ?_
          exact law_15 hB hAs hX hbl hL hr (by omega) (by omega) g ox om tp nw rl ba ta wt sa aa wo pl wr i o1 tz sv rz hT hI l_i (by omega) r_ox r_om ko l_o u_o hw hN0 k_tp r_tp k_nw r_nw k_rl r_rl k_ba r_ba n_ba k_ta r_ta n_ta k_wt r_wt n_wt k_sa r_sa n_sa k_aa r_aa n_aa k_wo r_wo n_wo k_pl r_pl n_pl k_wr r_wr n_wr kc_tz km_tz l_tz u_tz kc_sv km_sv l_sv u_sv kc_rz km_rz l_rz u_rz hTE hWT hPI hl (next (by omega))
        · refine x_ev (y := 16) ej_7 ?_
          refine lv_tableIn (off := 646) (tgt := 678) hx hb dL_law_32 (by decide) (by decide) rfl (by decide) ?_
          exact law_16 hB hAs hX hbl hL hr (by omega) (by omega) g ox om tp nw rl ba ta wt sa aa wo pl wr i o1 tz sv rz hT hI l_i (by omega) r_ox r_om ko l_o u_o hw hN0 k_tp r_tp k_nw r_nw k_rl r_rl k_ba r_ba n_ba k_ta r_ta n_ta k_wt r_wt n_wt k_sa r_sa n_sa k_aa r_aa n_aa k_wo r_wo n_wo k_pl r_pl n_pl k_wr r_wr n_wr kc_tz km_tz l_tz u_tz kc_sv km_sv l_sv u_sv kc_rz km_rz l_rz u_rz hTE hWT hPI hl (next (by omega))
        · refine x_ev (y := 17) ej_7 ?_
          refine lv_tableIn (off := 659) (tgt := 691) hx hb dL_law_32 (by decide) (by decide) rfl (by decide) ?_
          exact law_17 hB hAs hX hbl hL hr (by omega) (by omega) g ox om tp nw rl ba ta wt sa aa wo pl wr i o1 tz sv rz hT hI l_i (by omega) r_ox r_om ko l_o u_o hw hN0 k_tp r_tp k_nw r_nw k_rl r_rl k_ba r_ba n_ba k_ta r_ta n_ta k_wt r_wt n_wt k_sa r_sa n_sa k_aa r_aa n_aa k_wo r_wo n_wo k_pl r_pl n_pl k_wr r_wr n_wr kc_tz km_tz l_tz u_tz kc_sv km_sv l_sv u_sv kc_rz km_rz l_rz u_rz hTE hWT hPI hl (next (by omega))
        · refine x_ev (y := 18) ej_7 ?_
          refine lv_tableIn (off := 692) (tgt := 724) hx hb dL_law_32 (by decide) (by decide) rfl (by decide) ?_
          exact law_18 hB hAs hX hbl hL hr (by omega) (by omega) g ox om tp nw rl ba ta wt sa aa wo pl wr i o1 tz sv rz hT hI l_i (by omega) r_ox r_om ko l_o u_o hw hN0 k_tp r_tp k_nw r_nw k_rl r_rl k_ba r_ba n_ba k_ta r_ta n_ta k_wt r_wt n_wt k_sa r_sa n_sa k_aa r_aa n_aa k_wo r_wo n_wo k_pl r_pl n_pl k_wr r_wr n_wr kc_tz km_tz l_tz u_tz kc_sv km_sv l_sv u_sv kc_rz km_rz l_rz u_rz hTE hWT hPI hl (next (by omega))
        · refine x_ev (y := 19) ej_7 ?_
          refine lv_tableIn (off := 715) (tgt := 747) hx hb dL_law_32 (by decide) (by decide) rfl (by decide) ?_
          exact law_19 hB hAs hX hbl hL hr (by omega) (by omega) g ox om tp nw rl ba ta wt sa aa wo pl wr i o1 tz sv rz hT hI l_i (by omega) r_ox r_om ko l_o u_o hw hN0 k_tp r_tp k_nw r_nw k_rl r_rl k_ba r_ba n_ba k_ta r_ta n_ta k_wt r_wt n_wt k_sa r_sa n_sa k_aa r_aa n_aa k_wo r_wo n_wo k_pl r_pl n_pl k_wr r_wr n_wr kc_tz km_tz l_tz u_tz kc_sv km_sv l_sv u_sv kc_rz km_rz l_rz u_rz hTE hWT hPI hl (next (by omega))
        · refine x_ev (y := 20) ej_7 ?_
          refine lv_tableIn (off := 728) (tgt := 760) hx hb dL_law_32 (by decide) (by decide) rfl (by decide) ?_
          exact law_20 hB hAs hX hbl hL hr (by omega) (by omega) g ox om tp nw rl ba ta wt sa aa wo pl wr i o1 tz sv rz hT hI l_i (by omega) r_ox r_om ko l_o u_o hw hN0 k_tp r_tp k_nw r_nw k_rl r_rl k_ba r_ba n_ba k_ta r_ta n_ta k_wt r_wt n_wt k_sa r_sa n_sa k_aa r_aa n_aa k_wo r_wo n_wo k_pl r_pl n_pl k_wr r_wr n_wr kc_tz km_tz l_tz u_tz kc_sv km_sv l_sv u_sv kc_rz km_rz l_rz u_rz hTE hWT hPI hl (next (by omega))
        · refine x_ev (y := 21) ej_7 ?_
          refine lv_tableIn (off := 761) (tgt := 793) hx hb dL_law_32 (by decide) (by decide) rfl (by decide) ?_
          exact law_21 hB hAs hX hbl hL hr (by omega) (by omega) g ox om tp nw rl ba ta wt sa aa wo pl wr i o1 tz sv rz hT hI l_i (by omega) r_ox r_om ko l_o u_o hw hN0 k_tp r_tp k_nw r_nw k_rl r_rl k_ba r_ba n_ba k_ta r_ta n_ta k_wt r_wt n_wt k_sa r_sa n_sa k_aa r_aa n_aa k_wo r_wo n_wo k_pl r_pl n_pl k_wr r_wr n_wr kc_tz km_tz l_tz u_tz kc_sv km_sv l_sv u_sv kc_rz km_rz l_rz u_rz hTE hWT hPI hl (next (by omega))
        · refine x_ev (y := 22) ej_7 ?_
          refine lv_tableIn (off := 774) (tgt := 806) hx hb dL_law_32 (by decide) (by decide) rfl (by decide) ?_
          exact law_22 hB hAs hX hbl hL hr (by omega) (by omega) g ox om tp nw rl ba ta wt sa aa wo pl wr i o1 tz sv rz hT hI l_i (by omega) r_ox r_om ko l_o u_o hw hN0 k_tp r_tp k_nw r_nw k_rl r_rl k_ba r_ba n_ba k_ta r_ta n_ta k_wt r_wt n_wt k_sa r_sa n_sa k_aa r_aa n_aa k_wo r_wo n_wo k_pl r_pl n_pl k_wr r_wr n_wr kc_tz km_tz l_tz u_tz kc_sv km_sv l_sv u_sv kc_rz km_rz l_rz u_rz hTE hWT hPI hl (next (by omega))
