theorem k_103 : Cond.instantiable RX5 8 ∈ tb := mt 103 (by decide +kernel) rfl
theorem k_105 : Cond.instanceMethod yX5_init ∈ tb := mt 105 (by decide +kernel) rfl
set_option maxRecDepth 20000 in
theorem k_106 : Cond.code yX5_init cX5_init 2 none ∈ tb := mt 106 rfl rfl
theorem k_271 : Cond.methodLink RX1 3 Lib.objectInit ∈ tb := mt 271 (by decide +kernel) rfl
theorem k_272 : Cond.classLink RX1 9 RX5 ∈ tb := mt 272 (by decide +kernel) rfl
theorem k_273 : Cond.methodLink RX1 11 yX5_init ∈ tb := mt 273 (by decide +kernel) rfl
theorem k_274 : Cond.classLink RX1 38 "[[I" ∈ tb := mt 274 (by decide +kernel) rfl
theorem dX1_init_0 : decode cX1_init 0 = .ok (.aload_n 0, 1) := by decide +kernel
theorem dX1_init_1 : decode cX1_init 1 = .ok (.invokespecial 3, 3) := by decide +kernel
theorem dX1_init_4 : decode cX1_init 4 = .ok (.aload_n 0, 1) := by decide +kernel
theorem dX1_init_5 : decode cX1_init 5 = .ok (.new 9, 3) := by decide +kernel
theorem dX1_init_8 : decode cX1_init 8 = .ok (.dup, 1) := by decide +kernel
theorem dX1_init_9 : decode cX1_init 9 = .ok (.invokespecial 11, 3) := by decide +kernel
theorem dX1_init_12 : decode cX1_init 12 = .ok (.putfield 12, 3) := by decide +kernel
theorem dX1_init_15 : decode cX1_init 15 = .ok (.aload_n 0, 1) := by decide +kernel
theorem dX1_init_16 : decode cX1_init 16 = .ok (.new 9, 3) := by decide +kernel
theorem dX1_init_19 : decode cX1_init 19 = .ok (.dup, 1) := by decide +kernel
theorem dX1_init_20 : decode cX1_init 20 = .ok (.invokespecial 11, 3) := by decide +kernel
theorem dX1_init_23 : decode cX1_init 23 = .ok (.putfield 18, 3) := by decide +kernel
theorem dX1_init_26 : decode cX1_init 26 = .ok (.aload_n 0, 1) := by decide +kernel
theorem dX1_init_27 : decode cX1_init 27 = .ok (.new 9, 3) := by decide +kernel
theorem dX1_init_30 : decode cX1_init 30 = .ok (.dup, 1) := by decide +kernel
theorem dX1_init_31 : decode cX1_init 31 = .ok (.invokespecial 11, 3) := by decide +kernel
theorem dX1_init_34 : decode cX1_init 34 = .ok (.putfield 21, 3) := by decide +kernel
theorem dX1_init_37 : decode cX1_init 37 = .ok (.aload_n 0, 1) := by decide +kernel
theorem dX1_init_38 : decode cX1_init 38 = .ok (.bipush 6, 2) := by decide +kernel
theorem dX1_init_40 : decode cX1_init 40 = .ok (.newarray .int, 2) := by decide +kernel
theorem dX1_init_42 : decode cX1_init 42 = .ok (.putfield 24, 3) := by decide +kernel
theorem dX1_init_45 : decode cX1_init 45 = .ok (.aload_n 0, 1) := by decide +kernel
theorem dX1_init_46 : decode cX1_init 46 = .ok (.bipush 6, 2) := by decide +kernel
theorem dX1_init_48 : decode cX1_init 48 = .ok (.newarray .int, 2) := by decide +kernel
theorem dX1_init_50 : decode cX1_init 50 = .ok (.putfield 28, 3) := by decide +kernel
theorem dX1_init_53 : decode cX1_init 53 = .ok (.aload_n 0, 1) := by decide +kernel
theorem dX1_init_54 : decode cX1_init 54 = .ok (.bipush 6, 2) := by decide +kernel
theorem dX1_init_56 : decode cX1_init 56 = .ok (.newarray .int, 2) := by decide +kernel
theorem dX1_init_58 : decode cX1_init 58 = .ok (.putfield 31, 3) := by decide +kernel
theorem dX1_init_61 : decode cX1_init 61 = .ok (.aload_n 0, 1) := by decide +kernel
theorem dX1_init_62 : decode cX1_init 62 = .ok (.iconst 0, 1) := by decide +kernel
theorem dX1_init_63 : decode cX1_init 63 = .ok (.putfield 34, 3) := by decide +kernel
theorem dX1_init_66 : decode cX1_init 66 = .ok (.aload_n 0, 1) := by decide +kernel
theorem dX1_init_67 : decode cX1_init 67 = .ok (.bipush 25, 2) := by decide +kernel
theorem dX1_init_69 : decode cX1_init 69 = .ok (.sipush 325, 3) := by decide +kernel
theorem dX1_init_72 : decode cX1_init 72 = .ok (.multianewarray 38 2, 4) := by decide +kernel
theorem dX1_init_76 : decode cX1_init 76 = .ok (.putfield 40, 3) := by decide +kernel
theorem dX1_init_79 : decode cX1_init 79 = .ok (.aload_n 0, 1) := by decide +kernel
theorem dX1_init_80 : decode cX1_init 80 = .ok (.iconst 5, 1) := by decide +kernel
theorem dX1_init_81 : decode cX1_init 81 = .ok (.newarray .int, 2) := by decide +kernel
theorem dX1_init_83 : decode cX1_init 83 = .ok (.putfield 43, 3) := by decide +kernel
theorem dX1_init_86 : decode cX1_init 86 = .ok (.aload_n 0, 1) := by decide +kernel
theorem dX1_init_87 : decode cX1_init 87 = .ok (.iconst 4, 1) := by decide +kernel
theorem dX1_init_88 : decode cX1_init 88 = .ok (.newarray .int, 2) := by decide +kernel
theorem dX1_init_90 : decode cX1_init 90 = .ok (.putfield 46, 3) := by decide +kernel
theorem dX1_init_93 : decode cX1_init 93 = .ok (.return_, 1) := by decide +kernel
abbrev md_k_Judge : Nat → Nat → Bool := mdf [(12, 0), (12, 1), (12, 2), (12, 3), (12, 4), (12, 5), (12, 6), (12, 7), (12, 8), (12, 9), (13, 0), (13, 1), (13, 2), (13, 3), (14, 0), (14, 1), (14, 2), (14, 3), (14, 4), (14, 5), (14, 6), (14, 7), (14, 8), (14, 9), (14, 10), (14, 11), (14, 12), (14, 13), (14, 14), (16, 0), (16, 1), (16, 2), (16, 3), (16, 4), (16, 5), (16, 6), (16, 7), (44, 99)]
theorem mdle_k_Judge_s_World {r k : Nat} (h : md_k_Judge r k = false) : md_s_World r k = false := mdf_le (by decide +kernel) h
set_option maxHeartbeats 4000000 in
set_option maxRecDepth 100000 in
theorem k_Judge (l : Launch) (D : va_G) (cI cZ cS cR : ClassId) (N0 : NT) (g : GS) (hI : Inv g) (h : Nat) (r_h : g.1 h = 12) : Ty l D cI cZ cS cR N0 yX1_init cX1_init 1 none 3 256 12041 [.ref h] g (fun v g' => v = none ∧ Inv g' ∧ Exx h g g' ∧ Sm md_k_Judge g g' ∧ g'.1 h = 2) := by
  refine t_enter (by decide) (Nat.le_of_ble_eq_true rfl) ?_
  intro p e s m args below meth c ls H locs hB hr hin hl hT
  have hx := hB.1
  have hb := hB.2.1
  have hl : lv_has ls 1 [(0, .ref h)] := hl
  replace hE : Ex g g := Ex.rf
  replace hM : Sm md_k_Judge g g := Sm.rf
  refine lv_aload_n hx hb dX1_init_0 rfl (lv_at hl 0 rfl) ?_
  refine t_oinit hB k_271 k_78 k_79 hl.1 dX1_init_1 (Nat.le_of_ble_eq_true rfl) (Nat.le_of_ble_eq_true rfl) ?_
  refine lv_aload_n hx hb dX1_init_4 rfl (lv_at hl 0 rfl) ?_
  refine t_new (ci := 5) (fs := [.null, .int 0, .int 0, .null, .int 0, .int 0, .int 0, .int 0]) hB hT rfl (by decide) k_272 k_103 k_59 (fnew_5) (Nat.le_of_ble_eq_true rfl) (Nat.le_of_ble_eq_true rfl) dX1_init_5 (fun q_1 H o_q_1 hT => ?_)
  have z_q_1 : g.1 q_1 = 0 := hE.z0 o_q_1
  replace hI : Inv (sN g q_1 16 (vp_V [.null, .int 0, .int 0, .null, .int 0, .int 0, .int 0, .int 0])) := hI.newo o_q_1 (fun _ => rfl) (fun _ => trivial) (fun _ _ => trivial)
  replace hM : Sm md_k_Judge g (sN g q_1 16 (vp_V [.null, .int 0, .int 0, .null, .int 0, .int 0, .int 0, .int 0])) := hM.tr hE (Sm.push o_q_1 sN_g)
  replace hE : Ex g (sN g q_1 16 (vp_V [.null, .int 0, .int 0, .null, .int 0, .int 0, .int 0, .int 0])) := hE.tr (Ex.push o_q_1 sN_g)
  have r_2 : (sN g q_1 16 (vp_V [.null, .int 0, .int 0, .null, .int 0, .int 0, .int 0, .int 0])).1 h = 12 := ((sN_g h (ne0 r_h o_q_1 (by decide))).1.trans r_h)
  have r_3 : (sN g q_1 16 (vp_V [.null, .int 0, .int 0, .null, .int 0, .int 0, .int 0, .int 0])).1 q_1 = 16 := sN_r
  have kn_4 : (sN g q_1 16 (vp_V [.null, .int 0, .int 0, .null, .int 0, .int 0, .int 0, .int 0])).2.1 q_1 0 = .null := sN_f
  have kn_5 : (sN g q_1 16 (vp_V [.null, .int 0, .int 0, .null, .int 0, .int 0, .int 0, .int 0])).2.1 q_1 1 = .int 0 := sN_f
  have kn_6 : (sN g q_1 16 (vp_V [.null, .int 0, .int 0, .null, .int 0, .int 0, .int 0, .int 0])).2.1 q_1 2 = .int 0 := sN_f
  have kn_7 : (sN g q_1 16 (vp_V [.null, .int 0, .int 0, .null, .int 0, .int 0, .int 0, .int 0])).2.1 q_1 3 = .null := sN_f
  have kn_8 : (sN g q_1 16 (vp_V [.null, .int 0, .int 0, .null, .int 0, .int 0, .int 0, .int 0])).2.1 q_1 4 = .int 0 := sN_f
  have kn_9 : (sN g q_1 16 (vp_V [.null, .int 0, .int 0, .null, .int 0, .int 0, .int 0, .int 0])).2.1 q_1 5 = .int 0 := sN_f
  have kn_10 : (sN g q_1 16 (vp_V [.null, .int 0, .int 0, .null, .int 0, .int 0, .int 0, .int 0])).2.1 q_1 6 = .int 0 := sN_f
  have kn_11 : (sN g q_1 16 (vp_V [.null, .int 0, .int 0, .null, .int 0, .int 0, .int 0, .int 0])).2.1 q_1 7 = .int 0 := sN_f
  generalize (sN g q_1 16 (vp_V [.null, .int 0, .int 0, .null, .int 0, .int 0, .int 0, .int 0])) = g_12 at hT hI hM hE r_2 r_3 kn_4 kn_5 kn_6 kn_7 kn_8 kn_9 kn_10 kn_11
  refine W.widen (k := 1) (n := 8) (Nat.le_of_ble_eq_true rfl) (Nat.le_of_ble_eq_true rfl) ?_
  refine lv_dup hx hb dX1_init_8 rfl ?_
  refine t_callI (n := 0) (As := []) (rest := [.ref q_1, .ref h]) hB hT hl.1 (s_World l D cI cZ cS cR N0 g_12 hI q_1 r_3) k_106 k_59 k_273 k_105 rfl (by decide +kernel) ⟨(Nat.le_of_ble_eq_true rfl), (Nat.le_of_ble_eq_true rfl)⟩ rfl (Nat.le_of_ble_eq_true rfl) ⟨(Nat.le_of_ble_eq_true rfl), (Nat.le_of_ble_eq_true rfl)⟩ dX1_init_9 (fun v g_13 H locs hp hT => ?_)
  obtain ⟨rfl, hI, x_16, m_15, r_17, f_14⟩ := hp
  replace hM : Sm md_k_Judge g g_13 := hM.tr hE (m_15.mo (fun r k h => mdle_k_Judge_s_World h))
  replace hE : Ex g g_13 := hE.trx z_q_1 x_16
  have r_18 : g_13.1 h = 12 := (Exx.r x_16 r_2 (by decide) (ro_ne r_2 r_3 (by decide)))
  have r_19 : g_13.1 q_1 = 6 := r_17
  refine W.eq (g2 := F0 m 12 ls [.ref q_1, .ref h]) rfl ?_
  refine t_put0 (ci := 1) (v := .ref q_1) hB hT (ro_ci r_18 rfl) (ro_n0 r_18 (by decide)) rfl 0 (by decide) k_276 (Or.inr ⟨hin, rfl⟩) rfl rfl dX1_init_12 (fun H locs hT => ?_)
  replace hI : Inv (sF g_13 h 0 (.ref q_1)) := hI.sF (fk r_18 (show fsm _ _ ft from trivial))
  replace hM : Sm md_k_Judge g (sF g_13 h 0 (.ref q_1)) := hM.tr hE (Sm_sF (by rw [r_18]; rfl))
  replace hE : Ex g (sF g_13 h 0 (.ref q_1)) := hE
  refine lv_aload_n hx hb dX1_init_15 rfl (lv_at hl 0 rfl) ?_
  refine t_new (ci := 5) (fs := [.null, .int 0, .int 0, .null, .int 0, .int 0, .int 0, .int 0]) hB hT rfl (by decide) k_272 k_103 k_59 (fnew_5) (Nat.le_of_ble_eq_true rfl) (Nat.le_of_ble_eq_true rfl) dX1_init_16 (fun q_20 H o_q_20 hT => ?_)
  have z_q_20 : g.1 q_20 = 0 := hE.z0 o_q_20
  replace hI : Inv (sN (sF g_13 h 0 (.ref q_1)) q_20 16 (vp_V [.null, .int 0, .int 0, .null, .int 0, .int 0, .int 0, .int 0])) := hI.newo o_q_20 (fun _ => rfl) (fun _ => trivial) (fun _ _ => trivial)
  replace hM : Sm md_k_Judge g (sN (sF g_13 h 0 (.ref q_1)) q_20 16 (vp_V [.null, .int 0, .int 0, .null, .int 0, .int 0, .int 0, .int 0])) := hM.tr hE (Sm.push o_q_20 sN_g)
  replace hE : Ex g (sN (sF g_13 h 0 (.ref q_1)) q_20 16 (vp_V [.null, .int 0, .int 0, .null, .int 0, .int 0, .int 0, .int 0])) := hE.tr (Ex.push o_q_20 sN_g)
  have r_21 : (sN (sF g_13 h 0 (.ref q_1)) q_20 16 (vp_V [.null, .int 0, .int 0, .null, .int 0, .int 0, .int 0, .int 0])).1 h = 12 := ((sN_g h (ne0 r_18 o_q_20 (by decide))).1.trans r_18)
  have r_22 : (sN (sF g_13 h 0 (.ref q_1)) q_20 16 (vp_V [.null, .int 0, .int 0, .null, .int 0, .int 0, .int 0, .int 0])).1 q_1 = 6 := ((sN_g q_1 (ne0 r_19 o_q_20 (by decide))).1.trans r_19)
  have r_23 : (sN (sF g_13 h 0 (.ref q_1)) q_20 16 (vp_V [.null, .int 0, .int 0, .null, .int 0, .int 0, .int 0, .int 0])).1 q_20 = 16 := sN_r
  have kn_24 : (sN (sF g_13 h 0 (.ref q_1)) q_20 16 (vp_V [.null, .int 0, .int 0, .null, .int 0, .int 0, .int 0, .int 0])).2.1 q_1 1 = .int 0 := ((congrFun (sN_g q_1 (ne0 r_19 o_q_20 (by decide))).2.1 1).trans (sF_k f_14 (by decide)))
  have kn_25 : (sN (sF g_13 h 0 (.ref q_1)) q_20 16 (vp_V [.null, .int 0, .int 0, .null, .int 0, .int 0, .int 0, .int 0])).2.1 h 0 = .ref q_1 := ((congrFun (sN_g h (ne0 r_18 o_q_20 (by decide))).2.1 0).trans sF_eq)
  have kn_26 : (sN (sF g_13 h 0 (.ref q_1)) q_20 16 (vp_V [.null, .int 0, .int 0, .null, .int 0, .int 0, .int 0, .int 0])).2.1 q_20 0 = .null := sN_f
  have kn_27 : (sN (sF g_13 h 0 (.ref q_1)) q_20 16 (vp_V [.null, .int 0, .int 0, .null, .int 0, .int 0, .int 0, .int 0])).2.1 q_20 1 = .int 0 := sN_f
  have kn_28 : (sN (sF g_13 h 0 (.ref q_1)) q_20 16 (vp_V [.null, .int 0, .int 0, .null, .int 0, .int 0, .int 0, .int 0])).2.1 q_20 2 = .int 0 := sN_f
  have kn_29 : (sN (sF g_13 h 0 (.ref q_1)) q_20 16 (vp_V [.null, .int 0, .int 0, .null, .int 0, .int 0, .int 0, .int 0])).2.1 q_20 3 = .null := sN_f
  have kn_30 : (sN (sF g_13 h 0 (.ref q_1)) q_20 16 (vp_V [.null, .int 0, .int 0, .null, .int 0, .int 0, .int 0, .int 0])).2.1 q_20 4 = .int 0 := sN_f
  have kn_31 : (sN (sF g_13 h 0 (.ref q_1)) q_20 16 (vp_V [.null, .int 0, .int 0, .null, .int 0, .int 0, .int 0, .int 0])).2.1 q_20 5 = .int 0 := sN_f
  have kn_32 : (sN (sF g_13 h 0 (.ref q_1)) q_20 16 (vp_V [.null, .int 0, .int 0, .null, .int 0, .int 0, .int 0, .int 0])).2.1 q_20 6 = .int 0 := sN_f
  have kn_33 : (sN (sF g_13 h 0 (.ref q_1)) q_20 16 (vp_V [.null, .int 0, .int 0, .null, .int 0, .int 0, .int 0, .int 0])).2.1 q_20 7 = .int 0 := sN_f
  generalize (sN (sF g_13 h 0 (.ref q_1)) q_20 16 (vp_V [.null, .int 0, .int 0, .null, .int 0, .int 0, .int 0, .int 0])) = g_34 at hT hI hM hE r_21 r_22 r_23 kn_24 kn_25 kn_26 kn_27 kn_28 kn_29 kn_30 kn_31 kn_32 kn_33
  clear r_18 r_19
  refine W.widen (k := 76) (n := 1296) (Nat.le_of_ble_eq_true rfl) (Nat.le_of_ble_eq_true rfl) ?_
  refine lv_dup hx hb dX1_init_19 rfl ?_
  refine t_callI (n := 0) (As := []) (rest := [.ref q_20, .ref h]) hB hT hl.1 (s_World l D cI cZ cS cR N0 g_34 hI q_20 r_23) k_106 k_59 k_273 k_105 rfl (by decide +kernel) ⟨(Nat.le_of_ble_eq_true rfl), (Nat.le_of_ble_eq_true rfl)⟩ rfl (Nat.le_of_ble_eq_true rfl) ⟨(Nat.le_of_ble_eq_true rfl), (Nat.le_of_ble_eq_true rfl)⟩ dX1_init_20 (fun v g_35 H locs hp hT => ?_)
  obtain ⟨rfl, hI, x_38, m_37, r_39, f_36⟩ := hp
  replace hM : Sm md_k_Judge g g_35 := hM.tr hE (m_37.mo (fun r k h => mdle_k_Judge_s_World h))
  replace hE : Ex g g_35 := hE.trx z_q_20 x_38
  have r_40 : g_35.1 h = 12 := (Exx.r x_38 r_21 (by decide) (ro_ne r_21 r_23 (by decide)))
  have r_41 : g_35.1 q_1 = 6 := (Exx.r x_38 r_22 (by decide) (ro_ne r_22 r_23 (by decide)))
  have r_42 : g_35.1 q_20 = 6 := r_39
  have kn_43 : g_35.2.1 q_1 1 = .int 0 := (Sm.v m_37 r_22 (by decide) rfl kn_24)
  have kn_44 : g_35.2.1 h 0 = .ref q_1 := (Sm.v m_37 r_21 (by decide) rfl kn_25)
  refine W.eq (g2 := F0 m 23 ls [.ref q_20, .ref h]) rfl ?_
  refine t_put0 (ci := 1) (v := .ref q_20) hB hT (ro_ci r_40 rfl) (ro_n0 r_40 (by decide)) rfl 1 (by decide) k_278 (Or.inr ⟨hin, rfl⟩) rfl rfl dX1_init_23 (fun H locs hT => ?_)
  replace hI : Inv (sF g_35 h 1 (.ref q_20)) := hI.sF (fk r_40 (show fsm _ _ ft from trivial))
  replace hM : Sm md_k_Judge g (sF g_35 h 1 (.ref q_20)) := hM.tr hE (Sm_sF (by rw [r_40]; rfl))
  replace hE : Ex g (sF g_35 h 1 (.ref q_20)) := hE
  refine lv_aload_n hx hb dX1_init_26 rfl (lv_at hl 0 rfl) ?_
  refine t_new (ci := 5) (fs := [.null, .int 0, .int 0, .null, .int 0, .int 0, .int 0, .int 0]) hB hT rfl (by decide) k_272 k_103 k_59 (fnew_5) (Nat.le_of_ble_eq_true rfl) (Nat.le_of_ble_eq_true rfl) dX1_init_27 (fun q_45 H o_q_45 hT => ?_)
  have z_q_45 : g.1 q_45 = 0 := hE.z0 o_q_45
  replace hI : Inv (sN (sF g_35 h 1 (.ref q_20)) q_45 16 (vp_V [.null, .int 0, .int 0, .null, .int 0, .int 0, .int 0, .int 0])) := hI.newo o_q_45 (fun _ => rfl) (fun _ => trivial) (fun _ _ => trivial)
  replace hM : Sm md_k_Judge g (sN (sF g_35 h 1 (.ref q_20)) q_45 16 (vp_V [.null, .int 0, .int 0, .null, .int 0, .int 0, .int 0, .int 0])) := hM.tr hE (Sm.push o_q_45 sN_g)
  replace hE : Ex g (sN (sF g_35 h 1 (.ref q_20)) q_45 16 (vp_V [.null, .int 0, .int 0, .null, .int 0, .int 0, .int 0, .int 0])) := hE.tr (Ex.push o_q_45 sN_g)
  have r_46 : (sN (sF g_35 h 1 (.ref q_20)) q_45 16 (vp_V [.null, .int 0, .int 0, .null, .int 0, .int 0, .int 0, .int 0])).1 h = 12 := ((sN_g h (ne0 r_40 o_q_45 (by decide))).1.trans r_40)
  have r_47 : (sN (sF g_35 h 1 (.ref q_20)) q_45 16 (vp_V [.null, .int 0, .int 0, .null, .int 0, .int 0, .int 0, .int 0])).1 q_1 = 6 := ((sN_g q_1 (ne0 r_41 o_q_45 (by decide))).1.trans r_41)
  have r_48 : (sN (sF g_35 h 1 (.ref q_20)) q_45 16 (vp_V [.null, .int 0, .int 0, .null, .int 0, .int 0, .int 0, .int 0])).1 q_20 = 6 := ((sN_g q_20 (ne0 r_42 o_q_45 (by decide))).1.trans r_42)
  have r_49 : (sN (sF g_35 h 1 (.ref q_20)) q_45 16 (vp_V [.null, .int 0, .int 0, .null, .int 0, .int 0, .int 0, .int 0])).1 q_45 = 16 := sN_r
  have kn_50 : (sN (sF g_35 h 1 (.ref q_20)) q_45 16 (vp_V [.null, .int 0, .int 0, .null, .int 0, .int 0, .int 0, .int 0])).2.1 q_1 1 = .int 0 := ((congrFun (sN_g q_1 (ne0 r_41 o_q_45 (by decide))).2.1 1).trans (sF_a kn_43 (ro_ne r_41 r_40 (by decide))))
  have kn_51 : (sN (sF g_35 h 1 (.ref q_20)) q_45 16 (vp_V [.null, .int 0, .int 0, .null, .int 0, .int 0, .int 0, .int 0])).2.1 h 0 = .ref q_1 := ((congrFun (sN_g h (ne0 r_40 o_q_45 (by decide))).2.1 0).trans (sF_k kn_44 (by decide)))
  have kn_52 : (sN (sF g_35 h 1 (.ref q_20)) q_45 16 (vp_V [.null, .int 0, .int 0, .null, .int 0, .int 0, .int 0, .int 0])).2.1 q_20 1 = .int 0 := ((congrFun (sN_g q_20 (ne0 r_42 o_q_45 (by decide))).2.1 1).trans (sF_a f_36 (ro_ne r_42 r_40 (by decide))))
  have kn_53 : (sN (sF g_35 h 1 (.ref q_20)) q_45 16 (vp_V [.null, .int 0, .int 0, .null, .int 0, .int 0, .int 0, .int 0])).2.1 h 1 = .ref q_20 := ((congrFun (sN_g h (ne0 r_40 o_q_45 (by decide))).2.1 1).trans sF_eq)
  have kn_54 : (sN (sF g_35 h 1 (.ref q_20)) q_45 16 (vp_V [.null, .int 0, .int 0, .null, .int 0, .int 0, .int 0, .int 0])).2.1 q_45 0 = .null := sN_f
  have kn_55 : (sN (sF g_35 h 1 (.ref q_20)) q_45 16 (vp_V [.null, .int 0, .int 0, .null, .int 0, .int 0, .int 0, .int 0])).2.1 q_45 1 = .int 0 := sN_f
  have kn_56 : (sN (sF g_35 h 1 (.ref q_20)) q_45 16 (vp_V [.null, .int 0, .int 0, .null, .int 0, .int 0, .int 0, .int 0])).2.1 q_45 2 = .int 0 := sN_f
  have kn_57 : (sN (sF g_35 h 1 (.ref q_20)) q_45 16 (vp_V [.null, .int 0, .int 0, .null, .int 0, .int 0, .int 0, .int 0])).2.1 q_45 3 = .null := sN_f
  have kn_58 : (sN (sF g_35 h 1 (.ref q_20)) q_45 16 (vp_V [.null, .int 0, .int 0, .null, .int 0, .int 0, .int 0, .int 0])).2.1 q_45 4 = .int 0 := sN_f
  have kn_59 : (sN (sF g_35 h 1 (.ref q_20)) q_45 16 (vp_V [.null, .int 0, .int 0, .null, .int 0, .int 0, .int 0, .int 0])).2.1 q_45 5 = .int 0 := sN_f
  have kn_60 : (sN (sF g_35 h 1 (.ref q_20)) q_45 16 (vp_V [.null, .int 0, .int 0, .null, .int 0, .int 0, .int 0, .int 0])).2.1 q_45 6 = .int 0 := sN_f
  have kn_61 : (sN (sF g_35 h 1 (.ref q_20)) q_45 16 (vp_V [.null, .int 0, .int 0, .null, .int 0, .int 0, .int 0, .int 0])).2.1 q_45 7 = .int 0 := sN_f
  generalize (sN (sF g_35 h 1 (.ref q_20)) q_45 16 (vp_V [.null, .int 0, .int 0, .null, .int 0, .int 0, .int 0, .int 0])) = g_62 at hT hI hM hE r_46 r_47 r_48 r_49 kn_50 kn_51 kn_52 kn_53 kn_54 kn_55 kn_56 kn_57 kn_58 kn_59 kn_60 kn_61
  clear kn_43 kn_44 r_40 r_41 r_42
  refine W.widen (k := 151) (n := 2584) (Nat.le_of_ble_eq_true rfl) (Nat.le_of_ble_eq_true rfl) ?_
  refine lv_dup hx hb dX1_init_30 rfl ?_
  refine t_callI (n := 0) (As := []) (rest := [.ref q_45, .ref h]) hB hT hl.1 (s_World l D cI cZ cS cR N0 g_62 hI q_45 r_49) k_106 k_59 k_273 k_105 rfl (by decide +kernel) ⟨(Nat.le_of_ble_eq_true rfl), (Nat.le_of_ble_eq_true rfl)⟩ rfl (Nat.le_of_ble_eq_true rfl) ⟨(Nat.le_of_ble_eq_true rfl), (Nat.le_of_ble_eq_true rfl)⟩ dX1_init_31 (fun v g_63 H locs hp hT => ?_)
  obtain ⟨rfl, hI, x_66, m_65, r_67, f_64⟩ := hp
  replace hM : Sm md_k_Judge g g_63 := hM.tr hE (m_65.mo (fun r k h => mdle_k_Judge_s_World h))
  replace hE : Ex g g_63 := hE.trx z_q_45 x_66
  have r_68 : g_63.1 h = 12 := (Exx.r x_66 r_46 (by decide) (ro_ne r_46 r_49 (by decide)))
  have r_69 : g_63.1 q_1 = 6 := (Exx.r x_66 r_47 (by decide) (ro_ne r_47 r_49 (by decide)))
  have r_70 : g_63.1 q_20 = 6 := (Exx.r x_66 r_48 (by decide) (ro_ne r_48 r_49 (by decide)))
  have r_71 : g_63.1 q_45 = 6 := r_67
  have kn_72 : g_63.2.1 q_1 1 = .int 0 := (Sm.v m_65 r_47 (by decide) rfl kn_50)
  have kn_73 : g_63.2.1 h 0 = .ref q_1 := (Sm.v m_65 r_46 (by decide) rfl kn_51)
  have kn_74 : g_63.2.1 q_20 1 = .int 0 := (Sm.v m_65 r_48 (by decide) rfl kn_52)
  have kn_75 : g_63.2.1 h 1 = .ref q_20 := (Sm.v m_65 r_46 (by decide) rfl kn_53)
  refine W.eq (g2 := F0 m 34 ls [.ref q_45, .ref h]) rfl ?_
  refine t_put0 (ci := 1) (v := .ref q_45) hB hT (ro_ci r_68 rfl) (ro_n0 r_68 (by decide)) rfl 2 (by decide) k_279 (Or.inr ⟨hin, rfl⟩) rfl rfl dX1_init_34 (fun H locs hT => ?_)
  replace hI : Inv (sF g_63 h 2 (.ref q_45)) := hI.sF (fk r_68 (show fsm _ _ ft from trivial))
  replace hM : Sm md_k_Judge g (sF g_63 h 2 (.ref q_45)) := hM.tr hE (Sm_sF (by rw [r_68]; rfl))
  replace hE : Ex g (sF g_63 h 2 (.ref q_45)) := hE
  refine lv_aload_n hx hb dX1_init_37 rfl (lv_at hl 0 rfl) ?_
  refine lv_bipush (v := 6) hx hb dX1_init_38 (by decide) ?_
  refine t_newi (N' := 6) hB hT 50 (by decide) k_101 (by decide) (by decide) (by decide) (Nat.le_of_ble_eq_true rfl) (Nat.le_of_ble_eq_true rfl) dX1_init_40 (fun q_76 H o_q_76 hT => ?_)
  have z_q_76 : g.1 q_76 = 0 := hE.z0 o_q_76
  replace hI : Inv (sA (sF g_63 h 2 (.ref q_45)) q_76 50 6) := hI.newi o_q_76 (by decide) (fun _ => rfl) trivial (fun _ => trivial)
  replace hM : Sm md_k_Judge g (sA (sF g_63 h 2 (.ref q_45)) q_76 50 6) := hM.tr hE (Sm.push o_q_76 sA_g)
  replace hE : Ex g (sA (sF g_63 h 2 (.ref q_45)) q_76 50 6) := hE.tr (Ex.push o_q_76 sA_g)
  have r_77 : (sA (sF g_63 h 2 (.ref q_45)) q_76 50 6).1 h = 12 := ((sA_g h (ne0 r_68 o_q_76 (by decide))).1.trans r_68)
  have r_78 : (sA (sF g_63 h 2 (.ref q_45)) q_76 50 6).1 q_1 = 6 := ((sA_g q_1 (ne0 r_69 o_q_76 (by decide))).1.trans r_69)
  have r_79 : (sA (sF g_63 h 2 (.ref q_45)) q_76 50 6).1 q_20 = 6 := ((sA_g q_20 (ne0 r_70 o_q_76 (by decide))).1.trans r_70)
  have r_80 : (sA (sF g_63 h 2 (.ref q_45)) q_76 50 6).1 q_45 = 6 := ((sA_g q_45 (ne0 r_71 o_q_76 (by decide))).1.trans r_71)
  have r_81 : (sA (sF g_63 h 2 (.ref q_45)) q_76 50 6).1 q_76 = 50 := sA_r
  have n_82 : (sA (sF g_63 h 2 (.ref q_45)) q_76 50 6).2.2.1 q_76 = 6 := sA_n
  have kn_83 : (sA (sF g_63 h 2 (.ref q_45)) q_76 50 6).2.1 q_1 1 = .int 0 := ((congrFun (sA_g q_1 (ne0 r_69 o_q_76 (by decide))).2.1 1).trans (sF_k kn_72 (by decide)))
  have kn_84 : (sA (sF g_63 h 2 (.ref q_45)) q_76 50 6).2.1 h 0 = .ref q_1 := ((congrFun (sA_g h (ne0 r_68 o_q_76 (by decide))).2.1 0).trans (sF_k kn_73 (by decide)))
  have kn_85 : (sA (sF g_63 h 2 (.ref q_45)) q_76 50 6).2.1 q_20 1 = .int 0 := ((congrFun (sA_g q_20 (ne0 r_70 o_q_76 (by decide))).2.1 1).trans (sF_k kn_74 (by decide)))
  have kn_86 : (sA (sF g_63 h 2 (.ref q_45)) q_76 50 6).2.1 h 1 = .ref q_20 := ((congrFun (sA_g h (ne0 r_68 o_q_76 (by decide))).2.1 1).trans (sF_k kn_75 (by decide)))
  have kn_87 : (sA (sF g_63 h 2 (.ref q_45)) q_76 50 6).2.1 q_45 1 = .int 0 := ((congrFun (sA_g q_45 (ne0 r_71 o_q_76 (by decide))).2.1 1).trans (sF_k f_64 (by decide)))
  have kn_88 : (sA (sF g_63 h 2 (.ref q_45)) q_76 50 6).2.1 h 2 = .ref q_45 := ((congrFun (sA_g h (ne0 r_68 o_q_76 (by decide))).2.1 2).trans sF_eq)
  generalize (sA (sF g_63 h 2 (.ref q_45)) q_76 50 6) = g_89 at hT hI hM hE r_77 r_78 r_79 r_80 r_81 n_82 kn_83 kn_84 kn_85 kn_86 kn_87 kn_88
  clear kn_72 kn_73 kn_74 kn_75 r_68 r_69 r_70 r_71
  refine W.widen (k := 226) (n := 3870) (Nat.le_of_ble_eq_true rfl) (Nat.le_of_ble_eq_true rfl) ?_
  refine t_put0 (ci := 1) (v := .ref q_76) hB hT (ro_ci r_77 rfl) (ro_n0 r_77 (by decide)) rfl 3 (by decide) k_280 (Or.inr ⟨hin, rfl⟩) rfl rfl dX1_init_42 (fun H locs hT => ?_)
  replace hI : Inv (sF g_89 h 3 (.ref q_76)) := hI.sF (fk r_77 (show fsm _ _ ft from trivial))
  replace hM : Sm md_k_Judge g (sF g_89 h 3 (.ref q_76)) := hM.tr hE (Sm_sF (by rw [r_77]; rfl))
  replace hE : Ex g (sF g_89 h 3 (.ref q_76)) := hE
  refine lv_aload_n hx hb dX1_init_45 rfl (lv_at hl 0 rfl) ?_
  refine lv_bipush (v := 6) hx hb dX1_init_46 (by decide) ?_
  refine t_newi (N' := 6) hB hT 50 (by decide) k_101 (by decide) (by decide) (by decide) (Nat.le_of_ble_eq_true rfl) (Nat.le_of_ble_eq_true rfl) dX1_init_48 (fun q_90 H o_q_90 hT => ?_)
  have z_q_90 : g.1 q_90 = 0 := hE.z0 o_q_90
  replace hI : Inv (sA (sF g_89 h 3 (.ref q_76)) q_90 50 6) := hI.newi o_q_90 (by decide) (fun _ => rfl) trivial (fun _ => trivial)
  replace hM : Sm md_k_Judge g (sA (sF g_89 h 3 (.ref q_76)) q_90 50 6) := hM.tr hE (Sm.push o_q_90 sA_g)
  replace hE : Ex g (sA (sF g_89 h 3 (.ref q_76)) q_90 50 6) := hE.tr (Ex.push o_q_90 sA_g)
  have r_91 : (sA (sF g_89 h 3 (.ref q_76)) q_90 50 6).1 h = 12 := ((sA_g h (ne0 r_77 o_q_90 (by decide))).1.trans r_77)
  have r_92 : (sA (sF g_89 h 3 (.ref q_76)) q_90 50 6).1 q_1 = 6 := ((sA_g q_1 (ne0 r_78 o_q_90 (by decide))).1.trans r_78)
  have r_93 : (sA (sF g_89 h 3 (.ref q_76)) q_90 50 6).1 q_20 = 6 := ((sA_g q_20 (ne0 r_79 o_q_90 (by decide))).1.trans r_79)
  have r_94 : (sA (sF g_89 h 3 (.ref q_76)) q_90 50 6).1 q_45 = 6 := ((sA_g q_45 (ne0 r_80 o_q_90 (by decide))).1.trans r_80)
  have r_95 : (sA (sF g_89 h 3 (.ref q_76)) q_90 50 6).1 q_76 = 50 := ((sA_g q_76 (ne0 r_81 o_q_90 (by decide))).1.trans r_81)
  have r_96 : (sA (sF g_89 h 3 (.ref q_76)) q_90 50 6).1 q_90 = 50 := sA_r
  have n_97 : (sA (sF g_89 h 3 (.ref q_76)) q_90 50 6).2.2.1 q_76 = 6 := ((sA_g q_76 (ne0 r_81 o_q_90 (by decide))).2.2.1.trans n_82)
  have n_98 : (sA (sF g_89 h 3 (.ref q_76)) q_90 50 6).2.2.1 q_90 = 6 := sA_n
  have kn_99 : (sA (sF g_89 h 3 (.ref q_76)) q_90 50 6).2.1 q_1 1 = .int 0 := ((congrFun (sA_g q_1 (ne0 r_78 o_q_90 (by decide))).2.1 1).trans (sF_k kn_83 (by decide)))
  have kn_100 : (sA (sF g_89 h 3 (.ref q_76)) q_90 50 6).2.1 h 0 = .ref q_1 := ((congrFun (sA_g h (ne0 r_77 o_q_90 (by decide))).2.1 0).trans (sF_k kn_84 (by decide)))
  have kn_101 : (sA (sF g_89 h 3 (.ref q_76)) q_90 50 6).2.1 q_20 1 = .int 0 := ((congrFun (sA_g q_20 (ne0 r_79 o_q_90 (by decide))).2.1 1).trans (sF_k kn_85 (by decide)))
  have kn_102 : (sA (sF g_89 h 3 (.ref q_76)) q_90 50 6).2.1 h 1 = .ref q_20 := ((congrFun (sA_g h (ne0 r_77 o_q_90 (by decide))).2.1 1).trans (sF_k kn_86 (by decide)))
  have kn_103 : (sA (sF g_89 h 3 (.ref q_76)) q_90 50 6).2.1 q_45 1 = .int 0 := ((congrFun (sA_g q_45 (ne0 r_80 o_q_90 (by decide))).2.1 1).trans (sF_k kn_87 (by decide)))
  have kn_104 : (sA (sF g_89 h 3 (.ref q_76)) q_90 50 6).2.1 h 2 = .ref q_45 := ((congrFun (sA_g h (ne0 r_77 o_q_90 (by decide))).2.1 2).trans (sF_k kn_88 (by decide)))
  have kn_105 : (sA (sF g_89 h 3 (.ref q_76)) q_90 50 6).2.1 h 3 = .ref q_76 := ((congrFun (sA_g h (ne0 r_77 o_q_90 (by decide))).2.1 3).trans sF_eq)
  generalize (sA (sF g_89 h 3 (.ref q_76)) q_90 50 6) = g_106 at hT hI hM hE r_91 r_92 r_93 r_94 r_95 r_96 n_97 n_98 kn_99 kn_100 kn_101 kn_102 kn_103 kn_104 kn_105
  clear kn_83 kn_84 kn_85 kn_86 kn_87 kn_88 n_82 r_77 r_78 r_79 r_80 r_81
  refine W.widen (k := 227) (n := 3876) (Nat.le_of_ble_eq_true rfl) (Nat.le_of_ble_eq_true rfl) ?_
  refine t_put0 (ci := 1) (v := .ref q_90) hB hT (ro_ci r_91 rfl) (ro_n0 r_91 (by decide)) rfl 4 (by decide) k_281 (Or.inr ⟨hin, rfl⟩) rfl rfl dX1_init_50 (fun H locs hT => ?_)
  replace hI : Inv (sF g_106 h 4 (.ref q_90)) := hI.sF (fk r_91 (show fsm _ _ ft from trivial))
  replace hM : Sm md_k_Judge g (sF g_106 h 4 (.ref q_90)) := hM.tr hE (Sm_sF (by rw [r_91]; rfl))
  replace hE : Ex g (sF g_106 h 4 (.ref q_90)) := hE
  refine lv_aload_n hx hb dX1_init_53 rfl (lv_at hl 0 rfl) ?_
  refine lv_bipush (v := 6) hx hb dX1_init_54 (by decide) ?_
  refine t_newi (N' := 6) hB hT 50 (by decide) k_101 (by decide) (by decide) (by decide) (Nat.le_of_ble_eq_true rfl) (Nat.le_of_ble_eq_true rfl) dX1_init_56 (fun q_107 H o_q_107 hT => ?_)
  have z_q_107 : g.1 q_107 = 0 := hE.z0 o_q_107
  replace hI : Inv (sA (sF g_106 h 4 (.ref q_90)) q_107 50 6) := hI.newi o_q_107 (by decide) (fun _ => rfl) trivial (fun _ => trivial)
  replace hM : Sm md_k_Judge g (sA (sF g_106 h 4 (.ref q_90)) q_107 50 6) := hM.tr hE (Sm.push o_q_107 sA_g)
  replace hE : Ex g (sA (sF g_106 h 4 (.ref q_90)) q_107 50 6) := hE.tr (Ex.push o_q_107 sA_g)
  have r_108 : (sA (sF g_106 h 4 (.ref q_90)) q_107 50 6).1 h = 12 := ((sA_g h (ne0 r_91 o_q_107 (by decide))).1.trans r_91)
  have r_109 : (sA (sF g_106 h 4 (.ref q_90)) q_107 50 6).1 q_1 = 6 := ((sA_g q_1 (ne0 r_92 o_q_107 (by decide))).1.trans r_92)
  have r_110 : (sA (sF g_106 h 4 (.ref q_90)) q_107 50 6).1 q_20 = 6 := ((sA_g q_20 (ne0 r_93 o_q_107 (by decide))).1.trans r_93)
  have r_111 : (sA (sF g_106 h 4 (.ref q_90)) q_107 50 6).1 q_45 = 6 := ((sA_g q_45 (ne0 r_94 o_q_107 (by decide))).1.trans r_94)
  have r_112 : (sA (sF g_106 h 4 (.ref q_90)) q_107 50 6).1 q_76 = 50 := ((sA_g q_76 (ne0 r_95 o_q_107 (by decide))).1.trans r_95)
  have r_113 : (sA (sF g_106 h 4 (.ref q_90)) q_107 50 6).1 q_90 = 50 := ((sA_g q_90 (ne0 r_96 o_q_107 (by decide))).1.trans r_96)
  have r_114 : (sA (sF g_106 h 4 (.ref q_90)) q_107 50 6).1 q_107 = 50 := sA_r
  have n_115 : (sA (sF g_106 h 4 (.ref q_90)) q_107 50 6).2.2.1 q_76 = 6 := ((sA_g q_76 (ne0 r_95 o_q_107 (by decide))).2.2.1.trans n_97)
  have n_116 : (sA (sF g_106 h 4 (.ref q_90)) q_107 50 6).2.2.1 q_90 = 6 := ((sA_g q_90 (ne0 r_96 o_q_107 (by decide))).2.2.1.trans n_98)
  have n_117 : (sA (sF g_106 h 4 (.ref q_90)) q_107 50 6).2.2.1 q_107 = 6 := sA_n
  have kn_118 : (sA (sF g_106 h 4 (.ref q_90)) q_107 50 6).2.1 q_1 1 = .int 0 := ((congrFun (sA_g q_1 (ne0 r_92 o_q_107 (by decide))).2.1 1).trans (sF_k kn_99 (by decide)))
  have kn_119 : (sA (sF g_106 h 4 (.ref q_90)) q_107 50 6).2.1 h 0 = .ref q_1 := ((congrFun (sA_g h (ne0 r_91 o_q_107 (by decide))).2.1 0).trans (sF_k kn_100 (by decide)))
  have kn_120 : (sA (sF g_106 h 4 (.ref q_90)) q_107 50 6).2.1 q_20 1 = .int 0 := ((congrFun (sA_g q_20 (ne0 r_93 o_q_107 (by decide))).2.1 1).trans (sF_k kn_101 (by decide)))
  have kn_121 : (sA (sF g_106 h 4 (.ref q_90)) q_107 50 6).2.1 h 1 = .ref q_20 := ((congrFun (sA_g h (ne0 r_91 o_q_107 (by decide))).2.1 1).trans (sF_k kn_102 (by decide)))
  have kn_122 : (sA (sF g_106 h 4 (.ref q_90)) q_107 50 6).2.1 q_45 1 = .int 0 := ((congrFun (sA_g q_45 (ne0 r_94 o_q_107 (by decide))).2.1 1).trans (sF_k kn_103 (by decide)))
  have kn_123 : (sA (sF g_106 h 4 (.ref q_90)) q_107 50 6).2.1 h 2 = .ref q_45 := ((congrFun (sA_g h (ne0 r_91 o_q_107 (by decide))).2.1 2).trans (sF_k kn_104 (by decide)))
  have kn_124 : (sA (sF g_106 h 4 (.ref q_90)) q_107 50 6).2.1 h 3 = .ref q_76 := ((congrFun (sA_g h (ne0 r_91 o_q_107 (by decide))).2.1 3).trans (sF_k kn_105 (by decide)))
  have kn_125 : (sA (sF g_106 h 4 (.ref q_90)) q_107 50 6).2.1 h 4 = .ref q_90 := ((congrFun (sA_g h (ne0 r_91 o_q_107 (by decide))).2.1 4).trans sF_eq)
  generalize (sA (sF g_106 h 4 (.ref q_90)) q_107 50 6) = g_126 at hT hI hM hE r_108 r_109 r_110 r_111 r_112 r_113 r_114 n_115 n_116 n_117 kn_118 kn_119 kn_120 kn_121 kn_122 kn_123 kn_124 kn_125
  clear kn_100 kn_101 kn_102 kn_103 kn_104 kn_105 kn_99 n_97 n_98 r_91 r_92 r_93 r_94 r_95 r_96
  refine W.widen (k := 228) (n := 3882) (Nat.le_of_ble_eq_true rfl) (Nat.le_of_ble_eq_true rfl) ?_
  refine t_put0 (ci := 1) (v := .ref q_107) hB hT (ro_ci r_108 rfl) (ro_n0 r_108 (by decide)) rfl 5 (by decide) k_282 (Or.inr ⟨hin, rfl⟩) rfl rfl dX1_init_58 (fun H locs hT => ?_)
  replace hI : Inv (sF g_126 h 5 (.ref q_107)) := hI.sF (fk r_108 (show fsm _ _ ft from trivial))
  replace hM : Sm md_k_Judge g (sF g_126 h 5 (.ref q_107)) := hM.tr hE (Sm_sF (by rw [r_108]; rfl))
  replace hE : Ex g (sF g_126 h 5 (.ref q_107)) := hE
  refine lv_aload_n hx hb dX1_init_61 rfl (lv_at hl 0 rfl) ?_
  refine lv_iconst (v := 0) hx hb dX1_init_62 (by decide) ?_
  refine t_put0 (ci := 1) (v := .int 0) hB hT (ro_ci r_108 rfl) (ro_n0 r_108 (by decide)) rfl 6 (by decide) k_283 (Or.inl rfl) rfl rfl dX1_init_63 (fun H locs hT => ?_)
  replace hI : Inv (sF (sF g_126 h 5 (.ref q_107)) h 6 (.int 0)) := hI.sF (fk r_108 (show fsm _ _ ft from trivial))
  replace hM : Sm md_k_Judge g (sF (sF g_126 h 5 (.ref q_107)) h 6 (.int 0)) := hM.tr hE (Sm_sF (by rw [r_108]; rfl))
  replace hE : Ex g (sF (sF g_126 h 5 (.ref q_107)) h 6 (.int 0)) := hE
  refine lv_aload_n hx hb dX1_init_66 rfl (lv_at hl 0 rfl) ?_
  refine lv_bipush (v := 25) hx hb dX1_init_67 (by decide) ?_
  refine lv_sipush (v := 325) hx hb dX1_init_69 (by decide) ?_
  refine t_mna (N' := 25) (K' := 325) hB hT k_274 k_101 (by decide) (by decide) (by decide) (by decide) (by decide) (by decide) (Nat.le_of_ble_eq_true rfl) (Nat.le_of_ble_eq_true rfl) dX1_init_72 (fun q_127 H locs o_q_127 hT => ?_)
  have z_q_127 : g.1 q_127 = 0 := hE.z0 (o_q_127 q_127 (Nat.le_refl _))
  replace hI : Inv (sM (sF (sF g_126 h 5 (.ref q_107)) h 6 (.int 0)) q_127 25 325) := hI.sM o_q_127
  replace hM : Sm md_k_Judge g (sM (sF (sF g_126 h 5 (.ref q_107)) h 6 (.int 0)) q_127 25 325) := hM.tr hE (sM_s o_q_127)
  replace hE : Ex g (sM (sF (sF g_126 h 5 (.ref q_107)) h 6 (.int 0)) q_127 25 325) := hE.tr (sM_x o_q_127)
  have r_128 : (sM (sF (sF g_126 h 5 (.ref q_107)) h 6 (.int 0)) q_127 25 325).1 h = 12 := (Ex.r (sM_x o_q_127) r_108 (by decide))
  have r_129 : (sM (sF (sF g_126 h 5 (.ref q_107)) h 6 (.int 0)) q_127 25 325).1 q_1 = 6 := (Ex.r (sM_x o_q_127) r_109 (by decide))
  have r_130 : (sM (sF (sF g_126 h 5 (.ref q_107)) h 6 (.int 0)) q_127 25 325).1 q_20 = 6 := (Ex.r (sM_x o_q_127) r_110 (by decide))
  have r_131 : (sM (sF (sF g_126 h 5 (.ref q_107)) h 6 (.int 0)) q_127 25 325).1 q_45 = 6 := (Ex.r (sM_x o_q_127) r_111 (by decide))
  have r_132 : (sM (sF (sF g_126 h 5 (.ref q_107)) h 6 (.int 0)) q_127 25 325).1 q_76 = 50 := (Ex.r (sM_x o_q_127) r_112 (by decide))
  have r_133 : (sM (sF (sF g_126 h 5 (.ref q_107)) h 6 (.int 0)) q_127 25 325).1 q_90 = 50 := (Ex.r (sM_x o_q_127) r_113 (by decide))
  have r_134 : (sM (sF (sF g_126 h 5 (.ref q_107)) h 6 (.int 0)) q_127 25 325).1 q_107 = 50 := (Ex.r (sM_x o_q_127) r_114 (by decide))
  have r_135 : (sM (sF (sF g_126 h 5 (.ref q_107)) h 6 (.int 0)) q_127 25 325).1 q_127 = 43 := sM_r
  have n_136 : (sM (sF (sF g_126 h 5 (.ref q_107)) h 6 (.int 0)) q_127 25 325).2.2.1 q_76 = 6 := (Ex.n (sM_x o_q_127) r_112 (by decide) n_115)
  have n_137 : (sM (sF (sF g_126 h 5 (.ref q_107)) h 6 (.int 0)) q_127 25 325).2.2.1 q_90 = 6 := (Ex.n (sM_x o_q_127) r_113 (by decide) n_116)
  have n_138 : (sM (sF (sF g_126 h 5 (.ref q_107)) h 6 (.int 0)) q_127 25 325).2.2.1 q_107 = 6 := (Ex.n (sM_x o_q_127) r_114 (by decide) n_117)
  have n_139 : (sM (sF (sF g_126 h 5 (.ref q_107)) h 6 (.int 0)) q_127 25 325).2.2.1 q_127 = 25 := sM_n
  have kn_140 : (sM (sF (sF g_126 h 5 (.ref q_107)) h 6 (.int 0)) q_127 25 325).2.1 q_1 1 = .int 0 := (sF_k (sF_k kn_118 (by decide)) (by decide))
  have kn_141 : (sM (sF (sF g_126 h 5 (.ref q_107)) h 6 (.int 0)) q_127 25 325).2.1 h 0 = .ref q_1 := (sF_k (sF_k kn_119 (by decide)) (by decide))
  have kn_142 : (sM (sF (sF g_126 h 5 (.ref q_107)) h 6 (.int 0)) q_127 25 325).2.1 q_20 1 = .int 0 := (sF_k (sF_k kn_120 (by decide)) (by decide))
  have kn_143 : (sM (sF (sF g_126 h 5 (.ref q_107)) h 6 (.int 0)) q_127 25 325).2.1 h 1 = .ref q_20 := (sF_k (sF_k kn_121 (by decide)) (by decide))
  have kn_144 : (sM (sF (sF g_126 h 5 (.ref q_107)) h 6 (.int 0)) q_127 25 325).2.1 q_45 1 = .int 0 := (sF_k (sF_k kn_122 (by decide)) (by decide))
  have kn_145 : (sM (sF (sF g_126 h 5 (.ref q_107)) h 6 (.int 0)) q_127 25 325).2.1 h 2 = .ref q_45 := (sF_k (sF_k kn_123 (by decide)) (by decide))
  have kn_146 : (sM (sF (sF g_126 h 5 (.ref q_107)) h 6 (.int 0)) q_127 25 325).2.1 h 3 = .ref q_76 := (sF_k (sF_k kn_124 (by decide)) (by decide))
  have kn_147 : (sM (sF (sF g_126 h 5 (.ref q_107)) h 6 (.int 0)) q_127 25 325).2.1 h 4 = .ref q_90 := (sF_k (sF_k kn_125 (by decide)) (by decide))
  have kn_148 : (sM (sF (sF g_126 h 5 (.ref q_107)) h 6 (.int 0)) q_127 25 325).2.1 h 5 = .ref q_107 := (sF_k sF_eq (by decide))
  have kn_149 : (sM (sF (sF g_126 h 5 (.ref q_107)) h 6 (.int 0)) q_127 25 325).2.1 h 6 = .int 0 := sF_eq
  generalize (sM (sF (sF g_126 h 5 (.ref q_107)) h 6 (.int 0)) q_127 25 325) = g_150 at hT hI hM hE r_128 r_129 r_130 r_131 r_132 r_133 r_134 r_135 n_136 n_137 n_138 n_139 kn_140 kn_141 kn_142 kn_143 kn_144 kn_145 kn_146 kn_147 kn_148 kn_149
  clear kn_118 kn_119 kn_120 kn_121 kn_122 kn_123 kn_124 kn_125 n_115 n_116 n_117 r_108 r_109 r_110 r_111 r_112 r_113 r_114
  refine W.widen (k := 254) (n := 12032) (Nat.le_of_ble_eq_true rfl) (Nat.le_of_ble_eq_true rfl) ?_
  refine t_put0 (ci := 1) (v := .ref q_127) hB hT (ro_ci r_128 rfl) (ro_n0 r_128 (by decide)) rfl 7 (by decide) k_284 (Or.inr ⟨hin, rfl⟩) rfl rfl dX1_init_76 (fun H locs hT => ?_)
  replace hI : Inv (sF g_150 h 7 (.ref q_127)) := hI.sF (fk r_128 (show fsm _ _ ft from trivial))
  replace hM : Sm md_k_Judge g (sF g_150 h 7 (.ref q_127)) := hM.tr hE (Sm_sF (by rw [r_128]; rfl))
  replace hE : Ex g (sF g_150 h 7 (.ref q_127)) := hE
  refine lv_aload_n hx hb dX1_init_79 rfl (lv_at hl 0 rfl) ?_
  refine lv_iconst (v := 5) hx hb dX1_init_80 (by decide) ?_
  refine t_newi (N' := 5) hB hT 52 (by decide) k_101 (by decide) (by decide) (by decide) (Nat.le_of_ble_eq_true rfl) (Nat.le_of_ble_eq_true rfl) dX1_init_81 (fun q_151 H o_q_151 hT => ?_)
  have z_q_151 : g.1 q_151 = 0 := hE.z0 o_q_151
  replace hI : Inv (sA (sF g_150 h 7 (.ref q_127)) q_151 52 5) := hI.newi o_q_151 (by decide) (fun _ => rfl) ⟨by decide, by decide⟩ (fun _ => trivial)
  replace hM : Sm md_k_Judge g (sA (sF g_150 h 7 (.ref q_127)) q_151 52 5) := hM.tr hE (Sm.push o_q_151 sA_g)
  replace hE : Ex g (sA (sF g_150 h 7 (.ref q_127)) q_151 52 5) := hE.tr (Ex.push o_q_151 sA_g)
  have r_152 : (sA (sF g_150 h 7 (.ref q_127)) q_151 52 5).1 h = 12 := ((sA_g h (ne0 r_128 o_q_151 (by decide))).1.trans r_128)
  have r_153 : (sA (sF g_150 h 7 (.ref q_127)) q_151 52 5).1 q_1 = 6 := ((sA_g q_1 (ne0 r_129 o_q_151 (by decide))).1.trans r_129)
  have r_154 : (sA (sF g_150 h 7 (.ref q_127)) q_151 52 5).1 q_20 = 6 := ((sA_g q_20 (ne0 r_130 o_q_151 (by decide))).1.trans r_130)
  have r_155 : (sA (sF g_150 h 7 (.ref q_127)) q_151 52 5).1 q_45 = 6 := ((sA_g q_45 (ne0 r_131 o_q_151 (by decide))).1.trans r_131)
  have r_156 : (sA (sF g_150 h 7 (.ref q_127)) q_151 52 5).1 q_76 = 50 := ((sA_g q_76 (ne0 r_132 o_q_151 (by decide))).1.trans r_132)
  have r_157 : (sA (sF g_150 h 7 (.ref q_127)) q_151 52 5).1 q_90 = 50 := ((sA_g q_90 (ne0 r_133 o_q_151 (by decide))).1.trans r_133)
  have r_158 : (sA (sF g_150 h 7 (.ref q_127)) q_151 52 5).1 q_107 = 50 := ((sA_g q_107 (ne0 r_134 o_q_151 (by decide))).1.trans r_134)
  have r_159 : (sA (sF g_150 h 7 (.ref q_127)) q_151 52 5).1 q_127 = 43 := ((sA_g q_127 (ne0 r_135 o_q_151 (by decide))).1.trans r_135)
  have r_160 : (sA (sF g_150 h 7 (.ref q_127)) q_151 52 5).1 q_151 = 52 := sA_r
  have n_161 : (sA (sF g_150 h 7 (.ref q_127)) q_151 52 5).2.2.1 q_76 = 6 := ((sA_g q_76 (ne0 r_132 o_q_151 (by decide))).2.2.1.trans n_136)
  have n_162 : (sA (sF g_150 h 7 (.ref q_127)) q_151 52 5).2.2.1 q_90 = 6 := ((sA_g q_90 (ne0 r_133 o_q_151 (by decide))).2.2.1.trans n_137)
  have n_163 : (sA (sF g_150 h 7 (.ref q_127)) q_151 52 5).2.2.1 q_107 = 6 := ((sA_g q_107 (ne0 r_134 o_q_151 (by decide))).2.2.1.trans n_138)
  have n_164 : (sA (sF g_150 h 7 (.ref q_127)) q_151 52 5).2.2.1 q_127 = 25 := ((sA_g q_127 (ne0 r_135 o_q_151 (by decide))).2.2.1.trans n_139)
  have n_165 : (sA (sF g_150 h 7 (.ref q_127)) q_151 52 5).2.2.1 q_151 = 5 := sA_n
  have kn_166 : (sA (sF g_150 h 7 (.ref q_127)) q_151 52 5).2.1 q_1 1 = .int 0 := ((congrFun (sA_g q_1 (ne0 r_129 o_q_151 (by decide))).2.1 1).trans (sF_k kn_140 (by decide)))
  have kn_167 : (sA (sF g_150 h 7 (.ref q_127)) q_151 52 5).2.1 h 0 = .ref q_1 := ((congrFun (sA_g h (ne0 r_128 o_q_151 (by decide))).2.1 0).trans (sF_k kn_141 (by decide)))
  have kn_168 : (sA (sF g_150 h 7 (.ref q_127)) q_151 52 5).2.1 q_20 1 = .int 0 := ((congrFun (sA_g q_20 (ne0 r_130 o_q_151 (by decide))).2.1 1).trans (sF_k kn_142 (by decide)))
  have kn_169 : (sA (sF g_150 h 7 (.ref q_127)) q_151 52 5).2.1 h 1 = .ref q_20 := ((congrFun (sA_g h (ne0 r_128 o_q_151 (by decide))).2.1 1).trans (sF_k kn_143 (by decide)))
  have kn_170 : (sA (sF g_150 h 7 (.ref q_127)) q_151 52 5).2.1 q_45 1 = .int 0 := ((congrFun (sA_g q_45 (ne0 r_131 o_q_151 (by decide))).2.1 1).trans (sF_k kn_144 (by decide)))
  have kn_171 : (sA (sF g_150 h 7 (.ref q_127)) q_151 52 5).2.1 h 2 = .ref q_45 := ((congrFun (sA_g h (ne0 r_128 o_q_151 (by decide))).2.1 2).trans (sF_k kn_145 (by decide)))
  have kn_172 : (sA (sF g_150 h 7 (.ref q_127)) q_151 52 5).2.1 h 3 = .ref q_76 := ((congrFun (sA_g h (ne0 r_128 o_q_151 (by decide))).2.1 3).trans (sF_k kn_146 (by decide)))
  have kn_173 : (sA (sF g_150 h 7 (.ref q_127)) q_151 52 5).2.1 h 4 = .ref q_90 := ((congrFun (sA_g h (ne0 r_128 o_q_151 (by decide))).2.1 4).trans (sF_k kn_147 (by decide)))
  have kn_174 : (sA (sF g_150 h 7 (.ref q_127)) q_151 52 5).2.1 h 5 = .ref q_107 := ((congrFun (sA_g h (ne0 r_128 o_q_151 (by decide))).2.1 5).trans (sF_k kn_148 (by decide)))
  have kn_175 : (sA (sF g_150 h 7 (.ref q_127)) q_151 52 5).2.1 h 6 = .int 0 := ((congrFun (sA_g h (ne0 r_128 o_q_151 (by decide))).2.1 6).trans (sF_k kn_149 (by decide)))
  have kn_176 : (sA (sF g_150 h 7 (.ref q_127)) q_151 52 5).2.1 h 7 = .ref q_127 := ((congrFun (sA_g h (ne0 r_128 o_q_151 (by decide))).2.1 7).trans sF_eq)
  generalize (sA (sF g_150 h 7 (.ref q_127)) q_151 52 5) = g_177 at hT hI hM hE r_152 r_153 r_154 r_155 r_156 r_157 r_158 r_159 r_160 n_161 n_162 n_163 n_164 n_165 kn_166 kn_167 kn_168 kn_169 kn_170 kn_171 kn_172 kn_173 kn_174 kn_175 kn_176
  clear kn_140 kn_141 kn_142 kn_143 kn_144 kn_145 kn_146 kn_147 kn_148 kn_149 n_136 n_137 n_138 n_139 r_128 r_129 r_130 r_131 r_132 r_133 r_134 r_135
  refine W.widen (k := 255) (n := 12037) (Nat.le_of_ble_eq_true rfl) (Nat.le_of_ble_eq_true rfl) ?_
  refine t_put0 (ci := 1) (v := .ref q_151) hB hT (ro_ci r_152 rfl) (ro_n0 r_152 (by decide)) rfl 8 (by decide) k_285 (Or.inr ⟨hin, rfl⟩) rfl rfl dX1_init_83 (fun H locs hT => ?_)
  replace hI : Inv (sF g_177 h 8 (.ref q_151)) := hI.sF (fk r_152 (show fsm _ _ ft from trivial))
  replace hM : Sm md_k_Judge g (sF g_177 h 8 (.ref q_151)) := hM.tr hE (Sm_sF (by rw [r_152]; rfl))
  replace hE : Ex g (sF g_177 h 8 (.ref q_151)) := hE
  refine lv_aload_n hx hb dX1_init_86 rfl (lv_at hl 0 rfl) ?_
  refine lv_iconst (v := 4) hx hb dX1_init_87 (by decide) ?_
  refine t_newi (N' := 4) hB hT 50 (by decide) k_101 (by decide) (by decide) (by decide) (Nat.le_of_ble_eq_true rfl) (Nat.le_of_ble_eq_true rfl) dX1_init_88 (fun q_178 H o_q_178 hT => ?_)
  have z_q_178 : g.1 q_178 = 0 := hE.z0 o_q_178
  replace hI : Inv (sA (sF g_177 h 8 (.ref q_151)) q_178 50 4) := hI.newi o_q_178 (by decide) (fun _ => rfl) trivial (fun _ => trivial)
  replace hM : Sm md_k_Judge g (sA (sF g_177 h 8 (.ref q_151)) q_178 50 4) := hM.tr hE (Sm.push o_q_178 sA_g)
  replace hE : Ex g (sA (sF g_177 h 8 (.ref q_151)) q_178 50 4) := hE.tr (Ex.push o_q_178 sA_g)
  have r_179 : (sA (sF g_177 h 8 (.ref q_151)) q_178 50 4).1 h = 12 := ((sA_g h (ne0 r_152 o_q_178 (by decide))).1.trans r_152)
  have r_180 : (sA (sF g_177 h 8 (.ref q_151)) q_178 50 4).1 q_1 = 6 := ((sA_g q_1 (ne0 r_153 o_q_178 (by decide))).1.trans r_153)
  have r_181 : (sA (sF g_177 h 8 (.ref q_151)) q_178 50 4).1 q_20 = 6 := ((sA_g q_20 (ne0 r_154 o_q_178 (by decide))).1.trans r_154)
  have r_182 : (sA (sF g_177 h 8 (.ref q_151)) q_178 50 4).1 q_45 = 6 := ((sA_g q_45 (ne0 r_155 o_q_178 (by decide))).1.trans r_155)
  have r_183 : (sA (sF g_177 h 8 (.ref q_151)) q_178 50 4).1 q_76 = 50 := ((sA_g q_76 (ne0 r_156 o_q_178 (by decide))).1.trans r_156)
  have r_184 : (sA (sF g_177 h 8 (.ref q_151)) q_178 50 4).1 q_90 = 50 := ((sA_g q_90 (ne0 r_157 o_q_178 (by decide))).1.trans r_157)
  have r_185 : (sA (sF g_177 h 8 (.ref q_151)) q_178 50 4).1 q_107 = 50 := ((sA_g q_107 (ne0 r_158 o_q_178 (by decide))).1.trans r_158)
  have r_186 : (sA (sF g_177 h 8 (.ref q_151)) q_178 50 4).1 q_127 = 43 := ((sA_g q_127 (ne0 r_159 o_q_178 (by decide))).1.trans r_159)
  have r_187 : (sA (sF g_177 h 8 (.ref q_151)) q_178 50 4).1 q_151 = 52 := ((sA_g q_151 (ne0 r_160 o_q_178 (by decide))).1.trans r_160)
  have r_188 : (sA (sF g_177 h 8 (.ref q_151)) q_178 50 4).1 q_178 = 50 := sA_r
  have n_189 : (sA (sF g_177 h 8 (.ref q_151)) q_178 50 4).2.2.1 q_76 = 6 := ((sA_g q_76 (ne0 r_156 o_q_178 (by decide))).2.2.1.trans n_161)
  have n_190 : (sA (sF g_177 h 8 (.ref q_151)) q_178 50 4).2.2.1 q_90 = 6 := ((sA_g q_90 (ne0 r_157 o_q_178 (by decide))).2.2.1.trans n_162)
  have n_191 : (sA (sF g_177 h 8 (.ref q_151)) q_178 50 4).2.2.1 q_107 = 6 := ((sA_g q_107 (ne0 r_158 o_q_178 (by decide))).2.2.1.trans n_163)
  have n_192 : (sA (sF g_177 h 8 (.ref q_151)) q_178 50 4).2.2.1 q_127 = 25 := ((sA_g q_127 (ne0 r_159 o_q_178 (by decide))).2.2.1.trans n_164)
  have n_193 : (sA (sF g_177 h 8 (.ref q_151)) q_178 50 4).2.2.1 q_151 = 5 := ((sA_g q_151 (ne0 r_160 o_q_178 (by decide))).2.2.1.trans n_165)
  have n_194 : (sA (sF g_177 h 8 (.ref q_151)) q_178 50 4).2.2.1 q_178 = 4 := sA_n
  have kn_195 : (sA (sF g_177 h 8 (.ref q_151)) q_178 50 4).2.1 q_1 1 = .int 0 := ((congrFun (sA_g q_1 (ne0 r_153 o_q_178 (by decide))).2.1 1).trans (sF_k kn_166 (by decide)))
  have kn_196 : (sA (sF g_177 h 8 (.ref q_151)) q_178 50 4).2.1 h 0 = .ref q_1 := ((congrFun (sA_g h (ne0 r_152 o_q_178 (by decide))).2.1 0).trans (sF_k kn_167 (by decide)))
  have kn_197 : (sA (sF g_177 h 8 (.ref q_151)) q_178 50 4).2.1 q_20 1 = .int 0 := ((congrFun (sA_g q_20 (ne0 r_154 o_q_178 (by decide))).2.1 1).trans (sF_k kn_168 (by decide)))
  have kn_198 : (sA (sF g_177 h 8 (.ref q_151)) q_178 50 4).2.1 h 1 = .ref q_20 := ((congrFun (sA_g h (ne0 r_152 o_q_178 (by decide))).2.1 1).trans (sF_k kn_169 (by decide)))
  have kn_199 : (sA (sF g_177 h 8 (.ref q_151)) q_178 50 4).2.1 q_45 1 = .int 0 := ((congrFun (sA_g q_45 (ne0 r_155 o_q_178 (by decide))).2.1 1).trans (sF_k kn_170 (by decide)))
  have kn_200 : (sA (sF g_177 h 8 (.ref q_151)) q_178 50 4).2.1 h 2 = .ref q_45 := ((congrFun (sA_g h (ne0 r_152 o_q_178 (by decide))).2.1 2).trans (sF_k kn_171 (by decide)))
  have kn_201 : (sA (sF g_177 h 8 (.ref q_151)) q_178 50 4).2.1 h 3 = .ref q_76 := ((congrFun (sA_g h (ne0 r_152 o_q_178 (by decide))).2.1 3).trans (sF_k kn_172 (by decide)))
  have kn_202 : (sA (sF g_177 h 8 (.ref q_151)) q_178 50 4).2.1 h 4 = .ref q_90 := ((congrFun (sA_g h (ne0 r_152 o_q_178 (by decide))).2.1 4).trans (sF_k kn_173 (by decide)))
  have kn_203 : (sA (sF g_177 h 8 (.ref q_151)) q_178 50 4).2.1 h 5 = .ref q_107 := ((congrFun (sA_g h (ne0 r_152 o_q_178 (by decide))).2.1 5).trans (sF_k kn_174 (by decide)))
  have kn_204 : (sA (sF g_177 h 8 (.ref q_151)) q_178 50 4).2.1 h 6 = .int 0 := ((congrFun (sA_g h (ne0 r_152 o_q_178 (by decide))).2.1 6).trans (sF_k kn_175 (by decide)))
  have kn_205 : (sA (sF g_177 h 8 (.ref q_151)) q_178 50 4).2.1 h 7 = .ref q_127 := ((congrFun (sA_g h (ne0 r_152 o_q_178 (by decide))).2.1 7).trans (sF_k kn_176 (by decide)))
  have kn_206 : (sA (sF g_177 h 8 (.ref q_151)) q_178 50 4).2.1 h 8 = .ref q_151 := ((congrFun (sA_g h (ne0 r_152 o_q_178 (by decide))).2.1 8).trans sF_eq)
  generalize (sA (sF g_177 h 8 (.ref q_151)) q_178 50 4) = g_207 at hT hI hM hE r_179 r_180 r_181 r_182 r_183 r_184 r_185 r_186 r_187 r_188 n_189 n_190 n_191 n_192 n_193 n_194 kn_195 kn_196 kn_197 kn_198 kn_199 kn_200 kn_201 kn_202 kn_203 kn_204 kn_205 kn_206
  clear kn_166 kn_167 kn_168 kn_169 kn_170 kn_171 kn_172 kn_173 kn_174 kn_175 kn_176 n_161 n_162 n_163 n_164 n_165 r_152 r_153 r_154 r_155 r_156 r_157 r_158 r_159 r_160
  refine W.widen (k := 256) (n := 12041) (Nat.le_of_ble_eq_true rfl) (Nat.le_of_ble_eq_true rfl) ?_
  refine t_put0 (ci := 1) (v := .ref q_178) hB hT (ro_ci r_179 rfl) (ro_n0 r_179 (by decide)) rfl 9 (by decide) k_286 (Or.inr ⟨hin, rfl⟩) rfl rfl dX1_init_90 (fun H locs hT => ?_)
  replace hI : Inv (sF g_207 h 9 (.ref q_178)) := hI.sF (fk r_179 (show fsm _ _ ft from trivial))
  replace hM : Sm md_k_Judge g (sF g_207 h 9 (.ref q_178)) := hM.tr hE (Sm_sF (by rw [r_179]; rfl))
  replace hE : Ex g (sF g_207 h 9 (.ref q_178)) := hE
  have hF : ∀ k, Fok (sR (sF g_207 h 9 (.ref q_178)) h 2) 2 k ((sF g_207 h 9 (.ref q_178)).2.1 h k) := fun k => match k with
    | 0 => (by rw [(sF_k kn_196 (by decide))]; exact q_2_0 ⟨_, rfl, sR_r r_180 (ro_ne r_180 r_179 (by decide))⟩)
    | 1 => (by rw [(sF_k kn_198 (by decide))]; exact q_2_1 ⟨_, rfl, sR_r r_181 (ro_ne r_181 r_179 (by decide))⟩)
    | 2 => (by rw [(sF_k kn_200 (by decide))]; exact q_2_2 ⟨_, rfl, sR_r r_182 (ro_ne r_182 r_179 (by decide))⟩)
    | 3 => (by rw [(sF_k kn_201 (by decide))]; exact q_2_3 ⟨_, rfl, sR_r r_183 (ro_ne r_183 r_179 (by decide)), n_189⟩)
    | 4 => (by rw [(sF_k kn_202 (by decide))]; exact q_2_4 ⟨_, rfl, sR_r r_184 (ro_ne r_184 r_179 (by decide)), n_190⟩)
    | 5 => (by rw [(sF_k kn_203 (by decide))]; exact q_2_5 ⟨_, rfl, sR_r r_185 (ro_ne r_185 r_179 (by decide)), n_191⟩)
    | 6 => (by rw [(sF_k kn_204 (by decide))]; exact q_2_6 ⟨_, rfl⟩)
    | 7 => (by rw [(sF_k kn_205 (by decide))]; exact q_2_7 ⟨_, rfl, sR_r r_186 (ro_ne r_186 r_179 (by decide)), n_192⟩)
    | 8 => (by rw [(sF_k kn_206 (by decide))]; exact q_2_8 ⟨_, rfl, sR_r r_187 (ro_ne r_187 r_179 (by decide)), n_193⟩)
    | 9 => (by rw [sF_eq]; exact q_2_9 ⟨_, rfl, sR_r r_188 (ro_ne r_188 r_179 (by decide)), n_194⟩)
    | k + 10 => (show fsm _ _ ft from trivial)
  have hT : Tv D cI cZ cS cR N0 s.heap H locs (sR (sF g_207 h 9 (.ref q_178)) h 2) := ⟨hT.1.promo (by rw [r_179]; decide) (by rw [r_179]; rfl) (Or.inl (by decide)), hT.2⟩
  replace hI : Inv (sR (sF g_207 h 9 (.ref q_178)) h 2) := hI.promo (by rw [r_179]; decide) hF (fun _ _ => trivial) (fun _ _ => trivial)
  replace hM : Sm md_k_Judge g (sR (sF g_207 h 9 (.ref q_178)) h 2) := hM
  have hX : Exx h g (sR (sF g_207 h 9 (.ref q_178)) h 2) := Exx.promo hE
  exact t_vret hB hr hT (Nat.le_of_ble_eq_true rfl) (Nat.le_of_ble_eq_true rfl) dX1_init_93 ⟨rfl, hI, hX, hM, if_pos rfl⟩
