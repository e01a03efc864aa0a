theorem k_103 : Cond.instantiable RX5 8 ∈ tb := mt 103 (by decide +kernel) rfl
theorem k_105 : Cond.instanceMethod yX5_init ∈ tb := mt 105 (by decide +kernel) rfl
set_option maxRecDepth 20000 in
theorem k_106 : Cond.code yX5_init cX5_init 2 none ∈ tb := mt 106 rfl rfl
theorem k_271 : Cond.methodLink RX1 3 Lib.objectInit ∈ tb := mt 271 (by decide +kernel) rfl
theorem k_272 : Cond.classLink RX1 9 RX5 ∈ tb := mt 272 (by decide +kernel) rfl
theorem k_273 : Cond.methodLink RX1 11 yX5_init ∈ tb := mt 273 (by decide +kernel) rfl
theorem k_274 : Cond.classLink RX1 38 "[[I" ∈ tb := mt 274 (by decide +kernel) rfl
theorem dX1_init_0 : decode cX1_init 0 = .ok (.aload_n 0, 1) := by decide +kernel
theorem dX1_init_1 : decode cX1_init 1 = .ok (.invokespecial 3, 3) := by decide +kernel
theorem dX1_init_4 : decode cX1_init 4 = .ok (.aload_n 0, 1) := by decide +kernel
theorem dX1_init_5 : decode cX1_init 5 = .ok (.new 9, 3) := by decide +kernel
theorem dX1_init_8 : decode cX1_init 8 = .ok (.dup, 1) := by decide +kernel
theorem dX1_init_9 : decode cX1_init 9 = .ok (.invokespecial 11, 3) := by decide +kernel
theorem dX1_init_12 : decode cX1_init 12 = .ok (.putfield 12, 3) := by decide +kernel
theorem dX1_init_15 : decode cX1_init 15 = .ok (.aload_n 0, 1) := by decide +kernel
theorem dX1_init_16 : decode cX1_init 16 = .ok (.new 9, 3) := by decide +kernel
theorem dX1_init_19 : decode cX1_init 19 = .ok (.dup, 1) := by decide +kernel
theorem dX1_init_20 : decode cX1_init 20 = .ok (.invokespecial 11, 3) := by decide +kernel
theorem dX1_init_23 : decode cX1_init 23 = .ok (.putfield 18, 3) := by decide +kernel
theorem dX1_init_26 : decode cX1_init 26 = .ok (.aload_n 0, 1) := by decide +kernel
theorem dX1_init_27 : decode cX1_init 27 = .ok (.new 9, 3) := by decide +kernel
theorem dX1_init_30 : decode cX1_init 30 = .ok (.dup, 1) := by decide +kernel
theorem dX1_init_31 : decode cX1_init 31 = .ok (.invokespecial 11, 3) := by decide +kernel
theorem dX1_init_34 : decode cX1_init 34 = .ok (.putfield 21, 3) := by decide +kernel
theorem dX1_init_37 : decode cX1_init 37 = .ok (.aload_n 0, 1) := by decide +kernel
theorem dX1_init_38 : decode cX1_init 38 = .ok (.bipush 6, 2) := by decide +kernel
theorem dX1_init_40 : decode cX1_init 40 = .ok (.newarray .int, 2) := by decide +kernel
theorem dX1_init_42 : decode cX1_init 42 = .ok (.putfield 24, 3) := by decide +kernel
theorem dX1_init_45 : decode cX1_init 45 = .ok (.aload_n 0, 1) := by decide +kernel
theorem dX1_init_46 : decode cX1_init 46 = .ok (.bipush 6, 2) := by decide +kernel
theorem dX1_init_48 : decode cX1_init 48 = .ok (.newarray .int, 2) := by decide +kernel
theorem dX1_init_50 : decode cX1_init 50 = .ok (.putfield 28, 3) := by decide +kernel
theorem dX1_init_53 : decode cX1_init 53 = .ok (.aload_n 0, 1) := by decide +kernel
theorem dX1_init_54 : decode cX1_init 54 = .ok (.bipush 6, 2) := by decide +kernel
theorem dX1_init_56 : decode cX1_init 56 = .ok (.newarray .int, 2) := by decide +kernel
theorem dX1_init_58 : decode cX1_init 58 = .ok (.putfield 31, 3) := by decide +kernel
theorem dX1_init_61 : decode cX1_init 61 = .ok (.aload_n 0, 1) := by decide +kernel
theorem dX1_init_62 : decode cX1_init 62 = .ok (.iconst 0, 1) := by decide +kernel
theorem dX1_init_63 : decode cX1_init 63 = .ok (.putfield 34, 3) := by decide +kernel
theorem dX1_init_66 : decode cX1_init 66 = .ok (.aload_n 0, 1) := by decide +kernel
theorem dX1_init_67 : decode cX1_init 67 = .ok (.bipush 25, 2) := by decide +kernel
theorem dX1_init_69 : decode cX1_init 69 = .ok (.sipush 325, 3) := by decide +kernel
theorem dX1_init_72 : decode cX1_init 72 = .ok (.multianewarray 38 2, 4) := by decide +kernel
theorem dX1_init_76 : decode cX1_init 76 = .ok (.putfield 40, 3) := by decide +kernel
theorem dX1_init_79 : decode cX1_init 79 = .ok (.aload_n 0, 1) := by decide +kernel
theorem dX1_init_80 : decode cX1_init 80 = .ok (.iconst 5, 1) := by decide +kernel
theorem dX1_init_81 : decode cX1_init 81 = .ok (.newarray .int, 2) := by decide +kernel
theorem dX1_init_83 : decode cX1_init 83 = .ok (.putfield 43, 3) := by decide +kernel
theorem dX1_init_86 : decode cX1_init 86 = .ok (.aload_n 0, 1) := by decide +kernel
theorem dX1_init_87 : decode cX1_init 87 = .ok (.iconst 4, 1) := by decide +kernel
theorem dX1_init_88 : decode cX1_init 88 = .ok (.newarray .int, 2) := by decide +kernel
theorem dX1_init_90 : decode cX1_init 90 = .ok (.putfield 46, 3) := by decide +kernel
theorem dX1_init_93 : decode cX1_init 93 = .ok (.return_, 1) := by decide +kernel
abbrev md_k_Judge : Nat → Nat → Bool := mdf [(12, 0), (12, 1), (12, 2), (12, 3), (12, 4), (12, 5), (12, 6), (12, 7), (12, 8), (12, 9), (13, 0), (13, 1), (13, 2), (13, 3), (14, 0), (14, 1), (14, 2), (14, 3), (14, 4), (14, 5), (14, 6), (14, 7), (14, 8), (14, 9), (14, 10), (14, 11), (14, 12), (14, 13), (14, 14), (16, 0), (16, 1), (16, 2), (16, 3), (16, 4), (16, 5), (16, 6), (16, 7), (44, 99)]
theorem mdle_k_Judge_s_World {r k : Nat} (h : md_k_Judge r k = false) : md_s_World r k = false := mdf_le (by decide +kernel) h
set_option maxHeartbeats 4000000 in
set_option maxRecDepth 100000 in
theorem k_Judge (l : Launch) (D : va_G) (cI cZ cS cR : ClassId) (N0 : NT) (g : GS) (hI : Inv g) (h : Nat) (r_h : g.1 h = 12) : Ty l D cI cZ cS cR N0 yX1_init cX1_init 1 none 3 256 12041 [.ref h] g (fun v g' => v = none ∧ Inv g' ∧ Exx h g g' ∧ Sm md_k_Judge g g' ∧ g'.1 h = 2) := by
  refine t_enter (by decide) (Nat.le_of_ble_eq_true rfl) ?_
  intro p e s m args below meth c ls H locs hB hr hin hl hT
  have hx := hB.1
  have hb := hB.2.1
  have hl : lv_has ls 1 [(0, .ref h)] := hl
  have hE : Ex g g := Ex.rf
  have hM : Sm md_k_Judge g g := Sm.rf
  refine lv_aload_n hx hb dX1_init_0 rfl (lv_at hl 0 rfl) ?_
  refine t_oinit hB k_271 k_78 k_79 hl.1 dX1_init_1 (Nat.le_of_ble_eq_true rfl) (Nat.le_of_ble_eq_true rfl) ?_
  refine lv_aload_n hx hb dX1_init_4 rfl (lv_at hl 0 rfl) ?_
  refine t_new (ci := 5) (fs := [.null, .int 0, .int 0, .null, .int 0, .int 0, .int 0, .int 0]) hB hT rfl (by decide) k_272 k_103 k_59 (fnew_5) (Nat.le_of_ble_eq_true rfl) (Nat.le_of_ble_eq_true rfl) dX1_init_5 (fun q_1 H o_q_1 hT => ?_)
  have z_q_1 : g.1 q_1 = 0 := hE.z0 o_q_1
  have hI : Inv (sN g q_1 16 (vp_V [.null, .int 0, .int 0, .null, .int 0, .int 0, .int 0, .int 0])) := hI.newo o_q_1 (fun _ => rfl) (fun _ => trivial) (fun _ _ => trivial)
  have hM : Sm md_k_Judge g (sN g q_1 16 (vp_V [.null, .int 0, .int 0, .null, .int 0, .int 0, .int 0, .int 0])) := hM.tr hE (Sm.push o_q_1 sN_g)
  have hE : Ex g (sN g q_1 16 (vp_V [.null, .int 0, .int 0, .null, .int 0, .int 0, .int 0, .int 0])) := hE.tr (Ex.push o_q_1 sN_g)
  have r_2 : (sN g q_1 16 (vp_V [.null, .int 0, .int 0, .null, .int 0, .int 0, .int 0, .int 0])).1 h = 12 := ((sN_g h (ne0 r_h o_q_1 (by decide))).1.trans r_h)
  have r_3 : (sN g q_1 16 (vp_V [.null, .int 0, .int 0, .null, .int 0, .int 0, .int 0, .int 0])).1 q_1 = 16 := sN_r
  have kn_4 : (sN g q_1 16 (vp_V [.null, .int 0, .int 0, .null, .int 0, .int 0, .int 0, .int 0])).2.1 q_1 0 = .null := sN_f
  have kn_5 : (sN g q_1 16 (vp_V [.null, .int 0, .int 0, .null, .int 0, .int 0, .int 0, .int 0])).2.1 q_1 1 = .int 0 := sN_f
  have kn_6 : (sN g q_1 16 (vp_V [.null, .int 0, .int 0, .null, .int 0, .int 0, .int 0, .int 0])).2.1 q_1 2 = .int 0 := sN_f
  have kn_7 : (sN g q_1 16 (vp_V [.null, .int 0, .int 0, .null, .int 0, .int 0, .int 0, .int 0])).2.1 q_1 3 = .null := sN_f
  have kn_8 : (sN g q_1 16 (vp_V [.null, .int 0, .int 0, .null, .int 0, .int 0, .int 0, .int 0])).2.1 q_1 4 = .int 0 := sN_f
  have kn_9 : (sN g q_1 16 (vp_V [.null, .int 0, .int 0, .null, .int 0, .int 0, .int 0, .int 0])).2.1 q_1 5 = .int 0 := sN_f
  have kn_10 : (sN g q_1 16 (vp_V [.null, .int 0, .int 0, .null, .int 0, .int 0, .int 0, .int 0])).2.1 q_1 6 = .int 0 := sN_f
  have kn_11 : (sN g q_1 16 (vp_V [.null, .int 0, .int 0, .null, .int 0, .int 0, .int 0, .int 0])).2.1 q_1 7 = .int 0 := sN_f
  generalize (sN g q_1 16 (vp_V [.null, .int 0, .int 0, .null, .int 0, .int 0, .int 0, .int 0])) = g_12 at hT hI hM hE r_2 r_3 kn_4 kn_5 kn_6 kn_7 kn_8 kn_9 kn_10 kn_11
  refine W.widen (k := 1) (n := 8) (Nat.le_of_ble_eq_true rfl) (Nat.le_of_ble_eq_true rfl) ?_
  refine lv_dup hx hb dX1_init_8 rfl ?_
  refine t_callI (n := 0) (As := []) (rest := [.ref q_1, .ref h]) hB hT hl.1 (s_World l D cI cZ cS cR N0 g_12 hI q_1 r_3) k_106 k_59 k_273 k_105 rfl (by decide +kernel) ⟨(Nat.le_of_ble_eq_true rfl), (Nat.le_of_ble_eq_true rfl)⟩ rfl (Nat.le_of_ble_eq_true rfl) ⟨(Nat.le_of_ble_eq_true rfl), (Nat.le_of_ble_eq_true rfl)⟩ dX1_init_9 (fun v g_13 H locs hp hT => ?_)
  obtain ⟨rfl, hI, x_15, m_14, r_16⟩ := hp
  have hM : Sm md_k_Judge g g_13 := hM.tr hE (m_14.mo (fun r k h => mdle_k_Judge_s_World h))
  have hE : Ex g g_13 := hE.trx z_q_1 x_15
  have r_17 : g_13.1 h = 12 := (Exx.r x_15 r_2 (by decide) (ro_ne r_2 r_3 (by decide)))
  have r_18 : g_13.1 q_1 = 6 := r_16
  refine W.eq (g2 := F0 m 12 ls [.ref q_1, .ref h]) rfl ?_
  refine t_put0 (ci := 1) (v := .ref q_1) hB hT (ro_ci r_17 rfl) (ro_n0 r_17 (by decide)) rfl 0 (by decide) k_276 (Or.inr ⟨hin, rfl⟩) rfl rfl dX1_init_12 (fun H locs hT => ?_)
  have hI : Inv (sF g_13 h 0 (.ref q_1)) := hI.sF (fk r_17 (show fsm _ _ ft from trivial))
  have hM : Sm md_k_Judge g (sF g_13 h 0 (.ref q_1)) := hM.tr hE (Sm_sF (by rw [r_17]; rfl))
  have hE : Ex g (sF g_13 h 0 (.ref q_1)) := hE
  refine lv_aload_n hx hb dX1_init_15 rfl (lv_at hl 0 rfl) ?_
  refine t_new (ci := 5) (fs := [.null, .int 0, .int 0, .null, .int 0, .int 0, .int 0, .int 0]) hB hT rfl (by decide) k_272 k_103 k_59 (fnew_5) (Nat.le_of_ble_eq_true rfl) (Nat.le_of_ble_eq_true rfl) dX1_init_16 (fun q_19 H o_q_19 hT => ?_)
  have z_q_19 : g.1 q_19 = 0 := hE.z0 o_q_19
  have hI : Inv (sN (sF g_13 h 0 (.ref q_1)) q_19 16 (vp_V [.null, .int 0, .int 0, .null, .int 0, .int 0, .int 0, .int 0])) := hI.newo o_q_19 (fun _ => rfl) (fun _ => trivial) (fun _ _ => trivial)
  have hM : Sm md_k_Judge g (sN (sF g_13 h 0 (.ref q_1)) q_19 16 (vp_V [.null, .int 0, .int 0, .null, .int 0, .int 0, .int 0, .int 0])) := hM.tr hE (Sm.push o_q_19 sN_g)
  have hE : Ex g (sN (sF g_13 h 0 (.ref q_1)) q_19 16 (vp_V [.null, .int 0, .int 0, .null, .int 0, .int 0, .int 0, .int 0])) := hE.tr (Ex.push o_q_19 sN_g)
  have r_20 : (sN (sF g_13 h 0 (.ref q_1)) q_19 16 (vp_V [.null, .int 0, .int 0, .null, .int 0, .int 0, .int 0, .int 0])).1 h = 12 := ((sN_g h (ne0 r_17 o_q_19 (by decide))).1.trans r_17)
  have r_21 : (sN (sF g_13 h 0 (.ref q_1)) q_19 16 (vp_V [.null, .int 0, .int 0, .null, .int 0, .int 0, .int 0, .int 0])).1 q_1 = 6 := ((sN_g q_1 (ne0 r_18 o_q_19 (by decide))).1.trans r_18)
  have r_22 : (sN (sF g_13 h 0 (.ref q_1)) q_19 16 (vp_V [.null, .int 0, .int 0, .null, .int 0, .int 0, .int 0, .int 0])).1 q_19 = 16 := sN_r
  have kn_23 : (sN (sF g_13 h 0 (.ref q_1)) q_19 16 (vp_V [.null, .int 0, .int 0, .null, .int 0, .int 0, .int 0, .int 0])).2.1 h 0 = .ref q_1 := ((congrFun (sN_g h (ne0 r_17 o_q_19 (by decide))).2.1 0).trans sF_eq)
  have kn_24 : (sN (sF g_13 h 0 (.ref q_1)) q_19 16 (vp_V [.null, .int 0, .int 0, .null, .int 0, .int 0, .int 0, .int 0])).2.1 q_19 0 = .null := sN_f
  have kn_25 : (sN (sF g_13 h 0 (.ref q_1)) q_19 16 (vp_V [.null, .int 0, .int 0, .null, .int 0, .int 0, .int 0, .int 0])).2.1 q_19 1 = .int 0 := sN_f
  have kn_26 : (sN (sF g_13 h 0 (.ref q_1)) q_19 16 (vp_V [.null, .int 0, .int 0, .null, .int 0, .int 0, .int 0, .int 0])).2.1 q_19 2 = .int 0 := sN_f
  have kn_27 : (sN (sF g_13 h 0 (.ref q_1)) q_19 16 (vp_V [.null, .int 0, .int 0, .null, .int 0, .int 0, .int 0, .int 0])).2.1 q_19 3 = .null := sN_f
  have kn_28 : (sN (sF g_13 h 0 (.ref q_1)) q_19 16 (vp_V [.null, .int 0, .int 0, .null, .int 0, .int 0, .int 0, .int 0])).2.1 q_19 4 = .int 0 := sN_f
  have kn_29 : (sN (sF g_13 h 0 (.ref q_1)) q_19 16 (vp_V [.null, .int 0, .int 0, .null, .int 0, .int 0, .int 0, .int 0])).2.1 q_19 5 = .int 0 := sN_f
  have kn_30 : (sN (sF g_13 h 0 (.ref q_1)) q_19 16 (vp_V [.null, .int 0, .int 0, .null, .int 0, .int 0, .int 0, .int 0])).2.1 q_19 6 = .int 0 := sN_f
  have kn_31 : (sN (sF g_13 h 0 (.ref q_1)) q_19 16 (vp_V [.null, .int 0, .int 0, .null, .int 0, .int 0, .int 0, .int 0])).2.1 q_19 7 = .int 0 := sN_f
  generalize (sN (sF g_13 h 0 (.ref q_1)) q_19 16 (vp_V [.null, .int 0, .int 0, .null, .int 0, .int 0, .int 0, .int 0])) = g_32 at hT hI hM hE r_20 r_21 r_22 kn_23 kn_24 kn_25 kn_26 kn_27 kn_28 kn_29 kn_30 kn_31
  refine W.widen (k := 76) (n := 1296) (Nat.le_of_ble_eq_true rfl) (Nat.le_of_ble_eq_true rfl) ?_
  refine lv_dup hx hb dX1_init_19 rfl ?_
  refine t_callI (n := 0) (As := []) (rest := [.ref q_19, .ref h]) hB hT hl.1 (s_World l D cI cZ cS cR N0 g_32 hI q_19 r_22) k_106 k_59 k_273 k_105 rfl (by decide +kernel) ⟨(Nat.le_of_ble_eq_true rfl), (Nat.le_of_ble_eq_true rfl)⟩ rfl (Nat.le_of_ble_eq_true rfl) ⟨(Nat.le_of_ble_eq_true rfl), (Nat.le_of_ble_eq_true rfl)⟩ dX1_init_20 (fun v g_33 H locs hp hT => ?_)
  obtain ⟨rfl, hI, x_35, m_34, r_36⟩ := hp
  have hM : Sm md_k_Judge g g_33 := hM.tr hE (m_34.mo (fun r k h => mdle_k_Judge_s_World h))
  have hE : Ex g g_33 := hE.trx z_q_19 x_35
  have r_37 : g_33.1 h = 12 := (Exx.r x_35 r_20 (by decide) (ro_ne r_20 r_22 (by decide)))
  have r_38 : g_33.1 q_1 = 6 := (Exx.r x_35 r_21 (by decide) (ro_ne r_21 r_22 (by decide)))
  have r_39 : g_33.1 q_19 = 6 := r_36
  have kn_40 : g_33.2.1 h 0 = .ref q_1 := (Sm.v m_34 r_20 (by decide) rfl kn_23)
  refine W.eq (g2 := F0 m 23 ls [.ref q_19, .ref h]) rfl ?_
  refine t_put0 (ci := 1) (v := .ref q_19) hB hT (ro_ci r_37 rfl) (ro_n0 r_37 (by decide)) rfl 1 (by decide) k_278 (Or.inr ⟨hin, rfl⟩) rfl rfl dX1_init_23 (fun H locs hT => ?_)
  have hI : Inv (sF g_33 h 1 (.ref q_19)) := hI.sF (fk r_37 (show fsm _ _ ft from trivial))
  have hM : Sm md_k_Judge g (sF g_33 h 1 (.ref q_19)) := hM.tr hE (Sm_sF (by rw [r_37]; rfl))
  have hE : Ex g (sF g_33 h 1 (.ref q_19)) := hE
  refine lv_aload_n hx hb dX1_init_26 rfl (lv_at hl 0 rfl) ?_
  refine t_new (ci := 5) (fs := [.null, .int 0, .int 0, .null, .int 0, .int 0, .int 0, .int 0]) hB hT rfl (by decide) k_272 k_103 k_59 (fnew_5) (Nat.le_of_ble_eq_true rfl) (Nat.le_of_ble_eq_true rfl) dX1_init_27 (fun q_41 H o_q_41 hT => ?_)
  have z_q_41 : g.1 q_41 = 0 := hE.z0 o_q_41
  have hI : Inv (sN (sF g_33 h 1 (.ref q_19)) q_41 16 (vp_V [.null, .int 0, .int 0, .null, .int 0, .int 0, .int 0, .int 0])) := hI.newo o_q_41 (fun _ => rfl) (fun _ => trivial) (fun _ _ => trivial)
  have hM : Sm md_k_Judge g (sN (sF g_33 h 1 (.ref q_19)) q_41 16 (vp_V [.null, .int 0, .int 0, .null, .int 0, .int 0, .int 0, .int 0])) := hM.tr hE (Sm.push o_q_41 sN_g)
  have hE : Ex g (sN (sF g_33 h 1 (.ref q_19)) q_41 16 (vp_V [.null, .int 0, .int 0, .null, .int 0, .int 0, .int 0, .int 0])) := hE.tr (Ex.push o_q_41 sN_g)
  have r_42 : (sN (sF g_33 h 1 (.ref q_19)) q_41 16 (vp_V [.null, .int 0, .int 0, .null, .int 0, .int 0, .int 0, .int 0])).1 h = 12 := ((sN_g h (ne0 r_37 o_q_41 (by decide))).1.trans r_37)
  have r_43 : (sN (sF g_33 h 1 (.ref q_19)) q_41 16 (vp_V [.null, .int 0, .int 0, .null, .int 0, .int 0, .int 0, .int 0])).1 q_1 = 6 := ((sN_g q_1 (ne0 r_38 o_q_41 (by decide))).1.trans r_38)
  have r_44 : (sN (sF g_33 h 1 (.ref q_19)) q_41 16 (vp_V [.null, .int 0, .int 0, .null, .int 0, .int 0, .int 0, .int 0])).1 q_19 = 6 := ((sN_g q_19 (ne0 r_39 o_q_41 (by decide))).1.trans r_39)
  have r_45 : (sN (sF g_33 h 1 (.ref q_19)) q_41 16 (vp_V [.null, .int 0, .int 0, .null, .int 0, .int 0, .int 0, .int 0])).1 q_41 = 16 := sN_r
  have kn_46 : (sN (sF g_33 h 1 (.ref q_19)) q_41 16 (vp_V [.null, .int 0, .int 0, .null, .int 0, .int 0, .int 0, .int 0])).2.1 h 0 = .ref q_1 := ((congrFun (sN_g h (ne0 r_37 o_q_41 (by decide))).2.1 0).trans (sF_k kn_40 (by decide)))
  have kn_47 : (sN (sF g_33 h 1 (.ref q_19)) q_41 16 (vp_V [.null, .int 0, .int 0, .null, .int 0, .int 0, .int 0, .int 0])).2.1 h 1 = .ref q_19 := ((congrFun (sN_g h (ne0 r_37 o_q_41 (by decide))).2.1 1).trans sF_eq)
  have kn_48 : (sN (sF g_33 h 1 (.ref q_19)) q_41 16 (vp_V [.null, .int 0, .int 0, .null, .int 0, .int 0, .int 0, .int 0])).2.1 q_41 0 = .null := sN_f
  have kn_49 : (sN (sF g_33 h 1 (.ref q_19)) q_41 16 (vp_V [.null, .int 0, .int 0, .null, .int 0, .int 0, .int 0, .int 0])).2.1 q_41 1 = .int 0 := sN_f
  have kn_50 : (sN (sF g_33 h 1 (.ref q_19)) q_41 16 (vp_V [.null, .int 0, .int 0, .null, .int 0, .int 0, .int 0, .int 0])).2.1 q_41 2 = .int 0 := sN_f
  have kn_51 : (sN (sF g_33 h 1 (.ref q_19)) q_41 16 (vp_V [.null, .int 0, .int 0, .null, .int 0, .int 0, .int 0, .int 0])).2.1 q_41 3 = .null := sN_f
  have kn_52 : (sN (sF g_33 h 1 (.ref q_19)) q_41 16 (vp_V [.null, .int 0, .int 0, .null, .int 0, .int 0, .int 0, .int 0])).2.1 q_41 4 = .int 0 := sN_f
  have kn_53 : (sN (sF g_33 h 1 (.ref q_19)) q_41 16 (vp_V [.null, .int 0, .int 0, .null, .int 0, .int 0, .int 0, .int 0])).2.1 q_41 5 = .int 0 := sN_f
  have kn_54 : (sN (sF g_33 h 1 (.ref q_19)) q_41 16 (vp_V [.null, .int 0, .int 0, .null, .int 0, .int 0, .int 0, .int 0])).2.1 q_41 6 = .int 0 := sN_f
  have kn_55 : (sN (sF g_33 h 1 (.ref q_19)) q_41 16 (vp_V [.null, .int 0, .int 0, .null, .int 0, .int 0, .int 0, .int 0])).2.1 q_41 7 = .int 0 := sN_f
  generalize (sN (sF g_33 h 1 (.ref q_19)) q_41 16 (vp_V [.null, .int 0, .int 0, .null, .int 0, .int 0, .int 0, .int 0])) = g_56 at hT hI hM hE r_42 r_43 r_44 r_45 kn_46 kn_47 kn_48 kn_49 kn_50 kn_51 kn_52 kn_53 kn_54 kn_55
  refine W.widen (k := 151) (n := 2584) (Nat.le_of_ble_eq_true rfl) (Nat.le_of_ble_eq_true rfl) ?_
  refine lv_dup hx hb dX1_init_30 rfl ?_
  refine t_callI (n := 0) (As := []) (rest := [.ref q_41, .ref h]) hB hT hl.1 (s_World l D cI cZ cS cR N0 g_56 hI q_41 r_45) k_106 k_59 k_273 k_105 rfl (by decide +kernel) ⟨(Nat.le_of_ble_eq_true rfl), (Nat.le_of_ble_eq_true rfl)⟩ rfl (Nat.le_of_ble_eq_true rfl) ⟨(Nat.le_of_ble_eq_true rfl), (Nat.le_of_ble_eq_true rfl)⟩ dX1_init_31 (fun v g_57 H locs hp hT => ?_)
  obtain ⟨rfl, hI, x_59, m_58, r_60⟩ := hp
  have hM : Sm md_k_Judge g g_57 := hM.tr hE (m_58.mo (fun r k h => mdle_k_Judge_s_World h))
  have hE : Ex g g_57 := hE.trx z_q_41 x_59
  have r_61 : g_57.1 h = 12 := (Exx.r x_59 r_42 (by decide) (ro_ne r_42 r_45 (by decide)))
  have r_62 : g_57.1 q_1 = 6 := (Exx.r x_59 r_43 (by decide) (ro_ne r_43 r_45 (by decide)))
  have r_63 : g_57.1 q_19 = 6 := (Exx.r x_59 r_44 (by decide) (ro_ne r_44 r_45 (by decide)))
  have r_64 : g_57.1 q_41 = 6 := r_60
  have kn_65 : g_57.2.1 h 0 = .ref q_1 := (Sm.v m_58 r_42 (by decide) rfl kn_46)
  have kn_66 : g_57.2.1 h 1 = .ref q_19 := (Sm.v m_58 r_42 (by decide) rfl kn_47)
  refine W.eq (g2 := F0 m 34 ls [.ref q_41, .ref h]) rfl ?_
  refine t_put0 (ci := 1) (v := .ref q_41) hB hT (ro_ci r_61 rfl) (ro_n0 r_61 (by decide)) rfl 2 (by decide) k_279 (Or.inr ⟨hin, rfl⟩) rfl rfl dX1_init_34 (fun H locs hT => ?_)
  have hI : Inv (sF g_57 h 2 (.ref q_41)) := hI.sF (fk r_61 (show fsm _ _ ft from trivial))
  have hM : Sm md_k_Judge g (sF g_57 h 2 (.ref q_41)) := hM.tr hE (Sm_sF (by rw [r_61]; rfl))
  have hE : Ex g (sF g_57 h 2 (.ref q_41)) := hE
  refine lv_aload_n hx hb dX1_init_37 rfl (lv_at hl 0 rfl) ?_
  refine lv_bipush (v := 6) hx hb dX1_init_38 (by decide) ?_
  refine t_newi (N' := 6) hB hT 50 (by decide) k_101 (by decide) (by decide) (by decide) (Nat.le_of_ble_eq_true rfl) (Nat.le_of_ble_eq_true rfl) dX1_init_40 (fun q_67 H o_q_67 hT => ?_)
  have z_q_67 : g.1 q_67 = 0 := hE.z0 o_q_67
  have hI : Inv (sA (sF g_57 h 2 (.ref q_41)) q_67 50 6) := hI.newi o_q_67 (by decide) (fun _ => rfl) trivial (fun _ => trivial)
  have hM : Sm md_k_Judge g (sA (sF g_57 h 2 (.ref q_41)) q_67 50 6) := hM.tr hE (Sm.push o_q_67 sA_g)
  have hE : Ex g (sA (sF g_57 h 2 (.ref q_41)) q_67 50 6) := hE.tr (Ex.push o_q_67 sA_g)
  have r_68 : (sA (sF g_57 h 2 (.ref q_41)) q_67 50 6).1 h = 12 := ((sA_g h (ne0 r_61 o_q_67 (by decide))).1.trans r_61)
  have r_69 : (sA (sF g_57 h 2 (.ref q_41)) q_67 50 6).1 q_1 = 6 := ((sA_g q_1 (ne0 r_62 o_q_67 (by decide))).1.trans r_62)
  have r_70 : (sA (sF g_57 h 2 (.ref q_41)) q_67 50 6).1 q_19 = 6 := ((sA_g q_19 (ne0 r_63 o_q_67 (by decide))).1.trans r_63)
  have r_71 : (sA (sF g_57 h 2 (.ref q_41)) q_67 50 6).1 q_41 = 6 := ((sA_g q_41 (ne0 r_64 o_q_67 (by decide))).1.trans r_64)
  have r_72 : (sA (sF g_57 h 2 (.ref q_41)) q_67 50 6).1 q_67 = 50 := sA_r
  have n_73 : (sA (sF g_57 h 2 (.ref q_41)) q_67 50 6).2.2.1 q_67 = 6 := sA_n
  have kn_74 : (sA (sF g_57 h 2 (.ref q_41)) q_67 50 6).2.1 h 0 = .ref q_1 := ((congrFun (sA_g h (ne0 r_61 o_q_67 (by decide))).2.1 0).trans (sF_k kn_65 (by decide)))
  have kn_75 : (sA (sF g_57 h 2 (.ref q_41)) q_67 50 6).2.1 h 1 = .ref q_19 := ((congrFun (sA_g h (ne0 r_61 o_q_67 (by decide))).2.1 1).trans (sF_k kn_66 (by decide)))
  have kn_76 : (sA (sF g_57 h 2 (.ref q_41)) q_67 50 6).2.1 h 2 = .ref q_41 := ((congrFun (sA_g h (ne0 r_61 o_q_67 (by decide))).2.1 2).trans sF_eq)
  generalize (sA (sF g_57 h 2 (.ref q_41)) q_67 50 6) = g_77 at hT hI hM hE r_68 r_69 r_70 r_71 r_72 n_73 kn_74 kn_75 kn_76
  refine W.widen (k := 226) (n := 3870) (Nat.le_of_ble_eq_true rfl) (Nat.le_of_ble_eq_true rfl) ?_
  refine t_put0 (ci := 1) (v := .ref q_67) hB hT (ro_ci r_68 rfl) (ro_n0 r_68 (by decide)) rfl 3 (by decide) k_280 (Or.inr ⟨hin, rfl⟩) rfl rfl dX1_init_42 (fun H locs hT => ?_)
  have hI : Inv (sF g_77 h 3 (.ref q_67)) := hI.sF (fk r_68 (show fsm _ _ ft from trivial))
  have hM : Sm md_k_Judge g (sF g_77 h 3 (.ref q_67)) := hM.tr hE (Sm_sF (by rw [r_68]; rfl))
  have hE : Ex g (sF g_77 h 3 (.ref q_67)) := hE
  refine lv_aload_n hx hb dX1_init_45 rfl (lv_at hl 0 rfl) ?_
  refine lv_bipush (v := 6) hx hb dX1_init_46 (by decide) ?_
  refine t_newi (N' := 6) hB hT 50 (by decide) k_101 (by decide) (by decide) (by decide) (Nat.le_of_ble_eq_true rfl) (Nat.le_of_ble_eq_true rfl) dX1_init_48 (fun q_78 H o_q_78 hT => ?_)
  have z_q_78 : g.1 q_78 = 0 := hE.z0 o_q_78
  have hI : Inv (sA (sF g_77 h 3 (.ref q_67)) q_78 50 6) := hI.newi o_q_78 (by decide) (fun _ => rfl) trivial (fun _ => trivial)
  have hM : Sm md_k_Judge g (sA (sF g_77 h 3 (.ref q_67)) q_78 50 6) := hM.tr hE (Sm.push o_q_78 sA_g)
  have hE : Ex g (sA (sF g_77 h 3 (.ref q_67)) q_78 50 6) := hE.tr (Ex.push o_q_78 sA_g)
  have r_79 : (sA (sF g_77 h 3 (.ref q_67)) q_78 50 6).1 h = 12 := ((sA_g h (ne0 r_68 o_q_78 (by decide))).1.trans r_68)
  have r_80 : (sA (sF g_77 h 3 (.ref q_67)) q_78 50 6).1 q_1 = 6 := ((sA_g q_1 (ne0 r_69 o_q_78 (by decide))).1.trans r_69)
  have r_81 : (sA (sF g_77 h 3 (.ref q_67)) q_78 50 6).1 q_19 = 6 := ((sA_g q_19 (ne0 r_70 o_q_78 (by decide))).1.trans r_70)
  have r_82 : (sA (sF g_77 h 3 (.ref q_67)) q_78 50 6).1 q_41 = 6 := ((sA_g q_41 (ne0 r_71 o_q_78 (by decide))).1.trans r_71)
  have r_83 : (sA (sF g_77 h 3 (.ref q_67)) q_78 50 6).1 q_67 = 50 := ((sA_g q_67 (ne0 r_72 o_q_78 (by decide))).1.trans r_72)
  have r_84 : (sA (sF g_77 h 3 (.ref q_67)) q_78 50 6).1 q_78 = 50 := sA_r
  have n_85 : (sA (sF g_77 h 3 (.ref q_67)) q_78 50 6).2.2.1 q_67 = 6 := ((sA_g q_67 (ne0 r_72 o_q_78 (by decide))).2.2.1.trans n_73)
  have n_86 : (sA (sF g_77 h 3 (.ref q_67)) q_78 50 6).2.2.1 q_78 = 6 := sA_n
  have kn_87 : (sA (sF g_77 h 3 (.ref q_67)) q_78 50 6).2.1 h 0 = .ref q_1 := ((congrFun (sA_g h (ne0 r_68 o_q_78 (by decide))).2.1 0).trans (sF_k kn_74 (by decide)))
  have kn_88 : (sA (sF g_77 h 3 (.ref q_67)) q_78 50 6).2.1 h 1 = .ref q_19 := ((congrFun (sA_g h (ne0 r_68 o_q_78 (by decide))).2.1 1).trans (sF_k kn_75 (by decide)))
  have kn_89 : (sA (sF g_77 h 3 (.ref q_67)) q_78 50 6).2.1 h 2 = .ref q_41 := ((congrFun (sA_g h (ne0 r_68 o_q_78 (by decide))).2.1 2).trans (sF_k kn_76 (by decide)))
  have kn_90 : (sA (sF g_77 h 3 (.ref q_67)) q_78 50 6).2.1 h 3 = .ref q_67 := ((congrFun (sA_g h (ne0 r_68 o_q_78 (by decide))).2.1 3).trans sF_eq)
  generalize (sA (sF g_77 h 3 (.ref q_67)) q_78 50 6) = g_91 at hT hI hM hE r_79 r_80 r_81 r_82 r_83 r_84 n_85 n_86 kn_87 kn_88 kn_89 kn_90
  refine W.widen (k := 227) (n := 3876) (Nat.le_of_ble_eq_true rfl) (Nat.le_of_ble_eq_true rfl) ?_
  refine t_put0 (ci := 1) (v := .ref q_78) hB hT (ro_ci r_79 rfl) (ro_n0 r_79 (by decide)) rfl 4 (by decide) k_281 (Or.inr ⟨hin, rfl⟩) rfl rfl dX1_init_50 (fun H locs hT => ?_)
  have hI : Inv (sF g_91 h 4 (.ref q_78)) := hI.sF (fk r_79 (show fsm _ _ ft from trivial))
  have hM : Sm md_k_Judge g (sF g_91 h 4 (.ref q_78)) := hM.tr hE (Sm_sF (by rw [r_79]; rfl))
  have hE : Ex g (sF g_91 h 4 (.ref q_78)) := hE
  refine lv_aload_n hx hb dX1_init_53 rfl (lv_at hl 0 rfl) ?_
  refine lv_bipush (v := 6) hx hb dX1_init_54 (by decide) ?_
  refine t_newi (N' := 6) hB hT 50 (by decide) k_101 (by decide) (by decide) (by decide) (Nat.le_of_ble_eq_true rfl) (Nat.le_of_ble_eq_true rfl) dX1_init_56 (fun q_92 H o_q_92 hT => ?_)
  have z_q_92 : g.1 q_92 = 0 := hE.z0 o_q_92
  have hI : Inv (sA (sF g_91 h 4 (.ref q_78)) q_92 50 6) := hI.newi o_q_92 (by decide) (fun _ => rfl) trivial (fun _ => trivial)
  have hM : Sm md_k_Judge g (sA (sF g_91 h 4 (.ref q_78)) q_92 50 6) := hM.tr hE (Sm.push o_q_92 sA_g)
  have hE : Ex g (sA (sF g_91 h 4 (.ref q_78)) q_92 50 6) := hE.tr (Ex.push o_q_92 sA_g)
  have r_93 : (sA (sF g_91 h 4 (.ref q_78)) q_92 50 6).1 h = 12 := ((sA_g h (ne0 r_79 o_q_92 (by decide))).1.trans r_79)
  have r_94 : (sA (sF g_91 h 4 (.ref q_78)) q_92 50 6).1 q_1 = 6 := ((sA_g q_1 (ne0 r_80 o_q_92 (by decide))).1.trans r_80)
  have r_95 : (sA (sF g_91 h 4 (.ref q_78)) q_92 50 6).1 q_19 = 6 := ((sA_g q_19 (ne0 r_81 o_q_92 (by decide))).1.trans r_81)
  have r_96 : (sA (sF g_91 h 4 (.ref q_78)) q_92 50 6).1 q_41 = 6 := ((sA_g q_41 (ne0 r_82 o_q_92 (by decide))).1.trans r_82)
  have r_97 : (sA (sF g_91 h 4 (.ref q_78)) q_92 50 6).1 q_67 = 50 := ((sA_g q_67 (ne0 r_83 o_q_92 (by decide))).1.trans r_83)
  have r_98 : (sA (sF g_91 h 4 (.ref q_78)) q_92 50 6).1 q_78 = 50 := ((sA_g q_78 (ne0 r_84 o_q_92 (by decide))).1.trans r_84)
  have r_99 : (sA (sF g_91 h 4 (.ref q_78)) q_92 50 6).1 q_92 = 50 := sA_r
  have n_100 : (sA (sF g_91 h 4 (.ref q_78)) q_92 50 6).2.2.1 q_67 = 6 := ((sA_g q_67 (ne0 r_83 o_q_92 (by decide))).2.2.1.trans n_85)
  have n_101 : (sA (sF g_91 h 4 (.ref q_78)) q_92 50 6).2.2.1 q_78 = 6 := ((sA_g q_78 (ne0 r_84 o_q_92 (by decide))).2.2.1.trans n_86)
  have n_102 : (sA (sF g_91 h 4 (.ref q_78)) q_92 50 6).2.2.1 q_92 = 6 := sA_n
  have kn_103 : (sA (sF g_91 h 4 (.ref q_78)) q_92 50 6).2.1 h 0 = .ref q_1 := ((congrFun (sA_g h (ne0 r_79 o_q_92 (by decide))).2.1 0).trans (sF_k kn_87 (by decide)))
  have kn_104 : (sA (sF g_91 h 4 (.ref q_78)) q_92 50 6).2.1 h 1 = .ref q_19 := ((congrFun (sA_g h (ne0 r_79 o_q_92 (by decide))).2.1 1).trans (sF_k kn_88 (by decide)))
  have kn_105 : (sA (sF g_91 h 4 (.ref q_78)) q_92 50 6).2.1 h 2 = .ref q_41 := ((congrFun (sA_g h (ne0 r_79 o_q_92 (by decide))).2.1 2).trans (sF_k kn_89 (by decide)))
  have kn_106 : (sA (sF g_91 h 4 (.ref q_78)) q_92 50 6).2.1 h 3 = .ref q_67 := ((congrFun (sA_g h (ne0 r_79 o_q_92 (by decide))).2.1 3).trans (sF_k kn_90 (by decide)))
  have kn_107 : (sA (sF g_91 h 4 (.ref q_78)) q_92 50 6).2.1 h 4 = .ref q_78 := ((congrFun (sA_g h (ne0 r_79 o_q_92 (by decide))).2.1 4).trans sF_eq)
  generalize (sA (sF g_91 h 4 (.ref q_78)) q_92 50 6) = g_108 at hT hI hM hE r_93 r_94 r_95 r_96 r_97 r_98 r_99 n_100 n_101 n_102 kn_103 kn_104 kn_105 kn_106 kn_107
  refine W.widen (k := 228) (n := 3882) (Nat.le_of_ble_eq_true rfl) (Nat.le_of_ble_eq_true rfl) ?_
  refine t_put0 (ci := 1) (v := .ref q_92) hB hT (ro_ci r_93 rfl) (ro_n0 r_93 (by decide)) rfl 5 (by decide) k_282 (Or.inr ⟨hin, rfl⟩) rfl rfl dX1_init_58 (fun H locs hT => ?_)
  have hI : Inv (sF g_108 h 5 (.ref q_92)) := hI.sF (fk r_93 (show fsm _ _ ft from trivial))
  have hM : Sm md_k_Judge g (sF g_108 h 5 (.ref q_92)) := hM.tr hE (Sm_sF (by rw [r_93]; rfl))
  have hE : Ex g (sF g_108 h 5 (.ref q_92)) := hE
  refine lv_aload_n hx hb dX1_init_61 rfl (lv_at hl 0 rfl) ?_
  refine lv_iconst (v := 0) hx hb dX1_init_62 (by decide) ?_
  refine t_put0 (ci := 1) (v := .int 0) hB hT (ro_ci r_93 rfl) (ro_n0 r_93 (by decide)) rfl 6 (by decide) k_283 (Or.inl rfl) rfl rfl dX1_init_63 (fun H locs hT => ?_)
  have hI : Inv (sF (sF g_108 h 5 (.ref q_92)) h 6 (.int 0)) := hI.sF (fk r_93 (show fsm _ _ ft from trivial))
  have hM : Sm md_k_Judge g (sF (sF g_108 h 5 (.ref q_92)) h 6 (.int 0)) := hM.tr hE (Sm_sF (by rw [r_93]; rfl))
  have hE : Ex g (sF (sF g_108 h 5 (.ref q_92)) h 6 (.int 0)) := hE
  refine lv_aload_n hx hb dX1_init_66 rfl (lv_at hl 0 rfl) ?_
  refine lv_bipush (v := 25) hx hb dX1_init_67 (by decide) ?_
  refine lv_sipush (v := 325) hx hb dX1_init_69 (by decide) ?_
  refine t_mna (N' := 25) (K' := 325) hB hT k_274 k_101 (by decide) (by decide) (by decide) (by decide) (by decide) (by decide) (Nat.le_of_ble_eq_true rfl) (Nat.le_of_ble_eq_true rfl) dX1_init_72 (fun q_109 H locs o_q_109 hT => ?_)
  have z_q_109 : g.1 q_109 = 0 := hE.z0 (o_q_109 q_109 (Nat.le_refl _))
  have hI : Inv (sM (sF (sF g_108 h 5 (.ref q_92)) h 6 (.int 0)) q_109 25 325) := hI.sM o_q_109
  have hM : Sm md_k_Judge g (sM (sF (sF g_108 h 5 (.ref q_92)) h 6 (.int 0)) q_109 25 325) := hM.tr hE (sM_s o_q_109)
  have hE : Ex g (sM (sF (sF g_108 h 5 (.ref q_92)) h 6 (.int 0)) q_109 25 325) := hE.tr (sM_x o_q_109)
  have r_110 : (sM (sF (sF g_108 h 5 (.ref q_92)) h 6 (.int 0)) q_109 25 325).1 h = 12 := (Ex.r (sM_x o_q_109) r_93 (by decide))
  have r_111 : (sM (sF (sF g_108 h 5 (.ref q_92)) h 6 (.int 0)) q_109 25 325).1 q_1 = 6 := (Ex.r (sM_x o_q_109) r_94 (by decide))
  have r_112 : (sM (sF (sF g_108 h 5 (.ref q_92)) h 6 (.int 0)) q_109 25 325).1 q_19 = 6 := (Ex.r (sM_x o_q_109) r_95 (by decide))
  have r_113 : (sM (sF (sF g_108 h 5 (.ref q_92)) h 6 (.int 0)) q_109 25 325).1 q_41 = 6 := (Ex.r (sM_x o_q_109) r_96 (by decide))
  have r_114 : (sM (sF (sF g_108 h 5 (.ref q_92)) h 6 (.int 0)) q_109 25 325).1 q_67 = 50 := (Ex.r (sM_x o_q_109) r_97 (by decide))
  have r_115 : (sM (sF (sF g_108 h 5 (.ref q_92)) h 6 (.int 0)) q_109 25 325).1 q_78 = 50 := (Ex.r (sM_x o_q_109) r_98 (by decide))
  have r_116 : (sM (sF (sF g_108 h 5 (.ref q_92)) h 6 (.int 0)) q_109 25 325).1 q_92 = 50 := (Ex.r (sM_x o_q_109) r_99 (by decide))
  have r_117 : (sM (sF (sF g_108 h 5 (.ref q_92)) h 6 (.int 0)) q_109 25 325).1 q_109 = 43 := sM_r
  have n_118 : (sM (sF (sF g_108 h 5 (.ref q_92)) h 6 (.int 0)) q_109 25 325).2.2.1 q_67 = 6 := (Ex.n (sM_x o_q_109) r_97 (by decide) n_100)
  have n_119 : (sM (sF (sF g_108 h 5 (.ref q_92)) h 6 (.int 0)) q_109 25 325).2.2.1 q_78 = 6 := (Ex.n (sM_x o_q_109) r_98 (by decide) n_101)
  have n_120 : (sM (sF (sF g_108 h 5 (.ref q_92)) h 6 (.int 0)) q_109 25 325).2.2.1 q_92 = 6 := (Ex.n (sM_x o_q_109) r_99 (by decide) n_102)
  have n_121 : (sM (sF (sF g_108 h 5 (.ref q_92)) h 6 (.int 0)) q_109 25 325).2.2.1 q_109 = 25 := sM_n
  have kn_122 : (sM (sF (sF g_108 h 5 (.ref q_92)) h 6 (.int 0)) q_109 25 325).2.1 h 0 = .ref q_1 := (sF_k (sF_k kn_103 (by decide)) (by decide))
  have kn_123 : (sM (sF (sF g_108 h 5 (.ref q_92)) h 6 (.int 0)) q_109 25 325).2.1 h 1 = .ref q_19 := (sF_k (sF_k kn_104 (by decide)) (by decide))
  have kn_124 : (sM (sF (sF g_108 h 5 (.ref q_92)) h 6 (.int 0)) q_109 25 325).2.1 h 2 = .ref q_41 := (sF_k (sF_k kn_105 (by decide)) (by decide))
  have kn_125 : (sM (sF (sF g_108 h 5 (.ref q_92)) h 6 (.int 0)) q_109 25 325).2.1 h 3 = .ref q_67 := (sF_k (sF_k kn_106 (by decide)) (by decide))
  have kn_126 : (sM (sF (sF g_108 h 5 (.ref q_92)) h 6 (.int 0)) q_109 25 325).2.1 h 4 = .ref q_78 := (sF_k (sF_k kn_107 (by decide)) (by decide))
  have kn_127 : (sM (sF (sF g_108 h 5 (.ref q_92)) h 6 (.int 0)) q_109 25 325).2.1 h 5 = .ref q_92 := (sF_k sF_eq (by decide))
  have kn_128 : (sM (sF (sF g_108 h 5 (.ref q_92)) h 6 (.int 0)) q_109 25 325).2.1 h 6 = .int 0 := sF_eq
  generalize (sM (sF (sF g_108 h 5 (.ref q_92)) h 6 (.int 0)) q_109 25 325) = g_129 at hT hI hM hE r_110 r_111 r_112 r_113 r_114 r_115 r_116 r_117 n_118 n_119 n_120 n_121 kn_122 kn_123 kn_124 kn_125 kn_126 kn_127 kn_128
  refine W.widen (k := 254) (n := 12032) (Nat.le_of_ble_eq_true rfl) (Nat.le_of_ble_eq_true rfl) ?_
  refine t_put0 (ci := 1) (v := .ref q_109) hB hT (ro_ci r_110 rfl) (ro_n0 r_110 (by decide)) rfl 7 (by decide) k_284 (Or.inr ⟨hin, rfl⟩) rfl rfl dX1_init_76 (fun H locs hT => ?_)
  have hI : Inv (sF g_129 h 7 (.ref q_109)) := hI.sF (fk r_110 (show fsm _ _ ft from trivial))
  have hM : Sm md_k_Judge g (sF g_129 h 7 (.ref q_109)) := hM.tr hE (Sm_sF (by rw [r_110]; rfl))
  have hE : Ex g (sF g_129 h 7 (.ref q_109)) := hE
  refine lv_aload_n hx hb dX1_init_79 rfl (lv_at hl 0 rfl) ?_
  refine lv_iconst (v := 5) hx hb dX1_init_80 (by decide) ?_
  refine t_newi (N' := 5) hB hT 52 (by decide) k_101 (by decide) (by decide) (by decide) (Nat.le_of_ble_eq_true rfl) (Nat.le_of_ble_eq_true rfl) dX1_init_81 (fun q_130 H o_q_130 hT => ?_)
  have z_q_130 : g.1 q_130 = 0 := hE.z0 o_q_130
  have hI : Inv (sA (sF g_129 h 7 (.ref q_109)) q_130 52 5) := hI.newi o_q_130 (by decide) (fun _ => rfl) ⟨by decide, by decide⟩ (fun _ => trivial)
  have hM : Sm md_k_Judge g (sA (sF g_129 h 7 (.ref q_109)) q_130 52 5) := hM.tr hE (Sm.push o_q_130 sA_g)
  have hE : Ex g (sA (sF g_129 h 7 (.ref q_109)) q_130 52 5) := hE.tr (Ex.push o_q_130 sA_g)
  have r_131 : (sA (sF g_129 h 7 (.ref q_109)) q_130 52 5).1 h = 12 := ((sA_g h (ne0 r_110 o_q_130 (by decide))).1.trans r_110)
  have r_132 : (sA (sF g_129 h 7 (.ref q_109)) q_130 52 5).1 q_1 = 6 := ((sA_g q_1 (ne0 r_111 o_q_130 (by decide))).1.trans r_111)
  have r_133 : (sA (sF g_129 h 7 (.ref q_109)) q_130 52 5).1 q_19 = 6 := ((sA_g q_19 (ne0 r_112 o_q_130 (by decide))).1.trans r_112)
  have r_134 : (sA (sF g_129 h 7 (.ref q_109)) q_130 52 5).1 q_41 = 6 := ((sA_g q_41 (ne0 r_113 o_q_130 (by decide))).1.trans r_113)
  have r_135 : (sA (sF g_129 h 7 (.ref q_109)) q_130 52 5).1 q_67 = 50 := ((sA_g q_67 (ne0 r_114 o_q_130 (by decide))).1.trans r_114)
  have r_136 : (sA (sF g_129 h 7 (.ref q_109)) q_130 52 5).1 q_78 = 50 := ((sA_g q_78 (ne0 r_115 o_q_130 (by decide))).1.trans r_115)
  have r_137 : (sA (sF g_129 h 7 (.ref q_109)) q_130 52 5).1 q_92 = 50 := ((sA_g q_92 (ne0 r_116 o_q_130 (by decide))).1.trans r_116)
  have r_138 : (sA (sF g_129 h 7 (.ref q_109)) q_130 52 5).1 q_109 = 43 := ((sA_g q_109 (ne0 r_117 o_q_130 (by decide))).1.trans r_117)
  have r_139 : (sA (sF g_129 h 7 (.ref q_109)) q_130 52 5).1 q_130 = 52 := sA_r
  have n_140 : (sA (sF g_129 h 7 (.ref q_109)) q_130 52 5).2.2.1 q_67 = 6 := ((sA_g q_67 (ne0 r_114 o_q_130 (by decide))).2.2.1.trans n_118)
  have n_141 : (sA (sF g_129 h 7 (.ref q_109)) q_130 52 5).2.2.1 q_78 = 6 := ((sA_g q_78 (ne0 r_115 o_q_130 (by decide))).2.2.1.trans n_119)
  have n_142 : (sA (sF g_129 h 7 (.ref q_109)) q_130 52 5).2.2.1 q_92 = 6 := ((sA_g q_92 (ne0 r_116 o_q_130 (by decide))).2.2.1.trans n_120)
  have n_143 : (sA (sF g_129 h 7 (.ref q_109)) q_130 52 5).2.2.1 q_109 = 25 := ((sA_g q_109 (ne0 r_117 o_q_130 (by decide))).2.2.1.trans n_121)
  have n_144 : (sA (sF g_129 h 7 (.ref q_109)) q_130 52 5).2.2.1 q_130 = 5 := sA_n
  have kn_145 : (sA (sF g_129 h 7 (.ref q_109)) q_130 52 5).2.1 h 0 = .ref q_1 := ((congrFun (sA_g h (ne0 r_110 o_q_130 (by decide))).2.1 0).trans (sF_k kn_122 (by decide)))
  have kn_146 : (sA (sF g_129 h 7 (.ref q_109)) q_130 52 5).2.1 h 1 = .ref q_19 := ((congrFun (sA_g h (ne0 r_110 o_q_130 (by decide))).2.1 1).trans (sF_k kn_123 (by decide)))
  have kn_147 : (sA (sF g_129 h 7 (.ref q_109)) q_130 52 5).2.1 h 2 = .ref q_41 := ((congrFun (sA_g h (ne0 r_110 o_q_130 (by decide))).2.1 2).trans (sF_k kn_124 (by decide)))
  have kn_148 : (sA (sF g_129 h 7 (.ref q_109)) q_130 52 5).2.1 h 3 = .ref q_67 := ((congrFun (sA_g h (ne0 r_110 o_q_130 (by decide))).2.1 3).trans (sF_k kn_125 (by decide)))
  have kn_149 : (sA (sF g_129 h 7 (.ref q_109)) q_130 52 5).2.1 h 4 = .ref q_78 := ((congrFun (sA_g h (ne0 r_110 o_q_130 (by decide))).2.1 4).trans (sF_k kn_126 (by decide)))
  have kn_150 : (sA (sF g_129 h 7 (.ref q_109)) q_130 52 5).2.1 h 5 = .ref q_92 := ((congrFun (sA_g h (ne0 r_110 o_q_130 (by decide))).2.1 5).trans (sF_k kn_127 (by decide)))
  have kn_151 : (sA (sF g_129 h 7 (.ref q_109)) q_130 52 5).2.1 h 6 = .int 0 := ((congrFun (sA_g h (ne0 r_110 o_q_130 (by decide))).2.1 6).trans (sF_k kn_128 (by decide)))
  have kn_152 : (sA (sF g_129 h 7 (.ref q_109)) q_130 52 5).2.1 h 7 = .ref q_109 := ((congrFun (sA_g h (ne0 r_110 o_q_130 (by decide))).2.1 7).trans sF_eq)
  generalize (sA (sF g_129 h 7 (.ref q_109)) q_130 52 5) = g_153 at hT hI hM hE r_131 r_132 r_133 r_134 r_135 r_136 r_137 r_138 r_139 n_140 n_141 n_142 n_143 n_144 kn_145 kn_146 kn_147 kn_148 kn_149 kn_150 kn_151 kn_152
  refine W.widen (k := 255) (n := 12037) (Nat.le_of_ble_eq_true rfl) (Nat.le_of_ble_eq_true rfl) ?_
  refine t_put0 (ci := 1) (v := .ref q_130) hB hT (ro_ci r_131 rfl) (ro_n0 r_131 (by decide)) rfl 8 (by decide) k_285 (Or.inr ⟨hin, rfl⟩) rfl rfl dX1_init_83 (fun H locs hT => ?_)
  have hI : Inv (sF g_153 h 8 (.ref q_130)) := hI.sF (fk r_131 (show fsm _ _ ft from trivial))
  have hM : Sm md_k_Judge g (sF g_153 h 8 (.ref q_130)) := hM.tr hE (Sm_sF (by rw [r_131]; rfl))
  have hE : Ex g (sF g_153 h 8 (.ref q_130)) := hE
  refine lv_aload_n hx hb dX1_init_86 rfl (lv_at hl 0 rfl) ?_
  refine lv_iconst (v := 4) hx hb dX1_init_87 (by decide) ?_
  refine t_newi (N' := 4) hB hT 50 (by decide) k_101 (by decide) (by decide) (by decide) (Nat.le_of_ble_eq_true rfl) (Nat.le_of_ble_eq_true rfl) dX1_init_88 (fun q_154 H o_q_154 hT => ?_)
  have z_q_154 : g.1 q_154 = 0 := hE.z0 o_q_154
  have hI : Inv (sA (sF g_153 h 8 (.ref q_130)) q_154 50 4) := hI.newi o_q_154 (by decide) (fun _ => rfl) trivial (fun _ => trivial)
  have hM : Sm md_k_Judge g (sA (sF g_153 h 8 (.ref q_130)) q_154 50 4) := hM.tr hE (Sm.push o_q_154 sA_g)
  have hE : Ex g (sA (sF g_153 h 8 (.ref q_130)) q_154 50 4) := hE.tr (Ex.push o_q_154 sA_g)
  have r_155 : (sA (sF g_153 h 8 (.ref q_130)) q_154 50 4).1 h = 12 := ((sA_g h (ne0 r_131 o_q_154 (by decide))).1.trans r_131)
  have r_156 : (sA (sF g_153 h 8 (.ref q_130)) q_154 50 4).1 q_1 = 6 := ((sA_g q_1 (ne0 r_132 o_q_154 (by decide))).1.trans r_132)
  have r_157 : (sA (sF g_153 h 8 (.ref q_130)) q_154 50 4).1 q_19 = 6 := ((sA_g q_19 (ne0 r_133 o_q_154 (by decide))).1.trans r_133)
  have r_158 : (sA (sF g_153 h 8 (.ref q_130)) q_154 50 4).1 q_41 = 6 := ((sA_g q_41 (ne0 r_134 o_q_154 (by decide))).1.trans r_134)
  have r_159 : (sA (sF g_153 h 8 (.ref q_130)) q_154 50 4).1 q_67 = 50 := ((sA_g q_67 (ne0 r_135 o_q_154 (by decide))).1.trans r_135)
  have r_160 : (sA (sF g_153 h 8 (.ref q_130)) q_154 50 4).1 q_78 = 50 := ((sA_g q_78 (ne0 r_136 o_q_154 (by decide))).1.trans r_136)
  have r_161 : (sA (sF g_153 h 8 (.ref q_130)) q_154 50 4).1 q_92 = 50 := ((sA_g q_92 (ne0 r_137 o_q_154 (by decide))).1.trans r_137)
  have r_162 : (sA (sF g_153 h 8 (.ref q_130)) q_154 50 4).1 q_109 = 43 := ((sA_g q_109 (ne0 r_138 o_q_154 (by decide))).1.trans r_138)
  have r_163 : (sA (sF g_153 h 8 (.ref q_130)) q_154 50 4).1 q_130 = 52 := ((sA_g q_130 (ne0 r_139 o_q_154 (by decide))).1.trans r_139)
  have r_164 : (sA (sF g_153 h 8 (.ref q_130)) q_154 50 4).1 q_154 = 50 := sA_r
  have n_165 : (sA (sF g_153 h 8 (.ref q_130)) q_154 50 4).2.2.1 q_67 = 6 := ((sA_g q_67 (ne0 r_135 o_q_154 (by decide))).2.2.1.trans n_140)
  have n_166 : (sA (sF g_153 h 8 (.ref q_130)) q_154 50 4).2.2.1 q_78 = 6 := ((sA_g q_78 (ne0 r_136 o_q_154 (by decide))).2.2.1.trans n_141)
  have n_167 : (sA (sF g_153 h 8 (.ref q_130)) q_154 50 4).2.2.1 q_92 = 6 := ((sA_g q_92 (ne0 r_137 o_q_154 (by decide))).2.2.1.trans n_142)
  have n_168 : (sA (sF g_153 h 8 (.ref q_130)) q_154 50 4).2.2.1 q_109 = 25 := ((sA_g q_109 (ne0 r_138 o_q_154 (by decide))).2.2.1.trans n_143)
  have n_169 : (sA (sF g_153 h 8 (.ref q_130)) q_154 50 4).2.2.1 q_130 = 5 := ((sA_g q_130 (ne0 r_139 o_q_154 (by decide))).2.2.1.trans n_144)
  have n_170 : (sA (sF g_153 h 8 (.ref q_130)) q_154 50 4).2.2.1 q_154 = 4 := sA_n
  have kn_171 : (sA (sF g_153 h 8 (.ref q_130)) q_154 50 4).2.1 h 0 = .ref q_1 := ((congrFun (sA_g h (ne0 r_131 o_q_154 (by decide))).2.1 0).trans (sF_k kn_145 (by decide)))
  have kn_172 : (sA (sF g_153 h 8 (.ref q_130)) q_154 50 4).2.1 h 1 = .ref q_19 := ((congrFun (sA_g h (ne0 r_131 o_q_154 (by decide))).2.1 1).trans (sF_k kn_146 (by decide)))
  have kn_173 : (sA (sF g_153 h 8 (.ref q_130)) q_154 50 4).2.1 h 2 = .ref q_41 := ((congrFun (sA_g h (ne0 r_131 o_q_154 (by decide))).2.1 2).trans (sF_k kn_147 (by decide)))
  have kn_174 : (sA (sF g_153 h 8 (.ref q_130)) q_154 50 4).2.1 h 3 = .ref q_67 := ((congrFun (sA_g h (ne0 r_131 o_q_154 (by decide))).2.1 3).trans (sF_k kn_148 (by decide)))
  have kn_175 : (sA (sF g_153 h 8 (.ref q_130)) q_154 50 4).2.1 h 4 = .ref q_78 := ((congrFun (sA_g h (ne0 r_131 o_q_154 (by decide))).2.1 4).trans (sF_k kn_149 (by decide)))
  have kn_176 : (sA (sF g_153 h 8 (.ref q_130)) q_154 50 4).2.1 h 5 = .ref q_92 := ((congrFun (sA_g h (ne0 r_131 o_q_154 (by decide))).2.1 5).trans (sF_k kn_150 (by decide)))
  have kn_177 : (sA (sF g_153 h 8 (.ref q_130)) q_154 50 4).2.1 h 6 = .int 0 := ((congrFun (sA_g h (ne0 r_131 o_q_154 (by decide))).2.1 6).trans (sF_k kn_151 (by decide)))
  have kn_178 : (sA (sF g_153 h 8 (.ref q_130)) q_154 50 4).2.1 h 7 = .ref q_109 := ((congrFun (sA_g h (ne0 r_131 o_q_154 (by decide))).2.1 7).trans (sF_k kn_152 (by decide)))
  have kn_179 : (sA (sF g_153 h 8 (.ref q_130)) q_154 50 4).2.1 h 8 = .ref q_130 := ((congrFun (sA_g h (ne0 r_131 o_q_154 (by decide))).2.1 8).trans sF_eq)
  generalize (sA (sF g_153 h 8 (.ref q_130)) q_154 50 4) = g_180 at hT hI hM hE r_155 r_156 r_157 r_158 r_159 r_160 r_161 r_162 r_163 r_164 n_165 n_166 n_167 n_168 n_169 n_170 kn_171 kn_172 kn_173 kn_174 kn_175 kn_176 kn_177 kn_178 kn_179
  refine W.widen (k := 256) (n := 12041) (Nat.le_of_ble_eq_true rfl) (Nat.le_of_ble_eq_true rfl) ?_
  refine t_put0 (ci := 1) (v := .ref q_154) hB hT (ro_ci r_155 rfl) (ro_n0 r_155 (by decide)) rfl 9 (by decide) k_286 (Or.inr ⟨hin, rfl⟩) rfl rfl dX1_init_90 (fun H locs hT => ?_)
  have hI : Inv (sF g_180 h 9 (.ref q_154)) := hI.sF (fk r_155 (show fsm _ _ ft from trivial))
  have hM : Sm md_k_Judge g (sF g_180 h 9 (.ref q_154)) := hM.tr hE (Sm_sF (by rw [r_155]; rfl))
  have hE : Ex g (sF g_180 h 9 (.ref q_154)) := hE
  have hF : ∀ k, Fok (sR (sF g_180 h 9 (.ref q_154)) h 2) 2 k ((sF g_180 h 9 (.ref q_154)).2.1 h k) := fun k => match k with
    | 0 => (by rw [(sF_k kn_171 (by decide))]; exact q_2_0 ⟨_, rfl, sR_r r_156 (ro_ne r_156 r_155 (by decide))⟩)
    | 1 => (by rw [(sF_k kn_172 (by decide))]; exact q_2_1 ⟨_, rfl, sR_r r_157 (ro_ne r_157 r_155 (by decide))⟩)
    | 2 => (by rw [(sF_k kn_173 (by decide))]; exact q_2_2 ⟨_, rfl, sR_r r_158 (ro_ne r_158 r_155 (by decide))⟩)
    | 3 => (by rw [(sF_k kn_174 (by decide))]; exact q_2_3 ⟨_, rfl, sR_r r_159 (ro_ne r_159 r_155 (by decide)), n_165⟩)
    | 4 => (by rw [(sF_k kn_175 (by decide))]; exact q_2_4 ⟨_, rfl, sR_r r_160 (ro_ne r_160 r_155 (by decide)), n_166⟩)
    | 5 => (by rw [(sF_k kn_176 (by decide))]; exact q_2_5 ⟨_, rfl, sR_r r_161 (ro_ne r_161 r_155 (by decide)), n_167⟩)
    | 6 => (by rw [(sF_k kn_177 (by decide))]; exact q_2_6 ⟨_, rfl⟩)
    | 7 => (by rw [(sF_k kn_178 (by decide))]; exact q_2_7 ⟨_, rfl, sR_r r_162 (ro_ne r_162 r_155 (by decide)), n_168⟩)
    | 8 => (by rw [(sF_k kn_179 (by decide))]; exact q_2_8 ⟨_, rfl, sR_r r_163 (ro_ne r_163 r_155 (by decide)), n_169⟩)
    | 9 => (by rw [sF_eq]; exact q_2_9 ⟨_, rfl, sR_r r_164 (ro_ne r_164 r_155 (by decide)), n_170⟩)
    | k + 10 => (show fsm _ _ ft from trivial)
  have hT : Tv D cI cZ cS cR N0 s.heap H locs (sR (sF g_180 h 9 (.ref q_154)) h 2) := ⟨hT.1.promo (by rw [r_155]; decide) (by rw [r_155]; rfl) (Or.inl (by decide)), hT.2⟩
  have hI : Inv (sR (sF g_180 h 9 (.ref q_154)) h 2) := hI.promo (by rw [r_155]; decide) hF (fun _ _ => trivial) (fun _ _ => trivial)
  have hM : Sm md_k_Judge g (sR (sF g_180 h 9 (.ref q_154)) h 2) := hM
  have hX : Exx h g (sR (sF g_180 h 9 (.ref q_154)) h 2) := Exx.promo hE
  exact t_vret hB hr hT (Nat.le_of_ble_eq_true rfl) (Nat.le_of_ble_eq_true rfl) dX1_init_93 ⟨rfl, hI, hX, hM, if_pos rfl⟩
