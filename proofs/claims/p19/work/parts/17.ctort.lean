theorem k_0 : Cond.selects RX4 yX4_readActs yX4_readActs ∈ tb := mt 0 (by decide +kernel) rfl
theorem k_77 : Cond.methodLink RX6 3 Lib.objectInit ∈ tb := mt 77 (by decide +kernel) rfl
theorem k_80 : Cond.classLink RX6 9 RX4 ∈ tb := mt 80 (by decide +kernel) rfl
theorem k_81 : Cond.instantiable RX4 4 ∈ tb := mt 81 (by decide +kernel) rfl
theorem k_83 : Cond.instanceMethod yX4_init ∈ tb := mt 83 (by decide +kernel) rfl
set_option maxRecDepth 20000 in
theorem k_84 : Cond.code yX4_init cX4_init 1 none ∈ tb := mt 84 rfl rfl
theorem k_102 : Cond.classLink RX6 16 RX5 ∈ tb := mt 102 (by decide +kernel) rfl
theorem k_104 : Cond.methodLink RX6 18 yX5_init ∈ tb := mt 104 (by decide +kernel) rfl
theorem k_234 : Cond.classLink RX6 23 RX0 ∈ tb := mt 234 (by decide +kernel) rfl
theorem k_235 : Cond.instantiable RX0 4 ∈ tb := mt 235 (by decide +kernel) rfl
theorem k_236 : Cond.methodLink RX6 25 yX0_init ∈ tb := mt 236 (by decide +kernel) rfl
theorem k_237 : Cond.instanceMethod yX0_init ∈ tb := mt 237 (by decide +kernel) rfl
set_option maxRecDepth 20000 in
theorem k_238 : Cond.code yX0_init cX0_init 3 none ∈ tb := mt 238 rfl rfl
theorem k_266 : Cond.classLink RX6 35 RX1 ∈ tb := mt 266 (by decide +kernel) rfl
theorem k_267 : Cond.instantiable RX1 10 ∈ tb := mt 267 (by decide +kernel) rfl
theorem k_269 : Cond.instanceMethod yX1_init ∈ tb := mt 269 (by decide +kernel) rfl
set_option maxRecDepth 20000 in
theorem k_270 : Cond.code yX1_init cX1_init 1 none ∈ tb := mt 270 rfl rfl
theorem k_308 : Cond.fieldLink RX6 12 "TwiceOnce" "tape" "LTwiceOnce$Tape;" ∈ tb := mt 308 (by decide +kernel) rfl
theorem k_309 : Cond.fieldLink RX6 19 "TwiceOnce" "now" "LTwiceOnce$World;" ∈ tb := mt 309 (by decide +kernel) rfl
theorem k_310 : Cond.fieldLink RX6 28 "TwiceOnce" "rowCalls" "LTwiceOnce$CallList;" ∈ tb := mt 310 (by decide +kernel) rfl
theorem k_311 : Cond.fieldLink RX6 32 "TwiceOnce" "logCalls" "LTwiceOnce$CallList;" ∈ tb := mt 311 (by decide +kernel) rfl
theorem k_312 : Cond.fieldLink RX6 38 "TwiceOnce" "judge" "LTwiceOnce$Judge;" ∈ tb := mt 312 (by decide +kernel) rfl
theorem k_313 : Cond.fieldLink RX6 42 "TwiceOnce" "prices" "[I" ∈ tb := mt 313 (by decide +kernel) rfl
theorem k_314 : Cond.fieldLink RX6 46 "TwiceOnce" "answersFree" "Z" ∈ tb := mt 314 (by decide +kernel) rfl
theorem k_347 : Cond.classLink RX4 27 RX2 ∈ tb := mt 347 (by decide +kernel) rfl
theorem k_349 : Cond.methodLink RX4 30 yX4_readActs ∈ tb := mt 349 (by decide +kernel) rfl
theorem k_351 : Cond.instanceMethod yX4_readActs ∈ tb := mt 351 (by decide +kernel) rfl
set_option maxRecDepth 20000 in
theorem k_352 : Cond.code yX4_readActs cX4_readActs 3 (some .boolean) ∈ tb := mt 352 rfl rfl
theorem dX6_init_0 : decode cX6_init 0 = .ok (.aload_n 0, 1) := by decide +kernel
theorem dX6_init_1 : decode cX6_init 1 = .ok (.invokespecial 3, 3) := by decide +kernel
theorem dX6_init_4 : decode cX6_init 4 = .ok (.aload_n 0, 1) := by decide +kernel
theorem dX6_init_5 : decode cX6_init 5 = .ok (.new 9, 3) := by decide +kernel
theorem dX6_init_8 : decode cX6_init 8 = .ok (.dup, 1) := by decide +kernel
theorem dX6_init_9 : decode cX6_init 9 = .ok (.invokespecial 11, 3) := by decide +kernel
theorem dX6_init_12 : decode cX6_init 12 = .ok (.putfield 12, 3) := by decide +kernel
theorem dX6_init_15 : decode cX6_init 15 = .ok (.aload_n 0, 1) := by decide +kernel
theorem dX6_init_16 : decode cX6_init 16 = .ok (.new 16, 3) := by decide +kernel
theorem dX6_init_19 : decode cX6_init 19 = .ok (.dup, 1) := by decide +kernel
theorem dX6_init_20 : decode cX6_init 20 = .ok (.invokespecial 18, 3) := by decide +kernel
theorem dX6_init_23 : decode cX6_init 23 = .ok (.putfield 19, 3) := by decide +kernel
theorem dX6_init_26 : decode cX6_init 26 = .ok (.aload_n 0, 1) := by decide +kernel
theorem dX6_init_27 : decode cX6_init 27 = .ok (.new 23, 3) := by decide +kernel
theorem dX6_init_30 : decode cX6_init 30 = .ok (.dup, 1) := by decide +kernel
theorem dX6_init_31 : decode cX6_init 31 = .ok (.bipush 6, 2) := by decide +kernel
theorem dX6_init_33 : decode cX6_init 33 = .ok (.invokespecial 25, 3) := by decide +kernel
theorem dX6_init_36 : decode cX6_init 36 = .ok (.putfield 28, 3) := by decide +kernel
theorem dX6_init_39 : decode cX6_init 39 = .ok (.aload_n 0, 1) := by decide +kernel
theorem dX6_init_40 : decode cX6_init 40 = .ok (.new 23, 3) := by decide +kernel
theorem dX6_init_43 : decode cX6_init 43 = .ok (.dup, 1) := by decide +kernel
theorem dX6_init_44 : decode cX6_init 44 = .ok (.bipush 20, 2) := by decide +kernel
theorem dX6_init_46 : decode cX6_init 46 = .ok (.invokespecial 25, 3) := by decide +kernel
theorem dX6_init_49 : decode cX6_init 49 = .ok (.putfield 32, 3) := by decide +kernel
theorem dX6_init_52 : decode cX6_init 52 = .ok (.aload_n 0, 1) := by decide +kernel
theorem dX6_init_53 : decode cX6_init 53 = .ok (.new 35, 3) := by decide +kernel
theorem dX6_init_56 : decode cX6_init 56 = .ok (.dup, 1) := by decide +kernel
theorem dX6_init_57 : decode cX6_init 57 = .ok (.invokespecial 37, 3) := by decide +kernel
theorem dX6_init_60 : decode cX6_init 60 = .ok (.putfield 38, 3) := by decide +kernel
theorem dX6_init_63 : decode cX6_init 63 = .ok (.aload_n 0, 1) := by decide +kernel
theorem dX6_init_64 : decode cX6_init 64 = .ok (.iconst 4, 1) := by decide +kernel
theorem dX6_init_65 : decode cX6_init 65 = .ok (.newarray .int, 2) := by decide +kernel
theorem dX6_init_67 : decode cX6_init 67 = .ok (.putfield 42, 3) := by decide +kernel
theorem dX6_init_70 : decode cX6_init 70 = .ok (.aload_n 0, 1) := by decide +kernel
theorem dX6_init_71 : decode cX6_init 71 = .ok (.iconst 0, 1) := by decide +kernel
theorem dX6_init_72 : decode cX6_init 72 = .ok (.putfield 46, 3) := by decide +kernel
theorem dX6_init_75 : decode cX6_init 75 = .ok (.iconst 0, 1) := by decide +kernel
theorem dX6_init_76 : decode cX6_init 76 = .ok (.istore_n 1, 1) := by decide +kernel
theorem dX6_init_77 : decode cX6_init 77 = .ok (.iload_n 1, 1) := by decide +kernel
theorem dX6_init_78 : decode cX6_init 78 = .ok (.iconst 4, 1) := by decide +kernel
theorem dX6_init_79 : decode cX6_init 79 = .ok (.if_icmp .ge 16, 3) := by decide +kernel
theorem dX6_init_82 : decode cX6_init 82 = .ok (.aload_n 0, 1) := by decide +kernel
theorem dX6_init_83 : decode cX6_init 83 = .ok (.getfield 42, 3) := by decide +kernel
theorem dX6_init_86 : decode cX6_init 86 = .ok (.iload_n 1, 1) := by decide +kernel
theorem dX6_init_87 : decode cX6_init 87 = .ok (.iconst 1, 1) := by decide +kernel
theorem dX6_init_88 : decode cX6_init 88 = .ok (.iastore, 1) := by decide +kernel
theorem dX6_init_89 : decode cX6_init 89 = .ok (.iinc 1 1, 3) := by decide +kernel
theorem dX6_init_92 : decode cX6_init 92 = .ok (.goto (-15), 3) := by decide +kernel
theorem dX6_init_95 : decode cX6_init 95 = .ok (.return_, 1) := by decide +kernel
theorem dX4_takeProgram_0 : decode cX4_takeProgram 0 = .ok (.new 27, 3) := by decide +kernel
theorem dX4_takeProgram_3 : decode cX4_takeProgram 3 = .ok (.dup, 1) := by decide +kernel
theorem dX4_takeProgram_4 : decode cX4_takeProgram 4 = .ok (.invokespecial 29, 3) := by decide +kernel
theorem dX4_takeProgram_7 : decode cX4_takeProgram 7 = .ok (.astore_n 1, 1) := by decide +kernel
theorem dX4_takeProgram_8 : decode cX4_takeProgram 8 = .ok (.aload_n 0, 1) := by decide +kernel
theorem dX4_takeProgram_9 : decode cX4_takeProgram 9 = .ok (.iconst 0, 1) := by decide +kernel
theorem dX4_takeProgram_10 : decode cX4_takeProgram 10 = .ok (.putfield 22, 3) := by decide +kernel
theorem dX4_takeProgram_13 : decode cX4_takeProgram 13 = .ok (.aload_n 0, 1) := by decide +kernel
theorem dX4_takeProgram_14 : decode cX4_takeProgram 14 = .ok (.aload_n 1, 1) := by decide +kernel
theorem dX4_takeProgram_15 : decode cX4_takeProgram 15 = .ok (.invokevirtual 30, 3) := by decide +kernel
theorem dX4_takeProgram_18 : decode cX4_takeProgram 18 = .ok (.ifCond .eq 18, 3) := by decide +kernel
theorem dX4_takeProgram_21 : decode cX4_takeProgram 21 = .ok (.aload_n 0, 1) := by decide +kernel
theorem dX4_takeProgram_22 : decode cX4_takeProgram 22 = .ok (.getfield 22, 3) := by decide +kernel
theorem dX4_takeProgram_25 : decode cX4_takeProgram 25 = .ok (.aload_n 0, 1) := by decide +kernel
theorem dX4_takeProgram_26 : decode cX4_takeProgram 26 = .ok (.getfield 15, 3) := by decide +kernel
theorem dX4_takeProgram_29 : decode cX4_takeProgram 29 = .ok (.if_icmp .ne 7, 3) := by decide +kernel
theorem dX4_takeProgram_36 : decode cX4_takeProgram 36 = .ok (.iconst 0, 1) := by decide +kernel
theorem dX4_takeProgram_37 : decode cX4_takeProgram 37 = .ok (.istore_n 2, 1) := by decide +kernel
theorem dX4_takeProgram_38 : decode cX4_takeProgram 38 = .ok (.aload_n 0, 1) := by decide +kernel
theorem dX4_takeProgram_39 : decode cX4_takeProgram 39 = .ok (.aload_n 0, 1) := by decide +kernel
theorem dX4_takeProgram_40 : decode cX4_takeProgram 40 = .ok (.getfield 22, 3) := by decide +kernel
theorem dX4_takeProgram_43 : decode cX4_takeProgram 43 = .ok (.putfield 19, 3) := by decide +kernel
theorem dX4_takeProgram_46 : decode cX4_takeProgram 46 = .ok (.aload_n 0, 1) := by decide +kernel
theorem dX4_takeProgram_47 : decode cX4_takeProgram 47 = .ok (.iconst 0, 1) := by decide +kernel
theorem dX4_takeProgram_48 : decode cX4_takeProgram 48 = .ok (.putfield 15, 3) := by decide +kernel
theorem dX4_takeProgram_51 : decode cX4_takeProgram 51 = .ok (.iload_n 2, 1) := by decide +kernel
theorem dX4_takeProgram_52 : decode cX4_takeProgram 52 = .ok (.ifCond .eq 7, 3) := by decide +kernel
theorem dX4_takeProgram_59 : decode cX4_takeProgram 59 = .ok (.aconst_null, 1) := by decide +kernel
theorem dX4_takeProgram_60 : decode cX4_takeProgram 60 = .ok (.areturn, 1) := by decide +kernel
theorem dX4_takeProgram_32 : decode cX4_takeProgram 32 = .ok (.iconst 1, 1) := by decide +kernel
theorem dX4_takeProgram_33 : decode cX4_takeProgram 33 = .ok (.goto 4, 3) := by decide +kernel
theorem dX4_takeProgram_55 : decode cX4_takeProgram 55 = .ok (.aload_n 1, 1) := by decide +kernel
theorem dX4_takeProgram_56 : decode cX4_takeProgram 56 = .ok (.goto 4, 3) := by decide +kernel
abbrev md_k_TwiceOnce : Nat → Nat → Bool := mdf [(11, 0), (11, 1), (11, 2), (11, 3), (12, 0), (12, 1), (12, 2), (12, 3), (12, 4), (12, 5), (12, 6), (12, 7), (12, 8), (12, 9), (13, 0), (13, 1), (13, 2), (13, 3), (14, 0), (14, 1), (14, 2), (14, 3), (14, 4), (14, 5), (14, 6), (14, 7), (14, 8), (14, 9), (14, 10), (14, 11), (14, 12), (14, 13), (14, 14), (15, 0), (15, 1), (15, 2), (15, 3), (16, 0), (16, 1), (16, 2), (16, 3), (16, 4), (16, 5), (16, 6), (16, 7), (17, 0), (17, 1), (17, 2), (17, 3), (17, 4), (17, 5), (17, 6), (44, 99), (60, 99)]
theorem mdle_k_TwiceOnce_k_Judge {r k : Nat} (h : md_k_TwiceOnce r k = false) : md_k_Judge r k = false := mdf_le (by decide +kernel) h
theorem mdle_k_TwiceOnce_k_Tape {r k : Nat} (h : md_k_TwiceOnce r k = false) : md_k_Tape r k = false := mdf_le (by decide +kernel) h
theorem mdle_k_TwiceOnce_l_CallList {r k : Nat} (h : md_k_TwiceOnce r k = false) : md_l_CallList r k = false := mdf_le (by decide +kernel) h
theorem mdle_k_TwiceOnce_n_World {r k : Nat} (h : md_k_TwiceOnce r k = false) : md_n_World r k = false := mdf_le (by decide +kernel) h
theorem mdle_k_TwiceOnce_s_CallList {r k : Nat} (h : md_k_TwiceOnce r k = false) : md_s_CallList r k = false := mdf_le (by decide +kernel) h
set_option maxHeartbeats 4000000 in
set_option maxRecDepth 100000 in
theorem k_TwiceOnce (l : Launch) (D : va_G) (cI cZ cS cR : ClassId) (N0 : NT) (g : GS) (hI : Inv g) (h : Nat) (r_h : g.1 h = 17) : Ty l D cI cZ cS cR N0 yX6_init cX6_init 2 none 4 343 13533 [.ref h] g (fun v g' => v = none ∧ Inv g' ∧ Exx h g g' ∧ Sm md_k_TwiceOnce g g' ∧ g'.1 h = 7 ∧ (g'.2.1 h 6 = .int 0) ∧ (PO 5 60 g' h)) := by
  refine t_enter (by decide) (Nat.le_of_ble_eq_true rfl) ?_
  intro p e s m args below meth c ls H locs hB hr hin hl hT
  have hx := hB.1
  have hb := hB.2.1
  have hl : lv_has ls 2 [(0, .ref h)] := hl
  have hE : Ex g g := Ex.rf
  have hM : Sm md_k_TwiceOnce g g := Sm.rf
  refine lv_aload_n hx hb dX6_init_0 rfl (lv_at hl 0 rfl) ?_
  refine t_oinit hB k_77 k_78 k_79 hl.1 dX6_init_1 (Nat.le_of_ble_eq_true rfl) (Nat.le_of_ble_eq_true rfl) ?_
  refine lv_aload_n hx hb dX6_init_4 rfl (lv_at hl 0 rfl) ?_
  refine t_new (ci := 4) (fs := [.null, .int 0, .int 0, .int 0]) hB hT rfl (by decide) k_80 k_81 k_58 (fnew_4) (Nat.le_of_ble_eq_true rfl) (Nat.le_of_ble_eq_true rfl) dX6_init_5 (fun q_1 H o_q_1 hT => ?_)
  have z_q_1 : g.1 q_1 = 0 := hE.z0 o_q_1
  have hI : Inv (sN g q_1 15 (vp_V [.null, .int 0, .int 0, .int 0])) := hI.newo o_q_1 (fun _ => rfl) (fun _ => trivial) (fun _ _ => trivial)
  have hM : Sm md_k_TwiceOnce g (sN g q_1 15 (vp_V [.null, .int 0, .int 0, .int 0])) := hM.tr hE (Sm.push o_q_1 sN_g)
  have hE : Ex g (sN g q_1 15 (vp_V [.null, .int 0, .int 0, .int 0])) := hE.tr (Ex.push o_q_1 sN_g)
  have r_2 : (sN g q_1 15 (vp_V [.null, .int 0, .int 0, .int 0])).1 h = 17 := ((sN_g h (ne0 r_h o_q_1 (by decide))).1.trans r_h)
  have r_3 : (sN g q_1 15 (vp_V [.null, .int 0, .int 0, .int 0])).1 q_1 = 15 := sN_r
  have kn_4 : (sN g q_1 15 (vp_V [.null, .int 0, .int 0, .int 0])).2.1 q_1 0 = .null := sN_f
  have kn_5 : (sN g q_1 15 (vp_V [.null, .int 0, .int 0, .int 0])).2.1 q_1 1 = .int 0 := sN_f
  have kn_6 : (sN g q_1 15 (vp_V [.null, .int 0, .int 0, .int 0])).2.1 q_1 2 = .int 0 := sN_f
  have kn_7 : (sN g q_1 15 (vp_V [.null, .int 0, .int 0, .int 0])).2.1 q_1 3 = .int 0 := sN_f
  generalize (sN g q_1 15 (vp_V [.null, .int 0, .int 0, .int 0])) = g_8 at hT hI hM hE r_2 r_3 kn_4 kn_5 kn_6 kn_7
  refine W.widen (k := 1) (n := 4) (Nat.le_of_ble_eq_true rfl) (Nat.le_of_ble_eq_true rfl) ?_
  refine lv_dup hx hb dX6_init_8 rfl ?_
  refine t_callIN (n := 0) (As := []) (rest := [.ref q_1, .ref h]) hB hT hl.1 (k_Tape l D cI cZ cS cR N0 g_8 hI q_1 r_3) k_84 k_58 hB.2.2.2.2.2.2.2.1.1 k_83 rfl (by decide +kernel) ⟨(Nat.le_of_ble_eq_true rfl), (Nat.le_of_ble_eq_true rfl)⟩ rfl (Nat.le_of_ble_eq_true rfl) ⟨(Nat.le_of_ble_eq_true rfl), (Nat.le_of_ble_eq_true rfl)⟩ dX6_init_9 (fun v g_9 H locs hp hT => ?_)
  obtain ⟨rfl, hI, x_11, m_10, r_12⟩ := hp
  have hM : Sm md_k_TwiceOnce g g_9 := hM.tr hE (m_10.mo (fun r k h => mdle_k_TwiceOnce_k_Tape h))
  have hE : Ex g g_9 := hE.trx z_q_1 x_11
  have r_13 : g_9.1 h = 17 := (Exx.r x_11 r_2 (by decide) (ro_ne r_2 r_3 (by decide)))
  have r_14 : g_9.1 q_1 = 5 := r_12
  refine W.eq (g2 := F0 m 12 ls [.ref q_1, .ref h]) rfl ?_
  refine t_put0 (ci := 6) (v := .ref q_1) hB hT (ro_ci r_13 rfl) (ro_n0 r_13 (by decide)) rfl 0 (by decide) k_308 (Or.inr ⟨hin, rfl⟩) rfl rfl dX6_init_12 (fun H locs hT => ?_)
  have hI : Inv (sF g_9 h 0 (.ref q_1)) := hI.sF (fk r_13 (show fsm _ _ ft from trivial))
  have hM : Sm md_k_TwiceOnce g (sF g_9 h 0 (.ref q_1)) := hM.tr hE (Sm_sF (by rw [r_13]; rfl))
  have hE : Ex g (sF g_9 h 0 (.ref q_1)) := hE
  refine lv_aload_n hx hb dX6_init_15 rfl (lv_at hl 0 rfl) ?_
  refine t_new (ci := 5) (fs := [.null, .int 0, .int 0, .null, .int 0, .int 0, .int 0, .int 0]) hB hT rfl (by decide) k_102 k_103 k_59 (fnew_5) (Nat.le_of_ble_eq_true rfl) (Nat.le_of_ble_eq_true rfl) dX6_init_16 (fun q_15 H o_q_15 hT => ?_)
  have z_q_15 : g.1 q_15 = 0 := hE.z0 o_q_15
  have hI : Inv (sN (sF g_9 h 0 (.ref q_1)) q_15 16 (vp_V [.null, .int 0, .int 0, .null, .int 0, .int 0, .int 0, .int 0])) := hI.newo o_q_15 (fun _ => rfl) (fun _ => trivial) (fun _ _ => trivial)
  have hM : Sm md_k_TwiceOnce g (sN (sF g_9 h 0 (.ref q_1)) q_15 16 (vp_V [.null, .int 0, .int 0, .null, .int 0, .int 0, .int 0, .int 0])) := hM.tr hE (Sm.push o_q_15 sN_g)
  have hE : Ex g (sN (sF g_9 h 0 (.ref q_1)) q_15 16 (vp_V [.null, .int 0, .int 0, .null, .int 0, .int 0, .int 0, .int 0])) := hE.tr (Ex.push o_q_15 sN_g)
  have r_16 : (sN (sF g_9 h 0 (.ref q_1)) q_15 16 (vp_V [.null, .int 0, .int 0, .null, .int 0, .int 0, .int 0, .int 0])).1 h = 17 := ((sN_g h (ne0 r_13 o_q_15 (by decide))).1.trans r_13)
  have r_17 : (sN (sF g_9 h 0 (.ref q_1)) q_15 16 (vp_V [.null, .int 0, .int 0, .null, .int 0, .int 0, .int 0, .int 0])).1 q_1 = 5 := ((sN_g q_1 (ne0 r_14 o_q_15 (by decide))).1.trans r_14)
  have r_18 : (sN (sF g_9 h 0 (.ref q_1)) q_15 16 (vp_V [.null, .int 0, .int 0, .null, .int 0, .int 0, .int 0, .int 0])).1 q_15 = 16 := sN_r
  have kn_19 : (sN (sF g_9 h 0 (.ref q_1)) q_15 16 (vp_V [.null, .int 0, .int 0, .null, .int 0, .int 0, .int 0, .int 0])).2.1 h 0 = .ref q_1 := ((congrFun (sN_g h (ne0 r_13 o_q_15 (by decide))).2.1 0).trans sF_eq)
  have kn_20 : (sN (sF g_9 h 0 (.ref q_1)) q_15 16 (vp_V [.null, .int 0, .int 0, .null, .int 0, .int 0, .int 0, .int 0])).2.1 q_15 0 = .null := sN_f
  have kn_21 : (sN (sF g_9 h 0 (.ref q_1)) q_15 16 (vp_V [.null, .int 0, .int 0, .null, .int 0, .int 0, .int 0, .int 0])).2.1 q_15 1 = .int 0 := sN_f
  have kn_22 : (sN (sF g_9 h 0 (.ref q_1)) q_15 16 (vp_V [.null, .int 0, .int 0, .null, .int 0, .int 0, .int 0, .int 0])).2.1 q_15 2 = .int 0 := sN_f
  have kn_23 : (sN (sF g_9 h 0 (.ref q_1)) q_15 16 (vp_V [.null, .int 0, .int 0, .null, .int 0, .int 0, .int 0, .int 0])).2.1 q_15 3 = .null := sN_f
  have kn_24 : (sN (sF g_9 h 0 (.ref q_1)) q_15 16 (vp_V [.null, .int 0, .int 0, .null, .int 0, .int 0, .int 0, .int 0])).2.1 q_15 4 = .int 0 := sN_f
  have kn_25 : (sN (sF g_9 h 0 (.ref q_1)) q_15 16 (vp_V [.null, .int 0, .int 0, .null, .int 0, .int 0, .int 0, .int 0])).2.1 q_15 5 = .int 0 := sN_f
  have kn_26 : (sN (sF g_9 h 0 (.ref q_1)) q_15 16 (vp_V [.null, .int 0, .int 0, .null, .int 0, .int 0, .int 0, .int 0])).2.1 q_15 6 = .int 0 := sN_f
  have kn_27 : (sN (sF g_9 h 0 (.ref q_1)) q_15 16 (vp_V [.null, .int 0, .int 0, .null, .int 0, .int 0, .int 0, .int 0])).2.1 q_15 7 = .int 0 := sN_f
  generalize (sN (sF g_9 h 0 (.ref q_1)) q_15 16 (vp_V [.null, .int 0, .int 0, .null, .int 0, .int 0, .int 0, .int 0])) = g_28 at hT hI hM hE r_16 r_17 r_18 kn_19 kn_20 kn_21 kn_22 kn_23 kn_24 kn_25 kn_26 kn_27
  refine W.widen (k := 3) (n := 112) (Nat.le_of_ble_eq_true rfl) (Nat.le_of_ble_eq_true rfl) ?_
  refine lv_dup hx hb dX6_init_19 rfl ?_
  refine t_callI (n := 0) (As := []) (rest := [.ref q_15, .ref h]) hB hT hl.1 (n_World l D cI cZ cS cR N0 g_28 hI q_15 r_18) k_106 k_59 k_104 k_105 rfl (by decide +kernel) ⟨(Nat.le_of_ble_eq_true rfl), (Nat.le_of_ble_eq_true rfl)⟩ rfl (Nat.le_of_ble_eq_true rfl) ⟨(Nat.le_of_ble_eq_true rfl), (Nat.le_of_ble_eq_true rfl)⟩ dX6_init_20 (fun v g_29 H locs hp hT => ?_)
  obtain ⟨rfl, hI, x_31, m_30, r_32⟩ := hp
  have hM : Sm md_k_TwiceOnce g g_29 := hM.tr hE (m_30.mo (fun r k h => mdle_k_TwiceOnce_n_World h))
  have hE : Ex g g_29 := hE.trx z_q_15 x_31
  have r_33 : g_29.1 h = 17 := (Exx.r x_31 r_16 (by decide) (ro_ne r_16 r_18 (by decide)))
  have r_34 : g_29.1 q_1 = 5 := (Exx.r x_31 r_17 (by decide) (ro_ne r_17 r_18 (by decide)))
  have r_35 : g_29.1 q_15 = 19 := r_32
  have kn_36 : g_29.2.1 h 0 = .ref q_1 := (Sm.v m_30 r_16 (by decide) rfl kn_19)
  refine W.eq (g2 := F0 m 23 ls [.ref q_15, .ref h]) rfl ?_
  refine t_put0 (ci := 6) (v := .ref q_15) hB hT (ro_ci r_33 rfl) (ro_n0 r_33 (by decide)) rfl 1 (by decide) k_309 (Or.inr ⟨hin, rfl⟩) rfl rfl dX6_init_23 (fun H locs hT => ?_)
  have hI : Inv (sF g_29 h 1 (.ref q_15)) := hI.sF (fk r_33 (show fsm _ _ ft from trivial))
  have hM : Sm md_k_TwiceOnce g (sF g_29 h 1 (.ref q_15)) := hM.tr hE (Sm_sF (by rw [r_33]; rfl))
  have hE : Ex g (sF g_29 h 1 (.ref q_15)) := hE
  refine lv_aload_n hx hb dX6_init_26 rfl (lv_at hl 0 rfl) ?_
  refine t_new (ci := 0) (fs := [.null, .null, .null, .int 0]) hB hT rfl (by decide) k_234 k_235 k_62 (fnew_0) (Nat.le_of_ble_eq_true rfl) (Nat.le_of_ble_eq_true rfl) dX6_init_27 (fun q_37 H o_q_37 hT => ?_)
  have z_q_37 : g.1 q_37 = 0 := hE.z0 o_q_37
  have hI : Inv (sN (sF g_29 h 1 (.ref q_15)) q_37 11 (vp_V [.null, .null, .null, .int 0])) := hI.newo o_q_37 (fun _ => rfl) (fun _ => trivial) (fun _ _ => trivial)
  have hM : Sm md_k_TwiceOnce g (sN (sF g_29 h 1 (.ref q_15)) q_37 11 (vp_V [.null, .null, .null, .int 0])) := hM.tr hE (Sm.push o_q_37 sN_g)
  have hE : Ex g (sN (sF g_29 h 1 (.ref q_15)) q_37 11 (vp_V [.null, .null, .null, .int 0])) := hE.tr (Ex.push o_q_37 sN_g)
  have r_38 : (sN (sF g_29 h 1 (.ref q_15)) q_37 11 (vp_V [.null, .null, .null, .int 0])).1 h = 17 := ((sN_g h (ne0 r_33 o_q_37 (by decide))).1.trans r_33)
  have r_39 : (sN (sF g_29 h 1 (.ref q_15)) q_37 11 (vp_V [.null, .null, .null, .int 0])).1 q_1 = 5 := ((sN_g q_1 (ne0 r_34 o_q_37 (by decide))).1.trans r_34)
  have r_40 : (sN (sF g_29 h 1 (.ref q_15)) q_37 11 (vp_V [.null, .null, .null, .int 0])).1 q_15 = 19 := ((sN_g q_15 (ne0 r_35 o_q_37 (by decide))).1.trans r_35)
  have r_41 : (sN (sF g_29 h 1 (.ref q_15)) q_37 11 (vp_V [.null, .null, .null, .int 0])).1 q_37 = 11 := sN_r
  have kn_42 : (sN (sF g_29 h 1 (.ref q_15)) q_37 11 (vp_V [.null, .null, .null, .int 0])).2.1 h 0 = .ref q_1 := ((congrFun (sN_g h (ne0 r_33 o_q_37 (by decide))).2.1 0).trans (sF_k kn_36 (by decide)))
  have kn_43 : (sN (sF g_29 h 1 (.ref q_15)) q_37 11 (vp_V [.null, .null, .null, .int 0])).2.1 h 1 = .ref q_15 := ((congrFun (sN_g h (ne0 r_33 o_q_37 (by decide))).2.1 1).trans sF_eq)
  have kn_44 : (sN (sF g_29 h 1 (.ref q_15)) q_37 11 (vp_V [.null, .null, .null, .int 0])).2.1 q_37 0 = .null := sN_f
  have kn_45 : (sN (sF g_29 h 1 (.ref q_15)) q_37 11 (vp_V [.null, .null, .null, .int 0])).2.1 q_37 1 = .null := sN_f
  have kn_46 : (sN (sF g_29 h 1 (.ref q_15)) q_37 11 (vp_V [.null, .null, .null, .int 0])).2.1 q_37 2 = .null := sN_f
  have kn_47 : (sN (sF g_29 h 1 (.ref q_15)) q_37 11 (vp_V [.null, .null, .null, .int 0])).2.1 q_37 3 = .int 0 := sN_f
  generalize (sN (sF g_29 h 1 (.ref q_15)) q_37 11 (vp_V [.null, .null, .null, .int 0])) = g_48 at hT hI hM hE r_38 r_39 r_40 r_41 kn_42 kn_43 kn_44 kn_45 kn_46 kn_47
  refine W.widen (k := 78) (n := 1396) (Nat.le_of_ble_eq_true rfl) (Nat.le_of_ble_eq_true rfl) ?_
  refine lv_dup hx hb dX6_init_30 rfl ?_
  refine lv_bipush (v := 6) hx hb dX6_init_31 (by decide) ?_
  refine t_callI (n := 1) (As := [.int 6]) (rest := [.ref q_37, .ref h]) hB hT hl.1 (s_CallList l D cI cZ cS cR N0 g_48 hI q_37 r_41) k_238 k_62 k_236 k_237 rfl (by decide +kernel) ⟨(Nat.le_of_ble_eq_true rfl), (Nat.le_of_ble_eq_true rfl)⟩ rfl (Nat.le_of_ble_eq_true rfl) ⟨(Nat.le_of_ble_eq_true rfl), (Nat.le_of_ble_eq_true rfl)⟩ dX6_init_33 (fun v g_49 H locs hp hT => ?_)
  obtain ⟨rfl, hI, x_51, m_50, r_52⟩ := hp
  have hM : Sm md_k_TwiceOnce g g_49 := hM.tr hE (m_50.mo (fun r k h => mdle_k_TwiceOnce_s_CallList h))
  have hE : Ex g g_49 := hE.trx z_q_37 x_51
  have r_53 : g_49.1 h = 17 := (Exx.r x_51 r_38 (by decide) (ro_ne r_38 r_41 (by decide)))
  have r_54 : g_49.1 q_1 = 5 := (Exx.r x_51 r_39 (by decide) (ro_ne r_39 r_41 (by decide)))
  have r_55 : g_49.1 q_15 = 19 := (Exx.r x_51 r_40 (by decide) (ro_ne r_40 r_41 (by decide)))
  have r_56 : g_49.1 q_37 = 1 := r_52
  have kn_57 : g_49.2.1 h 0 = .ref q_1 := (Sm.v m_50 r_38 (by decide) rfl kn_42)
  have kn_58 : g_49.2.1 h 1 = .ref q_15 := (Sm.v m_50 r_38 (by decide) rfl kn_43)
  refine W.eq (g2 := F0 m 36 ls [.ref q_37, .ref h]) rfl ?_
  refine t_put0 (ci := 6) (v := .ref q_37) hB hT (ro_ci r_53 rfl) (ro_n0 r_53 (by decide)) rfl 2 (by decide) k_310 (Or.inr ⟨hin, rfl⟩) rfl rfl dX6_init_36 (fun H locs hT => ?_)
  have hI : Inv (sF g_49 h 2 (.ref q_37)) := hI.sF (fk r_53 (show fsm _ _ ft from trivial))
  have hM : Sm md_k_TwiceOnce g (sF g_49 h 2 (.ref q_37)) := hM.tr hE (Sm_sF (by rw [r_53]; rfl))
  have hE : Ex g (sF g_49 h 2 (.ref q_37)) := hE
  refine lv_aload_n hx hb dX6_init_39 rfl (lv_at hl 0 rfl) ?_
  refine t_new (ci := 0) (fs := [.null, .null, .null, .int 0]) hB hT rfl (by decide) k_234 k_235 k_62 (fnew_0) (Nat.le_of_ble_eq_true rfl) (Nat.le_of_ble_eq_true rfl) dX6_init_40 (fun q_59 H o_q_59 hT => ?_)
  have z_q_59 : g.1 q_59 = 0 := hE.z0 o_q_59
  have hI : Inv (sN (sF g_49 h 2 (.ref q_37)) q_59 11 (vp_V [.null, .null, .null, .int 0])) := hI.newo o_q_59 (fun _ => rfl) (fun _ => trivial) (fun _ _ => trivial)
  have hM : Sm md_k_TwiceOnce g (sN (sF g_49 h 2 (.ref q_37)) q_59 11 (vp_V [.null, .null, .null, .int 0])) := hM.tr hE (Sm.push o_q_59 sN_g)
  have hE : Ex g (sN (sF g_49 h 2 (.ref q_37)) q_59 11 (vp_V [.null, .null, .null, .int 0])) := hE.tr (Ex.push o_q_59 sN_g)
  have r_60 : (sN (sF g_49 h 2 (.ref q_37)) q_59 11 (vp_V [.null, .null, .null, .int 0])).1 h = 17 := ((sN_g h (ne0 r_53 o_q_59 (by decide))).1.trans r_53)
  have r_61 : (sN (sF g_49 h 2 (.ref q_37)) q_59 11 (vp_V [.null, .null, .null, .int 0])).1 q_1 = 5 := ((sN_g q_1 (ne0 r_54 o_q_59 (by decide))).1.trans r_54)
  have r_62 : (sN (sF g_49 h 2 (.ref q_37)) q_59 11 (vp_V [.null, .null, .null, .int 0])).1 q_15 = 19 := ((sN_g q_15 (ne0 r_55 o_q_59 (by decide))).1.trans r_55)
  have r_63 : (sN (sF g_49 h 2 (.ref q_37)) q_59 11 (vp_V [.null, .null, .null, .int 0])).1 q_37 = 1 := ((sN_g q_37 (ne0 r_56 o_q_59 (by decide))).1.trans r_56)
  have r_64 : (sN (sF g_49 h 2 (.ref q_37)) q_59 11 (vp_V [.null, .null, .null, .int 0])).1 q_59 = 11 := sN_r
  have kn_65 : (sN (sF g_49 h 2 (.ref q_37)) q_59 11 (vp_V [.null, .null, .null, .int 0])).2.1 h 0 = .ref q_1 := ((congrFun (sN_g h (ne0 r_53 o_q_59 (by decide))).2.1 0).trans (sF_k kn_57 (by decide)))
  have kn_66 : (sN (sF g_49 h 2 (.ref q_37)) q_59 11 (vp_V [.null, .null, .null, .int 0])).2.1 h 1 = .ref q_15 := ((congrFun (sN_g h (ne0 r_53 o_q_59 (by decide))).2.1 1).trans (sF_k kn_58 (by decide)))
  have kn_67 : (sN (sF g_49 h 2 (.ref q_37)) q_59 11 (vp_V [.null, .null, .null, .int 0])).2.1 h 2 = .ref q_37 := ((congrFun (sN_g h (ne0 r_53 o_q_59 (by decide))).2.1 2).trans sF_eq)
  have kn_68 : (sN (sF g_49 h 2 (.ref q_37)) q_59 11 (vp_V [.null, .null, .null, .int 0])).2.1 q_59 0 = .null := sN_f
  have kn_69 : (sN (sF g_49 h 2 (.ref q_37)) q_59 11 (vp_V [.null, .null, .null, .int 0])).2.1 q_59 1 = .null := sN_f
  have kn_70 : (sN (sF g_49 h 2 (.ref q_37)) q_59 11 (vp_V [.null, .null, .null, .int 0])).2.1 q_59 2 = .null := sN_f
  have kn_71 : (sN (sF g_49 h 2 (.ref q_37)) q_59 11 (vp_V [.null, .null, .null, .int 0])).2.1 q_59 3 = .int 0 := sN_f
  generalize (sN (sF g_49 h 2 (.ref q_37)) q_59 11 (vp_V [.null, .null, .null, .int 0])) = g_72 at hT hI hM hE r_60 r_61 r_62 r_63 r_64 kn_65 kn_66 kn_67 kn_68 kn_69 kn_70 kn_71
  refine W.widen (k := 82) (n := 1418) (Nat.le_of_ble_eq_true rfl) (Nat.le_of_ble_eq_true rfl) ?_
  refine lv_dup hx hb dX6_init_43 rfl ?_
  refine lv_bipush (v := 20) hx hb dX6_init_44 (by decide) ?_
  refine t_callI (n := 1) (As := [.int 20]) (rest := [.ref q_59, .ref h]) hB hT hl.1 (l_CallList l D cI cZ cS cR N0 g_72 hI q_59 r_64) k_238 k_62 k_236 k_237 rfl (by decide +kernel) ⟨(Nat.le_of_ble_eq_true rfl), (Nat.le_of_ble_eq_true rfl)⟩ rfl (Nat.le_of_ble_eq_true rfl) ⟨(Nat.le_of_ble_eq_true rfl), (Nat.le_of_ble_eq_true rfl)⟩ dX6_init_46 (fun v g_73 H locs hp hT => ?_)
  obtain ⟨rfl, hI, x_75, m_74, r_76⟩ := hp
  have hM : Sm md_k_TwiceOnce g g_73 := hM.tr hE (m_74.mo (fun r k h => mdle_k_TwiceOnce_l_CallList h))
  have hE : Ex g g_73 := hE.trx z_q_59 x_75
  have r_77 : g_73.1 h = 17 := (Exx.r x_75 r_60 (by decide) (ro_ne r_60 r_64 (by decide)))
  have r_78 : g_73.1 q_1 = 5 := (Exx.r x_75 r_61 (by decide) (ro_ne r_61 r_64 (by decide)))
  have r_79 : g_73.1 q_15 = 19 := (Exx.r x_75 r_62 (by decide) (ro_ne r_62 r_64 (by decide)))
  have r_80 : g_73.1 q_37 = 1 := (Exx.r x_75 r_63 (by decide) (ro_ne r_63 r_64 (by decide)))
  have r_81 : g_73.1 q_59 = 9 := r_76
  have kn_82 : g_73.2.1 h 0 = .ref q_1 := (Sm.v m_74 r_60 (by decide) rfl kn_65)
  have kn_83 : g_73.2.1 h 1 = .ref q_15 := (Sm.v m_74 r_60 (by decide) rfl kn_66)
  have kn_84 : g_73.2.1 h 2 = .ref q_37 := (Sm.v m_74 r_60 (by decide) rfl kn_67)
  refine W.eq (g2 := F0 m 49 ls [.ref q_59, .ref h]) rfl ?_
  refine t_put0 (ci := 6) (v := .ref q_59) hB hT (ro_ci r_77 rfl) (ro_n0 r_77 (by decide)) rfl 3 (by decide) k_311 (Or.inr ⟨hin, rfl⟩) rfl rfl dX6_init_49 (fun H locs hT => ?_)
  have hI : Inv (sF g_73 h 3 (.ref q_59)) := hI.sF (fk r_77 (show fsm _ _ ft from trivial))
  have hM : Sm md_k_TwiceOnce g (sF g_73 h 3 (.ref q_59)) := hM.tr hE (Sm_sF (by rw [r_77]; rfl))
  have hE : Ex g (sF g_73 h 3 (.ref q_59)) := hE
  refine lv_aload_n hx hb dX6_init_52 rfl (lv_at hl 0 rfl) ?_
  refine t_new (ci := 1) (fs := [.null, .null, .null, .null, .null, .null, .int 0, .null, .null, .null]) hB hT rfl (by decide) k_266 k_267 k_64 (fnew_1) (Nat.le_of_ble_eq_true rfl) (Nat.le_of_ble_eq_true rfl) dX6_init_53 (fun q_85 H o_q_85 hT => ?_)
  have z_q_85 : g.1 q_85 = 0 := hE.z0 o_q_85
  have hI : Inv (sN (sF g_73 h 3 (.ref q_59)) q_85 12 (vp_V [.null, .null, .null, .null, .null, .null, .int 0, .null, .null, .null])) := hI.newo o_q_85 (fun _ => rfl) (fun _ => trivial) (fun _ _ => trivial)
  have hM : Sm md_k_TwiceOnce g (sN (sF g_73 h 3 (.ref q_59)) q_85 12 (vp_V [.null, .null, .null, .null, .null, .null, .int 0, .null, .null, .null])) := hM.tr hE (Sm.push o_q_85 sN_g)
  have hE : Ex g (sN (sF g_73 h 3 (.ref q_59)) q_85 12 (vp_V [.null, .null, .null, .null, .null, .null, .int 0, .null, .null, .null])) := hE.tr (Ex.push o_q_85 sN_g)
  have r_86 : (sN (sF g_73 h 3 (.ref q_59)) q_85 12 (vp_V [.null, .null, .null, .null, .null, .null, .int 0, .null, .null, .null])).1 h = 17 := ((sN_g h (ne0 r_77 o_q_85 (by decide))).1.trans r_77)
  have r_87 : (sN (sF g_73 h 3 (.ref q_59)) q_85 12 (vp_V [.null, .null, .null, .null, .null, .null, .int 0, .null, .null, .null])).1 q_1 = 5 := ((sN_g q_1 (ne0 r_78 o_q_85 (by decide))).1.trans r_78)
  have r_88 : (sN (sF g_73 h 3 (.ref q_59)) q_85 12 (vp_V [.null, .null, .null, .null, .null, .null, .int 0, .null, .null, .null])).1 q_15 = 19 := ((sN_g q_15 (ne0 r_79 o_q_85 (by decide))).1.trans r_79)
  have r_89 : (sN (sF g_73 h 3 (.ref q_59)) q_85 12 (vp_V [.null, .null, .null, .null, .null, .null, .int 0, .null, .null, .null])).1 q_37 = 1 := ((sN_g q_37 (ne0 r_80 o_q_85 (by decide))).1.trans r_80)
  have r_90 : (sN (sF g_73 h 3 (.ref q_59)) q_85 12 (vp_V [.null, .null, .null, .null, .null, .null, .int 0, .null, .null, .null])).1 q_59 = 9 := ((sN_g q_59 (ne0 r_81 o_q_85 (by decide))).1.trans r_81)
  have r_91 : (sN (sF g_73 h 3 (.ref q_59)) q_85 12 (vp_V [.null, .null, .null, .null, .null, .null, .int 0, .null, .null, .null])).1 q_85 = 12 := sN_r
  have kn_92 : (sN (sF g_73 h 3 (.ref q_59)) q_85 12 (vp_V [.null, .null, .null, .null, .null, .null, .int 0, .null, .null, .null])).2.1 h 0 = .ref q_1 := ((congrFun (sN_g h (ne0 r_77 o_q_85 (by decide))).2.1 0).trans (sF_k kn_82 (by decide)))
  have kn_93 : (sN (sF g_73 h 3 (.ref q_59)) q_85 12 (vp_V [.null, .null, .null, .null, .null, .null, .int 0, .null, .null, .null])).2.1 h 1 = .ref q_15 := ((congrFun (sN_g h (ne0 r_77 o_q_85 (by decide))).2.1 1).trans (sF_k kn_83 (by decide)))
  have kn_94 : (sN (sF g_73 h 3 (.ref q_59)) q_85 12 (vp_V [.null, .null, .null, .null, .null, .null, .int 0, .null, .null, .null])).2.1 h 2 = .ref q_37 := ((congrFun (sN_g h (ne0 r_77 o_q_85 (by decide))).2.1 2).trans (sF_k kn_84 (by decide)))
  have kn_95 : (sN (sF g_73 h 3 (.ref q_59)) q_85 12 (vp_V [.null, .null, .null, .null, .null, .null, .int 0, .null, .null, .null])).2.1 h 3 = .ref q_59 := ((congrFun (sN_g h (ne0 r_77 o_q_85 (by decide))).2.1 3).trans sF_eq)
  have kn_96 : (sN (sF g_73 h 3 (.ref q_59)) q_85 12 (vp_V [.null, .null, .null, .null, .null, .null, .int 0, .null, .null, .null])).2.1 q_85 0 = .null := sN_f
  have kn_97 : (sN (sF g_73 h 3 (.ref q_59)) q_85 12 (vp_V [.null, .null, .null, .null, .null, .null, .int 0, .null, .null, .null])).2.1 q_85 1 = .null := sN_f
  have kn_98 : (sN (sF g_73 h 3 (.ref q_59)) q_85 12 (vp_V [.null, .null, .null, .null, .null, .null, .int 0, .null, .null, .null])).2.1 q_85 2 = .null := sN_f
  have kn_99 : (sN (sF g_73 h 3 (.ref q_59)) q_85 12 (vp_V [.null, .null, .null, .null, .null, .null, .int 0, .null, .null, .null])).2.1 q_85 3 = .null := sN_f
  have kn_100 : (sN (sF g_73 h 3 (.ref q_59)) q_85 12 (vp_V [.null, .null, .null, .null, .null, .null, .int 0, .null, .null, .null])).2.1 q_85 4 = .null := sN_f
  have kn_101 : (sN (sF g_73 h 3 (.ref q_59)) q_85 12 (vp_V [.null, .null, .null, .null, .null, .null, .int 0, .null, .null, .null])).2.1 q_85 5 = .null := sN_f
  have kn_102 : (sN (sF g_73 h 3 (.ref q_59)) q_85 12 (vp_V [.null, .null, .null, .null, .null, .null, .int 0, .null, .null, .null])).2.1 q_85 6 = .int 0 := sN_f
  have kn_103 : (sN (sF g_73 h 3 (.ref q_59)) q_85 12 (vp_V [.null, .null, .null, .null, .null, .null, .int 0, .null, .null, .null])).2.1 q_85 7 = .null := sN_f
  have kn_104 : (sN (sF g_73 h 3 (.ref q_59)) q_85 12 (vp_V [.null, .null, .null, .null, .null, .null, .int 0, .null, .null, .null])).2.1 q_85 8 = .null := sN_f
  have kn_105 : (sN (sF g_73 h 3 (.ref q_59)) q_85 12 (vp_V [.null, .null, .null, .null, .null, .null, .int 0, .null, .null, .null])).2.1 q_85 9 = .null := sN_f
  generalize (sN (sF g_73 h 3 (.ref q_59)) q_85 12 (vp_V [.null, .null, .null, .null, .null, .null, .int 0, .null, .null, .null])) = g_106 at hT hI hM hE r_86 r_87 r_88 r_89 r_90 r_91 kn_92 kn_93 kn_94 kn_95 kn_96 kn_97 kn_98 kn_99 kn_100 kn_101 kn_102 kn_103 kn_104 kn_105
  refine W.widen (k := 86) (n := 1488) (Nat.le_of_ble_eq_true rfl) (Nat.le_of_ble_eq_true rfl) ?_
  refine lv_dup hx hb dX6_init_56 rfl ?_
  refine t_callIN (n := 0) (As := []) (rest := [.ref q_85, .ref h]) hB hT hl.1 (k_Judge l D cI cZ cS cR N0 g_106 hI q_85 r_91) k_270 k_64 hB.2.2.2.2.2.2.2.1.2.2.2.1 k_269 rfl (by decide +kernel) ⟨(Nat.le_of_ble_eq_true rfl), (Nat.le_of_ble_eq_true rfl)⟩ rfl (Nat.le_of_ble_eq_true rfl) ⟨(Nat.le_of_ble_eq_true rfl), (Nat.le_of_ble_eq_true rfl)⟩ dX6_init_57 (fun v g_107 H locs hp hT => ?_)
  obtain ⟨rfl, hI, x_109, m_108, r_110⟩ := hp
  have hM : Sm md_k_TwiceOnce g g_107 := hM.tr hE (m_108.mo (fun r k h => mdle_k_TwiceOnce_k_Judge h))
  have hE : Ex g g_107 := hE.trx z_q_85 x_109
  have r_111 : g_107.1 h = 17 := (Exx.r x_109 r_86 (by decide) (ro_ne r_86 r_91 (by decide)))
  have r_112 : g_107.1 q_1 = 5 := (Exx.r x_109 r_87 (by decide) (ro_ne r_87 r_91 (by decide)))
  have r_113 : g_107.1 q_15 = 19 := (Exx.r x_109 r_88 (by decide) (ro_ne r_88 r_91 (by decide)))
  have r_114 : g_107.1 q_37 = 1 := (Exx.r x_109 r_89 (by decide) (ro_ne r_89 r_91 (by decide)))
  have r_115 : g_107.1 q_59 = 9 := (Exx.r x_109 r_90 (by decide) (ro_ne r_90 r_91 (by decide)))
  have r_116 : g_107.1 q_85 = 2 := r_110
  have kn_117 : g_107.2.1 h 0 = .ref q_1 := (Sm.v m_108 r_86 (by decide) rfl kn_92)
  have kn_118 : g_107.2.1 h 1 = .ref q_15 := (Sm.v m_108 r_86 (by decide) rfl kn_93)
  have kn_119 : g_107.2.1 h 2 = .ref q_37 := (Sm.v m_108 r_86 (by decide) rfl kn_94)
  have kn_120 : g_107.2.1 h 3 = .ref q_59 := (Sm.v m_108 r_86 (by decide) rfl kn_95)
  refine W.eq (g2 := F0 m 60 ls [.ref q_85, .ref h]) rfl ?_
  refine t_put0 (ci := 6) (v := .ref q_85) hB hT (ro_ci r_111 rfl) (ro_n0 r_111 (by decide)) rfl 4 (by decide) k_312 (Or.inr ⟨hin, rfl⟩) rfl rfl dX6_init_60 (fun H locs hT => ?_)
  have hI : Inv (sF g_107 h 4 (.ref q_85)) := hI.sF (fk r_111 (show fsm _ _ ft from trivial))
  have hM : Sm md_k_TwiceOnce g (sF g_107 h 4 (.ref q_85)) := hM.tr hE (Sm_sF (by rw [r_111]; rfl))
  have hE : Ex g (sF g_107 h 4 (.ref q_85)) := hE
  refine lv_aload_n hx hb dX6_init_63 rfl (lv_at hl 0 rfl) ?_
  refine lv_iconst (v := 4) hx hb dX6_init_64 (by decide) ?_
  refine t_newi (N' := 4) hB hT 60 (by decide) k_101 (by decide) (by decide) (by decide) (Nat.le_of_ble_eq_true rfl) (Nat.le_of_ble_eq_true rfl) dX6_init_65 (fun q_121 H o_q_121 hT => ?_)
  have z_q_121 : g.1 q_121 = 0 := hE.z0 o_q_121
  have hI : Inv (sA (sF g_107 h 4 (.ref q_85)) q_121 60 4) := hI.newi o_q_121 (by decide) (fun _ => rfl) trivial (fun _ => trivial)
  have hM : Sm md_k_TwiceOnce g (sA (sF g_107 h 4 (.ref q_85)) q_121 60 4) := hM.tr hE (Sm.push o_q_121 sA_g)
  have hE : Ex g (sA (sF g_107 h 4 (.ref q_85)) q_121 60 4) := hE.tr (Ex.push o_q_121 sA_g)
  have r_122 : (sA (sF g_107 h 4 (.ref q_85)) q_121 60 4).1 h = 17 := ((sA_g h (ne0 r_111 o_q_121 (by decide))).1.trans r_111)
  have r_123 : (sA (sF g_107 h 4 (.ref q_85)) q_121 60 4).1 q_1 = 5 := ((sA_g q_1 (ne0 r_112 o_q_121 (by decide))).1.trans r_112)
  have r_124 : (sA (sF g_107 h 4 (.ref q_85)) q_121 60 4).1 q_15 = 19 := ((sA_g q_15 (ne0 r_113 o_q_121 (by decide))).1.trans r_113)
  have r_125 : (sA (sF g_107 h 4 (.ref q_85)) q_121 60 4).1 q_37 = 1 := ((sA_g q_37 (ne0 r_114 o_q_121 (by decide))).1.trans r_114)
  have r_126 : (sA (sF g_107 h 4 (.ref q_85)) q_121 60 4).1 q_59 = 9 := ((sA_g q_59 (ne0 r_115 o_q_121 (by decide))).1.trans r_115)
  have r_127 : (sA (sF g_107 h 4 (.ref q_85)) q_121 60 4).1 q_85 = 2 := ((sA_g q_85 (ne0 r_116 o_q_121 (by decide))).1.trans r_116)
  have r_128 : (sA (sF g_107 h 4 (.ref q_85)) q_121 60 4).1 q_121 = 60 := sA_r
  have n_129 : (sA (sF g_107 h 4 (.ref q_85)) q_121 60 4).2.2.1 q_121 = 4 := sA_n
  have kn_130 : (sA (sF g_107 h 4 (.ref q_85)) q_121 60 4).2.1 h 0 = .ref q_1 := ((congrFun (sA_g h (ne0 r_111 o_q_121 (by decide))).2.1 0).trans (sF_k kn_117 (by decide)))
  have kn_131 : (sA (sF g_107 h 4 (.ref q_85)) q_121 60 4).2.1 h 1 = .ref q_15 := ((congrFun (sA_g h (ne0 r_111 o_q_121 (by decide))).2.1 1).trans (sF_k kn_118 (by decide)))
  have kn_132 : (sA (sF g_107 h 4 (.ref q_85)) q_121 60 4).2.1 h 2 = .ref q_37 := ((congrFun (sA_g h (ne0 r_111 o_q_121 (by decide))).2.1 2).trans (sF_k kn_119 (by decide)))
  have kn_133 : (sA (sF g_107 h 4 (.ref q_85)) q_121 60 4).2.1 h 3 = .ref q_59 := ((congrFun (sA_g h (ne0 r_111 o_q_121 (by decide))).2.1 3).trans (sF_k kn_120 (by decide)))
  have kn_134 : (sA (sF g_107 h 4 (.ref q_85)) q_121 60 4).2.1 h 4 = .ref q_85 := ((congrFun (sA_g h (ne0 r_111 o_q_121 (by decide))).2.1 4).trans sF_eq)
  generalize (sA (sF g_107 h 4 (.ref q_85)) q_121 60 4) = g_135 at hT hI hM hE r_122 r_123 r_124 r_125 r_126 r_127 r_128 n_129 kn_130 kn_131 kn_132 kn_133 kn_134
  refine W.widen (k := 343) (n := 13533) (Nat.le_of_ble_eq_true rfl) (Nat.le_of_ble_eq_true rfl) ?_
  refine t_put0 (ci := 6) (v := .ref q_121) hB hT (ro_ci r_122 rfl) (ro_n0 r_122 (by decide)) rfl 5 (by decide) k_313 (Or.inr ⟨hin, rfl⟩) rfl rfl dX6_init_67 (fun H locs hT => ?_)
  have hI : Inv (sF g_135 h 5 (.ref q_121)) := hI.sF (fk r_122 (show fsm _ _ ft from trivial))
  have hM : Sm md_k_TwiceOnce g (sF g_135 h 5 (.ref q_121)) := hM.tr hE (Sm_sF (by rw [r_122]; rfl))
  have hE : Ex g (sF g_135 h 5 (.ref q_121)) := hE
  refine lv_aload_n hx hb dX6_init_70 rfl (lv_at hl 0 rfl) ?_
  refine lv_iconst (v := 0) hx hb dX6_init_71 (by decide) ?_
  refine t_put0 (ci := 6) (v := .int 0) hB hT (ro_ci r_122 rfl) (ro_n0 r_122 (by decide)) rfl 6 (by decide) k_314 (Or.inl rfl) rfl rfl dX6_init_72 (fun H locs hT => ?_)
  have hI : Inv (sF (sF g_135 h 5 (.ref q_121)) h 6 (.int 0)) := hI.sF (fk r_122 (show fsm _ _ ft from trivial))
  have hM : Sm md_k_TwiceOnce g (sF (sF g_135 h 5 (.ref q_121)) h 6 (.int 0)) := hM.tr hE (Sm_sF (by rw [r_122]; rfl))
  have hE : Ex g (sF (sF g_135 h 5 (.ref q_121)) h 6 (.int 0)) := hE
  refine lv_iconst (v := 0) hx hb dX6_init_75 (by decide) ?_
  refine lv_istore_n (lv' := [(1, .int 0), (0, .ref h)]) hx hb dX6_init_76 rfl hl (by decide) rfl (fun ls hl => ?_)
  refine lv_iload_n hx hb dX6_init_77 rfl (lv_at hl 0 rfl) ?_
  refine lv_iconst (v := 4) hx hb dX6_init_78 (by decide) ?_
  refine lv_icmp_ge (tgt := 95) hx hb dX6_init_79 (by decide) (fun c_ => absurd c_ (by decide)) (fun c_ => ?_)
  refine lv_aload_n hx hb dX6_init_82 rfl (lv_at hl 1 rfl) ?_
  refine t_get (ci := 6) (v := .ref q_121) hB hT (ro_ci r_122 rfl) rfl 5 (by decide) k_313 (sF_k sF_eq (by decide)) dX6_init_83 ?_
  refine lv_iload_n hx hb dX6_init_86 rfl (lv_at hl 0 rfl) ?_
  refine lv_iconst (v := 1) hx hb dX6_init_87 (by decide) ?_
  have i_136 : vp_in (0 : Int32) 4 := (by unfold vp_in; decide)
  refine t_iast hB hT (ro_in r_128 (by decide)) n_129 i_136 dX6_init_88 (fun H locs hT => ?_)
  have hI : Inv (sC (sF (sF g_135 h 5 (.ref q_121)) h 6 (.int 0)) q_121 (0 : Int32).toNatClampNeg (1 : Int32)) := hI.sC (ck r_128 trivial)
  have hM : Sm md_k_TwiceOnce g (sC (sF (sF g_135 h 5 (.ref q_121)) h 6 (.int 0)) q_121 (0 : Int32).toNatClampNeg (1 : Int32)) := hM.tr hE (Sm_sC (by rw [r_128]; rfl))
  have hE : Ex g (sC (sF (sF g_135 h 5 (.ref q_121)) h 6 (.int 0)) q_121 (0 : Int32).toNatClampNeg (1 : Int32)) := hE
  refine lv_iinc (v := 1) (lv' := [(1, .int 1), (0, .ref h)]) hx hb dX6_init_89 hl (k := 0) rfl (by decide) (by decide) rfl (fun ls hl => ?_)
  refine lv_goto (tgt := 77) hx hb dX6_init_92 (by decide) ?_
  refine lv_iload_n hx hb dX6_init_77 rfl (lv_at hl 0 rfl) ?_
  refine lv_iconst (v := 4) hx hb dX6_init_78 (by decide) ?_
  refine lv_icmp_ge (tgt := 95) hx hb dX6_init_79 (by decide) (fun c_ => absurd c_ (by decide)) (fun c_ => ?_)
  refine lv_aload_n hx hb dX6_init_82 rfl (lv_at hl 1 rfl) ?_
  refine t_get (ci := 6) (v := .ref q_121) hB hT (ro_ci r_122 rfl) rfl 5 (by decide) k_313 (sF_k sF_eq (by decide)) dX6_init_83 ?_
  refine lv_iload_n hx hb dX6_init_86 rfl (lv_at hl 0 rfl) ?_
  refine lv_iconst (v := 1) hx hb dX6_init_87 (by decide) ?_
  have i_137 : vp_in (1 : Int32) 4 := (by unfold vp_in; decide)
  refine t_iast hB hT (ro_in r_128 (by decide)) n_129 i_137 dX6_init_88 (fun H locs hT => ?_)
  have hI : Inv (sC (sC (sF (sF g_135 h 5 (.ref q_121)) h 6 (.int 0)) q_121 (0 : Int32).toNatClampNeg (1 : Int32)) q_121 (1 : Int32).toNatClampNeg (1 : Int32)) := hI.sC (ck r_128 trivial)
  have hM : Sm md_k_TwiceOnce g (sC (sC (sF (sF g_135 h 5 (.ref q_121)) h 6 (.int 0)) q_121 (0 : Int32).toNatClampNeg (1 : Int32)) q_121 (1 : Int32).toNatClampNeg (1 : Int32)) := hM.tr hE (Sm_sC (by rw [r_128]; rfl))
  have hE : Ex g (sC (sC (sF (sF g_135 h 5 (.ref q_121)) h 6 (.int 0)) q_121 (0 : Int32).toNatClampNeg (1 : Int32)) q_121 (1 : Int32).toNatClampNeg (1 : Int32)) := hE
  refine lv_iinc (v := 2) (lv' := [(1, .int 2), (0, .ref h)]) hx hb dX6_init_89 hl (k := 0) rfl (by decide) (by decide) rfl (fun ls hl => ?_)
  refine lv_goto (tgt := 77) hx hb dX6_init_92 (by decide) ?_
  refine lv_iload_n hx hb dX6_init_77 rfl (lv_at hl 0 rfl) ?_
  refine lv_iconst (v := 4) hx hb dX6_init_78 (by decide) ?_
  refine lv_icmp_ge (tgt := 95) hx hb dX6_init_79 (by decide) (fun c_ => absurd c_ (by decide)) (fun c_ => ?_)
  refine lv_aload_n hx hb dX6_init_82 rfl (lv_at hl 1 rfl) ?_
  refine t_get (ci := 6) (v := .ref q_121) hB hT (ro_ci r_122 rfl) rfl 5 (by decide) k_313 (sF_k sF_eq (by decide)) dX6_init_83 ?_
  refine lv_iload_n hx hb dX6_init_86 rfl (lv_at hl 0 rfl) ?_
  refine lv_iconst (v := 1) hx hb dX6_init_87 (by decide) ?_
  have i_138 : vp_in (2 : Int32) 4 := (by unfold vp_in; decide)
  refine t_iast hB hT (ro_in r_128 (by decide)) n_129 i_138 dX6_init_88 (fun H locs hT => ?_)
  have hI : Inv (sC (sC (sC (sF (sF g_135 h 5 (.ref q_121)) h 6 (.int 0)) q_121 (0 : Int32).toNatClampNeg (1 : Int32)) q_121 (1 : Int32).toNatClampNeg (1 : Int32)) q_121 (2 : Int32).toNatClampNeg (1 : Int32)) := hI.sC (ck r_128 trivial)
  have hM : Sm md_k_TwiceOnce g (sC (sC (sC (sF (sF g_135 h 5 (.ref q_121)) h 6 (.int 0)) q_121 (0 : Int32).toNatClampNeg (1 : Int32)) q_121 (1 : Int32).toNatClampNeg (1 : Int32)) q_121 (2 : Int32).toNatClampNeg (1 : Int32)) := hM.tr hE (Sm_sC (by rw [r_128]; rfl))
  have hE : Ex g (sC (sC (sC (sF (sF g_135 h 5 (.ref q_121)) h 6 (.int 0)) q_121 (0 : Int32).toNatClampNeg (1 : Int32)) q_121 (1 : Int32).toNatClampNeg (1 : Int32)) q_121 (2 : Int32).toNatClampNeg (1 : Int32)) := hE
  refine lv_iinc (v := 3) (lv' := [(1, .int 3), (0, .ref h)]) hx hb dX6_init_89 hl (k := 0) rfl (by decide) (by decide) rfl (fun ls hl => ?_)
  refine lv_goto (tgt := 77) hx hb dX6_init_92 (by decide) ?_
  refine lv_iload_n hx hb dX6_init_77 rfl (lv_at hl 0 rfl) ?_
  refine lv_iconst (v := 4) hx hb dX6_init_78 (by decide) ?_
  refine lv_icmp_ge (tgt := 95) hx hb dX6_init_79 (by decide) (fun c_ => absurd c_ (by decide)) (fun c_ => ?_)
  refine lv_aload_n hx hb dX6_init_82 rfl (lv_at hl 1 rfl) ?_
  refine t_get (ci := 6) (v := .ref q_121) hB hT (ro_ci r_122 rfl) rfl 5 (by decide) k_313 (sF_k sF_eq (by decide)) dX6_init_83 ?_
  refine lv_iload_n hx hb dX6_init_86 rfl (lv_at hl 0 rfl) ?_
  refine lv_iconst (v := 1) hx hb dX6_init_87 (by decide) ?_
  have i_139 : vp_in (3 : Int32) 4 := (by unfold vp_in; decide)
  refine t_iast hB hT (ro_in r_128 (by decide)) n_129 i_139 dX6_init_88 (fun H locs hT => ?_)
  have hI : Inv (sC (sC (sC (sC (sF (sF g_135 h 5 (.ref q_121)) h 6 (.int 0)) q_121 (0 : Int32).toNatClampNeg (1 : Int32)) q_121 (1 : Int32).toNatClampNeg (1 : Int32)) q_121 (2 : Int32).toNatClampNeg (1 : Int32)) q_121 (3 : Int32).toNatClampNeg (1 : Int32)) := hI.sC (ck r_128 trivial)
  have hM : Sm md_k_TwiceOnce g (sC (sC (sC (sC (sF (sF g_135 h 5 (.ref q_121)) h 6 (.int 0)) q_121 (0 : Int32).toNatClampNeg (1 : Int32)) q_121 (1 : Int32).toNatClampNeg (1 : Int32)) q_121 (2 : Int32).toNatClampNeg (1 : Int32)) q_121 (3 : Int32).toNatClampNeg (1 : Int32)) := hM.tr hE (Sm_sC (by rw [r_128]; rfl))
  have hE : Ex g (sC (sC (sC (sC (sF (sF g_135 h 5 (.ref q_121)) h 6 (.int 0)) q_121 (0 : Int32).toNatClampNeg (1 : Int32)) q_121 (1 : Int32).toNatClampNeg (1 : Int32)) q_121 (2 : Int32).toNatClampNeg (1 : Int32)) q_121 (3 : Int32).toNatClampNeg (1 : Int32)) := hE
  refine lv_iinc (v := 4) (lv' := [(1, .int 4), (0, .ref h)]) hx hb dX6_init_89 hl (k := 0) rfl (by decide) (by decide) rfl (fun ls hl => ?_)
  refine lv_goto (tgt := 77) hx hb dX6_init_92 (by decide) ?_
  refine lv_iload_n hx hb dX6_init_77 rfl (lv_at hl 0 rfl) ?_
  refine lv_iconst (v := 4) hx hb dX6_init_78 (by decide) ?_
  refine lv_icmp_ge (tgt := 95) hx hb dX6_init_79 (by decide) (fun c_ => ?_) (fun c_ => absurd (by decide) c_)
  have hF : ∀ k, Fok (sR (sC (sC (sC (sC (sF (sF g_135 h 5 (.ref q_121)) h 6 (.int 0)) q_121 (0 : Int32).toNatClampNeg (1 : Int32)) q_121 (1 : Int32).toNatClampNeg (1 : Int32)) q_121 (2 : Int32).toNatClampNeg (1 : Int32)) q_121 (3 : Int32).toNatClampNeg (1 : Int32)) h 7) 7 k ((sC (sC (sC (sC (sF (sF g_135 h 5 (.ref q_121)) h 6 (.int 0)) q_121 (0 : Int32).toNatClampNeg (1 : Int32)) q_121 (1 : Int32).toNatClampNeg (1 : Int32)) q_121 (2 : Int32).toNatClampNeg (1 : Int32)) q_121 (3 : Int32).toNatClampNeg (1 : Int32)).2.1 h k) := fun k => match k with
    | 0 => (by rw [(sF_k (sF_k kn_130 (by decide)) (by decide))]; exact q_7_0 ⟨_, rfl, sR_r r_123 (ro_ne r_123 r_122 (by decide))⟩)
    | 1 => (by rw [(sF_k (sF_k kn_131 (by decide)) (by decide))]; exact q_7_1 ⟨_, rfl, sR_r r_124 (ro_ne r_124 r_122 (by decide))⟩)
    | 2 => (by rw [(sF_k (sF_k kn_132 (by decide)) (by decide))]; exact q_7_2 ⟨_, rfl, sR_r r_125 (ro_ne r_125 r_122 (by decide))⟩)
    | 3 => (by rw [(sF_k (sF_k kn_133 (by decide)) (by decide))]; exact q_7_3 ⟨_, rfl, sR_r r_126 (ro_ne r_126 r_122 (by decide))⟩)
    | 4 => (by rw [(sF_k (sF_k kn_134 (by decide)) (by decide))]; exact q_7_4 ⟨_, rfl, sR_r r_127 (ro_ne r_127 r_122 (by decide))⟩)
    | 5 => (by rw [(sF_k sF_eq (by decide))]; exact q_7_5 ⟨_, rfl, sR_r r_128 (ro_ne r_128 r_122 (by decide)), n_129⟩)
    | 6 => (by rw [sF_eq]; exact q_7_6 ⟨_, rfl, by decide, by decide⟩)
    | k + 7 => (show fsm _ _ ft from trivial)
  have hT : Tv D cI cZ cS cR N0 s.heap H locs (sR (sC (sC (sC (sC (sF (sF g_135 h 5 (.ref q_121)) h 6 (.int 0)) q_121 (0 : Int32).toNatClampNeg (1 : Int32)) q_121 (1 : Int32).toNatClampNeg (1 : Int32)) q_121 (2 : Int32).toNatClampNeg (1 : Int32)) q_121 (3 : Int32).toNatClampNeg (1 : Int32)) h 7) := ⟨hT.1.promo (by rw [r_122]; decide) (by rw [r_122]; rfl) (Or.inl (by decide)), hT.2⟩
  have hI : Inv (sR (sC (sC (sC (sC (sF (sF g_135 h 5 (.ref q_121)) h 6 (.int 0)) q_121 (0 : Int32).toNatClampNeg (1 : Int32)) q_121 (1 : Int32).toNatClampNeg (1 : Int32)) q_121 (2 : Int32).toNatClampNeg (1 : Int32)) q_121 (3 : Int32).toNatClampNeg (1 : Int32)) h 7) := hI.promo (by rw [r_122]; decide) hF (fun _ _ => trivial) (fun _ _ => trivial)
  have hM : Sm md_k_TwiceOnce g (sR (sC (sC (sC (sC (sF (sF g_135 h 5 (.ref q_121)) h 6 (.int 0)) q_121 (0 : Int32).toNatClampNeg (1 : Int32)) q_121 (1 : Int32).toNatClampNeg (1 : Int32)) q_121 (2 : Int32).toNatClampNeg (1 : Int32)) q_121 (3 : Int32).toNatClampNeg (1 : Int32)) h 7) := hM
  have hX : Exx h g (sR (sC (sC (sC (sC (sF (sF g_135 h 5 (.ref q_121)) h 6 (.int 0)) q_121 (0 : Int32).toNatClampNeg (1 : Int32)) q_121 (1 : Int32).toNatClampNeg (1 : Int32)) q_121 (2 : Int32).toNatClampNeg (1 : Int32)) q_121 (3 : Int32).toNatClampNeg (1 : Int32)) h 7) := Exx.promo hE
  exact t_vret hB hr hT (Nat.le_of_ble_eq_true rfl) (Nat.le_of_ble_eq_true rfl) dX6_init_95 ⟨rfl, hI, hX, hM, if_pos rfl, sF_eq, ⟨_, (sF_k sF_eq (by decide)), sR_r r_128 (ro_ne r_128 r_122 (by decide)), n_129, fun i hi => match i, hi with | 0, _ => (sC_i (sC_i (sC_i sC_eq (by decide)) (by decide)) (by decide)) | 1, _ => (sC_i (sC_i sC_eq (by decide)) (by decide)) | 2, _ => (sC_i sC_eq (by decide)) | 3, _ => sC_eq | k + 4, h => absurd h (by omega)⟩⟩
abbrev md_s_takeProgram : Nat → Nat → Bool := mdf [(3, 3), (5, 1), (5, 2), (5, 3), (13, 0), (13, 1), (13, 2), (13, 3), (68, 99), (69, 99), (70, 99)]
theorem mdle_s_takeProgram_k_Program {r k : Nat} (h : md_s_takeProgram r k = false) : md_k_Program r k = false := mdf_le (by decide +kernel) h
theorem mdle_s_takeProgram_s_readActs {r k : Nat} (h : md_s_takeProgram r k = false) : md_s_readActs r k = false := mdf_le (by decide +kernel) h
set_option maxHeartbeats 4000000 in
set_option maxRecDepth 100000 in
theorem s_takeProgram (l : Launch) (D : va_G) (cI cZ cS cR : ClassId) (N0 : NT) (g : GS) (hI : Inv g) (h : Nat) (r_h : g.1 h = 5) : Ty l D cI cZ cS cR N0 yX4_takeProgram cX4_takeProgram 3 (some (.object "TwiceOnce$Program")) 7 4 28 [.ref h] g (fun v g' => ∃ (rv : Value), v = some rv ∧ Inv g' ∧ Ex g g' ∧ Sm md_s_takeProgram g g' ∧ (rv = .null ∨ ∃ q : Nat, rv = .ref q ∧ g'.1 q = 3)) := by
  refine t_enter (by decide) (Nat.le_of_ble_eq_true rfl) ?_
  intro p e s m args below meth c ls H locs hB hr hin hl hT
  have hx := hB.1
  have hb := hB.2.1
  have hl : lv_has ls 3 [(0, .ref h)] := hl
  have hE : Ex g g := Ex.rf
  have hM : Sm md_s_takeProgram g g := Sm.rf
  refine t_new (ci := 2) (fs := [.null, .null, .null, .int 0]) hB hT rfl (by decide) k_347 k_116 k_61 (fnew_2) (Nat.le_of_ble_eq_true rfl) (Nat.le_of_ble_eq_true rfl) dX4_takeProgram_0 (fun q_1 H o_q_1 hT => ?_)
  have z_q_1 : g.1 q_1 = 0 := hE.z0 o_q_1
  have hI : Inv (sN g q_1 13 (vp_V [.null, .null, .null, .int 0])) := hI.newo o_q_1 (fun _ => rfl) (fun _ => trivial) (fun _ _ => trivial)
  have hM : Sm md_s_takeProgram g (sN g q_1 13 (vp_V [.null, .null, .null, .int 0])) := hM.tr hE (Sm.push o_q_1 sN_g)
  have hE : Ex g (sN g q_1 13 (vp_V [.null, .null, .null, .int 0])) := hE.tr (Ex.push o_q_1 sN_g)
  have r_2 : (sN g q_1 13 (vp_V [.null, .null, .null, .int 0])).1 h = 5 := ((sN_g h (ne0 r_h o_q_1 (by decide))).1.trans r_h)
  have r_3 : (sN g q_1 13 (vp_V [.null, .null, .null, .int 0])).1 q_1 = 13 := sN_r
  have kn_4 : (sN g q_1 13 (vp_V [.null, .null, .null, .int 0])).2.1 q_1 0 = .null := sN_f
  have kn_5 : (sN g q_1 13 (vp_V [.null, .null, .null, .int 0])).2.1 q_1 1 = .null := sN_f
  have kn_6 : (sN g q_1 13 (vp_V [.null, .null, .null, .int 0])).2.1 q_1 2 = .null := sN_f
  have kn_7 : (sN g q_1 13 (vp_V [.null, .null, .null, .int 0])).2.1 q_1 3 = .int 0 := sN_f
  generalize (sN g q_1 13 (vp_V [.null, .null, .null, .int 0])) = g_8 at hT hI hM hE r_2 r_3 kn_4 kn_5 kn_6 kn_7
  refine W.widen (k := 1) (n := 4) (Nat.le_of_ble_eq_true rfl) (Nat.le_of_ble_eq_true rfl) ?_
  refine lv_dup hx hb dX4_takeProgram_3 rfl ?_
  refine t_callIN (n := 0) (As := []) (rest := [.ref q_1]) hB hT hl.1 (k_Program l D cI cZ cS cR N0 g_8 hI q_1 r_3) k_119 k_61 hB.2.2.2.2.2.2.2.1.2.2.2.2.1 k_118 rfl (by decide +kernel) ⟨(Nat.le_of_ble_eq_true rfl), (Nat.le_of_ble_eq_true rfl)⟩ rfl (Nat.le_of_ble_eq_true rfl) ⟨(Nat.le_of_ble_eq_true rfl), (Nat.le_of_ble_eq_true rfl)⟩ dX4_takeProgram_4 (fun v g_9 H locs hp hT => ?_)
  obtain ⟨rfl, hI, x_11, m_10, r_12⟩ := hp
  have hM : Sm md_s_takeProgram g g_9 := hM.tr hE (m_10.mo (fun r k h => mdle_s_takeProgram_k_Program h))
  have hE : Ex g g_9 := hE.trx z_q_1 x_11
  have r_13 : g_9.1 h = 5 := (Exx.r x_11 r_2 (by decide) (ro_ne r_2 r_3 (by decide)))
  have r_14 : g_9.1 q_1 = 3 := r_12
  refine W.eq (g2 := F0 m 7 ls [.ref q_1]) rfl ?_
  refine lv_astore_n (lv' := [(1, .ref q_1), (0, .ref h)]) hx hb dX4_takeProgram_7 rfl hl (by decide) rfl (fun ls hl => ?_)
  refine lv_aload_n hx hb dX4_takeProgram_8 rfl (lv_at hl 1 rfl) ?_
  refine lv_iconst (v := 0) hx hb dX4_takeProgram_9 (by decide) ?_
  refine t_put0 (ci := 4) (v := .int 0) hB hT (ro_ci r_13 rfl) (ro_n0 r_13 (by decide)) rfl 3 (by decide) k_91 (Or.inl rfl) rfl rfl dX4_takeProgram_10 (fun H locs hT => ?_)
  have hI : Inv (sF g_9 h 3 (.int 0)) := hI.sF (p_5_3 r_13 (⟨_, rfl⟩))
  have hM : Sm md_s_takeProgram g (sF g_9 h 3 (.int 0)) := hM.tr hE (Sm_sF (by rw [r_13]; rfl))
  have hE : Ex g (sF g_9 h 3 (.int 0)) := hE
  refine lv_aload_n hx hb dX4_takeProgram_13 rfl (lv_at hl 1 rfl) ?_
  refine lv_aload_n hx hb dX4_takeProgram_14 rfl (lv_at hl 0 rfl) ?_
  refine t_callV (n := 1) (As := [.ref q_1]) (rest := []) (ci := 4) hB hT hl.1 (s_readActs l D cI cZ cS cR N0 (sF g_9 h 3 (.int 0)) hI h q_1 r_13 r_14) (ro_ci r_13 rfl) rfl k_352 k_58 k_349 k_351 k_0 (by decide +kernel) ⟨(Nat.le_of_ble_eq_true rfl), (Nat.le_of_ble_eq_true rfl)⟩ rfl (Nat.le_of_ble_eq_true rfl) ⟨(Nat.le_of_ble_eq_true rfl), (Nat.le_of_ble_eq_true rfl)⟩ dX4_takeProgram_15 (fun v g_15 H locs hp hT => ?_)
  obtain ⟨r_16, rfl, hI, x_19, m_18, f_17⟩ := hp
  have hM : Sm md_s_takeProgram g g_15 := hM.tr hE (m_18.mo (fun r k h => mdle_s_takeProgram_s_readActs h))
  have hE : Ex g g_15 := hE.tr x_19
  have r_20 : g_15.1 h = 5 := (Ex.r x_19 r_13 (by decide))
  have r_21 : g_15.1 q_1 = 3 := (Ex.r x_19 r_14 (by decide))
  refine W.eq (g2 := F0 m 18 ls [.int r_16]) rfl ?_
  rcases f_17 with rfl | rfl
  · refine W.eq (g2 := F0 m 18 ls [.int 1]) rfl ?_
    refine lv_if_eq (tgt := 36) hx hb dX4_takeProgram_18 (by decide) (fun c_ => absurd c_ (by decide)) (fun c_ => ?_)
    refine lv_aload_n hx hb dX4_takeProgram_21 rfl (lv_at hl 1 rfl) ?_
    obtain ⟨v_22, e_v_22⟩ := f_5_3 hI r_20
    refine t_get (ci := 4) (v := .int v_22) hB hT (ro_ci r_20 rfl) rfl 3 (by decide) k_91 e_v_22 dX4_takeProgram_22 ?_
    refine lv_aload_n hx hb dX4_takeProgram_25 rfl (lv_at hl 1 rfl) ?_
    obtain ⟨v_23, e_v_23, l_v_23, u_v_23⟩ := f_5_1 hI r_20
    refine t_get (ci := 4) (v := .int v_23) hB hT (ro_ci r_20 rfl) rfl 1 (by decide) k_87 e_v_23 dX4_takeProgram_26 ?_
    refine lv_icmp_ne (tgt := 36) hx hb dX4_takeProgram_29 (by decide) (fun c_24 => ?_) (fun c_24 => ?_)
    · have c_24' : v_22.toInt ≠ v_23.toInt := i_ne c_24 rfl rfl
      refine lv_iconst (v := 0) hx hb dX4_takeProgram_36 (by decide) ?_
      refine lv_istore_n (lv' := [(2, .int 0), (1, .ref q_1), (0, .ref h)]) hx hb dX4_takeProgram_37 rfl hl (by decide) rfl (fun ls hl => ?_)
      refine lv_aload_n hx hb dX4_takeProgram_38 rfl (lv_at hl 2 rfl) ?_
      refine lv_aload_n hx hb dX4_takeProgram_39 rfl (lv_at hl 2 rfl) ?_
      refine t_get (ci := 4) (v := .int v_22) hB hT (ro_ci r_20 rfl) rfl 3 (by decide) k_91 e_v_22 dX4_takeProgram_40 ?_
      refine t_put0 (ci := 4) (v := .int v_22) hB hT (ro_ci r_20 rfl) (ro_n0 r_20 (by decide)) rfl 2 (by decide) k_89 (Or.inl rfl) rfl rfl dX4_takeProgram_43 (fun H locs hT => ?_)
      have hI : Inv (sF g_15 h 2 (.int v_22)) := hI.sF (p_5_2 r_20 (⟨_, rfl⟩))
      have hM : Sm md_s_takeProgram g (sF g_15 h 2 (.int v_22)) := hM.tr hE (Sm_sF (by rw [r_20]; rfl))
      have hE : Ex g (sF g_15 h 2 (.int v_22)) := hE
      refine lv_aload_n hx hb dX4_takeProgram_46 rfl (lv_at hl 2 rfl) ?_
      refine lv_iconst (v := 0) hx hb dX4_takeProgram_47 (by decide) ?_
      refine t_put0 (ci := 4) (v := .int 0) hB hT (ro_ci r_20 rfl) (ro_n0 r_20 (by decide)) rfl 1 (by decide) k_87 (Or.inl rfl) rfl rfl dX4_takeProgram_48 (fun H locs hT => ?_)
      have hI : Inv (sF (sF g_15 h 2 (.int v_22)) h 1 (.int 0)) := hI.sF (p_5_1 r_20 (⟨_, rfl, by decide, by decide⟩))
      have hM : Sm md_s_takeProgram g (sF (sF g_15 h 2 (.int v_22)) h 1 (.int 0)) := hM.tr hE (Sm_sF (by rw [r_20]; rfl))
      have hE : Ex g (sF (sF g_15 h 2 (.int v_22)) h 1 (.int 0)) := hE
      refine lv_iload_n hx hb dX4_takeProgram_51 rfl (lv_at hl 0 rfl) ?_
      refine lv_if_eq (tgt := 59) hx hb dX4_takeProgram_52 (by decide) (fun c_ => ?_) (fun c_ => absurd (by decide) c_)
      refine lv_null hx hb dX4_takeProgram_59 ?_
      exact t_aret hB hr (Or.inl ⟨_, rfl⟩) (Or.inl rfl) hT (Nat.le_of_ble_eq_true rfl) (Nat.le_of_ble_eq_true rfl) dX4_takeProgram_60 ⟨_, rfl, hI, hE, hM, Or.inl rfl⟩
    · have c_24' : v_22.toInt = v_23.toInt := i_eq c_24 rfl rfl
      refine lv_iconst (v := 1) hx hb dX4_takeProgram_32 (by decide) ?_
      refine lv_goto (tgt := 37) hx hb dX4_takeProgram_33 (by decide) ?_
      refine lv_istore_n (lv' := [(2, .int 1), (1, .ref q_1), (0, .ref h)]) hx hb dX4_takeProgram_37 rfl hl (by decide) rfl (fun ls hl => ?_)
      refine lv_aload_n hx hb dX4_takeProgram_38 rfl (lv_at hl 2 rfl) ?_
      refine lv_aload_n hx hb dX4_takeProgram_39 rfl (lv_at hl 2 rfl) ?_
      refine t_get (ci := 4) (v := .int v_22) hB hT (ro_ci r_20 rfl) rfl 3 (by decide) k_91 e_v_22 dX4_takeProgram_40 ?_
      refine t_put0 (ci := 4) (v := .int v_22) hB hT (ro_ci r_20 rfl) (ro_n0 r_20 (by decide)) rfl 2 (by decide) k_89 (Or.inl rfl) rfl rfl dX4_takeProgram_43 (fun H locs hT => ?_)
      have hI : Inv (sF g_15 h 2 (.int v_22)) := hI.sF (p_5_2 r_20 (⟨_, rfl⟩))
      have hM : Sm md_s_takeProgram g (sF g_15 h 2 (.int v_22)) := hM.tr hE (Sm_sF (by rw [r_20]; rfl))
      have hE : Ex g (sF g_15 h 2 (.int v_22)) := hE
      refine lv_aload_n hx hb dX4_takeProgram_46 rfl (lv_at hl 2 rfl) ?_
      refine lv_iconst (v := 0) hx hb dX4_takeProgram_47 (by decide) ?_
      refine t_put0 (ci := 4) (v := .int 0) hB hT (ro_ci r_20 rfl) (ro_n0 r_20 (by decide)) rfl 1 (by decide) k_87 (Or.inl rfl) rfl rfl dX4_takeProgram_48 (fun H locs hT => ?_)
      have hI : Inv (sF (sF g_15 h 2 (.int v_22)) h 1 (.int 0)) := hI.sF (p_5_1 r_20 (⟨_, rfl, by decide, by decide⟩))
      have hM : Sm md_s_takeProgram g (sF (sF g_15 h 2 (.int v_22)) h 1 (.int 0)) := hM.tr hE (Sm_sF (by rw [r_20]; rfl))
      have hE : Ex g (sF (sF g_15 h 2 (.int v_22)) h 1 (.int 0)) := hE
      refine lv_iload_n hx hb dX4_takeProgram_51 rfl (lv_at hl 0 rfl) ?_
      refine lv_if_eq (tgt := 59) hx hb dX4_takeProgram_52 (by decide) (fun c_ => absurd c_ (by decide)) (fun c_ => ?_)
      refine lv_aload_n hx hb dX4_takeProgram_55 rfl (lv_at hl 1 rfl) ?_
      refine lv_goto (tgt := 60) hx hb dX4_takeProgram_56 (by decide) ?_
      exact t_aret hB hr (Or.inl ⟨_, rfl⟩) (Or.inr ⟨_, rfl⟩) hT (Nat.le_of_ble_eq_true rfl) (Nat.le_of_ble_eq_true rfl) dX4_takeProgram_60 ⟨_, rfl, hI, hE, hM, Or.inr ⟨_, rfl, r_21⟩⟩
  · refine W.eq (g2 := F0 m 18 ls [.int 0]) rfl ?_
    refine lv_if_eq (tgt := 36) hx hb dX4_takeProgram_18 (by decide) (fun c_ => ?_) (fun c_ => absurd (by decide) c_)
    refine lv_iconst (v := 0) hx hb dX4_takeProgram_36 (by decide) ?_
    refine lv_istore_n (lv' := [(2, .int 0), (1, .ref q_1), (0, .ref h)]) hx hb dX4_takeProgram_37 rfl hl (by decide) rfl (fun ls hl => ?_)
    refine lv_aload_n hx hb dX4_takeProgram_38 rfl (lv_at hl 2 rfl) ?_
    refine lv_aload_n hx hb dX4_takeProgram_39 rfl (lv_at hl 2 rfl) ?_
    obtain ⟨v_25, e_v_25⟩ := f_5_3 hI r_20
    refine t_get (ci := 4) (v := .int v_25) hB hT (ro_ci r_20 rfl) rfl 3 (by decide) k_91 e_v_25 dX4_takeProgram_40 ?_
    refine t_put0 (ci := 4) (v := .int v_25) hB hT (ro_ci r_20 rfl) (ro_n0 r_20 (by decide)) rfl 2 (by decide) k_89 (Or.inl rfl) rfl rfl dX4_takeProgram_43 (fun H locs hT => ?_)
    have hI : Inv (sF g_15 h 2 (.int v_25)) := hI.sF (p_5_2 r_20 (⟨_, rfl⟩))
    have hM : Sm md_s_takeProgram g (sF g_15 h 2 (.int v_25)) := hM.tr hE (Sm_sF (by rw [r_20]; rfl))
    have hE : Ex g (sF g_15 h 2 (.int v_25)) := hE
    refine lv_aload_n hx hb dX4_takeProgram_46 rfl (lv_at hl 2 rfl) ?_
    refine lv_iconst (v := 0) hx hb dX4_takeProgram_47 (by decide) ?_
    refine t_put0 (ci := 4) (v := .int 0) hB hT (ro_ci r_20 rfl) (ro_n0 r_20 (by decide)) rfl 1 (by decide) k_87 (Or.inl rfl) rfl rfl dX4_takeProgram_48 (fun H locs hT => ?_)
    have hI : Inv (sF (sF g_15 h 2 (.int v_25)) h 1 (.int 0)) := hI.sF (p_5_1 r_20 (⟨_, rfl, by decide, by decide⟩))
    have hM : Sm md_s_takeProgram g (sF (sF g_15 h 2 (.int v_25)) h 1 (.int 0)) := hM.tr hE (Sm_sF (by rw [r_20]; rfl))
    have hE : Ex g (sF (sF g_15 h 2 (.int v_25)) h 1 (.int 0)) := hE
    refine lv_iload_n hx hb dX4_takeProgram_51 rfl (lv_at hl 0 rfl) ?_
    refine lv_if_eq (tgt := 59) hx hb dX4_takeProgram_52 (by decide) (fun c_ => ?_) (fun c_ => absurd (by decide) c_)
    refine lv_null hx hb dX4_takeProgram_59 ?_
    exact t_aret hB hr (Or.inl ⟨_, rfl⟩) (Or.inl rfl) hT (Nat.le_of_ble_eq_true rfl) (Nat.le_of_ble_eq_true rfl) dX4_takeProgram_60 ⟨_, rfl, hI, hE, hM, Or.inl rfl⟩
