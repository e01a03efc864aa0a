theorem k_0 : Cond.selects RX4 yX4_readActs yX4_readActs ∈ tb := mt 0 (by decide +kernel) rfl
theorem k_77 : Cond.methodLink RX6 3 Lib.objectInit ∈ tb := mt 77 (by decide +kernel) rfl
theorem k_80 : Cond.classLink RX6 9 RX4 ∈ tb := mt 80 (by decide +kernel) rfl
theorem k_81 : Cond.instantiable RX4 4 ∈ tb := mt 81 (by decide +kernel) rfl
theorem k_83 : Cond.instanceMethod yX4_init ∈ tb := mt 83 (by decide +kernel) rfl
set_option maxRecDepth 20000 in
theorem k_84 : Cond.code yX4_init cX4_init 1 none ∈ tb := mt 84 rfl rfl
theorem k_102 : Cond.classLink RX6 16 RX5 ∈ tb := mt 102 (by decide +kernel) rfl
theorem k_104 : Cond.methodLink RX6 18 yX5_init ∈ tb := mt 104 (by decide +kernel) rfl
theorem k_234 : Cond.classLink RX6 23 RX0 ∈ tb := mt 234 (by decide +kernel) rfl
theorem k_235 : Cond.instantiable RX0 4 ∈ tb := mt 235 (by decide +kernel) rfl
theorem k_236 : Cond.methodLink RX6 25 yX0_init ∈ tb := mt 236 (by decide +kernel) rfl
theorem k_237 : Cond.instanceMethod yX0_init ∈ tb := mt 237 (by decide +kernel) rfl
set_option maxRecDepth 20000 in
theorem k_238 : Cond.code yX0_init cX0_init 3 none ∈ tb := mt 238 rfl rfl
theorem k_266 : Cond.classLink RX6 35 RX1 ∈ tb := mt 266 (by decide +kernel) rfl
theorem k_267 : Cond.instantiable RX1 10 ∈ tb := mt 267 (by decide +kernel) rfl
theorem k_269 : Cond.instanceMethod yX1_init ∈ tb := mt 269 (by decide +kernel) rfl
set_option maxRecDepth 20000 in
theorem k_270 : Cond.code yX1_init cX1_init 1 none ∈ tb := mt 270 rfl rfl
theorem k_308 : Cond.fieldLink RX6 12 "TwiceOnce" "tape" "LTwiceOnce$Tape;" ∈ tb := mt 308 (by decide +kernel) rfl
theorem k_309 : Cond.fieldLink RX6 19 "TwiceOnce" "now" "LTwiceOnce$World;" ∈ tb := mt 309 (by decide +kernel) rfl
theorem k_310 : Cond.fieldLink RX6 28 "TwiceOnce" "rowCalls" "LTwiceOnce$CallList;" ∈ tb := mt 310 (by decide +kernel) rfl
theorem k_311 : Cond.fieldLink RX6 32 "TwiceOnce" "logCalls" "LTwiceOnce$CallList;" ∈ tb := mt 311 (by decide +kernel) rfl
theorem k_312 : Cond.fieldLink RX6 38 "TwiceOnce" "judge" "LTwiceOnce$Judge;" ∈ tb := mt 312 (by decide +kernel) rfl
theorem k_313 : Cond.fieldLink RX6 42 "TwiceOnce" "prices" "[I" ∈ tb := mt 313 (by decide +kernel) rfl
theorem k_314 : Cond.fieldLink RX6 46 "TwiceOnce" "answersFree" "Z" ∈ tb := mt 314 (by decide +kernel) rfl
theorem k_347 : Cond.classLink RX4 27 RX2 ∈ tb := mt 347 (by decide +kernel) rfl
theorem k_349 : Cond.methodLink RX4 30 yX4_readActs ∈ tb := mt 349 (by decide +kernel) rfl
theorem k_351 : Cond.instanceMethod yX4_readActs ∈ tb := mt 351 (by decide +kernel) rfl
set_option maxRecDepth 20000 in
theorem k_352 : Cond.code yX4_readActs cX4_readActs 3 (some .boolean) ∈ tb := mt 352 rfl rfl
theorem dX6_init_0 : decode cX6_init 0 = .ok (.aload_n 0, 1) := by decide +kernel
theorem dX6_init_1 : decode cX6_init 1 = .ok (.invokespecial 3, 3) := by decide +kernel
theorem dX6_init_4 : decode cX6_init 4 = .ok (.aload_n 0, 1) := by decide +kernel
theorem dX6_init_5 : decode cX6_init 5 = .ok (.new 9, 3) := by decide +kernel
theorem dX6_init_8 : decode cX6_init 8 = .ok (.dup, 1) := by decide +kernel
theorem dX6_init_9 : decode cX6_init 9 = .ok (.invokespecial 11, 3) := by decide +kernel
theorem dX6_init_12 : decode cX6_init 12 = .ok (.putfield 12, 3) := by decide +kernel
theorem dX6_init_15 : decode cX6_init 15 = .ok (.aload_n 0, 1) := by decide +kernel
theorem dX6_init_16 : decode cX6_init 16 = .ok (.new 16, 3) := by decide +kernel
theorem dX6_init_19 : decode cX6_init 19 = .ok (.dup, 1) := by decide +kernel
theorem dX6_init_20 : decode cX6_init 20 = .ok (.invokespecial 18, 3) := by decide +kernel
theorem dX6_init_23 : decode cX6_init 23 = .ok (.putfield 19, 3) := by decide +kernel
theorem dX6_init_26 : decode cX6_init 26 = .ok (.aload_n 0, 1) := by decide +kernel
theorem dX6_init_27 : decode cX6_init 27 = .ok (.new 23, 3) := by decide +kernel
theorem dX6_init_30 : decode cX6_init 30 = .ok (.dup, 1) := by decide +kernel
theorem dX6_init_31 : decode cX6_init 31 = .ok (.bipush 6, 2) := by decide +kernel
theorem dX6_init_33 : decode cX6_init 33 = .ok (.invokespecial 25, 3) := by decide +kernel
theorem dX6_init_36 : decode cX6_init 36 = .ok (.putfield 28, 3) := by decide +kernel
theorem dX6_init_39 : decode cX6_init 39 = .ok (.aload_n 0, 1) := by decide +kernel
theorem dX6_init_40 : decode cX6_init 40 = .ok (.new 23, 3) := by decide +kernel
theorem dX6_init_43 : decode cX6_init 43 = .ok (.dup, 1) := by decide +kernel
theorem dX6_init_44 : decode cX6_init 44 = .ok (.bipush 20, 2) := by decide +kernel
theorem dX6_init_46 : decode cX6_init 46 = .ok (.invokespecial 25, 3) := by decide +kernel
theorem dX6_init_49 : decode cX6_init 49 = .ok (.putfield 32, 3) := by decide +kernel
theorem dX6_init_52 : decode cX6_init 52 = .ok (.aload_n 0, 1) := by decide +kernel
theorem dX6_init_53 : decode cX6_init 53 = .ok (.new 35, 3) := by decide +kernel
theorem dX6_init_56 : decode cX6_init 56 = .ok (.dup, 1) := by decide +kernel
theorem dX6_init_57 : decode cX6_init 57 = .ok (.invokespecial 37, 3) := by decide +kernel
theorem dX6_init_60 : decode cX6_init 60 = .ok (.putfield 38, 3) := by decide +kernel
theorem dX6_init_63 : decode cX6_init 63 = .ok (.aload_n 0, 1) := by decide +kernel
theorem dX6_init_64 : decode cX6_init 64 = .ok (.iconst 4, 1) := by decide +kernel
theorem dX6_init_65 : decode cX6_init 65 = .ok (.newarray .int, 2) := by decide +kernel
theorem dX6_init_67 : decode cX6_init 67 = .ok (.putfield 42, 3) := by decide +kernel
theorem dX6_init_70 : decode cX6_init 70 = .ok (.aload_n 0, 1) := by decide +kernel
theorem dX6_init_71 : decode cX6_init 71 = .ok (.iconst 0, 1) := by decide +kernel
theorem dX6_init_72 : decode cX6_init 72 = .ok (.putfield 46, 3) := by decide +kernel
theorem dX6_init_75 : decode cX6_init 75 = .ok (.iconst 0, 1) := by decide +kernel
theorem dX6_init_76 : decode cX6_init 76 = .ok (.istore_n 1, 1) := by decide +kernel
theorem dX6_init_77 : decode cX6_init 77 = .ok (.iload_n 1, 1) := by decide +kernel
theorem dX6_init_78 : decode cX6_init 78 = .ok (.iconst 4, 1) := by decide +kernel
theorem dX6_init_79 : decode cX6_init 79 = .ok (.if_icmp .ge 16, 3) := by decide +kernel
theorem dX6_init_82 : decode cX6_init 82 = .ok (.aload_n 0, 1) := by decide +kernel
theorem dX6_init_83 : decode cX6_init 83 = .ok (.getfield 42, 3) := by decide +kernel
theorem dX6_init_86 : decode cX6_init 86 = .ok (.iload_n 1, 1) := by decide +kernel
theorem dX6_init_87 : decode cX6_init 87 = .ok (.iconst 1, 1) := by decide +kernel
theorem dX6_init_88 : decode cX6_init 88 = .ok (.iastore, 1) := by decide +kernel
theorem dX6_init_89 : decode cX6_init 89 = .ok (.iinc 1 1, 3) := by decide +kernel
theorem dX6_init_92 : decode cX6_init 92 = .ok (.goto (-15), 3) := by decide +kernel
theorem dX6_init_95 : decode cX6_init 95 = .ok (.return_, 1) := by decide +kernel
theorem dX4_takeProgram_0 : decode cX4_takeProgram 0 = .ok (.new 27, 3) := by decide +kernel
theorem dX4_takeProgram_3 : decode cX4_takeProgram 3 = .ok (.dup, 1) := by decide +kernel
theorem dX4_takeProgram_4 : decode cX4_takeProgram 4 = .ok (.invokespecial 29, 3) := by decide +kernel
theorem dX4_takeProgram_7 : decode cX4_takeProgram 7 = .ok (.astore_n 1, 1) := by decide +kernel
theorem dX4_takeProgram_8 : decode cX4_takeProgram 8 = .ok (.aload_n 0, 1) := by decide +kernel
theorem dX4_takeProgram_9 : decode cX4_takeProgram 9 = .ok (.iconst 0, 1) := by decide +kernel
theorem dX4_takeProgram_10 : decode cX4_takeProgram 10 = .ok (.putfield 22, 3) := by decide +kernel
theorem dX4_takeProgram_13 : decode cX4_takeProgram 13 = .ok (.aload_n 0, 1) := by decide +kernel
theorem dX4_takeProgram_14 : decode cX4_takeProgram 14 = .ok (.aload_n 1, 1) := by decide +kernel
theorem dX4_takeProgram_15 : decode cX4_takeProgram 15 = .ok (.invokevirtual 30, 3) := by decide +kernel
theorem dX4_takeProgram_18 : decode cX4_takeProgram 18 = .ok (.ifCond .eq 18, 3) := by decide +kernel
theorem dX4_takeProgram_21 : decode cX4_takeProgram 21 = .ok (.aload_n 0, 1) := by decide +kernel
theorem dX4_takeProgram_22 : decode cX4_takeProgram 22 = .ok (.getfield 22, 3) := by decide +kernel
theorem dX4_takeProgram_25 : decode cX4_takeProgram 25 = .ok (.aload_n 0, 1) := by decide +kernel
theorem dX4_takeProgram_26 : decode cX4_takeProgram 26 = .ok (.getfield 15, 3) := by decide +kernel
theorem dX4_takeProgram_29 : decode cX4_takeProgram 29 = .ok (.if_icmp .ne 7, 3) := by decide +kernel
theorem dX4_takeProgram_36 : decode cX4_takeProgram 36 = .ok (.iconst 0, 1) := by decide +kernel
theorem dX4_takeProgram_37 : decode cX4_takeProgram 37 = .ok (.istore_n 2, 1) := by decide +kernel
theorem dX4_takeProgram_38 : decode cX4_takeProgram 38 = .ok (.aload_n 0, 1) := by decide +kernel
theorem dX4_takeProgram_39 : decode cX4_takeProgram 39 = .ok (.aload_n 0, 1) := by decide +kernel
theorem dX4_takeProgram_40 : decode cX4_takeProgram 40 = .ok (.getfield 22, 3) := by decide +kernel
theorem dX4_takeProgram_43 : decode cX4_takeProgram 43 = .ok (.putfield 19, 3) := by decide +kernel
theorem dX4_takeProgram_46 : decode cX4_takeProgram 46 = .ok (.aload_n 0, 1) := by decide +kernel
theorem dX4_takeProgram_47 : decode cX4_takeProgram 47 = .ok (.iconst 0, 1) := by decide +kernel
theorem dX4_takeProgram_48 : decode cX4_takeProgram 48 = .ok (.putfield 15, 3) := by decide +kernel
theorem dX4_takeProgram_51 : decode cX4_takeProgram 51 = .ok (.iload_n 2, 1) := by decide +kernel
theorem dX4_takeProgram_52 : decode cX4_takeProgram 52 = .ok (.ifCond .eq 7, 3) := by decide +kernel
theorem dX4_takeProgram_59 : decode cX4_takeProgram 59 = .ok (.aconst_null, 1) := by decide +kernel
theorem dX4_takeProgram_60 : decode cX4_takeProgram 60 = .ok (.areturn, 1) := by decide +kernel
theorem dX4_takeProgram_32 : decode cX4_takeProgram 32 = .ok (.iconst 1, 1) := by decide +kernel
theorem dX4_takeProgram_33 : decode cX4_takeProgram 33 = .ok (.goto 4, 3) := by decide +kernel
theorem dX4_takeProgram_55 : decode cX4_takeProgram 55 = .ok (.aload_n 1, 1) := by decide +kernel
theorem dX4_takeProgram_56 : decode cX4_takeProgram 56 = .ok (.goto 4, 3) := by decide +kernel
abbrev md_k_TwiceOnce : Nat → Nat → Bool := mdf [(11, 0), (11, 1), (11, 2), (11, 3), (12, 0), (12, 1), (12, 2), (12, 3), (12, 4), (12, 5), (12, 6), (12, 7), (12, 8), (12, 9), (13, 0), (13, 1), (13, 2), (13, 3), (14, 0), (14, 1), (14, 2), (14, 3), (14, 4), (14, 5), (14, 6), (14, 7), (14, 8), (14, 9), (14, 10), (14, 11), (14, 12), (14, 13), (14, 14), (15, 0), (15, 1), (15, 2), (15, 3), (16, 0), (16, 1), (16, 2), (16, 3), (16, 4), (16, 5), (16, 6), (16, 7), (17, 0), (17, 1), (17, 2), (17, 3), (17, 4), (17, 5), (17, 6), (44, 99), (60, 99)]
theorem mdle_k_TwiceOnce_k_Judge {r k : Nat} (h : md_k_TwiceOnce r k = false) : md_k_Judge r k = false := mdf_le (by decide +kernel) h
theorem mdle_k_TwiceOnce_k_Tape {r k : Nat} (h : md_k_TwiceOnce r k = false) : md_k_Tape r k = false := mdf_le (by decide +kernel) h
theorem mdle_k_TwiceOnce_l_CallList {r k : Nat} (h : md_k_TwiceOnce r k = false) : md_l_CallList r k = false := mdf_le (by decide +kernel) h
theorem mdle_k_TwiceOnce_n_World {r k : Nat} (h : md_k_TwiceOnce r k = false) : md_n_World r k = false := mdf_le (by decide +kernel) h
theorem mdle_k_TwiceOnce_s_CallList {r k : Nat} (h : md_k_TwiceOnce r k = false) : md_s_CallList r k = false := mdf_le (by decide +kernel) h
set_option maxHeartbeats 4000000 in
set_option maxRecDepth 100000 in
theorem k_TwiceOnce (l : Launch) (D : va_G) (cI cZ cS cR : ClassId) (N0 : NT) (g : GS) (hI : Inv g) (h : Nat) (r_h : g.1 h = 17) : Ty l D cI cZ cS cR N0 yX6_init cX6_init 2 none 4 343 13533 [.ref h] g (fun v g' => v = none ∧ Inv g' ∧ Exx h g g' ∧ Sm md_k_TwiceOnce g g' ∧ g'.1 h = 7 ∧ (g'.2.1 h 6 = .int 0) ∧ (TS g' h) ∧ (HX g' h)) := by
  refine t_enter (by decide) (Nat.le_of_ble_eq_true rfl) ?_
  intro p e s m args below meth c ls H locs hB hr hin hl hT
  have hx := hB.1
  have hb := hB.2.1
  have hl : lv_has ls 2 [(0, .ref h)] := hl
  replace hE : Ex g g := Ex.rf
  replace hM : Sm md_k_TwiceOnce g g := Sm.rf
  refine lv_aload_n hx hb dX6_init_0 rfl (lv_at hl 0 rfl) ?_
  refine t_oinit hB k_77 k_78 k_79 hl.1 dX6_init_1 (Nat.le_of_ble_eq_true rfl) (Nat.le_of_ble_eq_true rfl) ?_
  refine lv_aload_n hx hb dX6_init_4 rfl (lv_at hl 0 rfl) ?_
  refine t_new (ci := 4) (fs := [.null, .int 0, .int 0, .int 0]) hB hT rfl (by decide) k_80 k_81 k_58 (fnew_4) (Nat.le_of_ble_eq_true rfl) (Nat.le_of_ble_eq_true rfl) dX6_init_5 (fun q_1 H o_q_1 hT => ?_)
  have z_q_1 : g.1 q_1 = 0 := hE.z0 o_q_1
  replace hI : Inv (sN g q_1 15 (vp_V [.null, .int 0, .int 0, .int 0])) := hI.newo o_q_1 (fun _ => rfl) (fun _ => trivial) (fun _ _ => trivial)
  replace hM : Sm md_k_TwiceOnce g (sN g q_1 15 (vp_V [.null, .int 0, .int 0, .int 0])) := hM.tr hE (Sm.push o_q_1 sN_g)
  replace hE : Ex g (sN g q_1 15 (vp_V [.null, .int 0, .int 0, .int 0])) := hE.tr (Ex.push o_q_1 sN_g)
  have r_2 : (sN g q_1 15 (vp_V [.null, .int 0, .int 0, .int 0])).1 h = 17 := ((sN_g h (ne0 r_h o_q_1 (by decide))).1.trans r_h)
  have r_3 : (sN g q_1 15 (vp_V [.null, .int 0, .int 0, .int 0])).1 q_1 = 15 := sN_r
  have kn_4 : (sN g q_1 15 (vp_V [.null, .int 0, .int 0, .int 0])).2.1 q_1 0 = .null := sN_f
  have kn_5 : (sN g q_1 15 (vp_V [.null, .int 0, .int 0, .int 0])).2.1 q_1 1 = .int 0 := sN_f
  have kn_6 : (sN g q_1 15 (vp_V [.null, .int 0, .int 0, .int 0])).2.1 q_1 2 = .int 0 := sN_f
  have kn_7 : (sN g q_1 15 (vp_V [.null, .int 0, .int 0, .int 0])).2.1 q_1 3 = .int 0 := sN_f
  generalize (sN g q_1 15 (vp_V [.null, .int 0, .int 0, .int 0])) = g_8 at hT hI hM hE r_2 r_3 kn_4 kn_5 kn_6 kn_7
  refine W.widen (k := 1) (n := 4) (Nat.le_of_ble_eq_true rfl) (Nat.le_of_ble_eq_true rfl) ?_
  refine lv_dup hx hb dX6_init_8 rfl ?_
  refine t_callIN (n := 0) (As := []) (rest := [.ref q_1, .ref h]) hB hT hl.1 (k_Tape l D cI cZ cS cR N0 g_8 hI q_1 r_3) k_84 k_58 hB.2.2.2.2.2.2.2.1.1 k_83 rfl (by decide +kernel) ⟨(Nat.le_of_ble_eq_true rfl), (Nat.le_of_ble_eq_true rfl)⟩ rfl (Nat.le_of_ble_eq_true rfl) ⟨(Nat.le_of_ble_eq_true rfl), (Nat.le_of_ble_eq_true rfl)⟩ dX6_init_9 (fun v g_9 H locs hp hT => ?_)
  obtain ⟨rfl, hI, x_12, m_11, r_13, f_10⟩ := hp
  replace hM : Sm md_k_TwiceOnce g g_9 := hM.tr hE (m_11.mo (fun r k h => mdle_k_TwiceOnce_k_Tape h))
  replace hE : Ex g g_9 := hE.trx z_q_1 x_12
  have r_14 : g_9.1 h = 17 := (Exx.r x_12 r_2 (by decide) (ro_ne r_2 r_3 (by decide)))
  have r_15 : g_9.1 q_1 = 5 := r_13
  refine W.eq (g2 := F0 m 12 ls [.ref q_1, .ref h]) rfl ?_
  refine t_put0 (ci := 6) (v := .ref q_1) hB hT (ro_ci r_14 rfl) (ro_n0 r_14 (by decide)) rfl 0 (by decide) k_308 (Or.inr ⟨hin, rfl⟩) rfl rfl dX6_init_12 (fun H locs hT => ?_)
  replace hI : Inv (sF g_9 h 0 (.ref q_1)) := hI.sF (fk r_14 (show fsm _ _ ft from trivial))
  replace hM : Sm md_k_TwiceOnce g (sF g_9 h 0 (.ref q_1)) := hM.tr hE (Sm_sF (by rw [r_14]; rfl))
  replace hE : Ex g (sF g_9 h 0 (.ref q_1)) := hE
  refine lv_aload_n hx hb dX6_init_15 rfl (lv_at hl 0 rfl) ?_
  refine t_new (ci := 5) (fs := [.null, .int 0, .int 0, .null, .int 0, .int 0, .int 0, .int 0]) hB hT rfl (by decide) k_102 k_103 k_59 (fnew_5) (Nat.le_of_ble_eq_true rfl) (Nat.le_of_ble_eq_true rfl) dX6_init_16 (fun q_16 H o_q_16 hT => ?_)
  have z_q_16 : g.1 q_16 = 0 := hE.z0 o_q_16
  replace hI : Inv (sN (sF g_9 h 0 (.ref q_1)) q_16 16 (vp_V [.null, .int 0, .int 0, .null, .int 0, .int 0, .int 0, .int 0])) := hI.newo o_q_16 (fun _ => rfl) (fun _ => trivial) (fun _ _ => trivial)
  replace hM : Sm md_k_TwiceOnce g (sN (sF g_9 h 0 (.ref q_1)) q_16 16 (vp_V [.null, .int 0, .int 0, .null, .int 0, .int 0, .int 0, .int 0])) := hM.tr hE (Sm.push o_q_16 sN_g)
  replace hE : Ex g (sN (sF g_9 h 0 (.ref q_1)) q_16 16 (vp_V [.null, .int 0, .int 0, .null, .int 0, .int 0, .int 0, .int 0])) := hE.tr (Ex.push o_q_16 sN_g)
  have r_17 : (sN (sF g_9 h 0 (.ref q_1)) q_16 16 (vp_V [.null, .int 0, .int 0, .null, .int 0, .int 0, .int 0, .int 0])).1 h = 17 := ((sN_g h (ne0 r_14 o_q_16 (by decide))).1.trans r_14)
  have r_18 : (sN (sF g_9 h 0 (.ref q_1)) q_16 16 (vp_V [.null, .int 0, .int 0, .null, .int 0, .int 0, .int 0, .int 0])).1 q_1 = 5 := ((sN_g q_1 (ne0 r_15 o_q_16 (by decide))).1.trans r_15)
  have r_19 : (sN (sF g_9 h 0 (.ref q_1)) q_16 16 (vp_V [.null, .int 0, .int 0, .null, .int 0, .int 0, .int 0, .int 0])).1 q_16 = 16 := sN_r
  have kn_20 : (sN (sF g_9 h 0 (.ref q_1)) q_16 16 (vp_V [.null, .int 0, .int 0, .null, .int 0, .int 0, .int 0, .int 0])).2.1 q_1 1 = .int 0 := ((congrFun (sN_g q_1 (ne0 r_15 o_q_16 (by decide))).2.1 1).trans (sF_k f_10 (by decide)))
  have kn_21 : (sN (sF g_9 h 0 (.ref q_1)) q_16 16 (vp_V [.null, .int 0, .int 0, .null, .int 0, .int 0, .int 0, .int 0])).2.1 h 0 = .ref q_1 := ((congrFun (sN_g h (ne0 r_14 o_q_16 (by decide))).2.1 0).trans sF_eq)
  have kn_22 : (sN (sF g_9 h 0 (.ref q_1)) q_16 16 (vp_V [.null, .int 0, .int 0, .null, .int 0, .int 0, .int 0, .int 0])).2.1 q_16 0 = .null := sN_f
  have kn_23 : (sN (sF g_9 h 0 (.ref q_1)) q_16 16 (vp_V [.null, .int 0, .int 0, .null, .int 0, .int 0, .int 0, .int 0])).2.1 q_16 1 = .int 0 := sN_f
  have kn_24 : (sN (sF g_9 h 0 (.ref q_1)) q_16 16 (vp_V [.null, .int 0, .int 0, .null, .int 0, .int 0, .int 0, .int 0])).2.1 q_16 2 = .int 0 := sN_f
  have kn_25 : (sN (sF g_9 h 0 (.ref q_1)) q_16 16 (vp_V [.null, .int 0, .int 0, .null, .int 0, .int 0, .int 0, .int 0])).2.1 q_16 3 = .null := sN_f
  have kn_26 : (sN (sF g_9 h 0 (.ref q_1)) q_16 16 (vp_V [.null, .int 0, .int 0, .null, .int 0, .int 0, .int 0, .int 0])).2.1 q_16 4 = .int 0 := sN_f
  have kn_27 : (sN (sF g_9 h 0 (.ref q_1)) q_16 16 (vp_V [.null, .int 0, .int 0, .null, .int 0, .int 0, .int 0, .int 0])).2.1 q_16 5 = .int 0 := sN_f
  have kn_28 : (sN (sF g_9 h 0 (.ref q_1)) q_16 16 (vp_V [.null, .int 0, .int 0, .null, .int 0, .int 0, .int 0, .int 0])).2.1 q_16 6 = .int 0 := sN_f
  have kn_29 : (sN (sF g_9 h 0 (.ref q_1)) q_16 16 (vp_V [.null, .int 0, .int 0, .null, .int 0, .int 0, .int 0, .int 0])).2.1 q_16 7 = .int 0 := sN_f
  generalize (sN (sF g_9 h 0 (.ref q_1)) q_16 16 (vp_V [.null, .int 0, .int 0, .null, .int 0, .int 0, .int 0, .int 0])) = g_30 at hT hI hM hE r_17 r_18 r_19 kn_20 kn_21 kn_22 kn_23 kn_24 kn_25 kn_26 kn_27 kn_28 kn_29
  clear r_14 r_15
  refine W.widen (k := 3) (n := 112) (Nat.le_of_ble_eq_true rfl) (Nat.le_of_ble_eq_true rfl) ?_
  refine lv_dup hx hb dX6_init_19 rfl ?_
  refine t_callI (n := 0) (As := []) (rest := [.ref q_16, .ref h]) hB hT hl.1 (n_World l D cI cZ cS cR N0 g_30 hI q_16 r_19) k_106 k_59 k_104 k_105 rfl (by decide +kernel) ⟨(Nat.le_of_ble_eq_true rfl), (Nat.le_of_ble_eq_true rfl)⟩ rfl (Nat.le_of_ble_eq_true rfl) ⟨(Nat.le_of_ble_eq_true rfl), (Nat.le_of_ble_eq_true rfl)⟩ dX6_init_20 (fun v g_31 H locs hp hT => ?_)
  obtain ⟨rfl, hI, x_35, m_34, r_36, f_32, f_33⟩ := hp
  replace hM : Sm md_k_TwiceOnce g g_31 := hM.tr hE (m_34.mo (fun r k h => mdle_k_TwiceOnce_n_World h))
  replace hE : Ex g g_31 := hE.trx z_q_16 x_35
  have r_37 : g_31.1 h = 17 := (Exx.r x_35 r_17 (by decide) (ro_ne r_17 r_19 (by decide)))
  have r_38 : g_31.1 q_1 = 5 := (Exx.r x_35 r_18 (by decide) (ro_ne r_18 r_19 (by decide)))
  have r_39 : g_31.1 q_16 = 19 := r_36
  have kn_40 : g_31.2.1 q_1 1 = .int 0 := (Sm.v m_34 r_18 (by decide) rfl kn_20)
  have kn_41 : g_31.2.1 h 0 = .ref q_1 := (Sm.v m_34 r_17 (by decide) rfl kn_21)
  refine W.eq (g2 := F0 m 23 ls [.ref q_16, .ref h]) rfl ?_
  have hHS := f_33
  refine t_put0 (ci := 6) (v := .ref q_16) hB hT (ro_ci r_37 rfl) (ro_n0 r_37 (by decide)) rfl 1 (by decide) k_309 (Or.inr ⟨hin, rfl⟩) rfl rfl dX6_init_23 (fun H locs hT => ?_)
  replace hI : Inv (sF g_31 h 1 (.ref q_16)) := hI.sF (fk r_37 (show fsm _ _ ft from trivial))
  replace hM : Sm md_k_TwiceOnce g (sF g_31 h 1 (.ref q_16)) := hM.tr hE (Sm_sF (by rw [r_37]; rfl))
  replace hE : Ex g (sF g_31 h 1 (.ref q_16)) := hE
  have hHS : HS (sF g_31 h 1 (.ref q_16)) q_16 := hHS.mono (md := mdf [(17, 1)]) (Sm_sF (by rw [r_37]; rfl)) Ex.rf r_39 rfl rfl rfl rfl
  refine lv_aload_n hx hb dX6_init_26 rfl (lv_at hl 0 rfl) ?_
  refine t_new (ci := 0) (fs := [.null, .null, .null, .int 0]) hB hT rfl (by decide) k_234 k_235 k_62 (fnew_0) (Nat.le_of_ble_eq_true rfl) (Nat.le_of_ble_eq_true rfl) dX6_init_27 (fun q_42 H o_q_42 hT => ?_)
  have z_q_42 : g.1 q_42 = 0 := hE.z0 o_q_42
  replace hI : Inv (sN (sF g_31 h 1 (.ref q_16)) q_42 11 (vp_V [.null, .null, .null, .int 0])) := hI.newo o_q_42 (fun _ => rfl) (fun _ => trivial) (fun _ _ => trivial)
  replace hM : Sm md_k_TwiceOnce g (sN (sF g_31 h 1 (.ref q_16)) q_42 11 (vp_V [.null, .null, .null, .int 0])) := hM.tr hE (Sm.push o_q_42 sN_g)
  replace hE : Ex g (sN (sF g_31 h 1 (.ref q_16)) q_42 11 (vp_V [.null, .null, .null, .int 0])) := hE.tr (Ex.push o_q_42 sN_g)
  have hHS : HS (sN (sF g_31 h 1 (.ref q_16)) q_42 11 (vp_V [.null, .null, .null, .int 0])) q_16 := hHS.mono (md := fun _ _ => false) (Sm.push o_q_42 sN_g) (Ex.push o_q_42 sN_g) r_39 rfl rfl rfl rfl
  have r_43 : (sN (sF g_31 h 1 (.ref q_16)) q_42 11 (vp_V [.null, .null, .null, .int 0])).1 h = 17 := ((sN_g h (ne0 r_37 o_q_42 (by decide))).1.trans r_37)
  have r_44 : (sN (sF g_31 h 1 (.ref q_16)) q_42 11 (vp_V [.null, .null, .null, .int 0])).1 q_1 = 5 := ((sN_g q_1 (ne0 r_38 o_q_42 (by decide))).1.trans r_38)
  have r_45 : (sN (sF g_31 h 1 (.ref q_16)) q_42 11 (vp_V [.null, .null, .null, .int 0])).1 q_16 = 19 := ((sN_g q_16 (ne0 r_39 o_q_42 (by decide))).1.trans r_39)
  have r_46 : (sN (sF g_31 h 1 (.ref q_16)) q_42 11 (vp_V [.null, .null, .null, .int 0])).1 q_42 = 11 := sN_r
  have kn_47 : (sN (sF g_31 h 1 (.ref q_16)) q_42 11 (vp_V [.null, .null, .null, .int 0])).2.1 q_1 1 = .int 0 := ((congrFun (sN_g q_1 (ne0 r_38 o_q_42 (by decide))).2.1 1).trans (sF_a kn_40 (ro_ne r_38 r_37 (by decide))))
  have kn_48 : (sN (sF g_31 h 1 (.ref q_16)) q_42 11 (vp_V [.null, .null, .null, .int 0])).2.1 h 0 = .ref q_1 := ((congrFun (sN_g h (ne0 r_37 o_q_42 (by decide))).2.1 0).trans (sF_k kn_41 (by decide)))
  have kn_49 : (sN (sF g_31 h 1 (.ref q_16)) q_42 11 (vp_V [.null, .null, .null, .int 0])).2.1 q_16 1 = .int 0 := ((congrFun (sN_g q_16 (ne0 r_39 o_q_42 (by decide))).2.1 1).trans (sF_a f_32 (ro_ne r_39 r_37 (by decide))))
  have kn_50 : (sN (sF g_31 h 1 (.ref q_16)) q_42 11 (vp_V [.null, .null, .null, .int 0])).2.1 h 1 = .ref q_16 := ((congrFun (sN_g h (ne0 r_37 o_q_42 (by decide))).2.1 1).trans sF_eq)
  have kn_51 : (sN (sF g_31 h 1 (.ref q_16)) q_42 11 (vp_V [.null, .null, .null, .int 0])).2.1 q_42 0 = .null := sN_f
  have kn_52 : (sN (sF g_31 h 1 (.ref q_16)) q_42 11 (vp_V [.null, .null, .null, .int 0])).2.1 q_42 1 = .null := sN_f
  have kn_53 : (sN (sF g_31 h 1 (.ref q_16)) q_42 11 (vp_V [.null, .null, .null, .int 0])).2.1 q_42 2 = .null := sN_f
  have kn_54 : (sN (sF g_31 h 1 (.ref q_16)) q_42 11 (vp_V [.null, .null, .null, .int 0])).2.1 q_42 3 = .int 0 := sN_f
  generalize (sN (sF g_31 h 1 (.ref q_16)) q_42 11 (vp_V [.null, .null, .null, .int 0])) = g_55 at hT hI hM hE r_43 r_44 r_45 r_46 kn_47 kn_48 kn_49 kn_50 kn_51 kn_52 kn_53 kn_54 hHS
  clear kn_40 kn_41 r_37 r_38 r_39
  refine W.widen (k := 78) (n := 1396) (Nat.le_of_ble_eq_true rfl) (Nat.le_of_ble_eq_true rfl) ?_
  refine lv_dup hx hb dX6_init_30 rfl ?_
  refine lv_bipush (v := 6) hx hb dX6_init_31 (by decide) ?_
  refine t_callI (n := 1) (As := [.int 6]) (rest := [.ref q_42, .ref h]) hB hT hl.1 (s_CallList l D cI cZ cS cR N0 g_55 hI q_42 r_46) k_238 k_62 k_236 k_237 rfl (by decide +kernel) ⟨(Nat.le_of_ble_eq_true rfl), (Nat.le_of_ble_eq_true rfl)⟩ rfl (Nat.le_of_ble_eq_true rfl) ⟨(Nat.le_of_ble_eq_true rfl), (Nat.le_of_ble_eq_true rfl)⟩ dX6_init_33 (fun v g_56 H locs hp hT => ?_)
  obtain ⟨rfl, hI, x_59, m_58, r_60, f_57⟩ := hp
  have hHS : HS g_56 q_16 := hHS.monx m_58 x_59 r_46 (by decide) r_45 rfl rfl rfl rfl
  replace hM : Sm md_k_TwiceOnce g g_56 := hM.tr hE (m_58.mo (fun r k h => mdle_k_TwiceOnce_s_CallList h))
  replace hE : Ex g g_56 := hE.trx z_q_42 x_59
  have r_61 : g_56.1 h = 17 := (Exx.r x_59 r_43 (by decide) (ro_ne r_43 r_46 (by decide)))
  have r_62 : g_56.1 q_1 = 5 := (Exx.r x_59 r_44 (by decide) (ro_ne r_44 r_46 (by decide)))
  have r_63 : g_56.1 q_16 = 19 := (Exx.r x_59 r_45 (by decide) (ro_ne r_45 r_46 (by decide)))
  have r_64 : g_56.1 q_42 = 1 := r_60
  have kn_65 : g_56.2.1 q_1 1 = .int 0 := (Sm.v m_58 r_44 (by decide) rfl kn_47)
  have kn_66 : g_56.2.1 h 0 = .ref q_1 := (Sm.v m_58 r_43 (by decide) rfl kn_48)
  have kn_67 : g_56.2.1 q_16 1 = .int 0 := (Sm.v m_58 r_45 (by decide) rfl kn_49)
  have kn_68 : g_56.2.1 h 1 = .ref q_16 := (Sm.v m_58 r_43 (by decide) rfl kn_50)
  refine W.eq (g2 := F0 m 36 ls [.ref q_42, .ref h]) rfl ?_
  have qc_69 : (6 : Int32).toInt = 6 := (by decide)
  refine t_put0 (ci := 6) (v := .ref q_42) hB hT (ro_ci r_61 rfl) (ro_n0 r_61 (by decide)) rfl 2 (by decide) k_310 (Or.inr ⟨hin, rfl⟩) rfl rfl dX6_init_36 (fun H locs hT => ?_)
  replace hI : Inv (sF g_56 h 2 (.ref q_42)) := hI.sF (fk r_61 (show fsm _ _ ft from trivial))
  replace hM : Sm md_k_TwiceOnce g (sF g_56 h 2 (.ref q_42)) := hM.tr hE (Sm_sF (by rw [r_61]; rfl))
  replace hE : Ex g (sF g_56 h 2 (.ref q_42)) := hE
  have hHS : HS (sF g_56 h 2 (.ref q_42)) q_16 := hHS.mono (md := mdf [(17, 2)]) (Sm_sF (by rw [r_61]; rfl)) Ex.rf r_63 rfl rfl rfl rfl
  refine lv_aload_n hx hb dX6_init_39 rfl (lv_at hl 0 rfl) ?_
  refine t_new (ci := 0) (fs := [.null, .null, .null, .int 0]) hB hT rfl (by decide) k_234 k_235 k_62 (fnew_0) (Nat.le_of_ble_eq_true rfl) (Nat.le_of_ble_eq_true rfl) dX6_init_40 (fun q_70 H o_q_70 hT => ?_)
  have z_q_70 : g.1 q_70 = 0 := hE.z0 o_q_70
  replace hI : Inv (sN (sF g_56 h 2 (.ref q_42)) q_70 11 (vp_V [.null, .null, .null, .int 0])) := hI.newo o_q_70 (fun _ => rfl) (fun _ => trivial) (fun _ _ => trivial)
  replace hM : Sm md_k_TwiceOnce g (sN (sF g_56 h 2 (.ref q_42)) q_70 11 (vp_V [.null, .null, .null, .int 0])) := hM.tr hE (Sm.push o_q_70 sN_g)
  replace hE : Ex g (sN (sF g_56 h 2 (.ref q_42)) q_70 11 (vp_V [.null, .null, .null, .int 0])) := hE.tr (Ex.push o_q_70 sN_g)
  have hHS : HS (sN (sF g_56 h 2 (.ref q_42)) q_70 11 (vp_V [.null, .null, .null, .int 0])) q_16 := hHS.mono (md := fun _ _ => false) (Sm.push o_q_70 sN_g) (Ex.push o_q_70 sN_g) r_63 rfl rfl rfl rfl
  have r_71 : (sN (sF g_56 h 2 (.ref q_42)) q_70 11 (vp_V [.null, .null, .null, .int 0])).1 h = 17 := ((sN_g h (ne0 r_61 o_q_70 (by decide))).1.trans r_61)
  have r_72 : (sN (sF g_56 h 2 (.ref q_42)) q_70 11 (vp_V [.null, .null, .null, .int 0])).1 q_1 = 5 := ((sN_g q_1 (ne0 r_62 o_q_70 (by decide))).1.trans r_62)
  have r_73 : (sN (sF g_56 h 2 (.ref q_42)) q_70 11 (vp_V [.null, .null, .null, .int 0])).1 q_16 = 19 := ((sN_g q_16 (ne0 r_63 o_q_70 (by decide))).1.trans r_63)
  have r_74 : (sN (sF g_56 h 2 (.ref q_42)) q_70 11 (vp_V [.null, .null, .null, .int 0])).1 q_42 = 1 := ((sN_g q_42 (ne0 r_64 o_q_70 (by decide))).1.trans r_64)
  have r_75 : (sN (sF g_56 h 2 (.ref q_42)) q_70 11 (vp_V [.null, .null, .null, .int 0])).1 q_70 = 11 := sN_r
  have kn_76 : (sN (sF g_56 h 2 (.ref q_42)) q_70 11 (vp_V [.null, .null, .null, .int 0])).2.1 q_1 1 = .int 0 := ((congrFun (sN_g q_1 (ne0 r_62 o_q_70 (by decide))).2.1 1).trans (sF_k kn_65 (by decide)))
  have kn_77 : (sN (sF g_56 h 2 (.ref q_42)) q_70 11 (vp_V [.null, .null, .null, .int 0])).2.1 h 0 = .ref q_1 := ((congrFun (sN_g h (ne0 r_61 o_q_70 (by decide))).2.1 0).trans (sF_k kn_66 (by decide)))
  have kn_78 : (sN (sF g_56 h 2 (.ref q_42)) q_70 11 (vp_V [.null, .null, .null, .int 0])).2.1 q_16 1 = .int 0 := ((congrFun (sN_g q_16 (ne0 r_63 o_q_70 (by decide))).2.1 1).trans (sF_k kn_67 (by decide)))
  have kn_79 : (sN (sF g_56 h 2 (.ref q_42)) q_70 11 (vp_V [.null, .null, .null, .int 0])).2.1 h 1 = .ref q_16 := ((congrFun (sN_g h (ne0 r_61 o_q_70 (by decide))).2.1 1).trans (sF_k kn_68 (by decide)))
  have kn_80 : (sN (sF g_56 h 2 (.ref q_42)) q_70 11 (vp_V [.null, .null, .null, .int 0])).2.1 q_42 3 = .int 0 := ((congrFun (sN_g q_42 (ne0 r_64 o_q_70 (by decide))).2.1 3).trans (sF_k f_57 (by decide)))
  have kn_81 : (sN (sF g_56 h 2 (.ref q_42)) q_70 11 (vp_V [.null, .null, .null, .int 0])).2.1 h 2 = .ref q_42 := ((congrFun (sN_g h (ne0 r_61 o_q_70 (by decide))).2.1 2).trans sF_eq)
  have kn_82 : (sN (sF g_56 h 2 (.ref q_42)) q_70 11 (vp_V [.null, .null, .null, .int 0])).2.1 q_70 0 = .null := sN_f
  have kn_83 : (sN (sF g_56 h 2 (.ref q_42)) q_70 11 (vp_V [.null, .null, .null, .int 0])).2.1 q_70 1 = .null := sN_f
  have kn_84 : (sN (sF g_56 h 2 (.ref q_42)) q_70 11 (vp_V [.null, .null, .null, .int 0])).2.1 q_70 2 = .null := sN_f
  have kn_85 : (sN (sF g_56 h 2 (.ref q_42)) q_70 11 (vp_V [.null, .null, .null, .int 0])).2.1 q_70 3 = .int 0 := sN_f
  generalize (sN (sF g_56 h 2 (.ref q_42)) q_70 11 (vp_V [.null, .null, .null, .int 0])) = g_86 at hT hI hM hE r_71 r_72 r_73 r_74 r_75 kn_76 kn_77 kn_78 kn_79 kn_80 kn_81 kn_82 kn_83 kn_84 kn_85 hHS
  clear kn_65 kn_66 kn_67 kn_68 r_61 r_62 r_63 r_64
  refine W.widen (k := 82) (n := 1418) (Nat.le_of_ble_eq_true rfl) (Nat.le_of_ble_eq_true rfl) ?_
  refine lv_dup hx hb dX6_init_43 rfl ?_
  refine lv_bipush (v := 20) hx hb dX6_init_44 (by decide) ?_
  refine t_callI (n := 1) (As := [.int 20]) (rest := [.ref q_70, .ref h]) hB hT hl.1 (l_CallList l D cI cZ cS cR N0 g_86 hI q_70 r_75) k_238 k_62 k_236 k_237 rfl (by decide +kernel) ⟨(Nat.le_of_ble_eq_true rfl), (Nat.le_of_ble_eq_true rfl)⟩ rfl (Nat.le_of_ble_eq_true rfl) ⟨(Nat.le_of_ble_eq_true rfl), (Nat.le_of_ble_eq_true rfl)⟩ dX6_init_46 (fun v g_87 H locs hp hT => ?_)
  obtain ⟨rfl, hI, x_90, m_89, r_91, f_88⟩ := hp
  have hHS : HS g_87 q_16 := hHS.monx m_89 x_90 r_75 (by decide) r_73 rfl rfl rfl rfl
  replace hM : Sm md_k_TwiceOnce g g_87 := hM.tr hE (m_89.mo (fun r k h => mdle_k_TwiceOnce_l_CallList h))
  replace hE : Ex g g_87 := hE.trx z_q_70 x_90
  have r_92 : g_87.1 h = 17 := (Exx.r x_90 r_71 (by decide) (ro_ne r_71 r_75 (by decide)))
  have r_93 : g_87.1 q_1 = 5 := (Exx.r x_90 r_72 (by decide) (ro_ne r_72 r_75 (by decide)))
  have r_94 : g_87.1 q_16 = 19 := (Exx.r x_90 r_73 (by decide) (ro_ne r_73 r_75 (by decide)))
  have r_95 : g_87.1 q_42 = 1 := (Exx.r x_90 r_74 (by decide) (ro_ne r_74 r_75 (by decide)))
  have r_96 : g_87.1 q_70 = 9 := r_91
  have kn_97 : g_87.2.1 q_1 1 = .int 0 := (Sm.v m_89 r_72 (by decide) rfl kn_76)
  have kn_98 : g_87.2.1 h 0 = .ref q_1 := (Sm.v m_89 r_71 (by decide) rfl kn_77)
  have kn_99 : g_87.2.1 q_16 1 = .int 0 := (Sm.v m_89 r_73 (by decide) rfl kn_78)
  have kn_100 : g_87.2.1 h 1 = .ref q_16 := (Sm.v m_89 r_71 (by decide) rfl kn_79)
  have kn_101 : g_87.2.1 q_42 3 = .int 0 := (Sm.v m_89 r_74 (by decide) rfl kn_80)
  have kn_102 : g_87.2.1 h 2 = .ref q_42 := (Sm.v m_89 r_71 (by decide) rfl kn_81)
  refine W.eq (g2 := F0 m 49 ls [.ref q_70, .ref h]) rfl ?_
  have qc_103 : (20 : Int32).toInt = 20 := (by decide)
  refine t_put0 (ci := 6) (v := .ref q_70) hB hT (ro_ci r_92 rfl) (ro_n0 r_92 (by decide)) rfl 3 (by decide) k_311 (Or.inr ⟨hin, rfl⟩) rfl rfl dX6_init_49 (fun H locs hT => ?_)
  replace hI : Inv (sF g_87 h 3 (.ref q_70)) := hI.sF (fk r_92 (show fsm _ _ ft from trivial))
  replace hM : Sm md_k_TwiceOnce g (sF g_87 h 3 (.ref q_70)) := hM.tr hE (Sm_sF (by rw [r_92]; rfl))
  replace hE : Ex g (sF g_87 h 3 (.ref q_70)) := hE
  have hHS : HS (sF g_87 h 3 (.ref q_70)) q_16 := hHS.mono (md := mdf [(17, 3)]) (Sm_sF (by rw [r_92]; rfl)) Ex.rf r_94 rfl rfl rfl rfl
  refine lv_aload_n hx hb dX6_init_52 rfl (lv_at hl 0 rfl) ?_
  refine t_new (ci := 1) (fs := [.null, .null, .null, .null, .null, .null, .int 0, .null, .null, .null]) hB hT rfl (by decide) k_266 k_267 k_64 (fnew_1) (Nat.le_of_ble_eq_true rfl) (Nat.le_of_ble_eq_true rfl) dX6_init_53 (fun q_104 H o_q_104 hT => ?_)
  have z_q_104 : g.1 q_104 = 0 := hE.z0 o_q_104
  replace hI : Inv (sN (sF g_87 h 3 (.ref q_70)) q_104 12 (vp_V [.null, .null, .null, .null, .null, .null, .int 0, .null, .null, .null])) := hI.newo o_q_104 (fun _ => rfl) (fun _ => trivial) (fun _ _ => trivial)
  replace hM : Sm md_k_TwiceOnce g (sN (sF g_87 h 3 (.ref q_70)) q_104 12 (vp_V [.null, .null, .null, .null, .null, .null, .int 0, .null, .null, .null])) := hM.tr hE (Sm.push o_q_104 sN_g)
  replace hE : Ex g (sN (sF g_87 h 3 (.ref q_70)) q_104 12 (vp_V [.null, .null, .null, .null, .null, .null, .int 0, .null, .null, .null])) := hE.tr (Ex.push o_q_104 sN_g)
  have hHS : HS (sN (sF g_87 h 3 (.ref q_70)) q_104 12 (vp_V [.null, .null, .null, .null, .null, .null, .int 0, .null, .null, .null])) q_16 := hHS.mono (md := fun _ _ => false) (Sm.push o_q_104 sN_g) (Ex.push o_q_104 sN_g) r_94 rfl rfl rfl rfl
  have r_105 : (sN (sF g_87 h 3 (.ref q_70)) q_104 12 (vp_V [.null, .null, .null, .null, .null, .null, .int 0, .null, .null, .null])).1 h = 17 := ((sN_g h (ne0 r_92 o_q_104 (by decide))).1.trans r_92)
  have r_106 : (sN (sF g_87 h 3 (.ref q_70)) q_104 12 (vp_V [.null, .null, .null, .null, .null, .null, .int 0, .null, .null, .null])).1 q_1 = 5 := ((sN_g q_1 (ne0 r_93 o_q_104 (by decide))).1.trans r_93)
  have r_107 : (sN (sF g_87 h 3 (.ref q_70)) q_104 12 (vp_V [.null, .null, .null, .null, .null, .null, .int 0, .null, .null, .null])).1 q_16 = 19 := ((sN_g q_16 (ne0 r_94 o_q_104 (by decide))).1.trans r_94)
  have r_108 : (sN (sF g_87 h 3 (.ref q_70)) q_104 12 (vp_V [.null, .null, .null, .null, .null, .null, .int 0, .null, .null, .null])).1 q_42 = 1 := ((sN_g q_42 (ne0 r_95 o_q_104 (by decide))).1.trans r_95)
  have r_109 : (sN (sF g_87 h 3 (.ref q_70)) q_104 12 (vp_V [.null, .null, .null, .null, .null, .null, .int 0, .null, .null, .null])).1 q_70 = 9 := ((sN_g q_70 (ne0 r_96 o_q_104 (by decide))).1.trans r_96)
  have r_110 : (sN (sF g_87 h 3 (.ref q_70)) q_104 12 (vp_V [.null, .null, .null, .null, .null, .null, .int 0, .null, .null, .null])).1 q_104 = 12 := sN_r
  have kn_111 : (sN (sF g_87 h 3 (.ref q_70)) q_104 12 (vp_V [.null, .null, .null, .null, .null, .null, .int 0, .null, .null, .null])).2.1 q_1 1 = .int 0 := ((congrFun (sN_g q_1 (ne0 r_93 o_q_104 (by decide))).2.1 1).trans (sF_k kn_97 (by decide)))
  have kn_112 : (sN (sF g_87 h 3 (.ref q_70)) q_104 12 (vp_V [.null, .null, .null, .null, .null, .null, .int 0, .null, .null, .null])).2.1 h 0 = .ref q_1 := ((congrFun (sN_g h (ne0 r_92 o_q_104 (by decide))).2.1 0).trans (sF_k kn_98 (by decide)))
  have kn_113 : (sN (sF g_87 h 3 (.ref q_70)) q_104 12 (vp_V [.null, .null, .null, .null, .null, .null, .int 0, .null, .null, .null])).2.1 q_16 1 = .int 0 := ((congrFun (sN_g q_16 (ne0 r_94 o_q_104 (by decide))).2.1 1).trans (sF_k kn_99 (by decide)))
  have kn_114 : (sN (sF g_87 h 3 (.ref q_70)) q_104 12 (vp_V [.null, .null, .null, .null, .null, .null, .int 0, .null, .null, .null])).2.1 h 1 = .ref q_16 := ((congrFun (sN_g h (ne0 r_92 o_q_104 (by decide))).2.1 1).trans (sF_k kn_100 (by decide)))
  have kn_115 : (sN (sF g_87 h 3 (.ref q_70)) q_104 12 (vp_V [.null, .null, .null, .null, .null, .null, .int 0, .null, .null, .null])).2.1 q_42 3 = .int 0 := ((congrFun (sN_g q_42 (ne0 r_95 o_q_104 (by decide))).2.1 3).trans (sF_a kn_101 (ro_ne r_95 r_92 (by decide))))
  have kn_116 : (sN (sF g_87 h 3 (.ref q_70)) q_104 12 (vp_V [.null, .null, .null, .null, .null, .null, .int 0, .null, .null, .null])).2.1 h 2 = .ref q_42 := ((congrFun (sN_g h (ne0 r_92 o_q_104 (by decide))).2.1 2).trans (sF_k kn_102 (by decide)))
  have kn_117 : (sN (sF g_87 h 3 (.ref q_70)) q_104 12 (vp_V [.null, .null, .null, .null, .null, .null, .int 0, .null, .null, .null])).2.1 q_70 3 = .int 0 := ((congrFun (sN_g q_70 (ne0 r_96 o_q_104 (by decide))).2.1 3).trans (sF_a f_88 (ro_ne r_96 r_92 (by decide))))
  have kn_118 : (sN (sF g_87 h 3 (.ref q_70)) q_104 12 (vp_V [.null, .null, .null, .null, .null, .null, .int 0, .null, .null, .null])).2.1 h 3 = .ref q_70 := ((congrFun (sN_g h (ne0 r_92 o_q_104 (by decide))).2.1 3).trans sF_eq)
  have kn_119 : (sN (sF g_87 h 3 (.ref q_70)) q_104 12 (vp_V [.null, .null, .null, .null, .null, .null, .int 0, .null, .null, .null])).2.1 q_104 0 = .null := sN_f
  have kn_120 : (sN (sF g_87 h 3 (.ref q_70)) q_104 12 (vp_V [.null, .null, .null, .null, .null, .null, .int 0, .null, .null, .null])).2.1 q_104 1 = .null := sN_f
  have kn_121 : (sN (sF g_87 h 3 (.ref q_70)) q_104 12 (vp_V [.null, .null, .null, .null, .null, .null, .int 0, .null, .null, .null])).2.1 q_104 2 = .null := sN_f
  have kn_122 : (sN (sF g_87 h 3 (.ref q_70)) q_104 12 (vp_V [.null, .null, .null, .null, .null, .null, .int 0, .null, .null, .null])).2.1 q_104 3 = .null := sN_f
  have kn_123 : (sN (sF g_87 h 3 (.ref q_70)) q_104 12 (vp_V [.null, .null, .null, .null, .null, .null, .int 0, .null, .null, .null])).2.1 q_104 4 = .null := sN_f
  have kn_124 : (sN (sF g_87 h 3 (.ref q_70)) q_104 12 (vp_V [.null, .null, .null, .null, .null, .null, .int 0, .null, .null, .null])).2.1 q_104 5 = .null := sN_f
  have kn_125 : (sN (sF g_87 h 3 (.ref q_70)) q_104 12 (vp_V [.null, .null, .null, .null, .null, .null, .int 0, .null, .null, .null])).2.1 q_104 6 = .int 0 := sN_f
  have kn_126 : (sN (sF g_87 h 3 (.ref q_70)) q_104 12 (vp_V [.null, .null, .null, .null, .null, .null, .int 0, .null, .null, .null])).2.1 q_104 7 = .null := sN_f
  have kn_127 : (sN (sF g_87 h 3 (.ref q_70)) q_104 12 (vp_V [.null, .null, .null, .null, .null, .null, .int 0, .null, .null, .null])).2.1 q_104 8 = .null := sN_f
  have kn_128 : (sN (sF g_87 h 3 (.ref q_70)) q_104 12 (vp_V [.null, .null, .null, .null, .null, .null, .int 0, .null, .null, .null])).2.1 q_104 9 = .null := sN_f
  generalize (sN (sF g_87 h 3 (.ref q_70)) q_104 12 (vp_V [.null, .null, .null, .null, .null, .null, .int 0, .null, .null, .null])) = g_129 at hT hI hM hE r_105 r_106 r_107 r_108 r_109 r_110 kn_111 kn_112 kn_113 kn_114 kn_115 kn_116 kn_117 kn_118 kn_119 kn_120 kn_121 kn_122 kn_123 kn_124 kn_125 kn_126 kn_127 kn_128 hHS
  clear kn_100 kn_101 kn_102 kn_97 kn_98 kn_99 r_92 r_93 r_94 r_95 r_96
  refine W.widen (k := 86) (n := 1488) (Nat.le_of_ble_eq_true rfl) (Nat.le_of_ble_eq_true rfl) ?_
  refine lv_dup hx hb dX6_init_56 rfl ?_
  refine t_callIN (n := 0) (As := []) (rest := [.ref q_104, .ref h]) hB hT hl.1 (k_Judge l D cI cZ cS cR N0 g_129 hI q_104 r_110) k_270 k_64 hB.2.2.2.2.2.2.2.1.2.2.2.1 k_269 rfl (by decide +kernel) ⟨(Nat.le_of_ble_eq_true rfl), (Nat.le_of_ble_eq_true rfl)⟩ rfl (Nat.le_of_ble_eq_true rfl) ⟨(Nat.le_of_ble_eq_true rfl), (Nat.le_of_ble_eq_true rfl)⟩ dX6_init_57 (fun v g_130 H locs hp hT => ?_)
  obtain ⟨rfl, hI, x_132, m_131, r_133⟩ := hp
  have hHS : HS g_130 q_16 := hHS.monx m_131 x_132 r_110 (by decide) r_107 rfl rfl rfl rfl
  replace hM : Sm md_k_TwiceOnce g g_130 := hM.tr hE (m_131.mo (fun r k h => mdle_k_TwiceOnce_k_Judge h))
  replace hE : Ex g g_130 := hE.trx z_q_104 x_132
  have r_134 : g_130.1 h = 17 := (Exx.r x_132 r_105 (by decide) (ro_ne r_105 r_110 (by decide)))
  have r_135 : g_130.1 q_1 = 5 := (Exx.r x_132 r_106 (by decide) (ro_ne r_106 r_110 (by decide)))
  have r_136 : g_130.1 q_16 = 19 := (Exx.r x_132 r_107 (by decide) (ro_ne r_107 r_110 (by decide)))
  have r_137 : g_130.1 q_42 = 1 := (Exx.r x_132 r_108 (by decide) (ro_ne r_108 r_110 (by decide)))
  have r_138 : g_130.1 q_70 = 9 := (Exx.r x_132 r_109 (by decide) (ro_ne r_109 r_110 (by decide)))
  have r_139 : g_130.1 q_104 = 2 := r_133
  have kn_140 : g_130.2.1 q_1 1 = .int 0 := (Sm.v m_131 r_106 (by decide) rfl kn_111)
  have kn_141 : g_130.2.1 h 0 = .ref q_1 := (Sm.v m_131 r_105 (by decide) rfl kn_112)
  have kn_142 : g_130.2.1 q_16 1 = .int 0 := (Sm.v m_131 r_107 (by decide) rfl kn_113)
  have kn_143 : g_130.2.1 h 1 = .ref q_16 := (Sm.v m_131 r_105 (by decide) rfl kn_114)
  have kn_144 : g_130.2.1 q_42 3 = .int 0 := (Sm.v m_131 r_108 (by decide) rfl kn_115)
  have kn_145 : g_130.2.1 h 2 = .ref q_42 := (Sm.v m_131 r_105 (by decide) rfl kn_116)
  have kn_146 : g_130.2.1 q_70 3 = .int 0 := (Sm.v m_131 r_109 (by decide) rfl kn_117)
  have kn_147 : g_130.2.1 h 3 = .ref q_70 := (Sm.v m_131 r_105 (by decide) rfl kn_118)
  refine W.eq (g2 := F0 m 60 ls [.ref q_104, .ref h]) rfl ?_
  refine t_put0 (ci := 6) (v := .ref q_104) hB hT (ro_ci r_134 rfl) (ro_n0 r_134 (by decide)) rfl 4 (by decide) k_312 (Or.inr ⟨hin, rfl⟩) rfl rfl dX6_init_60 (fun H locs hT => ?_)
  replace hI : Inv (sF g_130 h 4 (.ref q_104)) := hI.sF (fk r_134 (show fsm _ _ ft from trivial))
  replace hM : Sm md_k_TwiceOnce g (sF g_130 h 4 (.ref q_104)) := hM.tr hE (Sm_sF (by rw [r_134]; rfl))
  replace hE : Ex g (sF g_130 h 4 (.ref q_104)) := hE
  have hHS : HS (sF g_130 h 4 (.ref q_104)) q_16 := hHS.mono (md := mdf [(17, 4)]) (Sm_sF (by rw [r_134]; rfl)) Ex.rf r_136 rfl rfl rfl rfl
  refine lv_aload_n hx hb dX6_init_63 rfl (lv_at hl 0 rfl) ?_
  refine lv_iconst (v := 4) hx hb dX6_init_64 (by decide) ?_
  refine t_newi (N' := 4) hB hT 60 (by decide) k_101 (by decide) (by decide) (by decide) (Nat.le_of_ble_eq_true rfl) (Nat.le_of_ble_eq_true rfl) dX6_init_65 (fun q_148 H o_q_148 hT => ?_)
  have z_q_148 : g.1 q_148 = 0 := hE.z0 o_q_148
  replace hI : Inv (sA (sF g_130 h 4 (.ref q_104)) q_148 60 4) := hI.newi o_q_148 (by decide) (fun _ => rfl) trivial (fun _ => trivial)
  replace hM : Sm md_k_TwiceOnce g (sA (sF g_130 h 4 (.ref q_104)) q_148 60 4) := hM.tr hE (Sm.push o_q_148 sA_g)
  replace hE : Ex g (sA (sF g_130 h 4 (.ref q_104)) q_148 60 4) := hE.tr (Ex.push o_q_148 sA_g)
  have hHS : HS (sA (sF g_130 h 4 (.ref q_104)) q_148 60 4) q_16 := hHS.mono (md := fun _ _ => false) (Sm.push o_q_148 sA_g) (Ex.push o_q_148 sA_g) r_136 rfl rfl rfl rfl
  have r_149 : (sA (sF g_130 h 4 (.ref q_104)) q_148 60 4).1 h = 17 := ((sA_g h (ne0 r_134 o_q_148 (by decide))).1.trans r_134)
  have r_150 : (sA (sF g_130 h 4 (.ref q_104)) q_148 60 4).1 q_1 = 5 := ((sA_g q_1 (ne0 r_135 o_q_148 (by decide))).1.trans r_135)
  have r_151 : (sA (sF g_130 h 4 (.ref q_104)) q_148 60 4).1 q_16 = 19 := ((sA_g q_16 (ne0 r_136 o_q_148 (by decide))).1.trans r_136)
  have r_152 : (sA (sF g_130 h 4 (.ref q_104)) q_148 60 4).1 q_42 = 1 := ((sA_g q_42 (ne0 r_137 o_q_148 (by decide))).1.trans r_137)
  have r_153 : (sA (sF g_130 h 4 (.ref q_104)) q_148 60 4).1 q_70 = 9 := ((sA_g q_70 (ne0 r_138 o_q_148 (by decide))).1.trans r_138)
  have r_154 : (sA (sF g_130 h 4 (.ref q_104)) q_148 60 4).1 q_104 = 2 := ((sA_g q_104 (ne0 r_139 o_q_148 (by decide))).1.trans r_139)
  have r_155 : (sA (sF g_130 h 4 (.ref q_104)) q_148 60 4).1 q_148 = 60 := sA_r
  have n_156 : (sA (sF g_130 h 4 (.ref q_104)) q_148 60 4).2.2.1 q_148 = 4 := sA_n
  have kn_157 : (sA (sF g_130 h 4 (.ref q_104)) q_148 60 4).2.1 q_1 1 = .int 0 := ((congrFun (sA_g q_1 (ne0 r_135 o_q_148 (by decide))).2.1 1).trans (sF_k kn_140 (by decide)))
  have kn_158 : (sA (sF g_130 h 4 (.ref q_104)) q_148 60 4).2.1 h 0 = .ref q_1 := ((congrFun (sA_g h (ne0 r_134 o_q_148 (by decide))).2.1 0).trans (sF_k kn_141 (by decide)))
  have kn_159 : (sA (sF g_130 h 4 (.ref q_104)) q_148 60 4).2.1 q_16 1 = .int 0 := ((congrFun (sA_g q_16 (ne0 r_136 o_q_148 (by decide))).2.1 1).trans (sF_k kn_142 (by decide)))
  have kn_160 : (sA (sF g_130 h 4 (.ref q_104)) q_148 60 4).2.1 h 1 = .ref q_16 := ((congrFun (sA_g h (ne0 r_134 o_q_148 (by decide))).2.1 1).trans (sF_k kn_143 (by decide)))
  have kn_161 : (sA (sF g_130 h 4 (.ref q_104)) q_148 60 4).2.1 q_42 3 = .int 0 := ((congrFun (sA_g q_42 (ne0 r_137 o_q_148 (by decide))).2.1 3).trans (sF_k kn_144 (by decide)))
  have kn_162 : (sA (sF g_130 h 4 (.ref q_104)) q_148 60 4).2.1 h 2 = .ref q_42 := ((congrFun (sA_g h (ne0 r_134 o_q_148 (by decide))).2.1 2).trans (sF_k kn_145 (by decide)))
  have kn_163 : (sA (sF g_130 h 4 (.ref q_104)) q_148 60 4).2.1 q_70 3 = .int 0 := ((congrFun (sA_g q_70 (ne0 r_138 o_q_148 (by decide))).2.1 3).trans (sF_k kn_146 (by decide)))
  have kn_164 : (sA (sF g_130 h 4 (.ref q_104)) q_148 60 4).2.1 h 3 = .ref q_70 := ((congrFun (sA_g h (ne0 r_134 o_q_148 (by decide))).2.1 3).trans (sF_k kn_147 (by decide)))
  have kn_165 : (sA (sF g_130 h 4 (.ref q_104)) q_148 60 4).2.1 h 4 = .ref q_104 := ((congrFun (sA_g h (ne0 r_134 o_q_148 (by decide))).2.1 4).trans sF_eq)
  generalize (sA (sF g_130 h 4 (.ref q_104)) q_148 60 4) = g_166 at hT hI hM hE r_149 r_150 r_151 r_152 r_153 r_154 r_155 n_156 kn_157 kn_158 kn_159 kn_160 kn_161 kn_162 kn_163 kn_164 kn_165 hHS
  clear kn_140 kn_141 kn_142 kn_143 kn_144 kn_145 kn_146 kn_147 r_134 r_135 r_136 r_137 r_138 r_139
  refine W.widen (k := 343) (n := 13533) (Nat.le_of_ble_eq_true rfl) (Nat.le_of_ble_eq_true rfl) ?_
  refine t_put0 (ci := 6) (v := .ref q_148) hB hT (ro_ci r_149 rfl) (ro_n0 r_149 (by decide)) rfl 5 (by decide) k_313 (Or.inr ⟨hin, rfl⟩) rfl rfl dX6_init_67 (fun H locs hT => ?_)
  replace hI : Inv (sF g_166 h 5 (.ref q_148)) := hI.sF (fk r_149 (show fsm _ _ ft from trivial))
  replace hM : Sm md_k_TwiceOnce g (sF g_166 h 5 (.ref q_148)) := hM.tr hE (Sm_sF (by rw [r_149]; rfl))
  replace hE : Ex g (sF g_166 h 5 (.ref q_148)) := hE
  have hHS : HS (sF g_166 h 5 (.ref q_148)) q_16 := hHS.mono (md := mdf [(17, 5)]) (Sm_sF (by rw [r_149]; rfl)) Ex.rf r_151 rfl rfl rfl rfl
  refine lv_aload_n hx hb dX6_init_70 rfl (lv_at hl 0 rfl) ?_
  refine lv_iconst (v := 0) hx hb dX6_init_71 (by decide) ?_
  refine t_put0 (ci := 6) (v := .int 0) hB hT (ro_ci r_149 rfl) (ro_n0 r_149 (by decide)) rfl 6 (by decide) k_314 (Or.inl rfl) rfl rfl dX6_init_72 (fun H locs hT => ?_)
  replace hI : Inv (sF (sF g_166 h 5 (.ref q_148)) h 6 (.int 0)) := hI.sF (fk r_149 (show fsm _ _ ft from trivial))
  replace hM : Sm md_k_TwiceOnce g (sF (sF g_166 h 5 (.ref q_148)) h 6 (.int 0)) := hM.tr hE (Sm_sF (by rw [r_149]; rfl))
  replace hE : Ex g (sF (sF g_166 h 5 (.ref q_148)) h 6 (.int 0)) := hE
  have hHS : HS (sF (sF g_166 h 5 (.ref q_148)) h 6 (.int 0)) q_16 := hHS.mono (md := mdf [(17, 6)]) (Sm_sF (by rw [r_149]; rfl)) Ex.rf r_151 rfl rfl rfl rfl
  refine lv_iconst (v := 0) hx hb dX6_init_75 (by decide) ?_
  refine lv_istore_n (lv' := [(1, .int 0), (0, .ref h)]) hx hb dX6_init_76 rfl hl (by decide) rfl (fun ls hl => ?_)
  refine lv_iload_n hx hb dX6_init_77 rfl (lv_at hl 0 rfl) ?_
  refine lv_iconst (v := 4) hx hb dX6_init_78 (by decide) ?_
  refine lv_icmp_ge (tgt := 95) hx hb dX6_init_79 (by decide) (fun c_ => absurd c_ (by decide)) (fun c_ => ?_)
  refine lv_aload_n hx hb dX6_init_82 rfl (lv_at hl 1 rfl) ?_
  refine t_get (ci := 6) (v := .ref q_148) hB hT (ro_ci r_149 rfl) rfl 5 (by decide) k_313 (sF_k sF_eq (by decide)) dX6_init_83 ?_
  refine lv_iload_n hx hb dX6_init_86 rfl (lv_at hl 0 rfl) ?_
  refine lv_iconst (v := 1) hx hb dX6_init_87 (by decide) ?_
  have i_167 : vp_in (0 : Int32) 4 := (by unfold vp_in; decide)
  refine t_iast hB hT (ro_in r_155 (by decide)) n_156 i_167 dX6_init_88 (fun H locs hT => ?_)
  replace hI : Inv (sC (sF (sF g_166 h 5 (.ref q_148)) h 6 (.int 0)) q_148 (0 : Int32).toNatClampNeg (1 : Int32)) := hI.sC (ck r_155 trivial)
  replace hM : Sm md_k_TwiceOnce g (sC (sF (sF g_166 h 5 (.ref q_148)) h 6 (.int 0)) q_148 (0 : Int32).toNatClampNeg (1 : Int32)) := hM.tr hE (Sm_sC (by rw [r_155]; rfl))
  replace hE : Ex g (sC (sF (sF g_166 h 5 (.ref q_148)) h 6 (.int 0)) q_148 (0 : Int32).toNatClampNeg (1 : Int32)) := hE
  have hHS : HS (sC (sF (sF g_166 h 5 (.ref q_148)) h 6 (.int 0)) q_148 (0 : Int32).toNatClampNeg (1 : Int32)) q_16 := hHS.mono (md := mdf [(60, 99)]) (Sm_sC (by rw [r_155]; rfl)) Ex.rf r_151 rfl rfl rfl rfl
  refine lv_iinc (v := 1) (lv' := [(1, .int 1), (0, .ref h)]) hx hb dX6_init_89 hl (k := 0) rfl (by decide) (by decide) rfl (fun ls hl => ?_)
  refine lv_goto (tgt := 77) hx hb dX6_init_92 (by decide) ?_
  refine lv_iload_n hx hb dX6_init_77 rfl (lv_at hl 0 rfl) ?_
  refine lv_iconst (v := 4) hx hb dX6_init_78 (by decide) ?_
  refine lv_icmp_ge (tgt := 95) hx hb dX6_init_79 (by decide) (fun c_ => absurd c_ (by decide)) (fun c_ => ?_)
  refine lv_aload_n hx hb dX6_init_82 rfl (lv_at hl 1 rfl) ?_
  refine t_get (ci := 6) (v := .ref q_148) hB hT (ro_ci r_149 rfl) rfl 5 (by decide) k_313 (sF_k sF_eq (by decide)) dX6_init_83 ?_
  refine lv_iload_n hx hb dX6_init_86 rfl (lv_at hl 0 rfl) ?_
  refine lv_iconst (v := 1) hx hb dX6_init_87 (by decide) ?_
  have i_168 : vp_in (1 : Int32) 4 := (by unfold vp_in; decide)
  refine t_iast hB hT (ro_in r_155 (by decide)) n_156 i_168 dX6_init_88 (fun H locs hT => ?_)
  replace hI : Inv (sC (sC (sF (sF g_166 h 5 (.ref q_148)) h 6 (.int 0)) q_148 (0 : Int32).toNatClampNeg (1 : Int32)) q_148 (1 : Int32).toNatClampNeg (1 : Int32)) := hI.sC (ck r_155 trivial)
  replace hM : Sm md_k_TwiceOnce g (sC (sC (sF (sF g_166 h 5 (.ref q_148)) h 6 (.int 0)) q_148 (0 : Int32).toNatClampNeg (1 : Int32)) q_148 (1 : Int32).toNatClampNeg (1 : Int32)) := hM.tr hE (Sm_sC (by rw [r_155]; rfl))
  replace hE : Ex g (sC (sC (sF (sF g_166 h 5 (.ref q_148)) h 6 (.int 0)) q_148 (0 : Int32).toNatClampNeg (1 : Int32)) q_148 (1 : Int32).toNatClampNeg (1 : Int32)) := hE
  have hHS : HS (sC (sC (sF (sF g_166 h 5 (.ref q_148)) h 6 (.int 0)) q_148 (0 : Int32).toNatClampNeg (1 : Int32)) q_148 (1 : Int32).toNatClampNeg (1 : Int32)) q_16 := hHS.mono (md := mdf [(60, 99)]) (Sm_sC (by rw [r_155]; rfl)) Ex.rf r_151 rfl rfl rfl rfl
  refine lv_iinc (v := 2) (lv' := [(1, .int 2), (0, .ref h)]) hx hb dX6_init_89 hl (k := 0) rfl (by decide) (by decide) rfl (fun ls hl => ?_)
  refine lv_goto (tgt := 77) hx hb dX6_init_92 (by decide) ?_
  refine lv_iload_n hx hb dX6_init_77 rfl (lv_at hl 0 rfl) ?_
  refine lv_iconst (v := 4) hx hb dX6_init_78 (by decide) ?_
  refine lv_icmp_ge (tgt := 95) hx hb dX6_init_79 (by decide) (fun c_ => absurd c_ (by decide)) (fun c_ => ?_)
  refine lv_aload_n hx hb dX6_init_82 rfl (lv_at hl 1 rfl) ?_
  refine t_get (ci := 6) (v := .ref q_148) hB hT (ro_ci r_149 rfl) rfl 5 (by decide) k_313 (sF_k sF_eq (by decide)) dX6_init_83 ?_
  refine lv_iload_n hx hb dX6_init_86 rfl (lv_at hl 0 rfl) ?_
  refine lv_iconst (v := 1) hx hb dX6_init_87 (by decide) ?_
  have i_169 : vp_in (2 : Int32) 4 := (by unfold vp_in; decide)
  refine t_iast hB hT (ro_in r_155 (by decide)) n_156 i_169 dX6_init_88 (fun H locs hT => ?_)
  replace hI : Inv (sC (sC (sC (sF (sF g_166 h 5 (.ref q_148)) h 6 (.int 0)) q_148 (0 : Int32).toNatClampNeg (1 : Int32)) q_148 (1 : Int32).toNatClampNeg (1 : Int32)) q_148 (2 : Int32).toNatClampNeg (1 : Int32)) := hI.sC (ck r_155 trivial)
  replace hM : Sm md_k_TwiceOnce g (sC (sC (sC (sF (sF g_166 h 5 (.ref q_148)) h 6 (.int 0)) q_148 (0 : Int32).toNatClampNeg (1 : Int32)) q_148 (1 : Int32).toNatClampNeg (1 : Int32)) q_148 (2 : Int32).toNatClampNeg (1 : Int32)) := hM.tr hE (Sm_sC (by rw [r_155]; rfl))
  replace hE : Ex g (sC (sC (sC (sF (sF g_166 h 5 (.ref q_148)) h 6 (.int 0)) q_148 (0 : Int32).toNatClampNeg (1 : Int32)) q_148 (1 : Int32).toNatClampNeg (1 : Int32)) q_148 (2 : Int32).toNatClampNeg (1 : Int32)) := hE
  have hHS : HS (sC (sC (sC (sF (sF g_166 h 5 (.ref q_148)) h 6 (.int 0)) q_148 (0 : Int32).toNatClampNeg (1 : Int32)) q_148 (1 : Int32).toNatClampNeg (1 : Int32)) q_148 (2 : Int32).toNatClampNeg (1 : Int32)) q_16 := hHS.mono (md := mdf [(60, 99)]) (Sm_sC (by rw [r_155]; rfl)) Ex.rf r_151 rfl rfl rfl rfl
  refine lv_iinc (v := 3) (lv' := [(1, .int 3), (0, .ref h)]) hx hb dX6_init_89 hl (k := 0) rfl (by decide) (by decide) rfl (fun ls hl => ?_)
  refine lv_goto (tgt := 77) hx hb dX6_init_92 (by decide) ?_
  refine lv_iload_n hx hb dX6_init_77 rfl (lv_at hl 0 rfl) ?_
  refine lv_iconst (v := 4) hx hb dX6_init_78 (by decide) ?_
  refine lv_icmp_ge (tgt := 95) hx hb dX6_init_79 (by decide) (fun c_ => absurd c_ (by decide)) (fun c_ => ?_)
  refine lv_aload_n hx hb dX6_init_82 rfl (lv_at hl 1 rfl) ?_
  refine t_get (ci := 6) (v := .ref q_148) hB hT (ro_ci r_149 rfl) rfl 5 (by decide) k_313 (sF_k sF_eq (by decide)) dX6_init_83 ?_
  refine lv_iload_n hx hb dX6_init_86 rfl (lv_at hl 0 rfl) ?_
  refine lv_iconst (v := 1) hx hb dX6_init_87 (by decide) ?_
  have i_170 : vp_in (3 : Int32) 4 := (by unfold vp_in; decide)
  refine t_iast hB hT (ro_in r_155 (by decide)) n_156 i_170 dX6_init_88 (fun H locs hT => ?_)
  replace hI : Inv (sC (sC (sC (sC (sF (sF g_166 h 5 (.ref q_148)) h 6 (.int 0)) q_148 (0 : Int32).toNatClampNeg (1 : Int32)) q_148 (1 : Int32).toNatClampNeg (1 : Int32)) q_148 (2 : Int32).toNatClampNeg (1 : Int32)) q_148 (3 : Int32).toNatClampNeg (1 : Int32)) := hI.sC (ck r_155 trivial)
  replace hM : Sm md_k_TwiceOnce g (sC (sC (sC (sC (sF (sF g_166 h 5 (.ref q_148)) h 6 (.int 0)) q_148 (0 : Int32).toNatClampNeg (1 : Int32)) q_148 (1 : Int32).toNatClampNeg (1 : Int32)) q_148 (2 : Int32).toNatClampNeg (1 : Int32)) q_148 (3 : Int32).toNatClampNeg (1 : Int32)) := hM.tr hE (Sm_sC (by rw [r_155]; rfl))
  replace hE : Ex g (sC (sC (sC (sC (sF (sF g_166 h 5 (.ref q_148)) h 6 (.int 0)) q_148 (0 : Int32).toNatClampNeg (1 : Int32)) q_148 (1 : Int32).toNatClampNeg (1 : Int32)) q_148 (2 : Int32).toNatClampNeg (1 : Int32)) q_148 (3 : Int32).toNatClampNeg (1 : Int32)) := hE
  have hHS : HS (sC (sC (sC (sC (sF (sF g_166 h 5 (.ref q_148)) h 6 (.int 0)) q_148 (0 : Int32).toNatClampNeg (1 : Int32)) q_148 (1 : Int32).toNatClampNeg (1 : Int32)) q_148 (2 : Int32).toNatClampNeg (1 : Int32)) q_148 (3 : Int32).toNatClampNeg (1 : Int32)) q_16 := hHS.mono (md := mdf [(60, 99)]) (Sm_sC (by rw [r_155]; rfl)) Ex.rf r_151 rfl rfl rfl rfl
  refine lv_iinc (v := 4) (lv' := [(1, .int 4), (0, .ref h)]) hx hb dX6_init_89 hl (k := 0) rfl (by decide) (by decide) rfl (fun ls hl => ?_)
  refine lv_goto (tgt := 77) hx hb dX6_init_92 (by decide) ?_
  refine lv_iload_n hx hb dX6_init_77 rfl (lv_at hl 0 rfl) ?_
  refine lv_iconst (v := 4) hx hb dX6_init_78 (by decide) ?_
  refine lv_icmp_ge (tgt := 95) hx hb dX6_init_79 (by decide) (fun c_ => ?_) (fun c_ => absurd (by decide) c_)
  have hF : ∀ k, Fok (sR (sC (sC (sC (sC (sF (sF g_166 h 5 (.ref q_148)) h 6 (.int 0)) q_148 (0 : Int32).toNatClampNeg (1 : Int32)) q_148 (1 : Int32).toNatClampNeg (1 : Int32)) q_148 (2 : Int32).toNatClampNeg (1 : Int32)) q_148 (3 : Int32).toNatClampNeg (1 : Int32)) h 7) 7 k ((sC (sC (sC (sC (sF (sF g_166 h 5 (.ref q_148)) h 6 (.int 0)) q_148 (0 : Int32).toNatClampNeg (1 : Int32)) q_148 (1 : Int32).toNatClampNeg (1 : Int32)) q_148 (2 : Int32).toNatClampNeg (1 : Int32)) q_148 (3 : Int32).toNatClampNeg (1 : Int32)).2.1 h k) := fun k => match k with
    | 0 => (by rw [(sF_k (sF_k kn_158 (by decide)) (by decide))]; exact q_7_0 ⟨_, rfl, sR_r r_150 (ro_ne r_150 r_149 (by decide))⟩)
    | 1 => (by rw [(sF_k (sF_k kn_160 (by decide)) (by decide))]; exact q_7_1 ⟨_, rfl, sR_r r_151 (ro_ne r_151 r_149 (by decide))⟩)
    | 2 => (by rw [(sF_k (sF_k kn_162 (by decide)) (by decide))]; exact q_7_2 ⟨_, rfl, sR_r r_152 (ro_ne r_152 r_149 (by decide))⟩)
    | 3 => (by rw [(sF_k (sF_k kn_164 (by decide)) (by decide))]; exact q_7_3 ⟨_, rfl, sR_r r_153 (ro_ne r_153 r_149 (by decide))⟩)
    | 4 => (by rw [(sF_k (sF_k kn_165 (by decide)) (by decide))]; exact q_7_4 ⟨_, rfl, sR_r r_154 (ro_ne r_154 r_149 (by decide))⟩)
    | 5 => (by rw [(sF_k sF_eq (by decide))]; exact q_7_5 ⟨_, rfl, sR_r r_155 (ro_ne r_155 r_149 (by decide)), n_156⟩)
    | 6 => (by rw [sF_eq]; exact q_7_6 ⟨_, rfl, by decide, by decide⟩)
    | k + 7 => (show fsm _ _ ft from trivial)
  have hT : Tv D cI cZ cS cR N0 s.heap H locs (sR (sC (sC (sC (sC (sF (sF g_166 h 5 (.ref q_148)) h 6 (.int 0)) q_148 (0 : Int32).toNatClampNeg (1 : Int32)) q_148 (1 : Int32).toNatClampNeg (1 : Int32)) q_148 (2 : Int32).toNatClampNeg (1 : Int32)) q_148 (3 : Int32).toNatClampNeg (1 : Int32)) h 7) := ⟨hT.1.promo (by rw [r_149]; decide) (by rw [r_149]; rfl) (Or.inl (by decide)), hT.2⟩
  replace hI : Inv (sR (sC (sC (sC (sC (sF (sF g_166 h 5 (.ref q_148)) h 6 (.int 0)) q_148 (0 : Int32).toNatClampNeg (1 : Int32)) q_148 (1 : Int32).toNatClampNeg (1 : Int32)) q_148 (2 : Int32).toNatClampNeg (1 : Int32)) q_148 (3 : Int32).toNatClampNeg (1 : Int32)) h 7) := hI.promo (by rw [r_149]; decide) hF (fun _ _ => trivial) (fun _ _ => trivial)
  replace hM : Sm md_k_TwiceOnce g (sR (sC (sC (sC (sC (sF (sF g_166 h 5 (.ref q_148)) h 6 (.int 0)) q_148 (0 : Int32).toNatClampNeg (1 : Int32)) q_148 (1 : Int32).toNatClampNeg (1 : Int32)) q_148 (2 : Int32).toNatClampNeg (1 : Int32)) q_148 (3 : Int32).toNatClampNeg (1 : Int32)) h 7) := hM
  have hX : Exx h g (sR (sC (sC (sC (sC (sF (sF g_166 h 5 (.ref q_148)) h 6 (.int 0)) q_148 (0 : Int32).toNatClampNeg (1 : Int32)) q_148 (1 : Int32).toNatClampNeg (1 : Int32)) q_148 (2 : Int32).toNatClampNeg (1 : Int32)) q_148 (3 : Int32).toNatClampNeg (1 : Int32)) h 7) := Exx.promo hE
  exact t_vret hB hr hT (Nat.le_of_ble_eq_true rfl) (Nat.le_of_ble_eq_true rfl) dX6_init_95 ⟨rfl, hI, hX, hM, if_pos rfl, sF_eq, ⟨_, _, _, _, (sF_k (sF_k kn_158 (by decide)) (by decide)), (sF_k (sF_k kn_160 (by decide)) (by decide)), (sF_k (sF_k kn_162 (by decide)) (by decide)), (sF_k (sF_k kn_164 (by decide)) (by decide)), sR_r r_150 (ro_ne r_150 r_149 (by decide)), sR_r r_151 (ro_ne r_151 r_149 (by decide)), sR_r r_152 (ro_ne r_152 r_149 (by decide)), sR_r r_153 (ro_ne r_153 r_149 (by decide)), (sF_k (sF_k kn_157 (by decide)) (by decide)), (sF_k (sF_k kn_159 (by decide)) (by decide)), (sF_k (sF_k kn_161 (by decide)) (by decide)), (sF_k (sF_k kn_163 (by decide)) (by decide))⟩, ⟨_, (sF_k (sF_k kn_160 (by decide)) (by decide)), hHS.pr r_149⟩⟩
abbrev md_s_takeProgram : Nat → Nat → Bool := mdf [(3, 3), (5, 1), (5, 2), (5, 3), (13, 0), (13, 1), (13, 2), (13, 3), (68, 99), (69, 99), (70, 99)]
theorem mdle_s_takeProgram_k_Program {r k : Nat} (h : md_s_takeProgram r k = false) : md_k_Program r k = false := mdf_le (by decide +kernel) h
theorem mdle_s_takeProgram_s_readActs {r k : Nat} (h : md_s_takeProgram r k = false) : md_s_readActs r k = false := mdf_le (by decide +kernel) h
set_option maxHeartbeats 4000000 in
set_option maxRecDepth 100000 in
theorem s_takeProgram (l : Launch) (D : va_G) (cI cZ cS cR : ClassId) (N0 : NT) (g : GS) (hI : Inv g) (h : Nat) (sz : Int32) (ba : Nat) (ct : Nat → Int32) (r_h : g.1 h = 5) (r_ba : g.1 ba = 67) (n_ba : g.2.2.1 ba = 100) (ksz : g.2.1 h 1 = .int sz) (kba : g.2.1 h 0 = .ref ba) (l_sz : 0 ≤ sz.toInt) (u_sz : sz.toInt ≤ 100) (hc_0 : g.2.2.2.1 ba = ct) : Ty l D cI cZ cS cR N0 yX4_takeProgram cX4_takeProgram 3 (some (.object "TwiceOnce$Program")) 7 4 28 [.ref h] g (fun v g' => ∃ (rv : Value) (fl : Int32), v = some rv ∧ Inv g' ∧ Ex g g' ∧ Sm md_s_takeProgram g g' ∧ (rv = .null ∨ ∃ q : Nat, rv = .ref q ∧ g'.1 q = 3) ∧ (g'.2.1 h 2 = .int fl) ∧ (g'.2.1 h 1 = .int 0) ∧ (fl.toInt = pgf (txb ct sz.toInt) ∧ 0 ≤ fl.toInt ∧ fl.toInt ≤ 104) ∧ ((rv = .null → pgk (txb ct sz.toInt) sz.toInt = false) ∧ (rv ≠ .null → pgk (txb ct sz.toInt) sz.toInt = true)) ∧ (∀ q : Nat, rv = .ref q → ∃ cz : Int32, g'.2.1 q 3 = .int cz ∧ cz.toInt = pgn (txb ct sz.toInt) ∧ 1 ≤ cz.toInt ∧ cz.toInt ≤ 8) ∧ (∀ q : Nat, rv = .ref q → PP g' q (txb ct sz.toInt) (pgn (txb ct sz.toInt))) ∧ (OO g g')) := by
  refine t_enter (by decide) (Nat.le_of_ble_eq_true rfl) ?_
  intro p e s m args below meth c ls H locs hB hr hin hl hT
  have hx := hB.1
  have hb := hB.2.1
  have hl : lv_has ls 3 [(0, .ref h)] := hl
  have hE : Ex g g := Ex.rf
  have hM : Sm md_s_takeProgram g g := Sm.rf
  have hc := hc_0
  have hOO : OO g g := OO.rf
  refine t_new (ci := 2) (fs := [.null, .null, .null, .int 0]) hB hT rfl (by decide) k_347 k_116 k_61 (fnew_2) (Nat.le_of_ble_eq_true rfl) (Nat.le_of_ble_eq_true rfl) dX4_takeProgram_0 (fun q_1 H o_q_1 hT => ?_)
  have z_q_1 : g.1 q_1 = 0 := hE.z0 o_q_1
  have hI : Inv (sN g q_1 13 (vp_V [.null, .null, .null, .int 0])) := hI.newo o_q_1 (fun _ => rfl) (fun _ => trivial) (fun _ _ => trivial)
  have hE0_ := hE
  have hM : Sm md_s_takeProgram g (sN g q_1 13 (vp_V [.null, .null, .null, .int 0])) := hM.tr hE (Sm.push o_q_1 sN_g)
  have hE : Ex g (sN g q_1 13 (vp_V [.null, .null, .null, .int 0])) := hE.tr (Ex.push o_q_1 sN_g)
  have hc : (sN g q_1 13 (vp_V [.null, .null, .null, .int 0])).2.2.2.1 ba = ct := ((sN_g ba (ne0 r_ba o_q_1 (by decide))).2.2.2.1).trans hc
  have hOO : OO g (sN g q_1 13 (vp_V [.null, .null, .null, .int 0])) := OO.tr hE0_ hOO (OO.sm (md := fun _ _ => false) (Sm.push o_q_1 sN_g) rfl rfl rfl rfl)
  have r_2 : (sN g q_1 13 (vp_V [.null, .null, .null, .int 0])).1 h = 5 := ((sN_g h (ne0 r_h o_q_1 (by decide))).1.trans r_h)
  have r_3 : (sN g q_1 13 (vp_V [.null, .null, .null, .int 0])).1 ba = 67 := ((sN_g ba (ne0 r_ba o_q_1 (by decide))).1.trans r_ba)
  have r_4 : (sN g q_1 13 (vp_V [.null, .null, .null, .int 0])).1 q_1 = 13 := sN_r
  have n_5 : (sN g q_1 13 (vp_V [.null, .null, .null, .int 0])).2.2.1 ba = 100 := ((sN_g ba (ne0 r_ba o_q_1 (by decide))).2.2.1.trans n_ba)
  have kn_6 : (sN g q_1 13 (vp_V [.null, .null, .null, .int 0])).2.1 h 1 = .int sz := ((congrFun (sN_g h (ne0 r_h o_q_1 (by decide))).2.1 1).trans ksz)
  have kn_7 : (sN g q_1 13 (vp_V [.null, .null, .null, .int 0])).2.1 h 0 = .ref ba := ((congrFun (sN_g h (ne0 r_h o_q_1 (by decide))).2.1 0).trans kba)
  have kn_8 : (sN g q_1 13 (vp_V [.null, .null, .null, .int 0])).2.1 q_1 0 = .null := sN_f
  have kn_9 : (sN g q_1 13 (vp_V [.null, .null, .null, .int 0])).2.1 q_1 1 = .null := sN_f
  have kn_10 : (sN g q_1 13 (vp_V [.null, .null, .null, .int 0])).2.1 q_1 2 = .null := sN_f
  have kn_11 : (sN g q_1 13 (vp_V [.null, .null, .null, .int 0])).2.1 q_1 3 = .int 0 := sN_f
  generalize (sN g q_1 13 (vp_V [.null, .null, .null, .int 0])) = g_12 at hT hI hM hE r_2 r_3 r_4 n_5 kn_6 kn_7 kn_8 kn_9 kn_10 kn_11 hc hOO
  refine W.widen (k := 1) (n := 4) (Nat.le_of_ble_eq_true rfl) (Nat.le_of_ble_eq_true rfl) ?_
  refine lv_dup hx hb dX4_takeProgram_3 rfl ?_
  have hEn_ := hE
  refine t_callIN (n := 0) (As := []) (rest := [.ref q_1]) hB hT hl.1 (k_Program l D cI cZ cS cR N0 g_12 hI q_1 r_4) k_119 k_61 hB.2.2.2.2.2.2.2.1.2.2.2.2.1 k_118 rfl (by decide +kernel) ⟨(Nat.le_of_ble_eq_true rfl), (Nat.le_of_ble_eq_true rfl)⟩ rfl (Nat.le_of_ble_eq_true rfl) ⟨(Nat.le_of_ble_eq_true rfl), (Nat.le_of_ble_eq_true rfl)⟩ dX4_takeProgram_4 (fun v g_13 H locs hp hT => ?_)
  obtain ⟨rfl, hI, x_17, m_16, r_18, f_14, f_15⟩ := hp
  have hc : g_13.2.2.2.1 ba = ct := (Sm.cf m_16 r_3 (by decide) rfl).trans hc
  have hOO : OO g g_13 := OO.tr hE hOO (OO.sm m_16 rfl rfl rfl rfl)
  have hM : Sm md_s_takeProgram g g_13 := hM.tr hE (m_16.mo (fun r k h => mdle_s_takeProgram_k_Program h))
  have hE : Ex g g_13 := hE.trx z_q_1 x_17
  have r_19 : g_13.1 h = 5 := (Exx.r x_17 r_2 (by decide) (ro_ne r_2 r_4 (by decide)))
  have r_20 : g_13.1 ba = 67 := (Exx.r x_17 r_3 (by decide) (ro_ne r_3 r_4 (by decide)))
  have r_21 : g_13.1 q_1 = 3 := r_18
  have n_22 : g_13.2.2.1 ba = 100 := (Exx.n x_17 r_3 (by decide) (ro_ne r_3 r_4 (by decide)) n_5)
  have kn_23 : g_13.2.1 h 1 = .int sz := (Sm.v m_16 r_2 (by decide) rfl kn_6)
  have kn_24 : g_13.2.1 h 0 = .ref ba := (Sm.v m_16 r_2 (by decide) rfl kn_7)
  refine W.eq (g2 := F0 m 7 ls [.ref q_1]) rfl ?_
  obtain ⟨wa, ta, va, k_wa, k_ta, k_va, r_wa, r_ta, r_va, n_wa, n_ta, n_va, z_wa, z_ta, z_va⟩ := f_15
  have zo_ : g.1 q_1 = 0 := z_q_1
  have zg_wa : g.1 wa = 0 := (hEn_).z0 z_wa
  have zg_ta : g.1 ta = 0 := (hEn_).z0 z_ta
  have zg_va : g.1 va = 0 := (hEn_).z0 z_va
  refine lv_astore_n (lv' := [(1, .ref q_1), (0, .ref h)]) hx hb dX4_takeProgram_7 rfl hl (by decide) rfl (fun ls hl => ?_)
  refine lv_aload_n hx hb dX4_takeProgram_8 rfl (lv_at hl 1 rfl) ?_
  refine lv_iconst (v := 0) hx hb dX4_takeProgram_9 (by decide) ?_
  refine t_put0 (ci := 4) (v := .int 0) hB hT (ro_ci r_19 rfl) (ro_n0 r_19 (by decide)) rfl 3 (by decide) k_91 (Or.inl rfl) rfl rfl dX4_takeProgram_10 (fun H locs hT => ?_)
  have hI : Inv (sF g_13 h 3 (.int 0)) := hI.sF (p_5_3 r_19 (⟨_, rfl⟩))
  have hM : Sm md_s_takeProgram g (sF g_13 h 3 (.int 0)) := hM.tr hE (Sm_sF (by rw [r_19]; rfl))
  have hE : Ex g (sF g_13 h 3 (.int 0)) := hE
  have hc : (sF g_13 h 3 (.int 0)).2.2.2.1 ba = ct := hc
  have hOO : OO g (sF g_13 h 3 (.int 0)) := OO.tr (g' := g_13) hE hOO (OO.sm (md := mdf [(5, 3)]) (Sm_sF (by rw [r_19]; rfl)) rfl rfl rfl rfl)
  refine lv_aload_n hx hb dX4_takeProgram_13 rfl (lv_at hl 1 rfl) ?_
  refine lv_aload_n hx hb dX4_takeProgram_14 rfl (lv_at hl 0 rfl) ?_
  have hEo_ := hE
  have hOo_ := hOO
  refine t_callV (n := 1) (As := [.ref q_1]) (rest := []) (ci := 4) hB hT hl.1 (s_readActs l D cI cZ cS cR N0 (sF g_13 h 3 (.int 0)) hI h q_1 0 sz ba ct wa ta va r_19 r_21 r_20 n_22 r_wa n_wa r_ta n_ta r_va n_va sF_eq (sF_a f_14 (ro_ne r_21 r_19 (by decide))) (sF_k kn_23 (by decide)) (sF_k kn_24 (by decide)) (sF_k k_wa (by decide)) (sF_k k_ta (by decide)) (sF_k k_va (by decide)) (by have q0 : (0 : Int32).toInt = 0 := (by decide); omega) (by have q0 : (0 : Int32).toInt = 0 := (by decide); omega) (by have q0 : (0 : Int32).toInt = 0 := (by decide); omega) (by have q0 : (0 : Int32).toInt = 0 := (by decide); omega) hc (by decide)) (ro_ci r_19 rfl) rfl k_352 k_58 k_349 k_351 k_0 (by decide +kernel) ⟨(Nat.le_of_ble_eq_true rfl), (Nat.le_of_ble_eq_true rfl)⟩ rfl (Nat.le_of_ble_eq_true rfl) ⟨(Nat.le_of_ble_eq_true rfl), (Nat.le_of_ble_eq_true rfl)⟩ dX4_takeProgram_15 (fun v g_25 H locs hp hT => ?_)
  obtain ⟨r_26, pl2_27, zz2_28, cn_29, rfl, hI, x_37, m_36, f_30, f_31, f_32, f_33, f_34, f_35⟩ := hp
  have hc : g_25.2.2.2.1 ba = ct := (Sm.cf m_36 r_20 (by decide) rfl).trans hc
  have hM : Sm md_s_takeProgram g g_25 := hM.tr hE (m_36.mo (fun r k h => mdle_s_takeProgram_s_readActs h))
  have hE : Ex g g_25 := hE.tr x_37
  have r_38 : g_25.1 h = 5 := (Ex.r x_37 r_19 (by decide))
  have r_39 : g_25.1 ba = 67 := (Ex.r x_37 r_20 (by decide))
  have r_40 : g_25.1 q_1 = 3 := (Ex.r x_37 r_21 (by decide))
  have r_41 : g_25.1 wa = 68 := (Ex.r x_37 r_wa (by decide))
  have r_42 : g_25.1 ta = 69 := (Ex.r x_37 r_ta (by decide))
  have r_43 : g_25.1 va = 70 := (Ex.r x_37 r_va (by decide))
  have n_44 : g_25.2.2.1 ba = 100 := (Ex.n x_37 r_20 (by decide) n_22)
  have n_45 : g_25.2.2.1 wa = 8 := (Ex.n x_37 r_wa (by decide) n_wa)
  have n_46 : g_25.2.2.1 ta = 8 := (Ex.n x_37 r_ta (by decide) n_ta)
  have n_47 : g_25.2.2.1 va = 8 := (Ex.n x_37 r_va (by decide) n_va)
  have kn_48 : g_25.2.1 h 1 = .int sz := (Sm.v m_36 r_19 (by decide) rfl (sF_k kn_23 (by decide)))
  have kn_49 : g_25.2.1 h 0 = .ref ba := (Sm.v m_36 r_19 (by decide) rfl (sF_k kn_24 (by decide)))
  have kn_50 : g_25.2.1 q_1 0 = .ref wa := (Sm.v m_36 r_21 (by decide) rfl (sF_k k_wa (by decide)))
  have kn_51 : g_25.2.1 q_1 1 = .ref ta := (Sm.v m_36 r_21 (by decide) rfl (sF_k k_ta (by decide)))
  have kn_52 : g_25.2.1 q_1 2 = .ref va := (Sm.v m_36 r_21 (by decide) rfl (sF_k k_va (by decide)))
  refine W.eq (g2 := F0 m 18 ls [.int r_26]) rfl ?_
  have qc_53 : (0 : Int32).toInt = 0 := (by decide)
  have hOO : OO g g_25 := OO.ox hOo_ hEo_ f_35 zo_ zg_wa zg_ta zg_va
  rcases f_30 with ⟨rfl, hw_54, hw_55⟩ | ⟨rfl, hw_56⟩
  · have hPG_ := f_34 rfl
    refine W.eq (g2 := F0 m 18 ls [.int 1]) rfl ?_
    refine lv_if_eq (tgt := 36) hx hb dX4_takeProgram_18 (by decide) (fun c_ => absurd c_ (by decide)) (fun c_ => ?_)
    refine lv_aload_n hx hb dX4_takeProgram_21 rfl (lv_at hl 1 rfl) ?_
    refine t_get (ci := 4) (v := .int pl2_27) hB hT (ro_ci r_38 rfl) rfl 3 (by decide) k_91 f_31 dX4_takeProgram_22 ?_
    refine lv_aload_n hx hb dX4_takeProgram_25 rfl (lv_at hl 1 rfl) ?_
    refine t_get (ci := 4) (v := .int sz) hB hT (ro_ci r_38 rfl) rfl 1 (by decide) k_87 kn_48 dX4_takeProgram_26 ?_
    refine lv_icmp_ne (tgt := 36) hx hb dX4_takeProgram_29 (by decide) (fun c_57 => ?_) (fun c_57 => ?_)
    · have c_57' : pl2_27.toInt ≠ sz.toInt := i_ne c_57 rfl rfl
      refine lv_iconst (v := 0) hx hb dX4_takeProgram_36 (by decide) ?_
      refine lv_istore_n (lv' := [(2, .int 0), (1, .ref q_1), (0, .ref h)]) hx hb dX4_takeProgram_37 rfl hl (by decide) rfl (fun ls hl => ?_)
      refine lv_aload_n hx hb dX4_takeProgram_38 rfl (lv_at hl 2 rfl) ?_
      refine lv_aload_n hx hb dX4_takeProgram_39 rfl (lv_at hl 2 rfl) ?_
      refine t_get (ci := 4) (v := .int pl2_27) hB hT (ro_ci r_38 rfl) rfl 3 (by decide) k_91 f_31 dX4_takeProgram_40 ?_
      refine t_put0 (ci := 4) (v := .int pl2_27) hB hT (ro_ci r_38 rfl) (ro_n0 r_38 (by decide)) rfl 2 (by decide) k_89 (Or.inl rfl) rfl rfl dX4_takeProgram_43 (fun H locs hT => ?_)
      have hI : Inv (sF g_25 h 2 (.int pl2_27)) := hI.sF (p_5_2 r_38 (⟨_, rfl⟩))
      have hM : Sm md_s_takeProgram g (sF g_25 h 2 (.int pl2_27)) := hM.tr hE (Sm_sF (by rw [r_38]; rfl))
      have hE : Ex g (sF g_25 h 2 (.int pl2_27)) := hE
      have hc : (sF g_25 h 2 (.int pl2_27)).2.2.2.1 ba = ct := hc
      have hOO : OO g (sF g_25 h 2 (.int pl2_27)) := OO.tr (g' := g_25) hE hOO (OO.sm (md := mdf [(5, 2)]) (Sm_sF (by rw [r_38]; rfl)) rfl rfl rfl rfl)
      have hPG_ : PG (sF g_25 h 2 (.int pl2_27)) wa ta va (txb ct sz.toInt) cn_29 := hPG_
      refine lv_aload_n hx hb dX4_takeProgram_46 rfl (lv_at hl 2 rfl) ?_
      refine lv_iconst (v := 0) hx hb dX4_takeProgram_47 (by decide) ?_
      refine t_put0 (ci := 4) (v := .int 0) hB hT (ro_ci r_38 rfl) (ro_n0 r_38 (by decide)) rfl 1 (by decide) k_87 (Or.inl rfl) rfl rfl dX4_takeProgram_48 (fun H locs hT => ?_)
      have hI : Inv (sF (sF g_25 h 2 (.int pl2_27)) h 1 (.int 0)) := hI.sF (p_5_1 r_38 (⟨_, rfl, by decide, by decide⟩))
      have hM : Sm md_s_takeProgram g (sF (sF g_25 h 2 (.int pl2_27)) h 1 (.int 0)) := hM.tr hE (Sm_sF (by rw [r_38]; rfl))
      have hE : Ex g (sF (sF g_25 h 2 (.int pl2_27)) h 1 (.int 0)) := hE
      have hc : (sF (sF g_25 h 2 (.int pl2_27)) h 1 (.int 0)).2.2.2.1 ba = ct := hc
      have hOO : OO g (sF (sF g_25 h 2 (.int pl2_27)) h 1 (.int 0)) := OO.tr (g' := (sF g_25 h 2 (.int pl2_27))) hE hOO (OO.sm (md := mdf [(5, 1)]) (Sm_sF (by rw [r_38]; rfl)) rfl rfl rfl rfl)
      have hPG_ : PG (sF (sF g_25 h 2 (.int pl2_27)) h 1 (.int 0)) wa ta va (txb ct sz.toInt) cn_29 := hPG_
      refine lv_iload_n hx hb dX4_takeProgram_51 rfl (lv_at hl 0 rfl) ?_
      refine lv_if_eq (tgt := 59) hx hb dX4_takeProgram_52 (by decide) (fun c_ => ?_) (fun c_ => absurd (by decide) c_)
      refine lv_null hx hb dX4_takeProgram_59 ?_
      have hpg_ := pg_n (z := sz.toInt) (rd_00.symm.trans hw_54) (by omega)
      exact t_aret hB hr (Or.inl ⟨_, rfl⟩) (Or.inl rfl) hT (Nat.le_of_ble_eq_true rfl) (Nat.le_of_ble_eq_true rfl) dX4_takeProgram_60 ⟨_, pl2_27, rfl, hI, hE, hM, Or.inl rfl, (sF_k sF_eq (by decide)), sF_eq, ⟨(by have q_ := hpg_.2.1; omega), by omega, by omega⟩, ⟨fun _ => hpg_.1, fun h_ => absurd rfl h_⟩, (fun q h_ => by cases h_), (fun q h_ => by cases h_), hOO⟩
    · have c_57' : pl2_27.toInt = sz.toInt := i_eq c_57 rfl rfl
      refine lv_iconst (v := 1) hx hb dX4_takeProgram_32 (by decide) ?_
      refine lv_goto (tgt := 37) hx hb dX4_takeProgram_33 (by decide) ?_
      refine lv_istore_n (lv' := [(2, .int 1), (1, .ref q_1), (0, .ref h)]) hx hb dX4_takeProgram_37 rfl hl (by decide) rfl (fun ls hl => ?_)
      refine lv_aload_n hx hb dX4_takeProgram_38 rfl (lv_at hl 2 rfl) ?_
      refine lv_aload_n hx hb dX4_takeProgram_39 rfl (lv_at hl 2 rfl) ?_
      refine t_get (ci := 4) (v := .int pl2_27) hB hT (ro_ci r_38 rfl) rfl 3 (by decide) k_91 f_31 dX4_takeProgram_40 ?_
      refine t_put0 (ci := 4) (v := .int pl2_27) hB hT (ro_ci r_38 rfl) (ro_n0 r_38 (by decide)) rfl 2 (by decide) k_89 (Or.inl rfl) rfl rfl dX4_takeProgram_43 (fun H locs hT => ?_)
      have hI : Inv (sF g_25 h 2 (.int pl2_27)) := hI.sF (p_5_2 r_38 (⟨_, rfl⟩))
      have hM : Sm md_s_takeProgram g (sF g_25 h 2 (.int pl2_27)) := hM.tr hE (Sm_sF (by rw [r_38]; rfl))
      have hE : Ex g (sF g_25 h 2 (.int pl2_27)) := hE
      have hc : (sF g_25 h 2 (.int pl2_27)).2.2.2.1 ba = ct := hc
      have hOO : OO g (sF g_25 h 2 (.int pl2_27)) := OO.tr (g' := g_25) hE hOO (OO.sm (md := mdf [(5, 2)]) (Sm_sF (by rw [r_38]; rfl)) rfl rfl rfl rfl)
      have hPG_ : PG (sF g_25 h 2 (.int pl2_27)) wa ta va (txb ct sz.toInt) cn_29 := hPG_
      refine lv_aload_n hx hb dX4_takeProgram_46 rfl (lv_at hl 2 rfl) ?_
      refine lv_iconst (v := 0) hx hb dX4_takeProgram_47 (by decide) ?_
      refine t_put0 (ci := 4) (v := .int 0) hB hT (ro_ci r_38 rfl) (ro_n0 r_38 (by decide)) rfl 1 (by decide) k_87 (Or.inl rfl) rfl rfl dX4_takeProgram_48 (fun H locs hT => ?_)
      have hI : Inv (sF (sF g_25 h 2 (.int pl2_27)) h 1 (.int 0)) := hI.sF (p_5_1 r_38 (⟨_, rfl, by decide, by decide⟩))
      have hM : Sm md_s_takeProgram g (sF (sF g_25 h 2 (.int pl2_27)) h 1 (.int 0)) := hM.tr hE (Sm_sF (by rw [r_38]; rfl))
      have hE : Ex g (sF (sF g_25 h 2 (.int pl2_27)) h 1 (.int 0)) := hE
      have hc : (sF (sF g_25 h 2 (.int pl2_27)) h 1 (.int 0)).2.2.2.1 ba = ct := hc
      have hOO : OO g (sF (sF g_25 h 2 (.int pl2_27)) h 1 (.int 0)) := OO.tr (g' := (sF g_25 h 2 (.int pl2_27))) hE hOO (OO.sm (md := mdf [(5, 1)]) (Sm_sF (by rw [r_38]; rfl)) rfl rfl rfl rfl)
      have hPG_ : PG (sF (sF g_25 h 2 (.int pl2_27)) h 1 (.int 0)) wa ta va (txb ct sz.toInt) cn_29 := hPG_
      refine lv_iload_n hx hb dX4_takeProgram_51 rfl (lv_at hl 0 rfl) ?_
      refine lv_if_eq (tgt := 59) hx hb dX4_takeProgram_52 (by decide) (fun c_ => absurd c_ (by decide)) (fun c_ => ?_)
      refine lv_aload_n hx hb dX4_takeProgram_55 rfl (lv_at hl 1 rfl) ?_
      refine lv_goto (tgt := 60) hx hb dX4_takeProgram_56 (by decide) ?_
      have hpg_ := pg_t (z := sz.toInt) (rd_00.symm.trans hw_54) (by omega)
      exact t_aret hB hr (Or.inl ⟨_, rfl⟩) (Or.inr ⟨_, rfl⟩) hT (Nat.le_of_ble_eq_true rfl) (Nat.le_of_ble_eq_true rfl) dX4_takeProgram_60 ⟨_, pl2_27, rfl, hI, hE, hM, Or.inr ⟨_, rfl, r_40⟩, (sF_k sF_eq (by decide)), sF_eq, ⟨(by have q_ := hpg_.2.1; omega), by omega, by omega⟩, ⟨fun h_ => (by cases h_), fun _ => hpg_.1⟩, (fun q h_ => by cases h_; exact ⟨_, (sF_k (sF_k f_32 (by decide)) (by decide)), (by have q_ := hpg_.2.2; omega), by omega, by omega⟩), (fun q h_ => by cases h_; exact ⟨_, _, _, _, (sF_k (sF_k kn_50 (by decide)) (by decide)), (sF_a (sF_k kn_51 (by decide)) (ro_ne r_40 r_38 (by decide))), (sF_k (sF_a kn_52 (ro_ne r_40 r_38 (by decide))) (by decide)), r_41, r_42, r_43, (sF_k (sF_k f_32 (by decide)) (by decide)), (by have q_ := hpg_.2.2; omega), (by rw [hpg_.2.2]; exact hPG_)⟩), hOO⟩
  · refine W.eq (g2 := F0 m 18 ls [.int 0]) rfl ?_
    refine lv_if_eq (tgt := 36) hx hb dX4_takeProgram_18 (by decide) (fun c_ => ?_) (fun c_ => absurd (by decide) c_)
    refine lv_iconst (v := 0) hx hb dX4_takeProgram_36 (by decide) ?_
    refine lv_istore_n (lv' := [(2, .int 0), (1, .ref q_1), (0, .ref h)]) hx hb dX4_takeProgram_37 rfl hl (by decide) rfl (fun ls hl => ?_)
    refine lv_aload_n hx hb dX4_takeProgram_38 rfl (lv_at hl 2 rfl) ?_
    refine lv_aload_n hx hb dX4_takeProgram_39 rfl (lv_at hl 2 rfl) ?_
    refine t_get (ci := 4) (v := .int pl2_27) hB hT (ro_ci r_38 rfl) rfl 3 (by decide) k_91 f_31 dX4_takeProgram_40 ?_
    refine t_put0 (ci := 4) (v := .int pl2_27) hB hT (ro_ci r_38 rfl) (ro_n0 r_38 (by decide)) rfl 2 (by decide) k_89 (Or.inl rfl) rfl rfl dX4_takeProgram_43 (fun H locs hT => ?_)
    have hI : Inv (sF g_25 h 2 (.int pl2_27)) := hI.sF (p_5_2 r_38 (⟨_, rfl⟩))
    have hM : Sm md_s_takeProgram g (sF g_25 h 2 (.int pl2_27)) := hM.tr hE (Sm_sF (by rw [r_38]; rfl))
    have hE : Ex g (sF g_25 h 2 (.int pl2_27)) := hE
    have hc : (sF g_25 h 2 (.int pl2_27)).2.2.2.1 ba = ct := hc
    have hOO : OO g (sF g_25 h 2 (.int pl2_27)) := OO.tr (g' := g_25) hE hOO (OO.sm (md := mdf [(5, 2)]) (Sm_sF (by rw [r_38]; rfl)) rfl rfl rfl rfl)
    refine lv_aload_n hx hb dX4_takeProgram_46 rfl (lv_at hl 2 rfl) ?_
    refine lv_iconst (v := 0) hx hb dX4_takeProgram_47 (by decide) ?_
    refine t_put0 (ci := 4) (v := .int 0) hB hT (ro_ci r_38 rfl) (ro_n0 r_38 (by decide)) rfl 1 (by decide) k_87 (Or.inl rfl) rfl rfl dX4_takeProgram_48 (fun H locs hT => ?_)
    have hI : Inv (sF (sF g_25 h 2 (.int pl2_27)) h 1 (.int 0)) := hI.sF (p_5_1 r_38 (⟨_, rfl, by decide, by decide⟩))
    have hM : Sm md_s_takeProgram g (sF (sF g_25 h 2 (.int pl2_27)) h 1 (.int 0)) := hM.tr hE (Sm_sF (by rw [r_38]; rfl))
    have hE : Ex g (sF (sF g_25 h 2 (.int pl2_27)) h 1 (.int 0)) := hE
    have hc : (sF (sF g_25 h 2 (.int pl2_27)) h 1 (.int 0)).2.2.2.1 ba = ct := hc
    have hOO : OO g (sF (sF g_25 h 2 (.int pl2_27)) h 1 (.int 0)) := OO.tr (g' := (sF g_25 h 2 (.int pl2_27))) hE hOO (OO.sm (md := mdf [(5, 1)]) (Sm_sF (by rw [r_38]; rfl)) rfl rfl rfl rfl)
    refine lv_iload_n hx hb dX4_takeProgram_51 rfl (lv_at hl 0 rfl) ?_
    refine lv_if_eq (tgt := 59) hx hb dX4_takeProgram_52 (by decide) (fun c_ => ?_) (fun c_ => absurd (by decide) c_)
    refine lv_null hx hb dX4_takeProgram_59 ?_
    have hpg_ := pg_f (rd_00.symm.trans hw_56) sz.toInt
    exact t_aret hB hr (Or.inl ⟨_, rfl⟩) (Or.inl rfl) hT (Nat.le_of_ble_eq_true rfl) (Nat.le_of_ble_eq_true rfl) dX4_takeProgram_60 ⟨_, pl2_27, rfl, hI, hE, hM, Or.inl rfl, (sF_k sF_eq (by decide)), sF_eq, ⟨(by have q_ := hpg_.2.1; omega), by omega, by omega⟩, ⟨fun _ => hpg_.1, fun h_ => absurd rfl h_⟩, (fun q h_ => by cases h_), (fun q h_ => by cases h_), hOO⟩
