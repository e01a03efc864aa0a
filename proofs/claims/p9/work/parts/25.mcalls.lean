theorem k_32 : Cond.selects RX7 yX7_calls yX7_calls ∈ tb := mt 32 (by decide +kernel) rfl
theorem k_33 : Cond.selects RX7 yX7_ends yX7_ends ∈ tb := mt 33 (by decide +kernel) rfl
theorem k_40 : Cond.selects RX7 yX7_closes yX7_closes ∈ tb := mt 40 (by decide +kernel) rfl
theorem k_41 : Cond.selects RX7 yX7_comes yX7_comes ∈ tb := mt 41 (by decide +kernel) rfl
theorem k_795 : Cond.fieldLink RX7 274 "TwiceOnceModel" "came" "I" ∈ tb := mt 795 (by decide +kernel) rfl
theorem k_1032 : Cond.methodLink RX7 286 yX7_calls ∈ tb := mt 1032 (by decide +kernel) rfl
theorem k_1034 : Cond.instanceMethod yX7_calls ∈ tb := mt 1034 (by decide +kernel) rfl
set_option maxRecDepth 20000 in
theorem k_1035 : Cond.code yX7_calls cX7_calls 6 (some .int) ∈ tb := mt 1035 rfl rfl
theorem k_1036 : Cond.methodLink RX7 271 yX7_ends ∈ tb := mt 1036 (by decide +kernel) rfl
theorem k_1038 : Cond.instanceMethod yX7_ends ∈ tb := mt 1038 (by decide +kernel) rfl
set_option maxRecDepth 20000 in
theorem k_1039 : Cond.code yX7_ends cX7_ends 3 none ∈ tb := mt 1039 rfl rfl
theorem k_1064 : Cond.methodLink RX7 277 yX7_closes ∈ tb := mt 1064 (by decide +kernel) rfl
theorem k_1066 : Cond.instanceMethod yX7_closes ∈ tb := mt 1066 (by decide +kernel) rfl
set_option maxRecDepth 20000 in
theorem k_1067 : Cond.code yX7_closes cX7_closes 4 none ∈ tb := mt 1067 rfl rfl
theorem k_1068 : Cond.methodLink RX7 280 yX7_comes ∈ tb := mt 1068 (by decide +kernel) rfl
theorem k_1070 : Cond.instanceMethod yX7_comes ∈ tb := mt 1070 (by decide +kernel) rfl
set_option maxRecDepth 20000 in
theorem k_1071 : Cond.code yX7_comes cX7_comes 12 none ∈ tb := mt 1071 rfl rfl
theorem dX7_calls_42 : decode cX7_calls 42 = .ok (.aload_n 0, 1) := by decide +kernel
theorem dX7_calls_43 : decode cX7_calls 43 = .ok (.getfield 249, 3) := by decide +kernel
theorem dX7_calls_46 : decode cX7_calls 46 = .ok (.ifCond .le 80, 3) := by decide +kernel
theorem dX7_calls_126 : decode cX7_calls 126 = .ok (.aload_n 0, 1) := by decide +kernel
theorem dX7_calls_127 : decode cX7_calls 127 = .ok (.getfield 246, 3) := by decide +kernel
theorem dX7_calls_130 : decode cX7_calls 130 = .ok (.ireturn, 1) := by decide +kernel
theorem dX7_calls_49 : decode cX7_calls 49 = .ok (.aload_n 0, 1) := by decide +kernel
theorem dX7_calls_50 : decode cX7_calls 50 = .ok (.getfield 249, 3) := by decide +kernel
theorem dX7_calls_53 : decode cX7_calls 53 = .ok (.iconst 1, 1) := by decide +kernel
theorem dX7_calls_54 : decode cX7_calls 54 = .ok (.isub, 1) := by decide +kernel
theorem dX7_calls_55 : decode cX7_calls 55 = .ok (.istore 5, 2) := by decide +kernel
theorem dX7_calls_57 : decode cX7_calls 57 = .ok (.aload_n 0, 1) := by decide +kernel
theorem dX7_calls_58 : decode cX7_calls 58 = .ok (.getfield 119, 3) := by decide +kernel
theorem dX7_calls_61 : decode cX7_calls 61 = .ok (.iload 5, 2) := by decide +kernel
theorem dX7_calls_63 : decode cX7_calls 63 = .ok (.iaload, 1) := by decide +kernel
theorem dX7_calls_64 : decode cX7_calls 64 = .ok (.aload_n 0, 1) := by decide +kernel
theorem dX7_calls_65 : decode cX7_calls 65 = .ok (.getfield 7, 3) := by decide +kernel
theorem dX7_calls_68 : decode cX7_calls 68 = .ok (.aload_n 0, 1) := by decide +kernel
theorem dX7_calls_69 : decode cX7_calls 69 = .ok (.getfield 110, 3) := by decide +kernel
theorem dX7_calls_72 : decode cX7_calls 72 = .ok (.iload 5, 2) := by decide +kernel
theorem dX7_calls_74 : decode cX7_calls 74 = .ok (.iaload, 1) := by decide +kernel
theorem dX7_calls_75 : decode cX7_calls 75 = .ok (.iaload, 1) := by decide +kernel
theorem dX7_calls_76 : decode cX7_calls 76 = .ok (.if_icmp .lt 10, 3) := by decide +kernel
theorem dX7_calls_86 : decode cX7_calls 86 = .ok (.aload_n 0, 1) := by decide +kernel
theorem dX7_calls_87 : decode cX7_calls 87 = .ok (.getfield 274, 3) := by decide +kernel
theorem dX7_calls_90 : decode cX7_calls 90 = .ok (.bipush 60, 2) := by decide +kernel
theorem dX7_calls_92 : decode cX7_calls 92 = .ok (.if_icmp .eq 14, 3) := by decide +kernel
theorem dX7_calls_106 : decode cX7_calls 106 = .ok (.bipush (-2), 2) := by decide +kernel
theorem dX7_calls_108 : decode cX7_calls 108 = .ok (.ireturn, 1) := by decide +kernel
theorem dX7_calls_95 : decode cX7_calls 95 = .ok (.aload_n 0, 1) := by decide +kernel
theorem dX7_calls_96 : decode cX7_calls 96 = .ok (.getfield 274, 3) := by decide +kernel
theorem dX7_calls_99 : decode cX7_calls 99 = .ok (.iconst 1, 1) := by decide +kernel
theorem dX7_calls_100 : decode cX7_calls 100 = .ok (.iadd, 1) := by decide +kernel
theorem dX7_calls_101 : decode cX7_calls 101 = .ok (.iload 4, 2) := by decide +kernel
theorem dX7_calls_103 : decode cX7_calls 103 = .ok (.if_icmp .ne 6, 3) := by decide +kernel
theorem dX7_calls_109 : decode cX7_calls 109 = .ok (.aload_n 0, 1) := by decide +kernel
theorem dX7_calls_110 : decode cX7_calls 110 = .ok (.dup, 1) := by decide +kernel
theorem dX7_calls_111 : decode cX7_calls 111 = .ok (.getfield 274, 3) := by decide +kernel
theorem dX7_calls_114 : decode cX7_calls 114 = .ok (.iconst 1, 1) := by decide +kernel
theorem dX7_calls_115 : decode cX7_calls 115 = .ok (.iadd, 1) := by decide +kernel
theorem dX7_calls_116 : decode cX7_calls 116 = .ok (.putfield 274, 3) := by decide +kernel
theorem dX7_calls_119 : decode cX7_calls 119 = .ok (.aload_n 0, 1) := by decide +kernel
theorem dX7_calls_120 : decode cX7_calls 120 = .ok (.invokevirtual 280, 3) := by decide +kernel
theorem dX7_calls_123 : decode cX7_calls 123 = .ok (.goto (-81), 3) := by decide +kernel
theorem dX7_calls_79 : decode cX7_calls 79 = .ok (.aload_n 0, 1) := by decide +kernel
theorem dX7_calls_80 : decode cX7_calls 80 = .ok (.invokevirtual 277, 3) := by decide +kernel
theorem dX7_calls_83 : decode cX7_calls 83 = .ok (.goto 40, 3) := by decide +kernel
theorem dX7_calls_0 : decode cX7_calls 0 = .ok (.aload_n 0, 1) := by decide +kernel
theorem dX7_calls_1 : decode cX7_calls 1 = .ok (.getfield 49, 3) := by decide +kernel
theorem dX7_calls_4 : decode cX7_calls 4 = .ok (.aload_n 0, 1) := by decide +kernel
theorem dX7_calls_5 : decode cX7_calls 5 = .ok (.getfield 223, 3) := by decide +kernel
theorem dX7_calls_8 : decode cX7_calls 8 = .ok (.dup2, 1) := by decide +kernel
theorem dX7_calls_9 : decode cX7_calls 9 = .ok (.iaload, 1) := by decide +kernel
theorem dX7_calls_10 : decode cX7_calls 10 = .ok (.iconst 1, 1) := by decide +kernel
theorem dX7_calls_11 : decode cX7_calls 11 = .ok (.iadd, 1) := by decide +kernel
theorem dX7_calls_12 : decode cX7_calls 12 = .ok (.iastore, 1) := by decide +kernel
theorem dX7_calls_13 : decode cX7_calls 13 = .ok (.aload_n 0, 1) := by decide +kernel
theorem dX7_calls_14 : decode cX7_calls 14 = .ok (.invokevirtual 271, 3) := by decide +kernel
theorem dX7_calls_17 : decode cX7_calls 17 = .ok (.aload_n 0, 1) := by decide +kernel
theorem dX7_calls_18 : decode cX7_calls 18 = .ok (.iconst 0, 1) := by decide +kernel
theorem dX7_calls_19 : decode cX7_calls 19 = .ok (.putfield 249, 3) := by decide +kernel
theorem dX7_calls_22 : decode cX7_calls 22 = .ok (.aload_n 0, 1) := by decide +kernel
theorem dX7_calls_23 : decode cX7_calls 23 = .ok (.iconst 0, 1) := by decide +kernel
theorem dX7_calls_24 : decode cX7_calls 24 = .ok (.putfield 274, 3) := by decide +kernel
theorem dX7_calls_27 : decode cX7_calls 27 = .ok (.aload_n 0, 1) := by decide +kernel
theorem dX7_calls_28 : decode cX7_calls 28 = .ok (.iload_n 1, 1) := by decide +kernel
theorem dX7_calls_29 : decode cX7_calls 29 = .ok (.iload_n 2, 1) := by decide +kernel
theorem dX7_calls_30 : decode cX7_calls 30 = .ok (.iload_n 3, 1) := by decide +kernel
theorem dX7_calls_31 : decode cX7_calls 31 = .ok (.invokevirtual 265, 3) := by decide +kernel
theorem dX7_calls_34 : decode cX7_calls 34 = .ok (.ifCond .eq 8, 3) := by decide +kernel
theorem dX7_calls_37 : decode cX7_calls 37 = .ok (.aload_n 0, 1) := by decide +kernel
theorem dX7_calls_38 : decode cX7_calls 38 = .ok (.getfield 246, 3) := by decide +kernel
theorem dX7_calls_41 : decode cX7_calls 41 = .ok (.ireturn, 1) := by decide +kernel
theorem dX7_rowCall_0 : decode cX7_rowCall 0 = .ok (.aload_n 0, 1) := by decide +kernel
theorem dX7_rowCall_1 : decode cX7_rowCall 1 = .ok (.aload_n 0, 1) := by decide +kernel
theorem dX7_rowCall_2 : decode cX7_rowCall 2 = .ok (.getfield 86, 3) := by decide +kernel
theorem dX7_rowCall_5 : decode cX7_rowCall 5 = .ok (.iload_n 1, 1) := by decide +kernel
theorem dX7_rowCall_6 : decode cX7_rowCall 6 = .ok (.iaload, 1) := by decide +kernel
theorem dX7_rowCall_7 : decode cX7_rowCall 7 = .ok (.aload_n 0, 1) := by decide +kernel
theorem dX7_rowCall_8 : decode cX7_rowCall 8 = .ok (.getfield 89, 3) := by decide +kernel
theorem dX7_rowCall_11 : decode cX7_rowCall 11 = .ok (.iload_n 1, 1) := by decide +kernel
theorem dX7_rowCall_12 : decode cX7_rowCall 12 = .ok (.iaload, 1) := by decide +kernel
theorem dX7_rowCall_13 : decode cX7_rowCall 13 = .ok (.aload_n 0, 1) := by decide +kernel
theorem dX7_rowCall_14 : decode cX7_rowCall 14 = .ok (.getfield 92, 3) := by decide +kernel
theorem dX7_rowCall_17 : decode cX7_rowCall 17 = .ok (.iload_n 1, 1) := by decide +kernel
theorem dX7_rowCall_18 : decode cX7_rowCall 18 = .ok (.iaload, 1) := by decide +kernel
theorem dX7_rowCall_19 : decode cX7_rowCall 19 = .ok (.iload_n 2, 1) := by decide +kernel
theorem dX7_rowCall_20 : decode cX7_rowCall 20 = .ok (.invokevirtual 286, 3) := by decide +kernel
theorem dX7_rowCall_23 : decode cX7_rowCall 23 = .ok (.ireturn, 1) := by decide +kernel
abbrev md_m_calls0 : Nat → Nat → Bool := mdf [(8, 22), (8, 49), (8, 50), (8, 51), (40, 99), (50, 99), (51, 99), (54, 99), (55, 99), (56, 99), (58, 99)]
theorem mdle_m_calls0_m_begins {r k : Nat} (h : md_m_calls0 r k = false) : md_m_begins r k = false := mdf_le (by decide +kernel) h
theorem mdle_m_calls0_m_closes {r k : Nat} (h : md_m_calls0 r k = false) : md_m_closes r k = false := mdf_le (by decide +kernel) h
theorem mdle_m_calls0_m_comes0 {r k : Nat} (h : md_m_calls0 r k = false) : md_m_comes0 r k = false := mdf_le (by decide +kernel) h
theorem mdle_m_calls0_m_ends {r k : Nat} (h : md_m_calls0 r k = false) : md_m_ends r k = false := mdf_le (by decide +kernel) h
set_option maxHeartbeats 4000000 in
set_option maxRecDepth 100000 in
theorem lt_m_calls0_a (l : Launch) (D : va_G) (cI cZ cS cR : ClassId) (N0 : NT) (g : GS) (h : Nat) (n : Int32) (k : Int32) (j : Int32) (x4 : Int32) (t0 : Int32) (fa : Nat) (fta : Nat) (r_h : g.1 h = 8) (r_fa : g.1 fa = 51) (n_fa : g.2.2.1 fa = 7) (r_fta : g.1 fta = 55) (n_fta : g.2.2.1 fta = 7) (kt0 : g.2.1 h 22 = .int t0) (kw : g.2.1 h 21 = .int 0) (kfa : g.2.1 h 43 = .ref fa) (kft : g.2.1 h 46 = .ref fta) (l_n : 0 ≤ n.toInt) (u_n : n.toInt ≤ 5) (l_k : 0 ≤ k.toInt) (u_k : k.toInt ≤ 999) (l_t0 : 0 ≤ t0.toInt) (u_t0 : t0.toInt ≤ 999999940) (hw : PX 48 2 3 71 72 g h) {p : Program} {e : Env} {s : State} {m : MethodId} {args : Array Value} {below : List Frame} {meth : Method} {c : Code} (hB : Tz p s m meth c args cX7_calls 6 RX7 D cI cZ cS cR N0) (hr : meth.sig.returnType = (some .int))    : ∀ (kf : Nat) (g1 : GS) (dp : Int32) (cm : Int32) (to1 : Int32)  (H : Heap) (locs : List Loc) (ls : Array Slot), Tv D cI cZ cS cR N0 s.heap H locs g1 → Inv g1 → Ex g g1 → Sm md_m_calls0 g g1 → 0 ≤ dp.toInt → dp.toInt ≤ 6 → 0 ≤ cm.toInt → cm.toInt ≤ 60 → 0 ≤ to1.toInt → to1.toInt ≤ 1000000000 → g1.2.1 h 49 = .int dp → g1.2.1 h 50 = .int cm → g1.2.1 h 22 = .int to1 → (DP g1 fa dp.toInt) → (120 + dp.toInt ≤ 2 * cm.toInt + kf ∧ to1.toInt ≤ t0.toInt + cm.toInt) → lv_has ls 6 [(0, .ref h), (1, .int n), (2, .int k), (3, .int j), (4, .int x4)] → W p l e (rmx 5 0 0) s m args below meth c H locs 0 0 (MQ below (tQ D cI cZ cS cR N0 (fun v g' => ∃ (r : Int32) (t2 : Int32), v = some (.int r) ∧ Inv g' ∧ Ex g g' ∧ Sm md_m_calls0 g g' ∧ (-2 ≤ r.toInt ∧ r.toInt ≤ 999) ∧ (g'.2.1 h 22 = .int t2) ∧ (0 ≤ t2.toInt ∧ t2.toInt ≤ t0.toInt + 60))) args s 0 0 (fun q => N0.1 ≤ q)) (F0 m 42 ls []) := by
  have hx := hB.1
  have hb := hB.2.1
  intro kf
  induction kf using Nat.strongRecOn with
  | ind kf ih =>
    intro g1 dp cm to1 H locs ls hT hI hE hM l_dp u_dp l_cm u_cm l_to1 u_to1 kp0 kp1 kp2 hD hk hl
    have r_1 : g1.1 h = 8 := Ex.r hE r_h (by decide)
    have r_2 : g1.1 fa = 51 := Ex.r hE r_fa (by decide)
    have n_3 : g1.2.2.1 fa = 7 := Ex.n hE r_fa (by decide) n_fa
    have r_4 : g1.1 fta = 55 := Ex.r hE r_fta (by decide)
    have n_5 : g1.2.2.1 fta = 7 := Ex.n hE r_fta (by decide) n_fta
    have kn_6 : g1.2.1 h 21 = .int 0 := Sm.v hM r_h (by decide) rfl kw
    have kn_7 : g1.2.1 h 43 = .ref fa := Sm.v hM r_h (by decide) rfl kfa
    have kn_8 : g1.2.1 h 46 = .ref fta := Sm.v hM r_h (by decide) rfl kft
    refine lv_aload_n hx hb dX7_calls_42 rfl (lv_at hl 0 rfl) ?_
    refine t_get (ci := 7) (v := .int dp) hB hT (ro_ci r_1 rfl) rfl 49 (by decide) k_794 kp0 dX7_calls_43 ?_
    refine lv_if_le (tgt := 126) hx hb dX7_calls_46 (by decide) (fun c_9 => ?_) (fun c_9 => ?_)
    · have c_9' : dp.toInt ≤ 0 := i_le c_9 rfl (by decide)
      refine lv_aload_n hx hb dX7_calls_126 rfl (lv_at hl 0 rfl) ?_
      obtain ⟨v_10, e_v_10, l_v_10, u_v_10⟩ := f_8_51 hI r_1
      refine t_get (ci := 7) (v := .int v_10) hB hT (ro_ci r_1 rfl) rfl 51 (by decide) k_796 e_v_10 dX7_calls_127 ?_
      exact t_iret hB hr hT (Nat.le_of_ble_eq_true rfl) (Nat.le_of_ble_eq_true rfl) dX7_calls_130 ⟨v_10, to1, rfl, hI, hE, hM, ⟨by omega, by omega⟩, kp2, (by omega)⟩
    · have c_9' : 0 < dp.toInt := i_nle c_9 rfl (by decide)
      refine lv_aload_n hx hb dX7_calls_49 rfl (lv_at hl 0 rfl) ?_
      refine t_get (ci := 7) (v := .int dp) hB hT (ro_ci r_1 rfl) rfl 49 (by decide) k_794 kp0 dX7_calls_50 ?_
      refine lv_iconst (v := 1) hx hb dX7_calls_53 (by decide) ?_
      refine lv_isub hx hb dX7_calls_54 ?_
      refine lv_topi (fun z_11 ez_11 => ?_)
      have e_z_11 : z_11.toInt = dp.toInt - 1 := i_sub ez_11 rfl (by decide) (by omega) (by omega)
      refine lv_istore (lv' := [(5, .int z_11), (0, .ref h), (1, .int n), (2, .int k), (3, .int j), (4, .int x4)]) hx hb dX7_calls_55 hl (by decide) rfl (fun ls hl => ?_)
      refine lv_aload_n hx hb dX7_calls_57 rfl (lv_at hl 1 rfl) ?_
      refine t_get (ci := 7) (v := .ref fta) hB hT (ro_ci r_1 rfl) rfl 46 (by decide) k_791 kn_8 dX7_calls_58 ?_
      refine lv_iload hx hb dX7_calls_61 (lv_at hl 0 rfl) ?_
      have i_u_12 : vp_in z_11 7 := (i_in (n := 7) rfl (by omega) (by omega))
      refine t_iald hB hT (ro_in r_4 (by decide)) n_5 i_u_12 rfl dX7_calls_63 ?_
      have c_u_12 := hI.c r_4 n_5 (i_cl i_u_12)
      refine lv_topi (fun u_12 e_u_12 => ?_)
      obtain ⟨l_u_12, u_u_12⟩ := c_u_12
      rw [← e_u_12] at l_u_12 u_u_12
      refine lv_aload_n hx hb dX7_calls_64 rfl (lv_at hl 1 rfl) ?_
      obtain ⟨v_13, e_v_13, r_v_13, n_v_13⟩ := f_8_1 hI r_1
      refine t_get (ci := 7) (v := .ref v_13) hB hT (ro_ci r_1 rfl) rfl 1 (by decide) k_746 e_v_13 dX7_calls_65 ?_
      refine lv_aload_n hx hb dX7_calls_68 rfl (lv_at hl 1 rfl) ?_
      refine t_get (ci := 7) (v := .ref fa) hB hT (ro_ci r_1 rfl) rfl 43 (by decide) k_788 kn_7 dX7_calls_69 ?_
      refine lv_iload hx hb dX7_calls_72 (lv_at hl 0 rfl) ?_
      have i_u_14 : vp_in z_11 7 := (i_in (n := 7) rfl (by omega) (by omega))
      refine t_iald hB hT (ro_in r_2 (by decide)) n_3 i_u_14 rfl dX7_calls_74 ?_
      have c_u_14 := hI.c r_2 n_3 (i_cl i_u_14)
      refine lv_topi (fun u_14 e_u_14 => ?_)
      obtain ⟨l_u_14, u_u_14⟩ := c_u_14
      rw [← e_u_14] at l_u_14 u_u_14
      have i_u_15 : vp_in u_14 6 := (i_in (n := 6) rfl (by omega) (by omega))
      refine t_iald hB hT (ro_in r_v_13 (by decide)) n_v_13 i_u_15 rfl dX7_calls_75 ?_
      have c_u_15 := hI.c r_v_13 n_v_13 (i_cl i_u_15)
      refine lv_topi (fun u_15 e_u_15 => ?_)
      obtain ⟨l_u_15, u_u_15⟩ := c_u_15
      rw [← e_u_15] at l_u_15 u_u_15
      refine lv_icmp_lt (tgt := 86) hx hb dX7_calls_76 (by decide) (fun c_16 => ?_) (fun c_16 => ?_)
      · have c_16' : u_12.toInt < u_15.toInt := i_lt c_16 rfl rfl
        refine lv_aload_n hx hb dX7_calls_86 rfl (lv_at hl 1 rfl) ?_
        refine t_get (ci := 7) (v := .int cm) hB hT (ro_ci r_1 rfl) rfl 50 (by decide) k_795 kp1 dX7_calls_87 ?_
        refine lv_bipush (v := 60) hx hb dX7_calls_90 (by decide) ?_
        refine lv_icmp_eq (tgt := 106) hx hb dX7_calls_92 (by decide) (fun c_17 => ?_) (fun c_17 => ?_)
        · have c_17' : cm.toInt = 60 := i_eq c_17 rfl (by decide)
          refine lv_bipush (v := (-2)) hx hb dX7_calls_106 (by decide) ?_
          exact t_iret hB hr hT (Nat.le_of_ble_eq_true rfl) (Nat.le_of_ble_eq_true rfl) dX7_calls_108 ⟨(-2), to1, rfl, hI, hE, hM, ⟨by decide, by decide⟩, kp2, (by omega)⟩
        · have c_17' : cm.toInt ≠ 60 := i_ne c_17 rfl (by decide)
          refine lv_aload_n hx hb dX7_calls_95 rfl (lv_at hl 1 rfl) ?_
          refine t_get (ci := 7) (v := .int cm) hB hT (ro_ci r_1 rfl) rfl 50 (by decide) k_795 kp1 dX7_calls_96 ?_
          refine lv_iconst (v := 1) hx hb dX7_calls_99 (by decide) ?_
          refine lv_iadd hx hb dX7_calls_100 ?_
          refine lv_topi (fun z_18 ez_18 => ?_)
          have e_z_18 : z_18.toInt = cm.toInt + 1 := i_add ez_18 rfl (by decide) (by omega) (by omega)
          refine lv_iload hx hb dX7_calls_101 (lv_at hl 5 rfl) ?_
          refine lv_icmp_ne (tgt := 109) hx hb dX7_calls_103 (by decide) (fun c_19 => ?_) (fun c_19 => ?_)
          · have c_19' : z_18.toInt ≠ x4.toInt := i_ne c_19 rfl rfl
            refine lv_aload_n hx hb dX7_calls_109 rfl (lv_at hl 1 rfl) ?_
            refine lv_dup hx hb dX7_calls_110 rfl ?_
            refine t_get (ci := 7) (v := .int cm) hB hT (ro_ci r_1 rfl) rfl 50 (by decide) k_795 kp1 dX7_calls_111 ?_
            refine lv_iconst (v := 1) hx hb dX7_calls_114 (by decide) ?_
            refine lv_iadd hx hb dX7_calls_115 ?_
            refine lv_topi (fun z_20 ez_20 => ?_)
            have e_z_20 : z_20.toInt = cm.toInt + 1 := i_add ez_20 rfl (by decide) (by omega) (by omega)
            refine t_put0 (ci := 7) (v := .int z_20) hB hT (ro_ci r_1 rfl) (ro_n0 r_1 (by decide)) rfl 50 (by decide) k_795 (Or.inl rfl) rfl rfl dX7_calls_116 (fun H locs hT => ?_)
            have hI : Inv (sF g1 h 50 (.int z_20)) := hI.sF (p_8_50 r_1 (⟨_, rfl⟩))
            have hM : Sm md_m_calls0 g (sF g1 h 50 (.int z_20)) := hM.tr hE (Sm_sF (by rw [r_1]; rfl))
            have hE : Ex g (sF g1 h 50 (.int z_20)) := hE
            have hD : DP (sF g1 h 50 (.int z_20)) fa dp.toInt := hD
            refine lv_aload_n hx hb dX7_calls_119 rfl (lv_at hl 1 rfl) ?_
            refine t_callV (n := 0) (As := []) (rest := []) (ci := 7) hB hT hl.1 (m_comes0 l D cI cZ cS cR N0 (sF g1 h 50 (.int z_20)) hI h dp to1 fa fta r_1 r_2 n_3 r_4 n_5 (sF_k kp0 (by decide)) (sF_k kp2 (by decide)) (sF_k kn_6 (by decide)) (sF_k kn_7 (by decide)) (sF_k kn_8 (by decide)) (by omega) (by omega) (by omega) (by omega) hD (fun q hq => by have e1_ : q = z_11 := i_inj (by omega); rw [e1_, e_u_12.symm]; omega) (hw.mono hM hE r_h (by decide) (by decide) rfl rfl rfl rfl)) (ro_ci r_1 rfl) rfl k_1071 k_65 k_1068 k_1070 k_41 (by decide +kernel) ⟨(Nat.le_of_ble_eq_true rfl), (Nat.le_of_ble_eq_true rfl)⟩ rfl (Nat.le_of_ble_eq_true rfl) ⟨(Nat.le_of_ble_eq_true rfl), (Nat.le_of_ble_eq_true rfl)⟩ dX7_calls_120 (fun v g_21 H locs hp hT => ?_)
            obtain ⟨d2_22, t2_23, rfl, hI, x_30, m_29, f_24, f_25, f_26, f_27, f_28⟩ := hp
            have hM : Sm md_m_calls0 g g_21 := hM.tr hE (m_29.mo (fun r k h => mdle_m_calls0_m_comes0 h))
            have hE : Ex g g_21 := hE.tr x_30
            have r_31 : g_21.1 h = 8 := (Ex.r x_30 r_1 (by decide))
            have r_32 : g_21.1 fa = 51 := (Ex.r x_30 r_2 (by decide))
            have r_33 : g_21.1 fta = 55 := (Ex.r x_30 r_4 (by decide))
            have r_34 : g_21.1 v_13 = 88 := (Ex.r x_30 r_v_13 (by decide))
            have n_35 : g_21.2.2.1 fa = 7 := (Ex.n x_30 r_2 (by decide) n_3)
            have n_36 : g_21.2.2.1 fta = 7 := (Ex.n x_30 r_4 (by decide) n_5)
            have n_37 : g_21.2.2.1 v_13 = 6 := (Ex.n x_30 r_v_13 (by decide) n_v_13)
            have kn_38 : g_21.2.1 h 21 = .int 0 := (Sm.v m_29 r_1 (by decide) rfl (sF_k kn_6 (by decide)))
            have kn_39 : g_21.2.1 h 43 = .ref fa := (Sm.v m_29 r_1 (by decide) rfl (sF_k kn_7 (by decide)))
            have kn_40 : g_21.2.1 h 46 = .ref fta := (Sm.v m_29 r_1 (by decide) rfl (sF_k kn_8 (by decide)))
            have kn_41 : g_21.2.1 h 1 = .ref v_13 := (Sm.v m_29 r_1 (by decide) rfl (sF_k e_v_13 (by decide)))
            have kn_42 : g_21.2.1 h 50 = .int z_20 := (Sm.v m_29 r_1 (by decide) rfl sF_eq)
            have kn_43 : g_21.2.2.2.1 v_13 u_14.toNatClampNeg = u_15 := (Sm.c m_29 r_v_13 (by decide) rfl e_u_15.symm)
            refine W.eq (g2 := F0 m 123 ls []) rfl ?_
            have hD := f_28
            refine lv_goto (tgt := 42) hx hb dX7_calls_123 (by decide) ?_
            exact ih (kf - 1) (by omega) g_21 d2_22 z_20 t2_23 H locs ls hT hI hE hM (by omega) (by omega) (by omega) (by omega) (by omega) (by omega) f_24 kn_42 f_25 (hD.cast (by omega)) (by have e0_ : (0 : Int32).toInt = 0 := (by decide); omega) (lv_sub hl [1, 2, 3, 4, 5] rfl)
          · have c_19' : z_18.toInt = x4.toInt := i_eq c_19 rfl rfl
            refine lv_bipush (v := (-2)) hx hb dX7_calls_106 (by decide) ?_
            exact t_iret hB hr hT (Nat.le_of_ble_eq_true rfl) (Nat.le_of_ble_eq_true rfl) dX7_calls_108 ⟨(-2), to1, rfl, hI, hE, hM, ⟨by decide, by decide⟩, kp2, (by omega)⟩
      · have c_16' : u_15.toInt ≤ u_12.toInt := i_nlt c_16 rfl rfl
        refine lv_aload_n hx hb dX7_calls_79 rfl (lv_at hl 1 rfl) ?_
        refine t_callV (n := 0) (As := []) (rest := []) (ci := 7) hB hT hl.1 (m_closes l D cI cZ cS cR N0 g1 hI h dp r_1 kp0 (by omega) (by omega)) (ro_ci r_1 rfl) rfl k_1067 k_65 k_1064 k_1066 k_40 (by decide +kernel) ⟨(Nat.le_of_ble_eq_true rfl), (Nat.le_of_ble_eq_true rfl)⟩ rfl (Nat.le_of_ble_eq_true rfl) ⟨(Nat.le_of_ble_eq_true rfl), (Nat.le_of_ble_eq_true rfl)⟩ dX7_calls_80 (fun v g_44 H locs hp hT => ?_)
        obtain ⟨d2_45, rfl, hI, x_49, m_48, f_46, f_47⟩ := hp
        have hD : DP g_44 fa dp.toInt := hD.sm m_48 r_2 (by decide) rfl
        have hM : Sm md_m_calls0 g g_44 := hM.tr hE (m_48.mo (fun r k h => mdle_m_calls0_m_closes h))
        have hE : Ex g g_44 := hE.tr x_49
        have r_50 : g_44.1 h = 8 := (Ex.r x_49 r_1 (by decide))
        have r_51 : g_44.1 fa = 51 := (Ex.r x_49 r_2 (by decide))
        have r_52 : g_44.1 fta = 55 := (Ex.r x_49 r_4 (by decide))
        have r_53 : g_44.1 v_13 = 88 := (Ex.r x_49 r_v_13 (by decide))
        have n_54 : g_44.2.2.1 fa = 7 := (Ex.n x_49 r_2 (by decide) n_3)
        have n_55 : g_44.2.2.1 fta = 7 := (Ex.n x_49 r_4 (by decide) n_5)
        have n_56 : g_44.2.2.1 v_13 = 6 := (Ex.n x_49 r_v_13 (by decide) n_v_13)
        have kn_57 : g_44.2.1 h 50 = .int cm := (Sm.v m_48 r_1 (by decide) rfl kp1)
        have kn_58 : g_44.2.1 h 22 = .int to1 := (Sm.v m_48 r_1 (by decide) rfl kp2)
        have kn_59 : g_44.2.1 h 21 = .int 0 := (Sm.v m_48 r_1 (by decide) rfl kn_6)
        have kn_60 : g_44.2.1 h 43 = .ref fa := (Sm.v m_48 r_1 (by decide) rfl kn_7)
        have kn_61 : g_44.2.1 h 46 = .ref fta := (Sm.v m_48 r_1 (by decide) rfl kn_8)
        have kn_62 : g_44.2.1 h 1 = .ref v_13 := (Sm.v m_48 r_1 (by decide) rfl e_v_13)
        have kn_63 : g_44.2.2.2.1 fta z_11.toNatClampNeg = u_12 := (Sm.c m_48 r_4 (by decide) rfl e_u_12.symm)
        have kn_64 : g_44.2.2.2.1 fa z_11.toNatClampNeg = u_14 := (Sm.c m_48 r_2 (by decide) rfl e_u_14.symm)
        have kn_65 : g_44.2.2.2.1 v_13 u_14.toNatClampNeg = u_15 := (Sm.c m_48 r_v_13 (by decide) rfl e_u_15.symm)
        refine W.eq (g2 := F0 m 83 ls []) rfl ?_
        refine lv_goto (tgt := 123) hx hb dX7_calls_83 (by decide) ?_
        refine lv_goto (tgt := 42) hx hb dX7_calls_123 (by decide) ?_
        exact ih (kf - 1) (by omega) g_44 d2_45 cm to1 H locs ls hT hI hE hM (by omega) (by omega) (by omega) (by omega) (by omega) (by omega) f_46 kn_57 kn_58 (hD.cast (by omega)) (by have e0_ : (0 : Int32).toInt = 0 := (by decide); omega) (lv_sub hl [1, 2, 3, 4, 5] rfl)
set_option maxHeartbeats 4000000 in
set_option maxRecDepth 100000 in
theorem m_calls0 (l : Launch) (D : va_G) (cI cZ cS cR : ClassId) (N0 : NT) (g : GS) (hI : Inv g) (h : Nat) (n : Int32) (k : Int32) (j : Int32) (x4 : Int32) (t0 : Int32) (fa : Nat) (fta : Nat) (r_h : g.1 h = 8) (r_fa : g.1 fa = 51) (n_fa : g.2.2.1 fa = 7) (r_fta : g.1 fta = 55) (n_fta : g.2.2.1 fta = 7) (kt0 : g.2.1 h 22 = .int t0) (kw : g.2.1 h 21 = .int 0) (kfa : g.2.1 h 43 = .ref fa) (kft : g.2.1 h 46 = .ref fta) (l_n : 0 ≤ n.toInt) (u_n : n.toInt ≤ 5) (l_k : 0 ≤ k.toInt) (u_k : k.toInt ≤ 999) (l_t0 : 0 ≤ t0.toInt) (u_t0 : t0.toInt ≤ 999999940) (hw : PX 48 2 3 71 72 g h) : Ty l D cI cZ cS cR N0 yX7_calls cX7_calls 6 (some .int) 5 0 0 [.ref h, .int n, .int k, .int j, .int x4] g (fun v g' => ∃ (r : Int32) (t2 : Int32), v = some (.int r) ∧ Inv g' ∧ Ex g g' ∧ Sm md_m_calls0 g g' ∧ (-2 ≤ r.toInt ∧ r.toInt ≤ 999) ∧ (g'.2.1 h 22 = .int t2) ∧ (0 ≤ t2.toInt ∧ t2.toInt ≤ t0.toInt + 60)) := by
  refine t_enter (by decide) (Nat.le_of_ble_eq_true rfl) ?_
  intro p e s m args below meth c ls H locs hB hr hin hl hT
  have hx := hB.1
  have hb := hB.2.1
  have hl : lv_has ls 6 [(0, .ref h), (1, .int n), (2, .int k), (3, .int j), (4, .int x4)] := hl
  have hE : Ex g g := Ex.rf
  have hM : Sm md_m_calls0 g g := Sm.rf
  refine lv_aload_n hx hb dX7_calls_0 rfl (lv_at hl 0 rfl) ?_
  obtain ⟨v_1, e_v_1, r_v_1, n_v_1⟩ := f_8_14 hI r_h
  refine t_get (ci := 7) (v := .ref v_1) hB hT (ro_ci r_h rfl) rfl 14 (by decide) k_759 e_v_1 dX7_calls_1 ?_
  refine lv_aload_n hx hb dX7_calls_4 rfl (lv_at hl 0 rfl) ?_
  refine t_get (ci := 7) (v := .int 0) hB hT (ro_ci r_h rfl) rfl 21 (by decide) k_766 kw dX7_calls_5 ?_
  refine lv_dup2_11 hx hb dX7_calls_8 rfl rfl ?_
  have i_u_2 : vp_in (0 : Int32) 2 := (by unfold vp_in; decide)
  refine t_iald hB hT (ro_in r_v_1 (by decide)) n_v_1 i_u_2 rfl dX7_calls_9 ?_
  refine lv_topi (fun u_2 e_u_2 => ?_)
  refine lv_iconst (v := 1) hx hb dX7_calls_10 (by decide) ?_
  refine lv_iadd hx hb dX7_calls_11 ?_
  refine lv_topi (fun z_3 ez_3 => ?_)
  have i_4 : vp_in (0 : Int32) 2 := (by unfold vp_in; decide)
  refine t_iast hB hT (ro_in r_v_1 (by decide)) n_v_1 i_4 dX7_calls_12 (fun H locs hT => ?_)
  have hI : Inv (sC g v_1 (0 : Int32).toNatClampNeg z_3) := hI.sC (ck r_v_1 trivial)
  have hM : Sm md_m_calls0 g (sC g v_1 (0 : Int32).toNatClampNeg z_3) := hM.tr hE (Sm_sC (by rw [r_v_1]; rfl))
  have hE : Ex g (sC g v_1 (0 : Int32).toNatClampNeg z_3) := hE
  refine lv_aload_n hx hb dX7_calls_13 rfl (lv_at hl 0 rfl) ?_
  refine t_callV (n := 0) (As := []) (rest := []) (ci := 7) hB hT hl.1 (m_ends l D cI cZ cS cR N0 (sC g v_1 (0 : Int32).toNatClampNeg z_3) hI h r_h) (ro_ci r_h rfl) rfl k_1039 k_65 k_1036 k_1038 k_33 (by decide +kernel) ⟨(Nat.le_of_ble_eq_true rfl), (Nat.le_of_ble_eq_true rfl)⟩ rfl (Nat.le_of_ble_eq_true rfl) ⟨(Nat.le_of_ble_eq_true rfl), (Nat.le_of_ble_eq_true rfl)⟩ dX7_calls_14 (fun v g_5 H locs hp hT => ?_)
  obtain ⟨rfl, hI, x_7, m_6⟩ := hp
  have hM : Sm md_m_calls0 g g_5 := hM.tr hE (m_6.mo (fun r k h => mdle_m_calls0_m_ends h))
  have hE : Ex g g_5 := hE.tr x_7
  have r_8 : g_5.1 h = 8 := (Ex.r x_7 r_h (by decide))
  have r_9 : g_5.1 fa = 51 := (Ex.r x_7 r_fa (by decide))
  have r_10 : g_5.1 fta = 55 := (Ex.r x_7 r_fta (by decide))
  have r_11 : g_5.1 v_1 = 50 := (Ex.r x_7 r_v_1 (by decide))
  have n_12 : g_5.2.2.1 fa = 7 := (Ex.n x_7 r_fa (by decide) n_fa)
  have n_13 : g_5.2.2.1 fta = 7 := (Ex.n x_7 r_fta (by decide) n_fta)
  have n_14 : g_5.2.2.1 v_1 = 2 := (Ex.n x_7 r_v_1 (by decide) n_v_1)
  have kn_15 : g_5.2.1 h 22 = .int t0 := (Sm.v m_6 r_h (by decide) rfl kt0)
  have kn_16 : g_5.2.1 h 21 = .int 0 := (Sm.v m_6 r_h (by decide) rfl kw)
  have kn_17 : g_5.2.1 h 43 = .ref fa := (Sm.v m_6 r_h (by decide) rfl kfa)
  have kn_18 : g_5.2.1 h 46 = .ref fta := (Sm.v m_6 r_h (by decide) rfl kft)
  have kn_19 : g_5.2.1 h 14 = .ref v_1 := (Sm.v m_6 r_h (by decide) rfl e_v_1)
  refine W.eq (g2 := F0 m 17 ls []) rfl ?_
  refine lv_aload_n hx hb dX7_calls_17 rfl (lv_at hl 0 rfl) ?_
  refine lv_iconst (v := 0) hx hb dX7_calls_18 (by decide) ?_
  refine t_put0 (ci := 7) (v := .int 0) hB hT (ro_ci r_8 rfl) (ro_n0 r_8 (by decide)) rfl 49 (by decide) k_794 (Or.inl rfl) rfl rfl dX7_calls_19 (fun H locs hT => ?_)
  have hI : Inv (sF g_5 h 49 (.int 0)) := hI.sF (p_8_49 r_8 (⟨_, rfl, by decide, by decide⟩))
  have hM : Sm md_m_calls0 g (sF g_5 h 49 (.int 0)) := hM.tr hE (Sm_sF (by rw [r_8]; rfl))
  have hE : Ex g (sF g_5 h 49 (.int 0)) := hE
  refine lv_aload_n hx hb dX7_calls_22 rfl (lv_at hl 0 rfl) ?_
  refine lv_iconst (v := 0) hx hb dX7_calls_23 (by decide) ?_
  refine t_put0 (ci := 7) (v := .int 0) hB hT (ro_ci r_8 rfl) (ro_n0 r_8 (by decide)) rfl 50 (by decide) k_795 (Or.inl rfl) rfl rfl dX7_calls_24 (fun H locs hT => ?_)
  have hI : Inv (sF (sF g_5 h 49 (.int 0)) h 50 (.int 0)) := hI.sF (p_8_50 r_8 (⟨_, rfl⟩))
  have hM : Sm md_m_calls0 g (sF (sF g_5 h 49 (.int 0)) h 50 (.int 0)) := hM.tr hE (Sm_sF (by rw [r_8]; rfl))
  have hE : Ex g (sF (sF g_5 h 49 (.int 0)) h 50 (.int 0)) := hE
  have hD : DP (sF (sF g_5 h 49 (.int 0)) h 50 (.int 0)) fa (0 : Int32).toInt := DP.zero.cast (by decide)
  refine lv_aload_n hx hb dX7_calls_27 rfl (lv_at hl 0 rfl) ?_
  refine lv_iload_n hx hb dX7_calls_28 rfl (lv_at hl 1 rfl) ?_
  refine lv_iload_n hx hb dX7_calls_29 rfl (lv_at hl 2 rfl) ?_
  refine lv_iload_n hx hb dX7_calls_30 rfl (lv_at hl 3 rfl) ?_
  refine t_callV (n := 3) (As := [.int n, .int k, .int j]) (rest := []) (ci := 7) hB hT hl.1 (m_begins l D cI cZ cS cR N0 (sF (sF g_5 h 49 (.int 0)) h 50 (.int 0)) hI h n k j 0 fa r_8 r_9 n_12 (sF_k sF_eq (by decide)) (sF_k (sF_k kn_17 (by decide)) (by decide)) (by have q0 : (0 : Int32).toInt = 0 := (by decide); omega) (by have q0 : (0 : Int32).toInt = 0 := (by decide); omega) (by have q0 : (0 : Int32).toInt = 0 := (by decide); omega) (by have q0 : (0 : Int32).toInt = 0 := (by decide); omega) (by have q0 : (0 : Int32).toInt = 0 := (by decide); omega) (by have q0 : (0 : Int32).toInt = 0 := (by decide); omega) (by have q0 : (0 : Int32).toInt = 0 := (by decide); omega) hD) (ro_ci r_8 rfl) rfl k_1055 k_65 k_1052 k_1054 k_37 (by decide +kernel) ⟨(Nat.le_of_ble_eq_true rfl), (Nat.le_of_ble_eq_true rfl)⟩ rfl (Nat.le_of_ble_eq_true rfl) ⟨(Nat.le_of_ble_eq_true rfl), (Nat.le_of_ble_eq_true rfl)⟩ dX7_calls_31 (fun v g_20 H locs hp hT => ?_)
  obtain ⟨r_21, d2_22, rfl, hI, x_27, m_26, f_23, f_24, f_25⟩ := hp
  have hM : Sm md_m_calls0 g g_20 := hM.tr hE (m_26.mo (fun r k h => mdle_m_calls0_m_begins h))
  have hE : Ex g g_20 := hE.tr x_27
  have r_28 : g_20.1 h = 8 := (Ex.r x_27 r_8 (by decide))
  have r_29 : g_20.1 fa = 51 := (Ex.r x_27 r_9 (by decide))
  have r_30 : g_20.1 fta = 55 := (Ex.r x_27 r_10 (by decide))
  have r_31 : g_20.1 v_1 = 50 := (Ex.r x_27 r_11 (by decide))
  have n_32 : g_20.2.2.1 fa = 7 := (Ex.n x_27 r_9 (by decide) n_12)
  have n_33 : g_20.2.2.1 fta = 7 := (Ex.n x_27 r_10 (by decide) n_13)
  have n_34 : g_20.2.2.1 v_1 = 2 := (Ex.n x_27 r_11 (by decide) n_14)
  have kn_35 : g_20.2.1 h 22 = .int t0 := (Sm.v m_26 r_8 (by decide) rfl (sF_k (sF_k kn_15 (by decide)) (by decide)))
  have kn_36 : g_20.2.1 h 21 = .int 0 := (Sm.v m_26 r_8 (by decide) rfl (sF_k (sF_k kn_16 (by decide)) (by decide)))
  have kn_37 : g_20.2.1 h 43 = .ref fa := (Sm.v m_26 r_8 (by decide) rfl (sF_k (sF_k kn_17 (by decide)) (by decide)))
  have kn_38 : g_20.2.1 h 46 = .ref fta := (Sm.v m_26 r_8 (by decide) rfl (sF_k (sF_k kn_18 (by decide)) (by decide)))
  have kn_39 : g_20.2.1 h 14 = .ref v_1 := (Sm.v m_26 r_8 (by decide) rfl (sF_k (sF_k kn_19 (by decide)) (by decide)))
  have kn_40 : g_20.2.1 h 50 = .int 0 := (Sm.v m_26 r_8 (by decide) rfl sF_eq)
  refine W.eq (g2 := F0 m 34 ls [.int r_21]) rfl ?_
  have hD := f_25
  have qc_41 : (0 : Int32).toInt = 0 := (by decide)
  rcases f_23 with ⟨rfl, hw_42⟩ | ⟨rfl, hw_43⟩
  · refine W.eq (g2 := F0 m 34 ls [.int 1]) rfl ?_
    refine lv_if_eq (tgt := 42) hx hb dX7_calls_34 (by decide) (fun c_ => absurd c_ (by decide)) (fun c_ => ?_)
    refine lv_aload_n hx hb dX7_calls_37 rfl (lv_at hl 0 rfl) ?_
    obtain ⟨v_44, e_v_44, l_v_44, u_v_44⟩ := f_8_51 hI r_28
    refine t_get (ci := 7) (v := .int v_44) hB hT (ro_ci r_28 rfl) rfl 51 (by decide) k_796 e_v_44 dX7_calls_38 ?_
    exact t_iret hB hr hT (Nat.le_of_ble_eq_true rfl) (Nat.le_of_ble_eq_true rfl) dX7_calls_41 ⟨v_44, t0, rfl, hI, hE, hM, ⟨by omega, by omega⟩, kn_35, (by omega)⟩
  · refine W.eq (g2 := F0 m 34 ls [.int 0]) rfl ?_
    refine lv_if_eq (tgt := 42) hx hb dX7_calls_34 (by decide) (fun c_ => ?_) (fun c_ => absurd (by decide) c_)
    exact lt_m_calls0_a l D cI cZ cS cR N0 g h n k j x4 t0 fa fta r_h r_fa n_fa r_fta n_fta kt0 kw kfa kft l_n u_n l_k u_k l_t0 u_t0 hw hB hr   126 g_20 d2_22 (0 : Int32) t0 H locs ls hT hI hE hM (by omega) (by omega) (by decide) (by decide) (by omega) (by omega) f_24 kn_40 kn_35 (hD.cast (by omega)) (by have e0_ : (0 : Int32).toInt = 0 := (by decide); omega) (lv_sub hl [0, 1, 2, 3, 4] rfl)
abbrev md_m_calls1 : Nat → Nat → Bool := mdf [(8, 49), (8, 50), (8, 51), (8, 52), (40, 99), (50, 99), (51, 99), (54, 99), (55, 99), (56, 99), (58, 99)]
theorem mdle_m_calls1_m_begins {r k : Nat} (h : md_m_calls1 r k = false) : md_m_begins r k = false := mdf_le (by decide +kernel) h
theorem mdle_m_calls1_m_closes {r k : Nat} (h : md_m_calls1 r k = false) : md_m_closes r k = false := mdf_le (by decide +kernel) h
theorem mdle_m_calls1_m_comes1 {r k : Nat} (h : md_m_calls1 r k = false) : md_m_comes1 r k = false := mdf_le (by decide +kernel) h
theorem mdle_m_calls1_m_ends {r k : Nat} (h : md_m_calls1 r k = false) : md_m_ends r k = false := mdf_le (by decide +kernel) h
set_option maxHeartbeats 4000000 in
set_option maxRecDepth 100000 in
theorem lt_m_calls1_a (l : Launch) (D : va_G) (cI cZ cS cR : ClassId) (N0 : NT) (g : GS) (h : Nat) (n : Int32) (k : Int32) (j : Int32) (x4 : Int32) (t0 : Int32) (fa : Nat) (fta : Nat) (r_h : g.1 h = 8) (r_fa : g.1 fa = 51) (n_fa : g.2.2.1 fa = 7) (r_fta : g.1 fta = 55) (n_fta : g.2.2.1 fta = 7) (kt0 : g.2.1 h 52 = .int t0) (kw : g.2.1 h 21 = .int 1) (kfa : g.2.1 h 43 = .ref fa) (kft : g.2.1 h 46 = .ref fta) (l_n : 0 ≤ n.toInt) (u_n : n.toInt ≤ 5) (l_k : 0 ≤ k.toInt) (u_k : k.toInt ≤ 999) (l_t0 : 0 ≤ t0.toInt) (u_t0 : t0.toInt ≤ 1140) (hw : PX 48 2 3 71 72 g h) {p : Program} {e : Env} {s : State} {m : MethodId} {args : Array Value} {below : List Frame} {meth : Method} {c : Code} (hB : Tz p s m meth c args cX7_calls 6 RX7 D cI cZ cS cR N0) (hr : meth.sig.returnType = (some .int))    : ∀ (kf : Nat) (g1 : GS) (dp : Int32) (cm : Int32) (to1 : Int32)  (H : Heap) (locs : List Loc) (ls : Array Slot), Tv D cI cZ cS cR N0 s.heap H locs g1 → Inv g1 → Ex g g1 → Sm md_m_calls1 g g1 → 0 ≤ dp.toInt → dp.toInt ≤ 6 → 0 ≤ cm.toInt → cm.toInt ≤ 60 → 0 ≤ to1.toInt → to1.toInt ≤ 1200 → g1.2.1 h 49 = .int dp → g1.2.1 h 50 = .int cm → g1.2.1 h 52 = .int to1 → (DP g1 fa dp.toInt) → (120 + dp.toInt ≤ 2 * cm.toInt + kf ∧ to1.toInt ≤ t0.toInt + cm.toInt) → lv_has ls 6 [(0, .ref h), (1, .int n), (2, .int k), (3, .int j), (4, .int x4)] → W p l e (rmx 5 0 0) s m args below meth c H locs 0 0 (MQ below (tQ D cI cZ cS cR N0 (fun v g' => ∃ (r : Int32) (t2 : Int32), v = some (.int r) ∧ Inv g' ∧ Ex g g' ∧ Sm md_m_calls1 g g' ∧ (-2 ≤ r.toInt ∧ r.toInt ≤ 999) ∧ (g'.2.1 h 52 = .int t2) ∧ (0 ≤ t2.toInt ∧ t2.toInt ≤ t0.toInt + 60))) args s 0 0 (fun q => N0.1 ≤ q)) (F0 m 42 ls []) := by
  have hx := hB.1
  have hb := hB.2.1
  intro kf
  induction kf using Nat.strongRecOn with
  | ind kf ih =>
    intro g1 dp cm to1 H locs ls hT hI hE hM l_dp u_dp l_cm u_cm l_to1 u_to1 kp0 kp1 kp2 hD hk hl
    have r_1 : g1.1 h = 8 := Ex.r hE r_h (by decide)
    have r_2 : g1.1 fa = 51 := Ex.r hE r_fa (by decide)
    have n_3 : g1.2.2.1 fa = 7 := Ex.n hE r_fa (by decide) n_fa
    have r_4 : g1.1 fta = 55 := Ex.r hE r_fta (by decide)
    have n_5 : g1.2.2.1 fta = 7 := Ex.n hE r_fta (by decide) n_fta
    have kn_6 : g1.2.1 h 21 = .int 1 := Sm.v hM r_h (by decide) rfl kw
    have kn_7 : g1.2.1 h 43 = .ref fa := Sm.v hM r_h (by decide) rfl kfa
    have kn_8 : g1.2.1 h 46 = .ref fta := Sm.v hM r_h (by decide) rfl kft
    refine lv_aload_n hx hb dX7_calls_42 rfl (lv_at hl 0 rfl) ?_
    refine t_get (ci := 7) (v := .int dp) hB hT (ro_ci r_1 rfl) rfl 49 (by decide) k_794 kp0 dX7_calls_43 ?_
    refine lv_if_le (tgt := 126) hx hb dX7_calls_46 (by decide) (fun c_9 => ?_) (fun c_9 => ?_)
    · have c_9' : dp.toInt ≤ 0 := i_le c_9 rfl (by decide)
      refine lv_aload_n hx hb dX7_calls_126 rfl (lv_at hl 0 rfl) ?_
      obtain ⟨v_10, e_v_10, l_v_10, u_v_10⟩ := f_8_51 hI r_1
      refine t_get (ci := 7) (v := .int v_10) hB hT (ro_ci r_1 rfl) rfl 51 (by decide) k_796 e_v_10 dX7_calls_127 ?_
      exact t_iret hB hr hT (Nat.le_of_ble_eq_true rfl) (Nat.le_of_ble_eq_true rfl) dX7_calls_130 ⟨v_10, to1, rfl, hI, hE, hM, ⟨by omega, by omega⟩, kp2, (by omega)⟩
    · have c_9' : 0 < dp.toInt := i_nle c_9 rfl (by decide)
      refine lv_aload_n hx hb dX7_calls_49 rfl (lv_at hl 0 rfl) ?_
      refine t_get (ci := 7) (v := .int dp) hB hT (ro_ci r_1 rfl) rfl 49 (by decide) k_794 kp0 dX7_calls_50 ?_
      refine lv_iconst (v := 1) hx hb dX7_calls_53 (by decide) ?_
      refine lv_isub hx hb dX7_calls_54 ?_
      refine lv_topi (fun z_11 ez_11 => ?_)
      have e_z_11 : z_11.toInt = dp.toInt - 1 := i_sub ez_11 rfl (by decide) (by omega) (by omega)
      refine lv_istore (lv' := [(5, .int z_11), (0, .ref h), (1, .int n), (2, .int k), (3, .int j), (4, .int x4)]) hx hb dX7_calls_55 hl (by decide) rfl (fun ls hl => ?_)
      refine lv_aload_n hx hb dX7_calls_57 rfl (lv_at hl 1 rfl) ?_
      refine t_get (ci := 7) (v := .ref fta) hB hT (ro_ci r_1 rfl) rfl 46 (by decide) k_791 kn_8 dX7_calls_58 ?_
      refine lv_iload hx hb dX7_calls_61 (lv_at hl 0 rfl) ?_
      have i_u_12 : vp_in z_11 7 := (i_in (n := 7) rfl (by omega) (by omega))
      refine t_iald hB hT (ro_in r_4 (by decide)) n_5 i_u_12 rfl dX7_calls_63 ?_
      have c_u_12 := hI.c r_4 n_5 (i_cl i_u_12)
      refine lv_topi (fun u_12 e_u_12 => ?_)
      obtain ⟨l_u_12, u_u_12⟩ := c_u_12
      rw [← e_u_12] at l_u_12 u_u_12
      refine lv_aload_n hx hb dX7_calls_64 rfl (lv_at hl 1 rfl) ?_
      obtain ⟨v_13, e_v_13, r_v_13, n_v_13⟩ := f_8_1 hI r_1
      refine t_get (ci := 7) (v := .ref v_13) hB hT (ro_ci r_1 rfl) rfl 1 (by decide) k_746 e_v_13 dX7_calls_65 ?_
      refine lv_aload_n hx hb dX7_calls_68 rfl (lv_at hl 1 rfl) ?_
      refine t_get (ci := 7) (v := .ref fa) hB hT (ro_ci r_1 rfl) rfl 43 (by decide) k_788 kn_7 dX7_calls_69 ?_
      refine lv_iload hx hb dX7_calls_72 (lv_at hl 0 rfl) ?_
      have i_u_14 : vp_in z_11 7 := (i_in (n := 7) rfl (by omega) (by omega))
      refine t_iald hB hT (ro_in r_2 (by decide)) n_3 i_u_14 rfl dX7_calls_74 ?_
      have c_u_14 := hI.c r_2 n_3 (i_cl i_u_14)
      refine lv_topi (fun u_14 e_u_14 => ?_)
      obtain ⟨l_u_14, u_u_14⟩ := c_u_14
      rw [← e_u_14] at l_u_14 u_u_14
      have i_u_15 : vp_in u_14 6 := (i_in (n := 6) rfl (by omega) (by omega))
      refine t_iald hB hT (ro_in r_v_13 (by decide)) n_v_13 i_u_15 rfl dX7_calls_75 ?_
      have c_u_15 := hI.c r_v_13 n_v_13 (i_cl i_u_15)
      refine lv_topi (fun u_15 e_u_15 => ?_)
      obtain ⟨l_u_15, u_u_15⟩ := c_u_15
      rw [← e_u_15] at l_u_15 u_u_15
      refine lv_icmp_lt (tgt := 86) hx hb dX7_calls_76 (by decide) (fun c_16 => ?_) (fun c_16 => ?_)
      · have c_16' : u_12.toInt < u_15.toInt := i_lt c_16 rfl rfl
        refine lv_aload_n hx hb dX7_calls_86 rfl (lv_at hl 1 rfl) ?_
        refine t_get (ci := 7) (v := .int cm) hB hT (ro_ci r_1 rfl) rfl 50 (by decide) k_795 kp1 dX7_calls_87 ?_
        refine lv_bipush (v := 60) hx hb dX7_calls_90 (by decide) ?_
        refine lv_icmp_eq (tgt := 106) hx hb dX7_calls_92 (by decide) (fun c_17 => ?_) (fun c_17 => ?_)
        · have c_17' : cm.toInt = 60 := i_eq c_17 rfl (by decide)
          refine lv_bipush (v := (-2)) hx hb dX7_calls_106 (by decide) ?_
          exact t_iret hB hr hT (Nat.le_of_ble_eq_true rfl) (Nat.le_of_ble_eq_true rfl) dX7_calls_108 ⟨(-2), to1, rfl, hI, hE, hM, ⟨by decide, by decide⟩, kp2, (by omega)⟩
        · have c_17' : cm.toInt ≠ 60 := i_ne c_17 rfl (by decide)
          refine lv_aload_n hx hb dX7_calls_95 rfl (lv_at hl 1 rfl) ?_
          refine t_get (ci := 7) (v := .int cm) hB hT (ro_ci r_1 rfl) rfl 50 (by decide) k_795 kp1 dX7_calls_96 ?_
          refine lv_iconst (v := 1) hx hb dX7_calls_99 (by decide) ?_
          refine lv_iadd hx hb dX7_calls_100 ?_
          refine lv_topi (fun z_18 ez_18 => ?_)
          have e_z_18 : z_18.toInt = cm.toInt + 1 := i_add ez_18 rfl (by decide) (by omega) (by omega)
          refine lv_iload hx hb dX7_calls_101 (lv_at hl 5 rfl) ?_
          refine lv_icmp_ne (tgt := 109) hx hb dX7_calls_103 (by decide) (fun c_19 => ?_) (fun c_19 => ?_)
          · have c_19' : z_18.toInt ≠ x4.toInt := i_ne c_19 rfl rfl
            refine lv_aload_n hx hb dX7_calls_109 rfl (lv_at hl 1 rfl) ?_
            refine lv_dup hx hb dX7_calls_110 rfl ?_
            refine t_get (ci := 7) (v := .int cm) hB hT (ro_ci r_1 rfl) rfl 50 (by decide) k_795 kp1 dX7_calls_111 ?_
            refine lv_iconst (v := 1) hx hb dX7_calls_114 (by decide) ?_
            refine lv_iadd hx hb dX7_calls_115 ?_
            refine lv_topi (fun z_20 ez_20 => ?_)
            have e_z_20 : z_20.toInt = cm.toInt + 1 := i_add ez_20 rfl (by decide) (by omega) (by omega)
            refine t_put0 (ci := 7) (v := .int z_20) hB hT (ro_ci r_1 rfl) (ro_n0 r_1 (by decide)) rfl 50 (by decide) k_795 (Or.inl rfl) rfl rfl dX7_calls_116 (fun H locs hT => ?_)
            have hI : Inv (sF g1 h 50 (.int z_20)) := hI.sF (p_8_50 r_1 (⟨_, rfl⟩))
            have hM : Sm md_m_calls1 g (sF g1 h 50 (.int z_20)) := hM.tr hE (Sm_sF (by rw [r_1]; rfl))
            have hE : Ex g (sF g1 h 50 (.int z_20)) := hE
            have hD : DP (sF g1 h 50 (.int z_20)) fa dp.toInt := hD
            refine lv_aload_n hx hb dX7_calls_119 rfl (lv_at hl 1 rfl) ?_
            refine t_callV (n := 0) (As := []) (rest := []) (ci := 7) hB hT hl.1 (m_comes1 l D cI cZ cS cR N0 (sF g1 h 50 (.int z_20)) hI h dp to1 fa fta r_1 r_2 n_3 r_4 n_5 (sF_k kp0 (by decide)) (sF_k kp2 (by decide)) (sF_k kn_6 (by decide)) (sF_k kn_7 (by decide)) (sF_k kn_8 (by decide)) (by omega) (by omega) (by omega) (by omega) hD (fun q hq => by have e1_ : q = z_11 := i_inj (by omega); rw [e1_, e_u_12.symm]; omega) (hw.mono hM hE r_h (by decide) (by decide) rfl rfl rfl rfl)) (ro_ci r_1 rfl) rfl k_1071 k_65 k_1068 k_1070 k_41 (by decide +kernel) ⟨(Nat.le_of_ble_eq_true rfl), (Nat.le_of_ble_eq_true rfl)⟩ rfl (Nat.le_of_ble_eq_true rfl) ⟨(Nat.le_of_ble_eq_true rfl), (Nat.le_of_ble_eq_true rfl)⟩ dX7_calls_120 (fun v g_21 H locs hp hT => ?_)
            obtain ⟨d2_22, t2_23, rfl, hI, x_30, m_29, f_24, f_25, f_26, f_27, f_28⟩ := hp
            have hM : Sm md_m_calls1 g g_21 := hM.tr hE (m_29.mo (fun r k h => mdle_m_calls1_m_comes1 h))
            have hE : Ex g g_21 := hE.tr x_30
            have r_31 : g_21.1 h = 8 := (Ex.r x_30 r_1 (by decide))
            have r_32 : g_21.1 fa = 51 := (Ex.r x_30 r_2 (by decide))
            have r_33 : g_21.1 fta = 55 := (Ex.r x_30 r_4 (by decide))
            have r_34 : g_21.1 v_13 = 88 := (Ex.r x_30 r_v_13 (by decide))
            have n_35 : g_21.2.2.1 fa = 7 := (Ex.n x_30 r_2 (by decide) n_3)
            have n_36 : g_21.2.2.1 fta = 7 := (Ex.n x_30 r_4 (by decide) n_5)
            have n_37 : g_21.2.2.1 v_13 = 6 := (Ex.n x_30 r_v_13 (by decide) n_v_13)
            have kn_38 : g_21.2.1 h 21 = .int 1 := (Sm.v m_29 r_1 (by decide) rfl (sF_k kn_6 (by decide)))
            have kn_39 : g_21.2.1 h 43 = .ref fa := (Sm.v m_29 r_1 (by decide) rfl (sF_k kn_7 (by decide)))
            have kn_40 : g_21.2.1 h 46 = .ref fta := (Sm.v m_29 r_1 (by decide) rfl (sF_k kn_8 (by decide)))
            have kn_41 : g_21.2.1 h 1 = .ref v_13 := (Sm.v m_29 r_1 (by decide) rfl (sF_k e_v_13 (by decide)))
            have kn_42 : g_21.2.1 h 50 = .int z_20 := (Sm.v m_29 r_1 (by decide) rfl sF_eq)
            have kn_43 : g_21.2.2.2.1 v_13 u_14.toNatClampNeg = u_15 := (Sm.c m_29 r_v_13 (by decide) rfl e_u_15.symm)
            refine W.eq (g2 := F0 m 123 ls []) rfl ?_
            have hD := f_28
            refine lv_goto (tgt := 42) hx hb dX7_calls_123 (by decide) ?_
            exact ih (kf - 1) (by omega) g_21 d2_22 z_20 t2_23 H locs ls hT hI hE hM (by omega) (by omega) (by omega) (by omega) (by omega) (by omega) f_24 kn_42 f_25 (hD.cast (by omega)) (by have e0_ : (0 : Int32).toInt = 0 := (by decide); omega) (lv_sub hl [1, 2, 3, 4, 5] rfl)
          · have c_19' : z_18.toInt = x4.toInt := i_eq c_19 rfl rfl
            refine lv_bipush (v := (-2)) hx hb dX7_calls_106 (by decide) ?_
            exact t_iret hB hr hT (Nat.le_of_ble_eq_true rfl) (Nat.le_of_ble_eq_true rfl) dX7_calls_108 ⟨(-2), to1, rfl, hI, hE, hM, ⟨by decide, by decide⟩, kp2, (by omega)⟩
      · have c_16' : u_15.toInt ≤ u_12.toInt := i_nlt c_16 rfl rfl
        refine lv_aload_n hx hb dX7_calls_79 rfl (lv_at hl 1 rfl) ?_
        refine t_callV (n := 0) (As := []) (rest := []) (ci := 7) hB hT hl.1 (m_closes l D cI cZ cS cR N0 g1 hI h dp r_1 kp0 (by omega) (by omega)) (ro_ci r_1 rfl) rfl k_1067 k_65 k_1064 k_1066 k_40 (by decide +kernel) ⟨(Nat.le_of_ble_eq_true rfl), (Nat.le_of_ble_eq_true rfl)⟩ rfl (Nat.le_of_ble_eq_true rfl) ⟨(Nat.le_of_ble_eq_true rfl), (Nat.le_of_ble_eq_true rfl)⟩ dX7_calls_80 (fun v g_44 H locs hp hT => ?_)
        obtain ⟨d2_45, rfl, hI, x_49, m_48, f_46, f_47⟩ := hp
        have hD : DP g_44 fa dp.toInt := hD.sm m_48 r_2 (by decide) rfl
        have hM : Sm md_m_calls1 g g_44 := hM.tr hE (m_48.mo (fun r k h => mdle_m_calls1_m_closes h))
        have hE : Ex g g_44 := hE.tr x_49
        have r_50 : g_44.1 h = 8 := (Ex.r x_49 r_1 (by decide))
        have r_51 : g_44.1 fa = 51 := (Ex.r x_49 r_2 (by decide))
        have r_52 : g_44.1 fta = 55 := (Ex.r x_49 r_4 (by decide))
        have r_53 : g_44.1 v_13 = 88 := (Ex.r x_49 r_v_13 (by decide))
        have n_54 : g_44.2.2.1 fa = 7 := (Ex.n x_49 r_2 (by decide) n_3)
        have n_55 : g_44.2.2.1 fta = 7 := (Ex.n x_49 r_4 (by decide) n_5)
        have n_56 : g_44.2.2.1 v_13 = 6 := (Ex.n x_49 r_v_13 (by decide) n_v_13)
        have kn_57 : g_44.2.1 h 50 = .int cm := (Sm.v m_48 r_1 (by decide) rfl kp1)
        have kn_58 : g_44.2.1 h 52 = .int to1 := (Sm.v m_48 r_1 (by decide) rfl kp2)
        have kn_59 : g_44.2.1 h 21 = .int 1 := (Sm.v m_48 r_1 (by decide) rfl kn_6)
        have kn_60 : g_44.2.1 h 43 = .ref fa := (Sm.v m_48 r_1 (by decide) rfl kn_7)
        have kn_61 : g_44.2.1 h 46 = .ref fta := (Sm.v m_48 r_1 (by decide) rfl kn_8)
        have kn_62 : g_44.2.1 h 1 = .ref v_13 := (Sm.v m_48 r_1 (by decide) rfl e_v_13)
        have kn_63 : g_44.2.2.2.1 fta z_11.toNatClampNeg = u_12 := (Sm.c m_48 r_4 (by decide) rfl e_u_12.symm)
        have kn_64 : g_44.2.2.2.1 fa z_11.toNatClampNeg = u_14 := (Sm.c m_48 r_2 (by decide) rfl e_u_14.symm)
        have kn_65 : g_44.2.2.2.1 v_13 u_14.toNatClampNeg = u_15 := (Sm.c m_48 r_v_13 (by decide) rfl e_u_15.symm)
        refine W.eq (g2 := F0 m 83 ls []) rfl ?_
        refine lv_goto (tgt := 123) hx hb dX7_calls_83 (by decide) ?_
        refine lv_goto (tgt := 42) hx hb dX7_calls_123 (by decide) ?_
        exact ih (kf - 1) (by omega) g_44 d2_45 cm to1 H locs ls hT hI hE hM (by omega) (by omega) (by omega) (by omega) (by omega) (by omega) f_46 kn_57 kn_58 (hD.cast (by omega)) (by have e0_ : (0 : Int32).toInt = 0 := (by decide); omega) (lv_sub hl [1, 2, 3, 4, 5] rfl)
set_option maxHeartbeats 4000000 in
set_option maxRecDepth 100000 in
theorem m_calls1 (l : Launch) (D : va_G) (cI cZ cS cR : ClassId) (N0 : NT) (g : GS) (hI : Inv g) (h : Nat) (n : Int32) (k : Int32) (j : Int32) (x4 : Int32) (t0 : Int32) (fa : Nat) (fta : Nat) (r_h : g.1 h = 8) (r_fa : g.1 fa = 51) (n_fa : g.2.2.1 fa = 7) (r_fta : g.1 fta = 55) (n_fta : g.2.2.1 fta = 7) (kt0 : g.2.1 h 52 = .int t0) (kw : g.2.1 h 21 = .int 1) (kfa : g.2.1 h 43 = .ref fa) (kft : g.2.1 h 46 = .ref fta) (l_n : 0 ≤ n.toInt) (u_n : n.toInt ≤ 5) (l_k : 0 ≤ k.toInt) (u_k : k.toInt ≤ 999) (l_t0 : 0 ≤ t0.toInt) (u_t0 : t0.toInt ≤ 1140) (hw : PX 48 2 3 71 72 g h) : Ty l D cI cZ cS cR N0 yX7_calls cX7_calls 6 (some .int) 5 0 0 [.ref h, .int n, .int k, .int j, .int x4] g (fun v g' => ∃ (r : Int32) (t2 : Int32), v = some (.int r) ∧ Inv g' ∧ Ex g g' ∧ Sm md_m_calls1 g g' ∧ (-2 ≤ r.toInt ∧ r.toInt ≤ 999) ∧ (g'.2.1 h 52 = .int t2) ∧ (0 ≤ t2.toInt ∧ t2.toInt ≤ t0.toInt + 60)) := by
  refine t_enter (by decide) (Nat.le_of_ble_eq_true rfl) ?_
  intro p e s m args below meth c ls H locs hB hr hin hl hT
  have hx := hB.1
  have hb := hB.2.1
  have hl : lv_has ls 6 [(0, .ref h), (1, .int n), (2, .int k), (3, .int j), (4, .int x4)] := hl
  have hE : Ex g g := Ex.rf
  have hM : Sm md_m_calls1 g g := Sm.rf
  refine lv_aload_n hx hb dX7_calls_0 rfl (lv_at hl 0 rfl) ?_
  obtain ⟨v_1, e_v_1, r_v_1, n_v_1⟩ := f_8_14 hI r_h
  refine t_get (ci := 7) (v := .ref v_1) hB hT (ro_ci r_h rfl) rfl 14 (by decide) k_759 e_v_1 dX7_calls_1 ?_
  refine lv_aload_n hx hb dX7_calls_4 rfl (lv_at hl 0 rfl) ?_
  refine t_get (ci := 7) (v := .int 1) hB hT (ro_ci r_h rfl) rfl 21 (by decide) k_766 kw dX7_calls_5 ?_
  refine lv_dup2_11 hx hb dX7_calls_8 rfl rfl ?_
  have i_u_2 : vp_in (1 : Int32) 2 := (by unfold vp_in; decide)
  refine t_iald hB hT (ro_in r_v_1 (by decide)) n_v_1 i_u_2 rfl dX7_calls_9 ?_
  refine lv_topi (fun u_2 e_u_2 => ?_)
  refine lv_iconst (v := 1) hx hb dX7_calls_10 (by decide) ?_
  refine lv_iadd hx hb dX7_calls_11 ?_
  refine lv_topi (fun z_3 ez_3 => ?_)
  have i_4 : vp_in (1 : Int32) 2 := (by unfold vp_in; decide)
  refine t_iast hB hT (ro_in r_v_1 (by decide)) n_v_1 i_4 dX7_calls_12 (fun H locs hT => ?_)
  have hI : Inv (sC g v_1 (1 : Int32).toNatClampNeg z_3) := hI.sC (ck r_v_1 trivial)
  have hM : Sm md_m_calls1 g (sC g v_1 (1 : Int32).toNatClampNeg z_3) := hM.tr hE (Sm_sC (by rw [r_v_1]; rfl))
  have hE : Ex g (sC g v_1 (1 : Int32).toNatClampNeg z_3) := hE
  refine lv_aload_n hx hb dX7_calls_13 rfl (lv_at hl 0 rfl) ?_
  refine t_callV (n := 0) (As := []) (rest := []) (ci := 7) hB hT hl.1 (m_ends l D cI cZ cS cR N0 (sC g v_1 (1 : Int32).toNatClampNeg z_3) hI h r_h) (ro_ci r_h rfl) rfl k_1039 k_65 k_1036 k_1038 k_33 (by decide +kernel) ⟨(Nat.le_of_ble_eq_true rfl), (Nat.le_of_ble_eq_true rfl)⟩ rfl (Nat.le_of_ble_eq_true rfl) ⟨(Nat.le_of_ble_eq_true rfl), (Nat.le_of_ble_eq_true rfl)⟩ dX7_calls_14 (fun v g_5 H locs hp hT => ?_)
  obtain ⟨rfl, hI, x_7, m_6⟩ := hp
  have hM : Sm md_m_calls1 g g_5 := hM.tr hE (m_6.mo (fun r k h => mdle_m_calls1_m_ends h))
  have hE : Ex g g_5 := hE.tr x_7
  have r_8 : g_5.1 h = 8 := (Ex.r x_7 r_h (by decide))
  have r_9 : g_5.1 fa = 51 := (Ex.r x_7 r_fa (by decide))
  have r_10 : g_5.1 fta = 55 := (Ex.r x_7 r_fta (by decide))
  have r_11 : g_5.1 v_1 = 50 := (Ex.r x_7 r_v_1 (by decide))
  have n_12 : g_5.2.2.1 fa = 7 := (Ex.n x_7 r_fa (by decide) n_fa)
  have n_13 : g_5.2.2.1 fta = 7 := (Ex.n x_7 r_fta (by decide) n_fta)
  have n_14 : g_5.2.2.1 v_1 = 2 := (Ex.n x_7 r_v_1 (by decide) n_v_1)
  have kn_15 : g_5.2.1 h 52 = .int t0 := (Sm.v m_6 r_h (by decide) rfl kt0)
  have kn_16 : g_5.2.1 h 21 = .int 1 := (Sm.v m_6 r_h (by decide) rfl kw)
  have kn_17 : g_5.2.1 h 43 = .ref fa := (Sm.v m_6 r_h (by decide) rfl kfa)
  have kn_18 : g_5.2.1 h 46 = .ref fta := (Sm.v m_6 r_h (by decide) rfl kft)
  have kn_19 : g_5.2.1 h 14 = .ref v_1 := (Sm.v m_6 r_h (by decide) rfl e_v_1)
  refine W.eq (g2 := F0 m 17 ls []) rfl ?_
  refine lv_aload_n hx hb dX7_calls_17 rfl (lv_at hl 0 rfl) ?_
  refine lv_iconst (v := 0) hx hb dX7_calls_18 (by decide) ?_
  refine t_put0 (ci := 7) (v := .int 0) hB hT (ro_ci r_8 rfl) (ro_n0 r_8 (by decide)) rfl 49 (by decide) k_794 (Or.inl rfl) rfl rfl dX7_calls_19 (fun H locs hT => ?_)
  have hI : Inv (sF g_5 h 49 (.int 0)) := hI.sF (p_8_49 r_8 (⟨_, rfl, by decide, by decide⟩))
  have hM : Sm md_m_calls1 g (sF g_5 h 49 (.int 0)) := hM.tr hE (Sm_sF (by rw [r_8]; rfl))
  have hE : Ex g (sF g_5 h 49 (.int 0)) := hE
  refine lv_aload_n hx hb dX7_calls_22 rfl (lv_at hl 0 rfl) ?_
  refine lv_iconst (v := 0) hx hb dX7_calls_23 (by decide) ?_
  refine t_put0 (ci := 7) (v := .int 0) hB hT (ro_ci r_8 rfl) (ro_n0 r_8 (by decide)) rfl 50 (by decide) k_795 (Or.inl rfl) rfl rfl dX7_calls_24 (fun H locs hT => ?_)
  have hI : Inv (sF (sF g_5 h 49 (.int 0)) h 50 (.int 0)) := hI.sF (p_8_50 r_8 (⟨_, rfl⟩))
  have hM : Sm md_m_calls1 g (sF (sF g_5 h 49 (.int 0)) h 50 (.int 0)) := hM.tr hE (Sm_sF (by rw [r_8]; rfl))
  have hE : Ex g (sF (sF g_5 h 49 (.int 0)) h 50 (.int 0)) := hE
  have hD : DP (sF (sF g_5 h 49 (.int 0)) h 50 (.int 0)) fa (0 : Int32).toInt := DP.zero.cast (by decide)
  refine lv_aload_n hx hb dX7_calls_27 rfl (lv_at hl 0 rfl) ?_
  refine lv_iload_n hx hb dX7_calls_28 rfl (lv_at hl 1 rfl) ?_
  refine lv_iload_n hx hb dX7_calls_29 rfl (lv_at hl 2 rfl) ?_
  refine lv_iload_n hx hb dX7_calls_30 rfl (lv_at hl 3 rfl) ?_
  refine t_callV (n := 3) (As := [.int n, .int k, .int j]) (rest := []) (ci := 7) hB hT hl.1 (m_begins l D cI cZ cS cR N0 (sF (sF g_5 h 49 (.int 0)) h 50 (.int 0)) hI h n k j 0 fa r_8 r_9 n_12 (sF_k sF_eq (by decide)) (sF_k (sF_k kn_17 (by decide)) (by decide)) (by have q0 : (0 : Int32).toInt = 0 := (by decide); omega) (by have q0 : (0 : Int32).toInt = 0 := (by decide); omega) (by have q0 : (0 : Int32).toInt = 0 := (by decide); omega) (by have q0 : (0 : Int32).toInt = 0 := (by decide); omega) (by have q0 : (0 : Int32).toInt = 0 := (by decide); omega) (by have q0 : (0 : Int32).toInt = 0 := (by decide); omega) (by have q0 : (0 : Int32).toInt = 0 := (by decide); omega) hD) (ro_ci r_8 rfl) rfl k_1055 k_65 k_1052 k_1054 k_37 (by decide +kernel) ⟨(Nat.le_of_ble_eq_true rfl), (Nat.le_of_ble_eq_true rfl)⟩ rfl (Nat.le_of_ble_eq_true rfl) ⟨(Nat.le_of_ble_eq_true rfl), (Nat.le_of_ble_eq_true rfl)⟩ dX7_calls_31 (fun v g_20 H locs hp hT => ?_)
  obtain ⟨r_21, d2_22, rfl, hI, x_27, m_26, f_23, f_24, f_25⟩ := hp
  have hM : Sm md_m_calls1 g g_20 := hM.tr hE (m_26.mo (fun r k h => mdle_m_calls1_m_begins h))
  have hE : Ex g g_20 := hE.tr x_27
  have r_28 : g_20.1 h = 8 := (Ex.r x_27 r_8 (by decide))
  have r_29 : g_20.1 fa = 51 := (Ex.r x_27 r_9 (by decide))
  have r_30 : g_20.1 fta = 55 := (Ex.r x_27 r_10 (by decide))
  have r_31 : g_20.1 v_1 = 50 := (Ex.r x_27 r_11 (by decide))
  have n_32 : g_20.2.2.1 fa = 7 := (Ex.n x_27 r_9 (by decide) n_12)
  have n_33 : g_20.2.2.1 fta = 7 := (Ex.n x_27 r_10 (by decide) n_13)
  have n_34 : g_20.2.2.1 v_1 = 2 := (Ex.n x_27 r_11 (by decide) n_14)
  have kn_35 : g_20.2.1 h 52 = .int t0 := (Sm.v m_26 r_8 (by decide) rfl (sF_k (sF_k kn_15 (by decide)) (by decide)))
  have kn_36 : g_20.2.1 h 21 = .int 1 := (Sm.v m_26 r_8 (by decide) rfl (sF_k (sF_k kn_16 (by decide)) (by decide)))
  have kn_37 : g_20.2.1 h 43 = .ref fa := (Sm.v m_26 r_8 (by decide) rfl (sF_k (sF_k kn_17 (by decide)) (by decide)))
  have kn_38 : g_20.2.1 h 46 = .ref fta := (Sm.v m_26 r_8 (by decide) rfl (sF_k (sF_k kn_18 (by decide)) (by decide)))
  have kn_39 : g_20.2.1 h 14 = .ref v_1 := (Sm.v m_26 r_8 (by decide) rfl (sF_k (sF_k kn_19 (by decide)) (by decide)))
  have kn_40 : g_20.2.1 h 50 = .int 0 := (Sm.v m_26 r_8 (by decide) rfl sF_eq)
  refine W.eq (g2 := F0 m 34 ls [.int r_21]) rfl ?_
  have hD := f_25
  have qc_41 : (0 : Int32).toInt = 0 := (by decide)
  rcases f_23 with ⟨rfl, hw_42⟩ | ⟨rfl, hw_43⟩
  · refine W.eq (g2 := F0 m 34 ls [.int 1]) rfl ?_
    refine lv_if_eq (tgt := 42) hx hb dX7_calls_34 (by decide) (fun c_ => absurd c_ (by decide)) (fun c_ => ?_)
    refine lv_aload_n hx hb dX7_calls_37 rfl (lv_at hl 0 rfl) ?_
    obtain ⟨v_44, e_v_44, l_v_44, u_v_44⟩ := f_8_51 hI r_28
    refine t_get (ci := 7) (v := .int v_44) hB hT (ro_ci r_28 rfl) rfl 51 (by decide) k_796 e_v_44 dX7_calls_38 ?_
    exact t_iret hB hr hT (Nat.le_of_ble_eq_true rfl) (Nat.le_of_ble_eq_true rfl) dX7_calls_41 ⟨v_44, t0, rfl, hI, hE, hM, ⟨by omega, by omega⟩, kn_35, (by omega)⟩
  · refine W.eq (g2 := F0 m 34 ls [.int 0]) rfl ?_
    refine lv_if_eq (tgt := 42) hx hb dX7_calls_34 (by decide) (fun c_ => ?_) (fun c_ => absurd (by decide) c_)
    exact lt_m_calls1_a l D cI cZ cS cR N0 g h n k j x4 t0 fa fta r_h r_fa n_fa r_fta n_fta kt0 kw kfa kft l_n u_n l_k u_k l_t0 u_t0 hw hB hr   126 g_20 d2_22 (0 : Int32) t0 H locs ls hT hI hE hM (by omega) (by omega) (by decide) (by decide) (by omega) (by omega) f_24 kn_40 kn_35 (hD.cast (by omega)) (by have e0_ : (0 : Int32).toInt = 0 := (by decide); omega) (lv_sub hl [0, 1, 2, 3, 4] rfl)
abbrev md_m_rowCall : Nat → Nat → Bool := mdf [(8, 49), (8, 50), (8, 51), (8, 52), (40, 99), (50, 99), (51, 99), (54, 99), (55, 99), (56, 99), (58, 99)]
theorem mdle_m_rowCall_m_calls1 {r k : Nat} (h : md_m_rowCall r k = false) : md_m_calls1 r k = false := mdf_le (by decide +kernel) h
set_option maxHeartbeats 4000000 in
set_option maxRecDepth 100000 in
theorem m_rowCall (l : Launch) (D : va_G) (cI cZ cS cR : ClassId) (N0 : NT) (g : GS) (hI : Inv g) (h : Nat) (n : Int32) (k : Int32) (t0 : Int32) (fa : Nat) (fta : Nat) (r_h : g.1 h = 8) (r_fa : g.1 fa = 51) (n_fa : g.2.2.1 fa = 7) (r_fta : g.1 fta = 55) (n_fta : g.2.2.1 fta = 7) (kt0 : g.2.1 h 52 = .int t0) (kw : g.2.1 h 21 = .int 1) (kfa : g.2.1 h 43 = .ref fa) (kft : g.2.1 h 46 = .ref fta) (l_n : 0 ≤ n.toInt) (u_n : n.toInt ≤ 5) (l_t0 : 0 ≤ t0.toInt) (u_t0 : t0.toInt ≤ 1140) (hw : PX 48 2 3 71 72 g h) : Ty l D cI cZ cS cR N0 yX7_rowCall cX7_rowCall 3 (some .int) 6 0 0 [.ref h, .int n, .int k] g (fun v g' => ∃ (r : Int32) (t2 : Int32), v = some (.int r) ∧ Inv g' ∧ Ex g g' ∧ Sm md_m_rowCall g g' ∧ (-2 ≤ r.toInt ∧ r.toInt ≤ 999) ∧ (g'.2.1 h 52 = .int t2) ∧ (0 ≤ t2.toInt ∧ t2.toInt ≤ t0.toInt + 60)) := by
  refine t_enter (by decide) (Nat.le_of_ble_eq_true rfl) ?_
  intro p e s m args below meth c ls H locs hB hr hin hl hT
  have hx := hB.1
  have hb := hB.2.1
  have hl : lv_has ls 3 [(0, .ref h), (1, .int n), (2, .int k)] := hl
  have hE : Ex g g := Ex.rf
  have hM : Sm md_m_rowCall g g := Sm.rf
  refine lv_aload_n hx hb dX7_rowCall_0 rfl (lv_at hl 0 rfl) ?_
  refine lv_aload_n hx hb dX7_rowCall_1 rfl (lv_at hl 0 rfl) ?_
  obtain ⟨v_1, e_v_1, r_v_1, n_v_1⟩ := f_8_31 hI r_h
  refine t_get (ci := 7) (v := .ref v_1) hB hT (ro_ci r_h rfl) rfl 31 (by decide) k_776 e_v_1 dX7_rowCall_2 ?_
  refine lv_iload_n hx hb dX7_rowCall_5 rfl (lv_at hl 1 rfl) ?_
  have i_u_2 : vp_in n 6 := (i_in (n := 6) rfl (by omega) (by omega))
  refine t_iald hB hT (ro_in r_v_1 (by decide)) n_v_1 i_u_2 rfl dX7_rowCall_6 ?_
  have c_u_2 := hI.c r_v_1 n_v_1 (i_cl i_u_2)
  refine lv_topi (fun u_2 e_u_2 => ?_)
  obtain ⟨l_u_2, u_u_2⟩ := c_u_2
  rw [← e_u_2] at l_u_2 u_u_2
  refine lv_aload_n hx hb dX7_rowCall_7 rfl (lv_at hl 0 rfl) ?_
  obtain ⟨v_3, e_v_3, r_v_3, n_v_3⟩ := f_8_32 hI r_h
  refine t_get (ci := 7) (v := .ref v_3) hB hT (ro_ci r_h rfl) rfl 32 (by decide) k_777 e_v_3 dX7_rowCall_8 ?_
  refine lv_iload_n hx hb dX7_rowCall_11 rfl (lv_at hl 1 rfl) ?_
  have i_u_4 : vp_in n 6 := (i_in (n := 6) rfl (by omega) (by omega))
  refine t_iald hB hT (ro_in r_v_3 (by decide)) n_v_3 i_u_4 rfl dX7_rowCall_12 ?_
  have c_u_4 := hI.c r_v_3 n_v_3 (i_cl i_u_4)
  refine lv_topi (fun u_4 e_u_4 => ?_)
  obtain ⟨l_u_4, u_u_4⟩ := c_u_4
  rw [← e_u_4] at l_u_4 u_u_4
  refine lv_aload_n hx hb dX7_rowCall_13 rfl (lv_at hl 0 rfl) ?_
  obtain ⟨v_5, e_v_5, r_v_5, n_v_5⟩ := f_8_33 hI r_h
  refine t_get (ci := 7) (v := .ref v_5) hB hT (ro_ci r_h rfl) rfl 33 (by decide) k_778 e_v_5 dX7_rowCall_14 ?_
  refine lv_iload_n hx hb dX7_rowCall_17 rfl (lv_at hl 1 rfl) ?_
  have i_u_6 : vp_in n 6 := (i_in (n := 6) rfl (by omega) (by omega))
  refine t_iald hB hT (ro_in r_v_5 (by decide)) n_v_5 i_u_6 rfl dX7_rowCall_18 ?_
  refine lv_topi (fun u_6 e_u_6 => ?_)
  refine lv_iload_n hx hb dX7_rowCall_19 rfl (lv_at hl 2 rfl) ?_
  refine t_callV (n := 4) (As := [.int u_2, .int u_4, .int u_6, .int k]) (rest := []) (ci := 7) hB hT hl.1 (m_calls1 l D cI cZ cS cR N0 g hI h u_2 u_4 u_6 k t0 fa fta r_h r_fa n_fa r_fta n_fta kt0 kw kfa kft (by omega) (by omega) (by omega) (by omega) (by omega) (by omega) hw) (ro_ci r_h rfl) rfl k_1035 k_65 k_1032 k_1034 k_32 (by decide +kernel) ⟨(Nat.le_of_ble_eq_true rfl), (Nat.le_of_ble_eq_true rfl)⟩ rfl (Nat.le_of_ble_eq_true rfl) ⟨(Nat.le_of_ble_eq_true rfl), (Nat.le_of_ble_eq_true rfl)⟩ dX7_rowCall_20 (fun v g_7 H locs hp hT => ?_)
  obtain ⟨r_8, t2_9, rfl, hI, x_14, m_13, f_10, f_11, f_12⟩ := hp
  have hM : Sm md_m_rowCall g g_7 := hM.tr hE (m_13.mo (fun r k h => mdle_m_rowCall_m_calls1 h))
  have hE : Ex g g_7 := hE.tr x_14
  have r_15 : g_7.1 h = 8 := (Ex.r x_14 r_h (by decide))
  have r_16 : g_7.1 fa = 51 := (Ex.r x_14 r_fa (by decide))
  have r_17 : g_7.1 fta = 55 := (Ex.r x_14 r_fta (by decide))
  have r_18 : g_7.1 v_1 = 80 := (Ex.r x_14 r_v_1 (by decide))
  have r_19 : g_7.1 v_3 = 81 := (Ex.r x_14 r_v_3 (by decide))
  have r_20 : g_7.1 v_5 = 82 := (Ex.r x_14 r_v_5 (by decide))
  have n_21 : g_7.2.2.1 fa = 7 := (Ex.n x_14 r_fa (by decide) n_fa)
  have n_22 : g_7.2.2.1 fta = 7 := (Ex.n x_14 r_fta (by decide) n_fta)
  have n_23 : g_7.2.2.1 v_1 = 6 := (Ex.n x_14 r_v_1 (by decide) n_v_1)
  have n_24 : g_7.2.2.1 v_3 = 6 := (Ex.n x_14 r_v_3 (by decide) n_v_3)
  have n_25 : g_7.2.2.1 v_5 = 6 := (Ex.n x_14 r_v_5 (by decide) n_v_5)
  have kn_26 : g_7.2.1 h 21 = .int 1 := (Sm.v m_13 r_h (by decide) rfl kw)
  have kn_27 : g_7.2.1 h 43 = .ref fa := (Sm.v m_13 r_h (by decide) rfl kfa)
  have kn_28 : g_7.2.1 h 46 = .ref fta := (Sm.v m_13 r_h (by decide) rfl kft)
  have kn_29 : g_7.2.1 h 31 = .ref v_1 := (Sm.v m_13 r_h (by decide) rfl e_v_1)
  have kn_30 : g_7.2.1 h 32 = .ref v_3 := (Sm.v m_13 r_h (by decide) rfl e_v_3)
  have kn_31 : g_7.2.1 h 33 = .ref v_5 := (Sm.v m_13 r_h (by decide) rfl e_v_5)
  have kn_32 : g_7.2.2.2.1 v_1 n.toNatClampNeg = u_2 := (Sm.c m_13 r_v_1 (by decide) rfl e_u_2.symm)
  have kn_33 : g_7.2.2.2.1 v_3 n.toNatClampNeg = u_4 := (Sm.c m_13 r_v_3 (by decide) rfl e_u_4.symm)
  have kn_34 : g_7.2.2.2.1 v_5 n.toNatClampNeg = u_6 := (Sm.c m_13 r_v_5 (by decide) rfl e_u_6.symm)
  refine W.eq (g2 := F0 m 23 ls [.int r_8]) rfl ?_
  exact t_iret hB hr hT (Nat.le_of_ble_eq_true rfl) (Nat.le_of_ble_eq_true rfl) dX7_rowCall_23 ⟨r_8, t2_9, rfl, hI, hE, hM, ⟨by omega, by omega⟩, f_11, (by omega)⟩
