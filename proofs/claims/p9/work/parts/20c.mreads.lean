theorem k_22 : Cond.selects RX7 yX7_readsAct yX7_readsAct ∈ tb := mt 22 (by decide +kernel) rfl
theorem k_746 : Cond.fieldLink RX7 7 "TwiceOnceModel" "acts" "[I" ∈ tb := mt 746 (by decide +kernel) rfl
theorem k_747 : Cond.fieldLink RX7 13 "TwiceOnceModel" "word" "[I" ∈ tb := mt 747 (by decide +kernel) rfl
theorem k_748 : Cond.fieldLink RX7 16 "TwiceOnceModel" "place" "[I" ∈ tb := mt 748 (by decide +kernel) rfl
theorem k_749 : Cond.fieldLink RX7 19 "TwiceOnceModel" "worth" "[I" ∈ tb := mt 749 (by decide +kernel) rfl
theorem k_964 : Cond.methodLink RX7 202 yX7_readsAct ∈ tb := mt 964 (by decide +kernel) rfl
theorem k_966 : Cond.instanceMethod yX7_readsAct ∈ tb := mt 966 (by decide +kernel) rfl
set_option maxRecDepth 20000 in
theorem k_967 : Cond.code yX7_readsAct cX7_readsAct 4 none ∈ tb := mt 967 rfl rfl
theorem dX7_reads_21 : decode cX7_reads 21 = .ok (.aload_n 0, 1) := by decide +kernel
theorem dX7_reads_22 : decode cX7_reads 22 = .ok (.invokevirtual 202, 3) := by decide +kernel
theorem dX7_reads_25 : decode cX7_reads 25 = .ok (.aload_n 0, 1) := by decide +kernel
theorem dX7_reads_26 : decode cX7_reads 26 = .ok (.getfield 180, 3) := by decide +kernel
theorem dX7_reads_29 : decode cX7_reads 29 = .ok (.ifCond .ne 29, 3) := by decide +kernel
theorem dX7_reads_58 : decode cX7_reads 58 = .ok (.iconst 0, 1) := by decide +kernel
theorem dX7_reads_59 : decode cX7_reads 59 = .ok (.istore_n 1, 1) := by decide +kernel
theorem dX7_reads_60 : decode cX7_reads 60 = .ok (.aload_n 0, 1) := by decide +kernel
theorem dX7_reads_61 : decode cX7_reads 61 = .ok (.dup, 1) := by decide +kernel
theorem dX7_reads_62 : decode cX7_reads 62 = .ok (.getfield 184, 3) := by decide +kernel
theorem dX7_reads_65 : decode cX7_reads 65 = .ok (.iload_n 1, 1) := by decide +kernel
theorem dX7_reads_66 : decode cX7_reads 66 = .ok (.ifCond .eq 7, 3) := by decide +kernel
theorem dX7_reads_73 : decode cX7_reads 73 = .ok (.iconst 0, 1) := by decide +kernel
theorem dX7_reads_74 : decode cX7_reads 74 = .ok (.iadd, 1) := by decide +kernel
theorem dX7_reads_75 : decode cX7_reads 75 = .ok (.putfield 184, 3) := by decide +kernel
theorem dX7_reads_78 : decode cX7_reads 78 = .ok (.goto (-61), 3) := by decide +kernel
theorem dX7_reads_17 : decode cX7_reads 17 = .ok (.iload_n 1, 1) := by decide +kernel
theorem dX7_reads_18 : decode cX7_reads 18 = .ok (.ifCond .eq 63, 3) := by decide +kernel
theorem dX7_reads_81 : decode cX7_reads 81 = .ok (.aload_n 0, 1) := by decide +kernel
theorem dX7_reads_82 : decode cX7_reads 82 = .ok (.getfield 180, 3) := by decide +kernel
theorem dX7_reads_85 : decode cX7_reads 85 = .ok (.ifCond .ne 18, 3) := by decide +kernel
theorem dX7_reads_103 : decode cX7_reads 103 = .ok (.iconst 0, 1) := by decide +kernel
theorem dX7_reads_104 : decode cX7_reads 104 = .ok (.ireturn, 1) := by decide +kernel
theorem dX7_reads_32 : decode cX7_reads 32 = .ok (.aload_n 0, 1) := by decide +kernel
theorem dX7_reads_33 : decode cX7_reads 33 = .ok (.getfield 199, 3) := by decide +kernel
theorem dX7_reads_36 : decode cX7_reads 36 = .ok (.bipush 8, 2) := by decide +kernel
theorem dX7_reads_38 : decode cX7_reads 38 = .ok (.if_icmp .ge 20, 3) := by decide +kernel
theorem dX7_reads_88 : decode cX7_reads 88 = .ok (.aload_n 0, 1) := by decide +kernel
theorem dX7_reads_89 : decode cX7_reads 89 = .ok (.getfield 184, 3) := by decide +kernel
theorem dX7_reads_92 : decode cX7_reads 92 = .ok (.aload_n 0, 1) := by decide +kernel
theorem dX7_reads_93 : decode cX7_reads 93 = .ok (.getfield 175, 3) := by decide +kernel
theorem dX7_reads_96 : decode cX7_reads 96 = .ok (.if_icmp .ne 7, 3) := by decide +kernel
theorem dX7_reads_99 : decode cX7_reads 99 = .ok (.iconst 1, 1) := by decide +kernel
theorem dX7_reads_100 : decode cX7_reads 100 = .ok (.goto 4, 3) := by decide +kernel
theorem dX7_reads_41 : decode cX7_reads 41 = .ok (.aload_n 0, 1) := by decide +kernel
theorem dX7_reads_42 : decode cX7_reads 42 = .ok (.aload_n 0, 1) := by decide +kernel
theorem dX7_reads_43 : decode cX7_reads 43 = .ok (.getfield 184, 3) := by decide +kernel
theorem dX7_reads_46 : decode cX7_reads 46 = .ok (.invokevirtual 187, 3) := by decide +kernel
theorem dX7_reads_49 : decode cX7_reads 49 = .ok (.bipush 59, 2) := by decide +kernel
theorem dX7_reads_51 : decode cX7_reads 51 = .ok (.if_icmp .ne 7, 3) := by decide +kernel
theorem dX7_reads_54 : decode cX7_reads 54 = .ok (.iconst 1, 1) := by decide +kernel
theorem dX7_reads_55 : decode cX7_reads 55 = .ok (.goto 4, 3) := by decide +kernel
theorem dX7_reads_69 : decode cX7_reads 69 = .ok (.iconst 1, 1) := by decide +kernel
theorem dX7_reads_70 : decode cX7_reads 70 = .ok (.goto 4, 3) := by decide +kernel
theorem dX7_reads_0 : decode cX7_reads 0 = .ok (.aload_n 0, 1) := by decide +kernel
theorem dX7_reads_1 : decode cX7_reads 1 = .ok (.iconst 0, 1) := by decide +kernel
theorem dX7_reads_2 : decode cX7_reads 2 = .ok (.putfield 184, 3) := by decide +kernel
theorem dX7_reads_5 : decode cX7_reads 5 = .ok (.aload_n 0, 1) := by decide +kernel
theorem dX7_reads_6 : decode cX7_reads 6 = .ok (.iconst 0, 1) := by decide +kernel
theorem dX7_reads_7 : decode cX7_reads 7 = .ok (.putfield 180, 3) := by decide +kernel
theorem dX7_reads_10 : decode cX7_reads 10 = .ok (.aload_n 0, 1) := by decide +kernel
theorem dX7_reads_11 : decode cX7_reads 11 = .ok (.iconst 0, 1) := by decide +kernel
theorem dX7_reads_12 : decode cX7_reads 12 = .ok (.putfield 199, 3) := by decide +kernel
theorem dX7_reads_15 : decode cX7_reads 15 = .ok (.iconst 1, 1) := by decide +kernel
theorem dX7_reads_16 : decode cX7_reads 16 = .ok (.istore_n 1, 1) := by decide +kernel
theorem dX7_takes_12 : decode cX7_takes 12 = .ok (.iload_n 2, 1) := by decide +kernel
theorem dX7_takes_13 : decode cX7_takes 13 = .ok (.aload_n 0, 1) := by decide +kernel
theorem dX7_takes_14 : decode cX7_takes 14 = .ok (.getfield 199, 3) := by decide +kernel
theorem dX7_takes_17 : decode cX7_takes 17 = .ok (.if_icmp .ge 60, 3) := by decide +kernel
theorem dX7_takes_77 : decode cX7_takes 77 = .ok (.aload_n 0, 1) := by decide +kernel
theorem dX7_takes_78 : decode cX7_takes 78 = .ok (.iconst 0, 1) := by decide +kernel
theorem dX7_takes_79 : decode cX7_takes 79 = .ok (.putfield 175, 3) := by decide +kernel
theorem dX7_takes_82 : decode cX7_takes 82 = .ok (.return_, 1) := by decide +kernel
theorem dX7_takes_20 : decode cX7_takes 20 = .ok (.aload_n 0, 1) := by decide +kernel
theorem dX7_takes_21 : decode cX7_takes 21 = .ok (.getfield 13, 3) := by decide +kernel
theorem dX7_takes_24 : decode cX7_takes 24 = .ok (.bipush 8, 2) := by decide +kernel
theorem dX7_takes_26 : decode cX7_takes 26 = .ok (.iload_n 1, 1) := by decide +kernel
theorem dX7_takes_27 : decode cX7_takes 27 = .ok (.imul, 1) := by decide +kernel
theorem dX7_takes_28 : decode cX7_takes 28 = .ok (.iload_n 2, 1) := by decide +kernel
theorem dX7_takes_29 : decode cX7_takes 29 = .ok (.iadd, 1) := by decide +kernel
theorem dX7_takes_30 : decode cX7_takes 30 = .ok (.aload_n 0, 1) := by decide +kernel
theorem dX7_takes_31 : decode cX7_takes 31 = .ok (.getfield 98, 3) := by decide +kernel
theorem dX7_takes_34 : decode cX7_takes 34 = .ok (.iload_n 2, 1) := by decide +kernel
theorem dX7_takes_35 : decode cX7_takes 35 = .ok (.iaload, 1) := by decide +kernel
theorem dX7_takes_36 : decode cX7_takes 36 = .ok (.iastore, 1) := by decide +kernel
theorem dX7_takes_37 : decode cX7_takes 37 = .ok (.aload_n 0, 1) := by decide +kernel
theorem dX7_takes_38 : decode cX7_takes 38 = .ok (.getfield 16, 3) := by decide +kernel
theorem dX7_takes_41 : decode cX7_takes 41 = .ok (.bipush 8, 2) := by decide +kernel
theorem dX7_takes_43 : decode cX7_takes 43 = .ok (.iload_n 1, 1) := by decide +kernel
theorem dX7_takes_44 : decode cX7_takes 44 = .ok (.imul, 1) := by decide +kernel
theorem dX7_takes_45 : decode cX7_takes 45 = .ok (.iload_n 2, 1) := by decide +kernel
theorem dX7_takes_46 : decode cX7_takes 46 = .ok (.iadd, 1) := by decide +kernel
theorem dX7_takes_47 : decode cX7_takes 47 = .ok (.aload_n 0, 1) := by decide +kernel
theorem dX7_takes_48 : decode cX7_takes 48 = .ok (.getfield 101, 3) := by decide +kernel
theorem dX7_takes_51 : decode cX7_takes 51 = .ok (.iload_n 2, 1) := by decide +kernel
theorem dX7_takes_52 : decode cX7_takes 52 = .ok (.iaload, 1) := by decide +kernel
theorem dX7_takes_53 : decode cX7_takes 53 = .ok (.iastore, 1) := by decide +kernel
theorem dX7_takes_54 : decode cX7_takes 54 = .ok (.aload_n 0, 1) := by decide +kernel
theorem dX7_takes_55 : decode cX7_takes 55 = .ok (.getfield 19, 3) := by decide +kernel
theorem dX7_takes_58 : decode cX7_takes 58 = .ok (.bipush 8, 2) := by decide +kernel
theorem dX7_takes_60 : decode cX7_takes 60 = .ok (.iload_n 1, 1) := by decide +kernel
theorem dX7_takes_61 : decode cX7_takes 61 = .ok (.imul, 1) := by decide +kernel
theorem dX7_takes_62 : decode cX7_takes 62 = .ok (.iload_n 2, 1) := by decide +kernel
theorem dX7_takes_63 : decode cX7_takes 63 = .ok (.iadd, 1) := by decide +kernel
theorem dX7_takes_64 : decode cX7_takes 64 = .ok (.aload_n 0, 1) := by decide +kernel
theorem dX7_takes_65 : decode cX7_takes 65 = .ok (.getfield 104, 3) := by decide +kernel
theorem dX7_takes_68 : decode cX7_takes 68 = .ok (.iload_n 2, 1) := by decide +kernel
theorem dX7_takes_69 : decode cX7_takes 69 = .ok (.iaload, 1) := by decide +kernel
theorem dX7_takes_70 : decode cX7_takes 70 = .ok (.iastore, 1) := by decide +kernel
theorem dX7_takes_71 : decode cX7_takes 71 = .ok (.iinc 2 1, 3) := by decide +kernel
theorem dX7_takes_74 : decode cX7_takes 74 = .ok (.goto (-62), 3) := by decide +kernel
theorem dX7_takes_0 : decode cX7_takes 0 = .ok (.aload_n 0, 1) := by decide +kernel
theorem dX7_takes_1 : decode cX7_takes 1 = .ok (.getfield 7, 3) := by decide +kernel
theorem dX7_takes_4 : decode cX7_takes 4 = .ok (.iload_n 1, 1) := by decide +kernel
theorem dX7_takes_5 : decode cX7_takes 5 = .ok (.aload_n 0, 1) := by decide +kernel
theorem dX7_takes_6 : decode cX7_takes 6 = .ok (.getfield 199, 3) := by decide +kernel
theorem dX7_takes_9 : decode cX7_takes 9 = .ok (.iastore, 1) := by decide +kernel
theorem dX7_takes_10 : decode cX7_takes 10 = .ok (.iconst 0, 1) := by decide +kernel
theorem dX7_takes_11 : decode cX7_takes 11 = .ok (.istore_n 2, 1) := by decide +kernel
abbrev md_m_reads : Nat → Nat → Bool := mdf [(8, 36), (8, 37), (8, 38), (84, 99), (85, 99), (86, 99)]
theorem mdle_m_reads_m_readsAct {r k : Nat} (h : md_m_reads r k = false) : md_m_readsAct r k = false := mdf_le (by decide +kernel) h
set_option maxHeartbeats 4000000 in
set_option maxRecDepth 100000 in
theorem lt_m_reads_a (l : Launch) (D : va_G) (cI cZ cS cR : ClassId) (N0 : NT) (g : GS) (h : Nat) (wt : Nat) (na : Nat) (pa : Nat) (z : Int32) (t : Nat) (ct : Nat → Int32) (nv : Nat) (r_h : g.1 h = 8) (r_na : g.1 na = 84) (n_na : g.2.2.1 na = 8) (r_pa : g.1 pa = 85) (n_pa : g.2.2.1 pa = 8) (r_wt : g.1 wt = 87) (n_wt : g.2.2.1 wt = 24) (r_t : g.1 t = 79) (n_t : g.2.2.1 t = 100) (r_nv : g.1 nv = 86) (n_nv : g.2.2.1 nv = 8) (kwt : g.2.1 h 42 = .ref wt) (kna : g.2.1 h 39 = .ref na) (kpa : g.2.1 h 40 = .ref pa) (kz : g.2.1 h 29 = .int z) (kt : g.2.1 h 28 = .ref t) (knv : g.2.1 h 41 = .ref nv) (hN_0 : PL 8 g na pa) (hWT_0 : WT g wt) (l_z : 0 ≤ z.toInt) (u_z : z.toInt ≤ 100) (hc_0 : g.2.2.2.1 t = ct) {p : Program} {e : Env} {s : State} {m : MethodId} {args : Array Value} {below : List Frame} {meth : Method} {c : Code} (hB : Tz p s m meth c args cX7_reads 2 RX7 D cI cZ cS cR N0) (hr : meth.sig.returnType = (some .boolean))    : ∀ (kf : Nat) (g1 : GS) (j : Int32) (sp : Int32)  (H : Heap) (locs : List Loc) (ls : Array Slot), Tv D cI cZ cS cR N0 s.heap H locs g1 → Inv g1 → Ex g g1 → Sm md_m_reads g g1 → 0 ≤ j.toInt → j.toInt ≤ 7 → 0 ≤ sp.toInt → sp.toInt ≤ 100 → g1.2.1 h 38 = .int j → g1.2.1 h 36 = .int sp → g1.2.1 h 37 = .int 0 → (PL 8 g1 na pa) → (g1.2.2.2.1 t = ct) → (WT g1 wt) → (PG g1 na pa nv (txb ct z.toInt) j.toInt) → (rde (txb ct z.toInt) 8 0 0 = rde (txb ct z.toInt) (8 - j.toInt).toNat sp.toInt j.toInt) → (sp.toInt = stp (txb ct z.toInt) j.toInt.toNat) → (8 ≤ j.toInt + kf) → lv_has ls 2 [(1, .int 1), (0, .ref h)] → W p l e (rmx 3 0 0) s m args below meth c H locs 0 0 (MQ below (tQ D cI cZ cS cR N0 (fun v g' => ∃ (r : Int32) (s2 : Int32) (z2 : Int32), v = some (.int r) ∧ Inv g' ∧ Ex g g' ∧ Sm md_m_reads g g' ∧ ((r = 1 ∧ pgk (txb ct z.toInt) z.toInt = true) ∨ (r = 0 ∧ pgk (txb ct z.toInt) z.toInt = false)) ∧ (PL 8 g' na pa) ∧ (g'.2.1 h 36 = .int s2) ∧ (s2.toInt = pgf (txb ct z.toInt)) ∧ (g'.2.1 h 38 = .int z2) ∧ (z2.toInt = pgn (txb ct z.toInt)) ∧ (0 ≤ s2.toInt ∧ s2.toInt ≤ 100 ∧ 1 ≤ z2.toInt ∧ z2.toInt ≤ 8) ∧ (r = 1 → PG g' na pa nv (txb ct z.toInt) (pgn (txb ct z.toInt))))) args s 0 0 (fun q => N0.1 ≤ q)) (F0 m 21 ls []) := by
  have hx := hB.1
  have hb := hB.2.1
  intro kf
  induction kf using Nat.strongRecOn with
  | ind kf ih =>
    intro g1 j sp H locs ls hT hI hE hM l_j u_j l_sp u_sp kp0 kp1 kp2 hN hc hWT hPG hq hst hk hl
    have r_1 : g1.1 h = 8 := Ex.r hE r_h (by decide)
    have r_2 : g1.1 na = 84 := Ex.r hE r_na (by decide)
    have n_3 : g1.2.2.1 na = 8 := Ex.n hE r_na (by decide) n_na
    have r_4 : g1.1 pa = 85 := Ex.r hE r_pa (by decide)
    have n_5 : g1.2.2.1 pa = 8 := Ex.n hE r_pa (by decide) n_pa
    have r_6 : g1.1 wt = 87 := Ex.r hE r_wt (by decide)
    have n_7 : g1.2.2.1 wt = 24 := Ex.n hE r_wt (by decide) n_wt
    have r_8 : g1.1 t = 79 := Ex.r hE r_t (by decide)
    have n_9 : g1.2.2.1 t = 100 := Ex.n hE r_t (by decide) n_t
    have r_10 : g1.1 nv = 86 := Ex.r hE r_nv (by decide)
    have n_11 : g1.2.2.1 nv = 8 := Ex.n hE r_nv (by decide) n_nv
    have kn_12 : g1.2.1 h 42 = .ref wt := Sm.v hM r_h (by decide) rfl kwt
    have kn_13 : g1.2.1 h 39 = .ref na := Sm.v hM r_h (by decide) rfl kna
    have kn_14 : g1.2.1 h 40 = .ref pa := Sm.v hM r_h (by decide) rfl kpa
    have kn_15 : g1.2.1 h 29 = .int z := Sm.v hM r_h (by decide) rfl kz
    have kn_16 : g1.2.1 h 28 = .ref t := Sm.v hM r_h (by decide) rfl kt
    have kn_17 : g1.2.1 h 41 = .ref nv := Sm.v hM r_h (by decide) rfl knv
    refine lv_aload_n hx hb dX7_reads_21 rfl (lv_at hl 1 rfl) ?_
    refine t_callV (n := 0) (As := []) (rest := []) (ci := 7) hB hT hl.1 (m_readsAct l D cI cZ cS cR N0 g1 hI h sp j wt na pa z t ct nv r_1 r_2 n_3 r_4 n_5 r_6 n_7 r_8 n_9 r_10 n_11 kp0 kp1 kp2 kn_12 kn_13 kn_14 kn_15 kn_16 kn_17 (by omega) (by omega) (by omega) (by omega) hN hWT (by omega) (by omega) hc) (ro_ci r_1 rfl) rfl k_967 k_65 k_964 k_966 k_22 (by decide +kernel) ⟨(Nat.le_of_ble_eq_true rfl), (Nat.le_of_ble_eq_true rfl)⟩ rfl (Nat.le_of_ble_eq_true rfl) ⟨(Nat.le_of_ble_eq_true rfl), (Nat.le_of_ble_eq_true rfl)⟩ dX7_reads_22 (fun v g_18 H locs hp hT => ?_)
    obtain ⟨z2_19, s2_20, w2_21, w__22, c__23, v__24, rfl, hI, x_36, m_35, f_25, f_26, f_27, f_28, f_29, f_30, f_31, f_32, f_33, f_34⟩ := hp
    have hc : g_18.2.2.2.1 t = ct := (Sm.cf m_35 r_8 (by decide) rfl).trans hc
    have hWT : WT g_18 wt := hWT.sm m_35 r_6 (by decide) rfl
    have hM : Sm md_m_reads g g_18 := hM.tr hE (m_35.mo (fun r k h => mdle_m_reads_m_readsAct h))
    have hE : Ex g g_18 := hE.tr x_36
    have r_37 : g_18.1 h = 8 := (Ex.r x_36 r_1 (by decide))
    have r_38 : g_18.1 na = 84 := (Ex.r x_36 r_2 (by decide))
    have r_39 : g_18.1 pa = 85 := (Ex.r x_36 r_4 (by decide))
    have r_40 : g_18.1 wt = 87 := (Ex.r x_36 r_6 (by decide))
    have r_41 : g_18.1 t = 79 := (Ex.r x_36 r_8 (by decide))
    have r_42 : g_18.1 nv = 86 := (Ex.r x_36 r_10 (by decide))
    have n_43 : g_18.2.2.1 na = 8 := (Ex.n x_36 r_2 (by decide) n_3)
    have n_44 : g_18.2.2.1 pa = 8 := (Ex.n x_36 r_4 (by decide) n_5)
    have n_45 : g_18.2.2.1 wt = 24 := (Ex.n x_36 r_6 (by decide) n_7)
    have n_46 : g_18.2.2.1 t = 100 := (Ex.n x_36 r_8 (by decide) n_9)
    have n_47 : g_18.2.2.1 nv = 8 := (Ex.n x_36 r_10 (by decide) n_11)
    have kn_48 : g_18.2.1 h 42 = .ref wt := (Sm.v m_35 r_1 (by decide) rfl kn_12)
    have kn_49 : g_18.2.1 h 39 = .ref na := (Sm.v m_35 r_1 (by decide) rfl kn_13)
    have kn_50 : g_18.2.1 h 40 = .ref pa := (Sm.v m_35 r_1 (by decide) rfl kn_14)
    have kn_51 : g_18.2.1 h 29 = .int z := (Sm.v m_35 r_1 (by decide) rfl kn_15)
    have kn_52 : g_18.2.1 h 28 = .ref t := (Sm.v m_35 r_1 (by decide) rfl kn_16)
    have kn_53 : g_18.2.1 h 41 = .ref nv := (Sm.v m_35 r_1 (by decide) rfl kn_17)
    refine W.eq (g2 := F0 m 25 ls []) rfl ?_
    have hN := f_28
    rcases f_25 with ⟨rfl, ha_54⟩ | ⟨rfl, ha_54, ha_54_z, ha_54_w, ha_54_c, ha_54_v⟩
    · have ha_54_k := f_30
      refine lv_aload_n hx hb dX7_reads_25 rfl (lv_at hl 1 rfl) ?_
      refine t_get (ci := 7) (v := .int 1) hB hT (ro_ci r_37 rfl) rfl 37 (by decide) k_782 f_30 dX7_reads_26 ?_
      refine lv_if_ne (tgt := 58) hx hb dX7_reads_29 (by decide) (fun c_ => ?_) (fun c_ => absurd c_ (by decide))
      refine lv_iconst (v := 0) hx hb dX7_reads_58 (by decide) ?_
      refine lv_istore_n (lv' := [(1, .int 0), (0, .ref h)]) hx hb dX7_reads_59 rfl hl (by decide) rfl (fun ls hl => ?_)
      refine lv_aload_n hx hb dX7_reads_60 rfl (lv_at hl 1 rfl) ?_
      refine lv_dup hx hb dX7_reads_61 rfl ?_
      refine t_get (ci := 7) (v := .int s2_20) hB hT (ro_ci r_37 rfl) rfl 36 (by decide) k_781 f_29 dX7_reads_62 ?_
      refine lv_iload_n hx hb dX7_reads_65 rfl (lv_at hl 0 rfl) ?_
      refine lv_if_eq (tgt := 73) hx hb dX7_reads_66 (by decide) (fun c_ => ?_) (fun c_ => absurd (by decide) c_)
      refine lv_iconst (v := 0) hx hb dX7_reads_73 (by decide) ?_
      refine lv_iadd hx hb dX7_reads_74 ?_
      refine lv_topi (fun z_55 ez_55 => ?_)
      have e_z_55 : z_55.toInt = s2_20.toInt + 0 := i_add ez_55 rfl (by decide) (by omega) (by omega)
      refine t_put0 (ci := 7) (v := .int z_55) hB hT (ro_ci r_37 rfl) (ro_n0 r_37 (by decide)) rfl 36 (by decide) k_781 (Or.inl rfl) rfl rfl dX7_reads_75 (fun H locs hT => ?_)
      have hI : Inv (sF g_18 h 36 (.int z_55)) := hI.sF (p_8_36 r_37 (⟨_, rfl, by omega, by omega⟩))
      have hM : Sm md_m_reads g (sF g_18 h 36 (.int z_55)) := hM.tr hE (Sm_sF (by rw [r_37]; rfl))
      have hE : Ex g (sF g_18 h 36 (.int z_55)) := hE
      have hc : (sF g_18 h 36 (.int z_55)).2.2.2.1 t = ct := hc
      have hWT : WT (sF g_18 h 36 (.int z_55)) wt := hWT
      have hN : PL 8 (sF g_18 h 36 (.int z_55)) na pa := hN
      refine lv_goto (tgt := 17) hx hb dX7_reads_78 (by decide) ?_
      refine lv_iload_n hx hb dX7_reads_17 rfl (lv_at hl 0 rfl) ?_
      refine lv_if_eq (tgt := 81) hx hb dX7_reads_18 (by decide) (fun c_ => ?_) (fun c_ => absurd (by decide) c_)
      refine lv_aload_n hx hb dX7_reads_81 rfl (lv_at hl 1 rfl) ?_
      refine t_get (ci := 7) (v := .int 1) hB hT (ro_ci r_37 rfl) rfl 37 (by decide) k_782 (sF_k f_30 (by decide)) dX7_reads_82 ?_
      refine lv_if_ne (tgt := 103) hx hb dX7_reads_85 (by decide) (fun c_ => ?_) (fun c_ => absurd c_ (by decide))
      refine lv_iconst (v := 0) hx hb dX7_reads_103 (by decide) ?_
      have hpg_ := pg_f (hq.trans (rd_f ⟨by omega, by omega⟩ ha_54)) z.toInt
      exact t_zret hB hr rfl hT (Nat.le_of_ble_eq_true rfl) (Nat.le_of_ble_eq_true rfl) dX7_reads_104 ⟨0, z_55, z2_19, rfl, hI, hE, hM, (Or.inr ⟨rfl, hpg_.1⟩), hN, sF_eq, (by have q_ := hpg_.2.1; omega), (sF_k f_26 (by decide)), (by have q_ := hpg_.2.2; omega), ⟨by omega, by omega, by omega, by omega⟩, (fun h_ => absurd h_ (by decide))⟩
    · have ha_54_k := f_30
      have hPG : PG g_18 na pa nv (txb ct z.toInt) (j.toInt + 1) := PG.up hPG f_32 f_33 f_34 (by omega) rfl hst ha_54_w ha_54_c ha_54_v
      refine lv_aload_n hx hb dX7_reads_25 rfl (lv_at hl 1 rfl) ?_
      refine t_get (ci := 7) (v := .int 0) hB hT (ro_ci r_37 rfl) rfl 37 (by decide) k_782 f_30 dX7_reads_26 ?_
      refine lv_if_ne (tgt := 58) hx hb dX7_reads_29 (by decide) (fun c_ => absurd (by decide) c_) (fun c_ => ?_)
      refine lv_aload_n hx hb dX7_reads_32 rfl (lv_at hl 1 rfl) ?_
      refine t_get (ci := 7) (v := .int z2_19) hB hT (ro_ci r_37 rfl) rfl 38 (by decide) k_783 f_26 dX7_reads_33 ?_
      refine lv_bipush (v := 8) hx hb dX7_reads_36 (by decide) ?_
      refine lv_icmp_ge (tgt := 58) hx hb dX7_reads_38 (by decide) (fun c_56 => ?_) (fun c_56 => ?_)
      · have c_56' : 8 ≤ z2_19.toInt := i_le c_56 (by decide) rfl
        refine lv_iconst (v := 0) hx hb dX7_reads_58 (by decide) ?_
        refine lv_istore_n (lv' := [(1, .int 0), (0, .ref h)]) hx hb dX7_reads_59 rfl hl (by decide) rfl (fun ls hl => ?_)
        refine lv_aload_n hx hb dX7_reads_60 rfl (lv_at hl 1 rfl) ?_
        refine lv_dup hx hb dX7_reads_61 rfl ?_
        refine t_get (ci := 7) (v := .int s2_20) hB hT (ro_ci r_37 rfl) rfl 36 (by decide) k_781 f_29 dX7_reads_62 ?_
        refine lv_iload_n hx hb dX7_reads_65 rfl (lv_at hl 0 rfl) ?_
        refine lv_if_eq (tgt := 73) hx hb dX7_reads_66 (by decide) (fun c_ => ?_) (fun c_ => absurd (by decide) c_)
        refine lv_iconst (v := 0) hx hb dX7_reads_73 (by decide) ?_
        refine lv_iadd hx hb dX7_reads_74 ?_
        refine lv_topi (fun z_57 ez_57 => ?_)
        have e_z_57 : z_57.toInt = s2_20.toInt + 0 := i_add ez_57 rfl (by decide) (by omega) (by omega)
        refine t_put0 (ci := 7) (v := .int z_57) hB hT (ro_ci r_37 rfl) (ro_n0 r_37 (by decide)) rfl 36 (by decide) k_781 (Or.inl rfl) rfl rfl dX7_reads_75 (fun H locs hT => ?_)
        have hI : Inv (sF g_18 h 36 (.int z_57)) := hI.sF (p_8_36 r_37 (⟨_, rfl, by omega, by omega⟩))
        have hM : Sm md_m_reads g (sF g_18 h 36 (.int z_57)) := hM.tr hE (Sm_sF (by rw [r_37]; rfl))
        have hE : Ex g (sF g_18 h 36 (.int z_57)) := hE
        have hc : (sF g_18 h 36 (.int z_57)).2.2.2.1 t = ct := hc
        have hWT : WT (sF g_18 h 36 (.int z_57)) wt := hWT
        have hN : PL 8 (sF g_18 h 36 (.int z_57)) na pa := hN
        have hPG : PG (sF g_18 h 36 (.int z_57)) na pa nv (txb ct z.toInt) (j.toInt + 1) := hPG
        refine lv_goto (tgt := 17) hx hb dX7_reads_78 (by decide) ?_
        refine lv_iload_n hx hb dX7_reads_17 rfl (lv_at hl 0 rfl) ?_
        refine lv_if_eq (tgt := 81) hx hb dX7_reads_18 (by decide) (fun c_ => ?_) (fun c_ => absurd (by decide) c_)
        refine lv_aload_n hx hb dX7_reads_81 rfl (lv_at hl 1 rfl) ?_
        refine t_get (ci := 7) (v := .int 0) hB hT (ro_ci r_37 rfl) rfl 37 (by decide) k_782 (sF_k f_30 (by decide)) dX7_reads_82 ?_
        refine lv_if_ne (tgt := 103) hx hb dX7_reads_85 (by decide) (fun c_ => absurd (by decide) c_) (fun c_ => ?_)
        refine lv_aload_n hx hb dX7_reads_88 rfl (lv_at hl 1 rfl) ?_
        refine t_get (ci := 7) (v := .int z_57) hB hT (ro_ci r_37 rfl) rfl 36 (by decide) k_781 sF_eq dX7_reads_89 ?_
        refine lv_aload_n hx hb dX7_reads_92 rfl (lv_at hl 1 rfl) ?_
        refine t_get (ci := 7) (v := .int z) hB hT (ro_ci r_37 rfl) rfl 29 (by decide) k_774 (sF_k kn_51 (by decide)) dX7_reads_93 ?_
        refine lv_icmp_ne (tgt := 103) hx hb dX7_reads_96 (by decide) (fun c_58 => ?_) (fun c_58 => ?_)
        · have c_58' : z_57.toInt ≠ z.toInt := i_ne c_58 rfl rfl
          refine lv_iconst (v := 0) hx hb dX7_reads_103 (by decide) ?_
          have hpg_ := pg_n (z := z.toInt) (hq.trans (rd_e ⟨by omega, by omega⟩ ha_54 (by omega))) (by omega)
          exact t_zret hB hr rfl hT (Nat.le_of_ble_eq_true rfl) (Nat.le_of_ble_eq_true rfl) dX7_reads_104 ⟨0, z_57, z2_19, rfl, hI, hE, hM, (Or.inr ⟨rfl, hpg_.1⟩), hN, sF_eq, (by have q_ := hpg_.2.1; omega), (sF_k f_26 (by decide)), (by have q_ := hpg_.2.2; omega), ⟨by omega, by omega, by omega, by omega⟩, (fun h_ => absurd h_ (by decide))⟩
        · have c_58' : z_57.toInt = z.toInt := i_eq c_58 rfl rfl
          refine lv_iconst (v := 1) hx hb dX7_reads_99 (by decide) ?_
          refine lv_goto (tgt := 104) hx hb dX7_reads_100 (by decide) ?_
          have hpg_ := pg_t (z := z.toInt) (hq.trans (rd_e ⟨by omega, by omega⟩ ha_54 (by omega))) (by omega)
          exact t_zret hB hr rfl hT (Nat.le_of_ble_eq_true rfl) (Nat.le_of_ble_eq_true rfl) dX7_reads_104 ⟨1, z_57, z2_19, rfl, hI, hE, hM, (Or.inl ⟨rfl, hpg_.1⟩), hN, sF_eq, (by have q_ := hpg_.2.1; omega), (sF_k f_26 (by decide)), (by have q_ := hpg_.2.2; omega), ⟨by omega, by omega, by omega, by omega⟩, (fun _ => hPG.cast (by have q_ := hpg_.2.2; omega))⟩
      · have c_56' : z2_19.toInt < 8 := i_nle c_56 (by decide) rfl
        refine lv_aload_n hx hb dX7_reads_41 rfl (lv_at hl 1 rfl) ?_
        refine lv_aload_n hx hb dX7_reads_42 rfl (lv_at hl 1 rfl) ?_
        refine t_get (ci := 7) (v := .int s2_20) hB hT (ro_ci r_37 rfl) rfl 36 (by decide) k_781 f_29 dX7_reads_43 ?_
        refine t_callV (n := 1) (As := [.int s2_20]) (rest := []) (ci := 7) hB hT hl.1 (m_byteAt l D cI cZ cS cR N0 g_18 hI h s2_20 z t ct r_37 r_41 n_46 kn_51 kn_52 (by omega) (by omega) (by omega) (by omega) hc) (ro_ci r_37 rfl) rfl k_971 k_65 k_968 k_970 k_23 (by decide +kernel) ⟨(Nat.le_of_ble_eq_true rfl), (Nat.le_of_ble_eq_true rfl)⟩ rfl (Nat.le_of_ble_eq_true rfl) ⟨(Nat.le_of_ble_eq_true rfl), (Nat.le_of_ble_eq_true rfl)⟩ dX7_reads_46 (fun v g_59 H locs hp hT => ?_)
        obtain ⟨r_60, rfl, eg, f_61, f_62, f_63⟩ := hp
        rw [eg] at hT
        clear eg
        refine W.eq (g2 := F0 m 49 ls [.int r_60]) rfl ?_
        refine lv_bipush (v := 59) hx hb dX7_reads_49 (by decide) ?_
        refine lv_icmp_ne (tgt := 58) hx hb dX7_reads_51 (by decide) (fun c_66 => ?_) (fun c_66 => ?_)
        · have c_66' : r_60.toInt ≠ 59 := i_ne c_66 rfl (by decide)
          refine lv_iconst (v := 0) hx hb dX7_reads_58 (by decide) ?_
          refine lv_istore_n (lv' := [(1, .int 0), (0, .ref h)]) hx hb dX7_reads_59 rfl hl (by decide) rfl (fun ls hl => ?_)
          refine lv_aload_n hx hb dX7_reads_60 rfl (lv_at hl 1 rfl) ?_
          refine lv_dup hx hb dX7_reads_61 rfl ?_
          refine t_get (ci := 7) (v := .int s2_20) hB hT (ro_ci r_37 rfl) rfl 36 (by decide) k_781 f_29 dX7_reads_62 ?_
          refine lv_iload_n hx hb dX7_reads_65 rfl (lv_at hl 0 rfl) ?_
          refine lv_if_eq (tgt := 73) hx hb dX7_reads_66 (by decide) (fun c_ => ?_) (fun c_ => absurd (by decide) c_)
          refine lv_iconst (v := 0) hx hb dX7_reads_73 (by decide) ?_
          refine lv_iadd hx hb dX7_reads_74 ?_
          refine lv_topi (fun z_67 ez_67 => ?_)
          have e_z_67 : z_67.toInt = s2_20.toInt + 0 := i_add ez_67 rfl (by decide) (by omega) (by omega)
          refine t_put0 (ci := 7) (v := .int z_67) hB hT (ro_ci r_37 rfl) (ro_n0 r_37 (by decide)) rfl 36 (by decide) k_781 (Or.inl rfl) rfl rfl dX7_reads_75 (fun H locs hT => ?_)
          have hI : Inv (sF g_18 h 36 (.int z_67)) := hI.sF (p_8_36 r_37 (⟨_, rfl, by omega, by omega⟩))
          have hM : Sm md_m_reads g (sF g_18 h 36 (.int z_67)) := hM.tr hE (Sm_sF (by rw [r_37]; rfl))
          have hE : Ex g (sF g_18 h 36 (.int z_67)) := hE
          have hc : (sF g_18 h 36 (.int z_67)).2.2.2.1 t = ct := hc
          have hWT : WT (sF g_18 h 36 (.int z_67)) wt := hWT
          have hN : PL 8 (sF g_18 h 36 (.int z_67)) na pa := hN
          have hPG : PG (sF g_18 h 36 (.int z_67)) na pa nv (txb ct z.toInt) (j.toInt + 1) := hPG
          refine lv_goto (tgt := 17) hx hb dX7_reads_78 (by decide) ?_
          refine lv_iload_n hx hb dX7_reads_17 rfl (lv_at hl 0 rfl) ?_
          refine lv_if_eq (tgt := 81) hx hb dX7_reads_18 (by decide) (fun c_ => ?_) (fun c_ => absurd (by decide) c_)
          refine lv_aload_n hx hb dX7_reads_81 rfl (lv_at hl 1 rfl) ?_
          refine t_get (ci := 7) (v := .int 0) hB hT (ro_ci r_37 rfl) rfl 37 (by decide) k_782 (sF_k f_30 (by decide)) dX7_reads_82 ?_
          refine lv_if_ne (tgt := 103) hx hb dX7_reads_85 (by decide) (fun c_ => absurd (by decide) c_) (fun c_ => ?_)
          refine lv_aload_n hx hb dX7_reads_88 rfl (lv_at hl 1 rfl) ?_
          refine t_get (ci := 7) (v := .int z_67) hB hT (ro_ci r_37 rfl) rfl 36 (by decide) k_781 sF_eq dX7_reads_89 ?_
          refine lv_aload_n hx hb dX7_reads_92 rfl (lv_at hl 1 rfl) ?_
          refine t_get (ci := 7) (v := .int z) hB hT (ro_ci r_37 rfl) rfl 29 (by decide) k_774 (sF_k kn_51 (by decide)) dX7_reads_93 ?_
          refine lv_icmp_ne (tgt := 103) hx hb dX7_reads_96 (by decide) (fun c_68 => ?_) (fun c_68 => ?_)
          · have c_68' : z_67.toInt ≠ z.toInt := i_ne c_68 rfl rfl
            refine lv_iconst (v := 0) hx hb dX7_reads_103 (by decide) ?_
            have hpg_ := pg_n (z := z.toInt) (hq.trans (rd_e ⟨by omega, by omega⟩ ha_54 (by omega))) (by omega)
            exact t_zret hB hr rfl hT (Nat.le_of_ble_eq_true rfl) (Nat.le_of_ble_eq_true rfl) dX7_reads_104 ⟨0, z_67, z2_19, rfl, hI, hE, hM, (Or.inr ⟨rfl, hpg_.1⟩), hN, sF_eq, (by have q_ := hpg_.2.1; omega), (sF_k f_26 (by decide)), (by have q_ := hpg_.2.2; omega), ⟨by omega, by omega, by omega, by omega⟩, (fun h_ => absurd h_ (by decide))⟩
          · have c_68' : z_67.toInt = z.toInt := i_eq c_68 rfl rfl
            refine lv_iconst (v := 1) hx hb dX7_reads_99 (by decide) ?_
            refine lv_goto (tgt := 104) hx hb dX7_reads_100 (by decide) ?_
            have hpg_ := pg_t (z := z.toInt) (hq.trans (rd_e ⟨by omega, by omega⟩ ha_54 (by omega))) (by omega)
            exact t_zret hB hr rfl hT (Nat.le_of_ble_eq_true rfl) (Nat.le_of_ble_eq_true rfl) dX7_reads_104 ⟨1, z_67, z2_19, rfl, hI, hE, hM, (Or.inl ⟨rfl, hpg_.1⟩), hN, sF_eq, (by have q_ := hpg_.2.1; omega), (sF_k f_26 (by decide)), (by have q_ := hpg_.2.2; omega), ⟨by omega, by omega, by omega, by omega⟩, (fun _ => hPG.cast (by have q_ := hpg_.2.2; omega))⟩
        · have c_66' : r_60.toInt = 59 := i_eq c_66 rfl (by decide)
          refine lv_iconst (v := 1) hx hb dX7_reads_54 (by decide) ?_
          refine lv_goto (tgt := 59) hx hb dX7_reads_55 (by decide) ?_
          refine lv_istore_n (lv' := [(1, .int 1), (0, .ref h)]) hx hb dX7_reads_59 rfl hl (by decide) rfl (fun ls hl => ?_)
          refine lv_aload_n hx hb dX7_reads_60 rfl (lv_at hl 1 rfl) ?_
          refine lv_dup hx hb dX7_reads_61 rfl ?_
          refine t_get (ci := 7) (v := .int s2_20) hB hT (ro_ci r_37 rfl) rfl 36 (by decide) k_781 f_29 dX7_reads_62 ?_
          refine lv_iload_n hx hb dX7_reads_65 rfl (lv_at hl 0 rfl) ?_
          refine lv_if_eq (tgt := 73) hx hb dX7_reads_66 (by decide) (fun c_ => absurd c_ (by decide)) (fun c_ => ?_)
          refine lv_iconst (v := 1) hx hb dX7_reads_69 (by decide) ?_
          refine lv_goto (tgt := 74) hx hb dX7_reads_70 (by decide) ?_
          refine lv_iadd hx hb dX7_reads_74 ?_
          refine lv_topi (fun z_69 ez_69 => ?_)
          have e_z_69 : z_69.toInt = s2_20.toInt + 1 := i_add ez_69 rfl (by decide) (by omega) (by omega)
          refine t_put0 (ci := 7) (v := .int z_69) hB hT (ro_ci r_37 rfl) (ro_n0 r_37 (by decide)) rfl 36 (by decide) k_781 (Or.inl rfl) rfl rfl dX7_reads_75 (fun H locs hT => ?_)
          have hI : Inv (sF g_18 h 36 (.int z_69)) := hI.sF (p_8_36 r_37 (⟨_, rfl, by omega, by omega⟩))
          have hM : Sm md_m_reads g (sF g_18 h 36 (.int z_69)) := hM.tr hE (Sm_sF (by rw [r_37]; rfl))
          have hE : Ex g (sF g_18 h 36 (.int z_69)) := hE
          have hc : (sF g_18 h 36 (.int z_69)).2.2.2.1 t = ct := hc
          have hWT : WT (sF g_18 h 36 (.int z_69)) wt := hWT
          have hN : PL 8 (sF g_18 h 36 (.int z_69)) na pa := hN
          have hPG : PG (sF g_18 h 36 (.int z_69)) na pa nv (txb ct z.toInt) (j.toInt + 1) := hPG
          refine lv_goto (tgt := 17) hx hb dX7_reads_78 (by decide) ?_
          refine lv_iload_n hx hb dX7_reads_17 rfl (lv_at hl 0 rfl) ?_
          refine lv_if_eq (tgt := 81) hx hb dX7_reads_18 (by decide) (fun c_ => absurd c_ (by decide)) (fun c_ => ?_)
          exact ih (kf - 1) (by omega) (sF g_18 h 36 (.int z_69)) z2_19 z_69 H locs ls hT hI hE hM (by omega) (by omega) (by omega) (by omega) (sF_k f_26 (by decide)) sF_eq (sF_k f_30 (by decide)) hN hc hWT (hPG.cast (by have e0_ : (0 : Int32).toInt = 0 := (by decide); omega)) (hq.trans (rd_s ⟨by omega, by omega⟩ ha_54 (by omega) (by omega) (by omega) (by omega) (by omega))) (stp_s (by omega) hst ha_54 (by omega) (by omega)) (by have e0_ : (0 : Int32).toInt = 0 := (by decide); omega) (lv_sub hl [0, 1] rfl)
set_option maxHeartbeats 4000000 in
set_option maxRecDepth 100000 in
theorem m_reads (l : Launch) (D : va_G) (cI cZ cS cR : ClassId) (N0 : NT) (g : GS) (hI : Inv g) (h : Nat) (wt : Nat) (na : Nat) (pa : Nat) (z : Int32) (t : Nat) (ct : Nat → Int32) (nv : Nat) (r_h : g.1 h = 8) (r_na : g.1 na = 84) (n_na : g.2.2.1 na = 8) (r_pa : g.1 pa = 85) (n_pa : g.2.2.1 pa = 8) (r_wt : g.1 wt = 87) (n_wt : g.2.2.1 wt = 24) (r_t : g.1 t = 79) (n_t : g.2.2.1 t = 100) (r_nv : g.1 nv = 86) (n_nv : g.2.2.1 nv = 8) (kwt : g.2.1 h 42 = .ref wt) (kna : g.2.1 h 39 = .ref na) (kpa : g.2.1 h 40 = .ref pa) (kz : g.2.1 h 29 = .int z) (kt : g.2.1 h 28 = .ref t) (knv : g.2.1 h 41 = .ref nv) (hN_0 : PL 8 g na pa) (hWT_0 : WT g wt) (l_z : 0 ≤ z.toInt) (u_z : z.toInt ≤ 100) (hc_0 : g.2.2.2.1 t = ct) : Ty l D cI cZ cS cR N0 yX7_reads cX7_reads 2 (some .boolean) 3 0 0 [.ref h] g (fun v g' => ∃ (r : Int32) (s2 : Int32) (z2 : Int32), v = some (.int r) ∧ Inv g' ∧ Ex g g' ∧ Sm md_m_reads g g' ∧ ((r = 1 ∧ pgk (txb ct z.toInt) z.toInt = true) ∨ (r = 0 ∧ pgk (txb ct z.toInt) z.toInt = false)) ∧ (PL 8 g' na pa) ∧ (g'.2.1 h 36 = .int s2) ∧ (s2.toInt = pgf (txb ct z.toInt)) ∧ (g'.2.1 h 38 = .int z2) ∧ (z2.toInt = pgn (txb ct z.toInt)) ∧ (0 ≤ s2.toInt ∧ s2.toInt ≤ 100 ∧ 1 ≤ z2.toInt ∧ z2.toInt ≤ 8) ∧ (r = 1 → PG g' na pa nv (txb ct z.toInt) (pgn (txb ct z.toInt)))) := by
  refine t_enter (by decide) (Nat.le_of_ble_eq_true rfl) ?_
  intro p e s m args below meth c ls H locs hB hr hin hl hT
  have hx := hB.1
  have hb := hB.2.1
  have hl : lv_has ls 2 [(0, .ref h)] := hl
  have hE : Ex g g := Ex.rf
  have hM : Sm md_m_reads g g := Sm.rf
  have hN := hN_0
  have hWT := hWT_0
  have hc := hc_0
  have hPG : PG g na pa nv (txb ct z.toInt) 0 := fun j_ hj_ => absurd hj_ (by omega)
  refine lv_aload_n hx hb dX7_reads_0 rfl (lv_at hl 0 rfl) ?_
  refine lv_iconst (v := 0) hx hb dX7_reads_1 (by decide) ?_
  refine t_put0 (ci := 7) (v := .int 0) hB hT (ro_ci r_h rfl) (ro_n0 r_h (by decide)) rfl 36 (by decide) k_781 (Or.inl rfl) rfl rfl dX7_reads_2 (fun H locs hT => ?_)
  have hI : Inv (sF g h 36 (.int 0)) := hI.sF (p_8_36 r_h (⟨_, rfl, by decide, by decide⟩))
  have hM : Sm md_m_reads g (sF g h 36 (.int 0)) := hM.tr hE (Sm_sF (by rw [r_h]; rfl))
  have hE : Ex g (sF g h 36 (.int 0)) := hE
  have hN : PL 8 (sF g h 36 (.int 0)) na pa := hN
  have hc : (sF g h 36 (.int 0)).2.2.2.1 t = ct := hc
  have hWT : WT (sF g h 36 (.int 0)) wt := hWT
  have hPG : PG (sF g h 36 (.int 0)) na pa nv (txb ct z.toInt) 0 := hPG
  refine lv_aload_n hx hb dX7_reads_5 rfl (lv_at hl 0 rfl) ?_
  refine lv_iconst (v := 0) hx hb dX7_reads_6 (by decide) ?_
  refine t_put0 (ci := 7) (v := .int 0) hB hT (ro_ci r_h rfl) (ro_n0 r_h (by decide)) rfl 37 (by decide) k_782 (Or.inl rfl) rfl rfl dX7_reads_7 (fun H locs hT => ?_)
  have hI : Inv (sF (sF g h 36 (.int 0)) h 37 (.int 0)) := hI.sF (p_8_37 r_h (⟨_, rfl, by decide, by decide⟩))
  have hM : Sm md_m_reads g (sF (sF g h 36 (.int 0)) h 37 (.int 0)) := hM.tr hE (Sm_sF (by rw [r_h]; rfl))
  have hE : Ex g (sF (sF g h 36 (.int 0)) h 37 (.int 0)) := hE
  have hN : PL 8 (sF (sF g h 36 (.int 0)) h 37 (.int 0)) na pa := hN
  have hc : (sF (sF g h 36 (.int 0)) h 37 (.int 0)).2.2.2.1 t = ct := hc
  have hWT : WT (sF (sF g h 36 (.int 0)) h 37 (.int 0)) wt := hWT
  have hPG : PG (sF (sF g h 36 (.int 0)) h 37 (.int 0)) na pa nv (txb ct z.toInt) 0 := hPG
  refine lv_aload_n hx hb dX7_reads_10 rfl (lv_at hl 0 rfl) ?_
  refine lv_iconst (v := 0) hx hb dX7_reads_11 (by decide) ?_
  refine t_put0 (ci := 7) (v := .int 0) hB hT (ro_ci r_h rfl) (ro_n0 r_h (by decide)) rfl 38 (by decide) k_783 (Or.inl rfl) rfl rfl dX7_reads_12 (fun H locs hT => ?_)
  have hI : Inv (sF (sF (sF g h 36 (.int 0)) h 37 (.int 0)) h 38 (.int 0)) := hI.sF (p_8_38 r_h (⟨_, rfl, by decide, by decide⟩))
  have hM : Sm md_m_reads g (sF (sF (sF g h 36 (.int 0)) h 37 (.int 0)) h 38 (.int 0)) := hM.tr hE (Sm_sF (by rw [r_h]; rfl))
  have hE : Ex g (sF (sF (sF g h 36 (.int 0)) h 37 (.int 0)) h 38 (.int 0)) := hE
  have hN : PL 8 (sF (sF (sF g h 36 (.int 0)) h 37 (.int 0)) h 38 (.int 0)) na pa := hN
  have hc : (sF (sF (sF g h 36 (.int 0)) h 37 (.int 0)) h 38 (.int 0)).2.2.2.1 t = ct := hc
  have hWT : WT (sF (sF (sF g h 36 (.int 0)) h 37 (.int 0)) h 38 (.int 0)) wt := hWT
  have hPG : PG (sF (sF (sF g h 36 (.int 0)) h 37 (.int 0)) h 38 (.int 0)) na pa nv (txb ct z.toInt) 0 := hPG
  refine lv_iconst (v := 1) hx hb dX7_reads_15 (by decide) ?_
  refine lv_istore_n (lv' := [(1, .int 1), (0, .ref h)]) hx hb dX7_reads_16 rfl hl (by decide) rfl (fun ls hl => ?_)
  refine lv_iload_n hx hb dX7_reads_17 rfl (lv_at hl 0 rfl) ?_
  refine lv_if_eq (tgt := 81) hx hb dX7_reads_18 (by decide) (fun c_ => absurd c_ (by decide)) (fun c_ => ?_)
  exact lt_m_reads_a l D cI cZ cS cR N0 g h wt na pa z t ct nv r_h r_na n_na r_pa n_pa r_wt n_wt r_t n_t r_nv n_nv kwt kna kpa kz kt knv hN_0 hWT_0 l_z u_z hc_0 hB hr   8 (sF (sF (sF g h 36 (.int 0)) h 37 (.int 0)) h 38 (.int 0)) (0 : Int32) (0 : Int32) H locs ls hT hI hE hM (by decide) (by decide) (by decide) (by decide) sF_eq (sF_k (sF_k sF_eq (by decide)) (by decide)) (sF_k sF_eq (by decide)) hN hc hWT (hPG.cast (by have e0_ : (0 : Int32).toInt = 0 := (by decide); omega)) rd_0m (stp_p z0) (by have e0_ : (0 : Int32).toInt = 0 := (by decide); omega) (lv_sub hl [0, 1] rfl)
abbrev md_m_takes : Nat → Nat → Bool := mdf [(8, 29), (71, 99), (72, 99), (73, 99), (88, 99)]
set_option maxHeartbeats 4000000 in
set_option maxRecDepth 100000 in
theorem lt_m_takes_a (l : Launch) (D : va_G) (cI cZ cS cR : ClassId) (N0 : NT) (g : GS) (h : Nat) (n : Int32) (na : Nat) (pa : Nat) (wa : Nat) (pl : Nat) (nv : Nat) (wr : Nat) (aa : Nat) (zr : Int32) (r_h : g.1 h = 8) (r_na : g.1 na = 84) (n_na : g.2.2.1 na = 8) (r_pa : g.1 pa = 85) (n_pa : g.2.2.1 pa = 8) (r_wa : g.1 wa = 71) (n_wa : g.2.2.1 wa = 48) (r_pl : g.1 pl = 72) (n_pl : g.2.2.1 pl = 48) (r_nv : g.1 nv = 86) (n_nv : g.2.2.1 nv = 8) (r_wr : g.1 wr = 73) (n_wr : g.2.2.1 wr = 48) (r_aa : g.1 aa = 88) (n_aa : g.2.2.1 aa = 6) (kna : g.2.1 h 39 = .ref na) (kpa : g.2.1 h 40 = .ref pa) (kwa : g.2.1 h 2 = .ref wa) (kpl : g.2.1 h 3 = .ref pl) (knv : g.2.1 h 41 = .ref nv) (kwr : g.2.1 h 4 = .ref wr) (kaa : g.2.1 h 1 = .ref aa) (kzr : g.2.1 h 38 = .int zr) (l_n : 0 ≤ n.toInt) (u_n : n.toInt ≤ 5) (l_zr : 0 ≤ zr.toInt) (u_zr : zr.toInt ≤ 8) (hN_0 : PL 8 g na pa) (hW_0 : PL 48 g wa pl) {p : Program} {e : Env} {s : State} {m : MethodId} {args : Array Value} {below : List Frame} {meth : Method} {c : Code} (hB : Tz p s m meth c args cX7_takes 3 RX7 D cI cZ cS cR N0) (hr : meth.sig.returnType = none)    : ∀ (kf : Nat) (g1 : GS) (i : Int32)  (H : Heap) (locs : List Loc) (ls : Array Slot), Tv D cI cZ cS cR N0 s.heap H locs g1 → Inv g1 → Ex g g1 → Sm md_m_takes g g1 → 0 ≤ i.toInt → i.toInt ≤ 8 → g1.2.1 h 38 = .int zr → (CP g1 wa (g.2.2.2.1 wa) (g.2.2.2.1 na) (8 * n.toNatClampNeg) i.toInt) → (CP g1 pl (g.2.2.2.1 pl) (g.2.2.2.1 pa) (8 * n.toNatClampNeg) i.toInt) → (CP g1 wr (g.2.2.2.1 wr) (g.2.2.2.1 nv) (8 * n.toNatClampNeg) i.toInt) → (g1.2.2.2.1 na = g.2.2.2.1 na) → (g1.2.2.2.1 pa = g.2.2.2.1 pa) → (g1.2.2.2.1 nv = g.2.2.2.1 nv) → (UP g1 aa (g.2.2.2.1 aa) true n.toNatClampNeg zr) → (PL 8 g1 na pa) → (PL 48 g1 wa pl) → (i.toInt ≤ zr.toInt) → (8 ≤ i.toInt + kf) → lv_has ls 3 [(2, .int i), (0, .ref h), (1, .int n)] → W p l e (rmx 0 0 0) s m args below meth c H locs 0 0 (MQ below (tQ D cI cZ cS cR N0 (fun v g' => v = none ∧ Inv g' ∧ Ex g g' ∧ Sm md_m_takes g g' ∧ (PL 48 g' wa pl) ∧ (g'.2.1 h 29 = .int 0) ∧ (UP g' aa (g.2.2.2.1 aa) true n.toNatClampNeg zr) ∧ (CP g' wa (g.2.2.2.1 wa) (g.2.2.2.1 na) (8 * n.toNatClampNeg) zr.toInt) ∧ (CP g' pl (g.2.2.2.1 pl) (g.2.2.2.1 pa) (8 * n.toNatClampNeg) zr.toInt) ∧ (CP g' wr (g.2.2.2.1 wr) (g.2.2.2.1 nv) (8 * n.toNatClampNeg) zr.toInt))) args s 0 0 (fun q => N0.1 ≤ q)) (F0 m 12 ls []) := by
  have hx := hB.1
  have hb := hB.2.1
  intro kf
  induction kf using Nat.strongRecOn with
  | ind kf ih =>
    intro g1 i H locs ls hT hI hE hM l_i u_i kp0 hC0 hC1 hC2 hn_0 hn_1 hn_2 hUa hN hW hiz hk hl
    have r_1 : g1.1 h = 8 := Ex.r hE r_h (by decide)
    have r_2 : g1.1 na = 84 := Ex.r hE r_na (by decide)
    have n_3 : g1.2.2.1 na = 8 := Ex.n hE r_na (by decide) n_na
    have r_4 : g1.1 pa = 85 := Ex.r hE r_pa (by decide)
    have n_5 : g1.2.2.1 pa = 8 := Ex.n hE r_pa (by decide) n_pa
    have r_6 : g1.1 wa = 71 := Ex.r hE r_wa (by decide)
    have n_7 : g1.2.2.1 wa = 48 := Ex.n hE r_wa (by decide) n_wa
    have r_8 : g1.1 pl = 72 := Ex.r hE r_pl (by decide)
    have n_9 : g1.2.2.1 pl = 48 := Ex.n hE r_pl (by decide) n_pl
    have r_10 : g1.1 nv = 86 := Ex.r hE r_nv (by decide)
    have n_11 : g1.2.2.1 nv = 8 := Ex.n hE r_nv (by decide) n_nv
    have r_12 : g1.1 wr = 73 := Ex.r hE r_wr (by decide)
    have n_13 : g1.2.2.1 wr = 48 := Ex.n hE r_wr (by decide) n_wr
    have r_14 : g1.1 aa = 88 := Ex.r hE r_aa (by decide)
    have n_15 : g1.2.2.1 aa = 6 := Ex.n hE r_aa (by decide) n_aa
    have kn_16 : g1.2.1 h 39 = .ref na := Sm.v hM r_h (by decide) rfl kna
    have kn_17 : g1.2.1 h 40 = .ref pa := Sm.v hM r_h (by decide) rfl kpa
    have kn_18 : g1.2.1 h 2 = .ref wa := Sm.v hM r_h (by decide) rfl kwa
    have kn_19 : g1.2.1 h 3 = .ref pl := Sm.v hM r_h (by decide) rfl kpl
    have kn_20 : g1.2.1 h 41 = .ref nv := Sm.v hM r_h (by decide) rfl knv
    have kn_21 : g1.2.1 h 4 = .ref wr := Sm.v hM r_h (by decide) rfl kwr
    have kn_22 : g1.2.1 h 1 = .ref aa := Sm.v hM r_h (by decide) rfl kaa
    refine lv_iload_n hx hb dX7_takes_12 rfl (lv_at hl 0 rfl) ?_
    refine lv_aload_n hx hb dX7_takes_13 rfl (lv_at hl 1 rfl) ?_
    refine t_get (ci := 7) (v := .int zr) hB hT (ro_ci r_1 rfl) rfl 38 (by decide) k_783 kp0 dX7_takes_14 ?_
    refine lv_icmp_ge (tgt := 77) hx hb dX7_takes_17 (by decide) (fun c_23 => ?_) (fun c_23 => ?_)
    · have c_23' : zr.toInt ≤ i.toInt := i_le c_23 rfl rfl
      refine lv_aload_n hx hb dX7_takes_77 rfl (lv_at hl 1 rfl) ?_
      refine lv_iconst (v := 0) hx hb dX7_takes_78 (by decide) ?_
      refine t_put0 (ci := 7) (v := .int 0) hB hT (ro_ci r_1 rfl) (ro_n0 r_1 (by decide)) rfl 29 (by decide) k_774 (Or.inl rfl) rfl rfl dX7_takes_79 (fun H locs hT => ?_)
      have hI : Inv (sF g1 h 29 (.int 0)) := hI.sF (p_8_29 r_1 (⟨_, rfl, by decide, by decide⟩))
      have hM : Sm md_m_takes g (sF g1 h 29 (.int 0)) := hM.tr hE (Sm_sF (by rw [r_1]; rfl))
      have hE : Ex g (sF g1 h 29 (.int 0)) := hE
      have hC0 : CP (sF g1 h 29 (.int 0)) wa (g.2.2.2.1 wa) (g.2.2.2.1 na) (8 * n.toNatClampNeg) i.toInt := hC0
      have hC1 : CP (sF g1 h 29 (.int 0)) pl (g.2.2.2.1 pl) (g.2.2.2.1 pa) (8 * n.toNatClampNeg) i.toInt := hC1
      have hC2 : CP (sF g1 h 29 (.int 0)) wr (g.2.2.2.1 wr) (g.2.2.2.1 nv) (8 * n.toNatClampNeg) i.toInt := hC2
      have hn_0 : (sF g1 h 29 (.int 0)).2.2.2.1 na = g.2.2.2.1 na := hn_0
      have hn_1 : (sF g1 h 29 (.int 0)).2.2.2.1 pa = g.2.2.2.1 pa := hn_1
      have hn_2 : (sF g1 h 29 (.int 0)).2.2.2.1 nv = g.2.2.2.1 nv := hn_2
      have hUa : UP (sF g1 h 29 (.int 0)) aa (g.2.2.2.1 aa) true n.toNatClampNeg zr := hUa
      have hN : PL 8 (sF g1 h 29 (.int 0)) na pa := hN
      have hW : PL 48 (sF g1 h 29 (.int 0)) wa pl := hW
      exact t_vret hB hr hT (Nat.le_of_ble_eq_true rfl) (Nat.le_of_ble_eq_true rfl) dX7_takes_82 ⟨rfl, hI, hE, hM, hW, sF_eq, hUa, (hC0.cast (by omega)), (hC1.cast (by omega)), (hC2.cast (by omega))⟩
    · have c_23' : i.toInt < zr.toInt := i_nle c_23 rfl rfl
      refine lv_aload_n hx hb dX7_takes_20 rfl (lv_at hl 1 rfl) ?_
      refine t_get (ci := 7) (v := .ref wa) hB hT (ro_ci r_1 rfl) rfl 2 (by decide) k_747 kn_18 dX7_takes_21 ?_
      refine lv_bipush (v := 8) hx hb dX7_takes_24 (by decide) ?_
      refine lv_iload_n hx hb dX7_takes_26 rfl (lv_at hl 2 rfl) ?_
      refine lv_imul hx hb dX7_takes_27 ?_
      refine lv_topi (fun z_24 ez_24 => ?_)
      have e_z_24 : z_24.toInt = 8 * n.toInt := i_mul ez_24 (by decide) rfl (by omega) (by omega)
      refine lv_iload_n hx hb dX7_takes_28 rfl (lv_at hl 0 rfl) ?_
      refine lv_iadd hx hb dX7_takes_29 ?_
      refine lv_topi (fun z_25 ez_25 => ?_)
      have e_z_25 : z_25.toInt = z_24.toInt + i.toInt := i_add ez_25 rfl rfl (by omega) (by omega)
      refine lv_aload_n hx hb dX7_takes_30 rfl (lv_at hl 1 rfl) ?_
      refine t_get (ci := 7) (v := .ref na) hB hT (ro_ci r_1 rfl) rfl 39 (by decide) k_784 kn_16 dX7_takes_31 ?_
      refine lv_iload_n hx hb dX7_takes_34 rfl (lv_at hl 0 rfl) ?_
      have i_u_26 : vp_in i 8 := (i_in (n := 8) rfl (by omega) (by omega))
      refine t_iald hB hT (ro_in r_2 (by decide)) n_3 i_u_26 rfl dX7_takes_35 ?_
      refine lv_topi (fun u_26 e_u_26 => ?_)
      have i_27 : vp_in z_25 48 := (i_in (n := 48) rfl (by omega) (by omega))
      refine t_iast hB hT (ro_in r_6 (by decide)) n_7 i_27 dX7_takes_36 (fun H locs hT => ?_)
      have hI : Inv (sC g1 wa z_25.toNatClampNeg u_26) := hI.sC (ck r_6 trivial)
      have hM : Sm md_m_takes g (sC g1 wa z_25.toNatClampNeg u_26) := hM.tr hE (Sm_sC (by rw [r_6]; rfl))
      have hE : Ex g (sC g1 wa z_25.toNatClampNeg u_26) := hE
      have hC0 : CP (sC g1 wa z_25.toNatClampNeg u_26) wa (g.2.2.2.1 wa) (g.2.2.2.1 na) (8 * n.toNatClampNeg) (i.toInt + 1) := CP.st hC0 (by omega) (by have q1_ : (z_25.toNatClampNeg : Int) = z_25.toInt := Int.toNat_of_nonneg (by omega); have q2_ : (n.toNatClampNeg : Int) = n.toInt := Int.toNat_of_nonneg (by omega); omega) (Int.toNat_of_nonneg (by omega)) (e_u_26.trans (congrFun hn_0 i.toNatClampNeg)) rfl
      have hC1 : CP (sC g1 wa z_25.toNatClampNeg u_26) pl (g.2.2.2.1 pl) (g.2.2.2.1 pa) (8 * n.toNatClampNeg) i.toInt := hC1.tC (ro_ne r_8 r_6 (by decide))
      have hC2 : CP (sC g1 wa z_25.toNatClampNeg u_26) wr (g.2.2.2.1 wr) (g.2.2.2.1 nv) (8 * n.toNatClampNeg) i.toInt := hC2.tC (ro_ne r_12 r_6 (by decide))
      have hn_0 : (sC g1 wa z_25.toNatClampNeg u_26).2.2.2.1 na = g.2.2.2.1 na := sC_f hn_0 (ro_ne r_2 r_6 (by decide))
      have hn_1 : (sC g1 wa z_25.toNatClampNeg u_26).2.2.2.1 pa = g.2.2.2.1 pa := sC_f hn_1 (ro_ne r_4 r_6 (by decide))
      have hn_2 : (sC g1 wa z_25.toNatClampNeg u_26).2.2.2.1 nv = g.2.2.2.1 nv := sC_f hn_2 (ro_ne r_10 r_6 (by decide))
      have hUa : UP (sC g1 wa z_25.toNatClampNeg u_26) aa (g.2.2.2.1 aa) true n.toNatClampNeg zr := hUa.tC (ro_ne r_14 r_6 (by decide))
      have hN : PL 8 (sC g1 wa z_25.toNatClampNeg u_26) na pa := hN.tC (ro_ne r_2 r_6 (by decide)) (ro_ne r_4 r_6 (by decide))
      refine lv_aload_n hx hb dX7_takes_37 rfl (lv_at hl 1 rfl) ?_
      refine t_get (ci := 7) (v := .ref pl) hB hT (ro_ci r_1 rfl) rfl 3 (by decide) k_748 kn_19 dX7_takes_38 ?_
      refine lv_bipush (v := 8) hx hb dX7_takes_41 (by decide) ?_
      refine lv_iload_n hx hb dX7_takes_43 rfl (lv_at hl 2 rfl) ?_
      refine lv_imul hx hb dX7_takes_44 ?_
      refine lv_topi (fun z_28 ez_28 => ?_)
      have e_z_28 : z_28.toInt = 8 * n.toInt := i_mul ez_28 (by decide) rfl (by omega) (by omega)
      refine lv_iload_n hx hb dX7_takes_45 rfl (lv_at hl 0 rfl) ?_
      refine lv_iadd hx hb dX7_takes_46 ?_
      refine lv_topi (fun z_29 ez_29 => ?_)
      have e_z_29 : z_29.toInt = z_28.toInt + i.toInt := i_add ez_29 rfl rfl (by omega) (by omega)
      refine lv_aload_n hx hb dX7_takes_47 rfl (lv_at hl 1 rfl) ?_
      refine t_get (ci := 7) (v := .ref pa) hB hT (ro_ci r_1 rfl) rfl 40 (by decide) k_785 kn_17 dX7_takes_48 ?_
      refine lv_iload_n hx hb dX7_takes_51 rfl (lv_at hl 0 rfl) ?_
      have i_u_30 : vp_in i 8 := (i_in (n := 8) rfl (by omega) (by omega))
      refine t_iald hB hT (ro_in r_4 (by decide)) n_5 i_u_30 rfl dX7_takes_52 ?_
      have c_u_30 := hI.c r_4 n_5 (i_cl i_u_30)
      refine lv_topi (fun u_30 e_u_30 => ?_)
      obtain ⟨l_u_30, u_u_30⟩ := c_u_30
      rw [← e_u_30] at l_u_30 u_u_30
      have i_31 : vp_in z_29 48 := (i_in (n := 48) rfl (by omega) (by omega))
      refine t_iast hB hT (ro_in r_8 (by decide)) n_9 i_31 dX7_takes_53 (fun H locs hT => ?_)
      have hI : Inv (sC (sC g1 wa z_25.toNatClampNeg u_26) pl z_29.toNatClampNeg u_30) := hI.sC (ck r_8 ⟨by omega, by omega⟩)
      have hM : Sm md_m_takes g (sC (sC g1 wa z_25.toNatClampNeg u_26) pl z_29.toNatClampNeg u_30) := hM.tr hE (Sm_sC (by rw [r_8]; rfl))
      have hE : Ex g (sC (sC g1 wa z_25.toNatClampNeg u_26) pl z_29.toNatClampNeg u_30) := hE
      have hC0 : CP (sC (sC g1 wa z_25.toNatClampNeg u_26) pl z_29.toNatClampNeg u_30) wa (g.2.2.2.1 wa) (g.2.2.2.1 na) (8 * n.toNatClampNeg) (i.toInt + 1) := hC0.tC (ro_ne r_6 r_8 (by decide))
      have hC1 : CP (sC (sC g1 wa z_25.toNatClampNeg u_26) pl z_29.toNatClampNeg u_30) pl (g.2.2.2.1 pl) (g.2.2.2.1 pa) (8 * n.toNatClampNeg) (i.toInt + 1) := CP.st hC1 (by omega) (by have q1_ : (z_29.toNatClampNeg : Int) = z_29.toInt := Int.toNat_of_nonneg (by omega); have q2_ : (n.toNatClampNeg : Int) = n.toInt := Int.toNat_of_nonneg (by omega); omega) (Int.toNat_of_nonneg (by omega)) (e_u_30.trans (congrFun hn_1 i.toNatClampNeg)) rfl
      have hC2 : CP (sC (sC g1 wa z_25.toNatClampNeg u_26) pl z_29.toNatClampNeg u_30) wr (g.2.2.2.1 wr) (g.2.2.2.1 nv) (8 * n.toNatClampNeg) i.toInt := hC2.tC (ro_ne r_12 r_8 (by decide))
      have hn_0 : (sC (sC g1 wa z_25.toNatClampNeg u_26) pl z_29.toNatClampNeg u_30).2.2.2.1 na = g.2.2.2.1 na := sC_f hn_0 (ro_ne r_2 r_8 (by decide))
      have hn_1 : (sC (sC g1 wa z_25.toNatClampNeg u_26) pl z_29.toNatClampNeg u_30).2.2.2.1 pa = g.2.2.2.1 pa := sC_f hn_1 (ro_ne r_4 r_8 (by decide))
      have hn_2 : (sC (sC g1 wa z_25.toNatClampNeg u_26) pl z_29.toNatClampNeg u_30).2.2.2.1 nv = g.2.2.2.1 nv := sC_f hn_2 (ro_ne r_10 r_8 (by decide))
      have hUa : UP (sC (sC g1 wa z_25.toNatClampNeg u_26) pl z_29.toNatClampNeg u_30) aa (g.2.2.2.1 aa) true n.toNatClampNeg zr := hUa.tC (ro_ne r_14 r_8 (by decide))
      have hN : PL 8 (sC (sC g1 wa z_25.toNatClampNeg u_26) pl z_29.toNatClampNeg u_30) na pa := hN.tC (ro_ne r_2 r_8 (by decide)) (ro_ne r_4 r_8 (by decide))
      have hW : PL 48 (sC (sC g1 wa z_25.toNatClampNeg u_26) pl z_29.toNatClampNeg u_30) wa pl := PL.st hW (ro_ne r_6 r_8 (by decide)) (i_nt (by omega)) (PLu (hN i.toNatClampNeg (i_cl (i_in (n := 8) rfl (by omega) (by omega)))) (sC_a e_u_30.symm (ro_ne r_4 r_8 (by decide))) (sC_a (sC_a e_u_26.symm (ro_ne r_2 r_6 (by decide))) (ro_ne r_2 r_8 (by decide))))
      refine lv_aload_n hx hb dX7_takes_54 rfl (lv_at hl 1 rfl) ?_
      refine t_get (ci := 7) (v := .ref wr) hB hT (ro_ci r_1 rfl) rfl 4 (by decide) k_749 kn_21 dX7_takes_55 ?_
      refine lv_bipush (v := 8) hx hb dX7_takes_58 (by decide) ?_
      refine lv_iload_n hx hb dX7_takes_60 rfl (lv_at hl 2 rfl) ?_
      refine lv_imul hx hb dX7_takes_61 ?_
      refine lv_topi (fun z_32 ez_32 => ?_)
      have e_z_32 : z_32.toInt = 8 * n.toInt := i_mul ez_32 (by decide) rfl (by omega) (by omega)
      refine lv_iload_n hx hb dX7_takes_62 rfl (lv_at hl 0 rfl) ?_
      refine lv_iadd hx hb dX7_takes_63 ?_
      refine lv_topi (fun z_33 ez_33 => ?_)
      have e_z_33 : z_33.toInt = z_32.toInt + i.toInt := i_add ez_33 rfl rfl (by omega) (by omega)
      refine lv_aload_n hx hb dX7_takes_64 rfl (lv_at hl 1 rfl) ?_
      refine t_get (ci := 7) (v := .ref nv) hB hT (ro_ci r_1 rfl) rfl 41 (by decide) k_786 kn_20 dX7_takes_65 ?_
      refine lv_iload_n hx hb dX7_takes_68 rfl (lv_at hl 0 rfl) ?_
      have i_u_34 : vp_in i 8 := (i_in (n := 8) rfl (by omega) (by omega))
      refine t_iald hB hT (ro_in r_10 (by decide)) n_11 i_u_34 rfl dX7_takes_69 ?_
      have c_u_34 := hI.c r_10 n_11 (i_cl i_u_34)
      refine lv_topi (fun u_34 e_u_34 => ?_)
      obtain ⟨l_u_34, u_u_34⟩ := c_u_34
      rw [← e_u_34] at l_u_34 u_u_34
      have i_35 : vp_in z_33 48 := (i_in (n := 48) rfl (by omega) (by omega))
      refine t_iast hB hT (ro_in r_12 (by decide)) n_13 i_35 dX7_takes_70 (fun H locs hT => ?_)
      have hI : Inv (sC (sC (sC g1 wa z_25.toNatClampNeg u_26) pl z_29.toNatClampNeg u_30) wr z_33.toNatClampNeg u_34) := hI.sC (ck r_12 ⟨by omega, by omega⟩)
      have hM : Sm md_m_takes g (sC (sC (sC g1 wa z_25.toNatClampNeg u_26) pl z_29.toNatClampNeg u_30) wr z_33.toNatClampNeg u_34) := hM.tr hE (Sm_sC (by rw [r_12]; rfl))
      have hE : Ex g (sC (sC (sC g1 wa z_25.toNatClampNeg u_26) pl z_29.toNatClampNeg u_30) wr z_33.toNatClampNeg u_34) := hE
      have hC0 : CP (sC (sC (sC g1 wa z_25.toNatClampNeg u_26) pl z_29.toNatClampNeg u_30) wr z_33.toNatClampNeg u_34) wa (g.2.2.2.1 wa) (g.2.2.2.1 na) (8 * n.toNatClampNeg) (i.toInt + 1) := hC0.tC (ro_ne r_6 r_12 (by decide))
      have hC1 : CP (sC (sC (sC g1 wa z_25.toNatClampNeg u_26) pl z_29.toNatClampNeg u_30) wr z_33.toNatClampNeg u_34) pl (g.2.2.2.1 pl) (g.2.2.2.1 pa) (8 * n.toNatClampNeg) (i.toInt + 1) := hC1.tC (ro_ne r_8 r_12 (by decide))
      have hC2 : CP (sC (sC (sC g1 wa z_25.toNatClampNeg u_26) pl z_29.toNatClampNeg u_30) wr z_33.toNatClampNeg u_34) wr (g.2.2.2.1 wr) (g.2.2.2.1 nv) (8 * n.toNatClampNeg) (i.toInt + 1) := CP.st hC2 (by omega) (by have q1_ : (z_33.toNatClampNeg : Int) = z_33.toInt := Int.toNat_of_nonneg (by omega); have q2_ : (n.toNatClampNeg : Int) = n.toInt := Int.toNat_of_nonneg (by omega); omega) (Int.toNat_of_nonneg (by omega)) (e_u_34.trans (congrFun hn_2 i.toNatClampNeg)) rfl
      have hn_0 : (sC (sC (sC g1 wa z_25.toNatClampNeg u_26) pl z_29.toNatClampNeg u_30) wr z_33.toNatClampNeg u_34).2.2.2.1 na = g.2.2.2.1 na := sC_f hn_0 (ro_ne r_2 r_12 (by decide))
      have hn_1 : (sC (sC (sC g1 wa z_25.toNatClampNeg u_26) pl z_29.toNatClampNeg u_30) wr z_33.toNatClampNeg u_34).2.2.2.1 pa = g.2.2.2.1 pa := sC_f hn_1 (ro_ne r_4 r_12 (by decide))
      have hn_2 : (sC (sC (sC g1 wa z_25.toNatClampNeg u_26) pl z_29.toNatClampNeg u_30) wr z_33.toNatClampNeg u_34).2.2.2.1 nv = g.2.2.2.1 nv := sC_f hn_2 (ro_ne r_10 r_12 (by decide))
      have hUa : UP (sC (sC (sC g1 wa z_25.toNatClampNeg u_26) pl z_29.toNatClampNeg u_30) wr z_33.toNatClampNeg u_34) aa (g.2.2.2.1 aa) true n.toNatClampNeg zr := hUa.tC (ro_ne r_14 r_12 (by decide))
      have hN : PL 8 (sC (sC (sC g1 wa z_25.toNatClampNeg u_26) pl z_29.toNatClampNeg u_30) wr z_33.toNatClampNeg u_34) na pa := hN.tC (ro_ne r_2 r_12 (by decide)) (ro_ne r_4 r_12 (by decide))
      have hW : PL 48 (sC (sC (sC g1 wa z_25.toNatClampNeg u_26) pl z_29.toNatClampNeg u_30) wr z_33.toNatClampNeg u_34) wa pl := hW.tC (ro_ne r_6 r_12 (by decide)) (ro_ne r_8 r_12 (by decide))
      obtain ⟨z_36, ez_36⟩ : ∃ z : Int32, z = i + 1 := ⟨_, rfl⟩
      have e_z_36 : z_36.toInt = i.toInt + 1 := i_add ez_36 rfl (by decide) (by omega) (by omega)
      refine lv_iinc (v := z_36) (lv' := [(2, .int z_36), (0, .ref h), (1, .int n)]) hx hb dX7_takes_71 hl (k := 0) rfl (by rw [ez_36]; rfl) (by decide) rfl (fun ls hl => ?_)
      refine lv_goto (tgt := 12) hx hb dX7_takes_74 (by decide) ?_
      exact ih (kf - 1) (by omega) (sC (sC (sC g1 wa z_25.toNatClampNeg u_26) pl z_29.toNatClampNeg u_30) wr z_33.toNatClampNeg u_34) z_36 H locs ls hT hI hE hM (by omega) (by omega) kp0 (hC0.cast (by have e0_ : (0 : Int32).toInt = 0 := (by decide); omega)) (hC1.cast (by have e0_ : (0 : Int32).toInt = 0 := (by decide); omega)) (hC2.cast (by have e0_ : (0 : Int32).toInt = 0 := (by decide); omega)) hn_0 hn_1 hn_2 hUa hN hW (by have e0_ : (0 : Int32).toInt = 0 := (by decide); omega) (by have e0_ : (0 : Int32).toInt = 0 := (by decide); omega) (lv_sub hl [0, 1, 2] rfl)
set_option maxHeartbeats 4000000 in
set_option maxRecDepth 100000 in
theorem m_takes (l : Launch) (D : va_G) (cI cZ cS cR : ClassId) (N0 : NT) (g : GS) (hI : Inv g) (h : Nat) (n : Int32) (na : Nat) (pa : Nat) (wa : Nat) (pl : Nat) (nv : Nat) (wr : Nat) (aa : Nat) (zr : Int32) (r_h : g.1 h = 8) (r_na : g.1 na = 84) (n_na : g.2.2.1 na = 8) (r_pa : g.1 pa = 85) (n_pa : g.2.2.1 pa = 8) (r_wa : g.1 wa = 71) (n_wa : g.2.2.1 wa = 48) (r_pl : g.1 pl = 72) (n_pl : g.2.2.1 pl = 48) (r_nv : g.1 nv = 86) (n_nv : g.2.2.1 nv = 8) (r_wr : g.1 wr = 73) (n_wr : g.2.2.1 wr = 48) (r_aa : g.1 aa = 88) (n_aa : g.2.2.1 aa = 6) (kna : g.2.1 h 39 = .ref na) (kpa : g.2.1 h 40 = .ref pa) (kwa : g.2.1 h 2 = .ref wa) (kpl : g.2.1 h 3 = .ref pl) (knv : g.2.1 h 41 = .ref nv) (kwr : g.2.1 h 4 = .ref wr) (kaa : g.2.1 h 1 = .ref aa) (kzr : g.2.1 h 38 = .int zr) (l_n : 0 ≤ n.toInt) (u_n : n.toInt ≤ 5) (l_zr : 0 ≤ zr.toInt) (u_zr : zr.toInt ≤ 8) (hN_0 : PL 8 g na pa) (hW_0 : PL 48 g wa pl) : Ty l D cI cZ cS cR N0 yX7_takes cX7_takes 3 none 0 0 0 [.ref h, .int n] g (fun v g' => v = none ∧ Inv g' ∧ Ex g g' ∧ Sm md_m_takes g g' ∧ (PL 48 g' wa pl) ∧ (g'.2.1 h 29 = .int 0) ∧ (UP g' aa (g.2.2.2.1 aa) true n.toNatClampNeg zr) ∧ (CP g' wa (g.2.2.2.1 wa) (g.2.2.2.1 na) (8 * n.toNatClampNeg) zr.toInt) ∧ (CP g' pl (g.2.2.2.1 pl) (g.2.2.2.1 pa) (8 * n.toNatClampNeg) zr.toInt) ∧ (CP g' wr (g.2.2.2.1 wr) (g.2.2.2.1 nv) (8 * n.toNatClampNeg) zr.toInt)) := by
  refine t_enter (by decide) (Nat.le_of_ble_eq_true rfl) ?_
  intro p e s m args below meth c ls H locs hB hr hin hl hT
  have hx := hB.1
  have hb := hB.2.1
  have hl : lv_has ls 3 [(0, .ref h), (1, .int n)] := hl
  have hE : Ex g g := Ex.rf
  have hM : Sm md_m_takes g g := Sm.rf
  have hN := hN_0
  have hW := hW_0
  have hUa : UP g aa (g.2.2.2.1 aa) false n.toNatClampNeg zr := UP.zero rfl
  have hC0 : CP g wa (g.2.2.2.1 wa) (g.2.2.2.1 na) (8 * n.toNatClampNeg) 0 := CP.zero rfl (by omega)
  have hn_0 : g.2.2.2.1 na = g.2.2.2.1 na := rfl
  have hC1 : CP g pl (g.2.2.2.1 pl) (g.2.2.2.1 pa) (8 * n.toNatClampNeg) 0 := CP.zero rfl (by omega)
  have hn_1 : g.2.2.2.1 pa = g.2.2.2.1 pa := rfl
  have hC2 : CP g wr (g.2.2.2.1 wr) (g.2.2.2.1 nv) (8 * n.toNatClampNeg) 0 := CP.zero rfl (by omega)
  have hn_2 : g.2.2.2.1 nv = g.2.2.2.1 nv := rfl
  refine lv_aload_n hx hb dX7_takes_0 rfl (lv_at hl 0 rfl) ?_
  refine t_get (ci := 7) (v := .ref aa) hB hT (ro_ci r_h rfl) rfl 1 (by decide) k_746 kaa dX7_takes_1 ?_
  refine lv_iload_n hx hb dX7_takes_4 rfl (lv_at hl 1 rfl) ?_
  refine lv_aload_n hx hb dX7_takes_5 rfl (lv_at hl 0 rfl) ?_
  refine t_get (ci := 7) (v := .int zr) hB hT (ro_ci r_h rfl) rfl 38 (by decide) k_783 kzr dX7_takes_6 ?_
  have i_1 : vp_in n 6 := (i_in (n := 6) rfl (by omega) (by omega))
  refine t_iast hB hT (ro_in r_aa (by decide)) n_aa i_1 dX7_takes_9 (fun H locs hT => ?_)
  have hI : Inv (sC g aa n.toNatClampNeg zr) := hI.sC (ck r_aa ⟨by omega, by omega⟩)
  have hM : Sm md_m_takes g (sC g aa n.toNatClampNeg zr) := hM.tr hE (Sm_sC (by rw [r_aa]; rfl))
  have hE : Ex g (sC g aa n.toNatClampNeg zr) := hE
  have hN : PL 8 (sC g aa n.toNatClampNeg zr) na pa := hN.tC (ro_ne r_na r_aa (by decide)) (ro_ne r_pa r_aa (by decide))
  have hW : PL 48 (sC g aa n.toNatClampNeg zr) wa pl := hW.tC (ro_ne r_wa r_aa (by decide)) (ro_ne r_pl r_aa (by decide))
  have hUa : UP (sC g aa n.toNatClampNeg zr) aa (g.2.2.2.1 aa) true n.toNatClampNeg zr := UP.st hUa rfl
  have hC0 : CP (sC g aa n.toNatClampNeg zr) wa (g.2.2.2.1 wa) (g.2.2.2.1 na) (8 * n.toNatClampNeg) 0 := hC0.tC (ro_ne r_wa r_aa (by decide))
  have hn_0 : (sC g aa n.toNatClampNeg zr).2.2.2.1 na = g.2.2.2.1 na := sC_f hn_0 (ro_ne r_na r_aa (by decide))
  have hC1 : CP (sC g aa n.toNatClampNeg zr) pl (g.2.2.2.1 pl) (g.2.2.2.1 pa) (8 * n.toNatClampNeg) 0 := hC1.tC (ro_ne r_pl r_aa (by decide))
  have hn_1 : (sC g aa n.toNatClampNeg zr).2.2.2.1 pa = g.2.2.2.1 pa := sC_f hn_1 (ro_ne r_pa r_aa (by decide))
  have hC2 : CP (sC g aa n.toNatClampNeg zr) wr (g.2.2.2.1 wr) (g.2.2.2.1 nv) (8 * n.toNatClampNeg) 0 := hC2.tC (ro_ne r_wr r_aa (by decide))
  have hn_2 : (sC g aa n.toNatClampNeg zr).2.2.2.1 nv = g.2.2.2.1 nv := sC_f hn_2 (ro_ne r_nv r_aa (by decide))
  refine lv_iconst (v := 0) hx hb dX7_takes_10 (by decide) ?_
  refine lv_istore_n (lv' := [(2, .int 0), (0, .ref h), (1, .int n)]) hx hb dX7_takes_11 rfl hl (by decide) rfl (fun ls hl => ?_)
  exact lt_m_takes_a l D cI cZ cS cR N0 g h n na pa wa pl nv wr aa zr r_h r_na n_na r_pa n_pa r_wa n_wa r_pl n_pl r_nv n_nv r_wr n_wr r_aa n_aa kna kpa kwa kpl knv kwr kaa kzr l_n u_n l_zr u_zr hN_0 hW_0 hB hr   8 (sC g aa n.toNatClampNeg zr) (0 : Int32) H locs ls hT hI hE hM (by decide) (by decide) kzr (hC0.cast (by have e0_ : (0 : Int32).toInt = 0 := (by decide); omega)) (hC1.cast (by have e0_ : (0 : Int32).toInt = 0 := (by decide); omega)) (hC2.cast (by have e0_ : (0 : Int32).toInt = 0 := (by decide); omega)) hn_0 hn_1 hn_2 hUa hN hW (by have e0_ : (0 : Int32).toInt = 0 := (by decide); omega) (by have e0_ : (0 : Int32).toInt = 0 := (by decide); omega) (lv_sub hl [0, 1, 2] rfl)
