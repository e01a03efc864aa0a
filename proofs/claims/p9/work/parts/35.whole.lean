theorem k_72 : Cond.classLink RL 7 RX6 ∈ tb := mt 72 (by decide +kernel) rfl
theorem k_74 : Cond.methodLink RL 9 yX6_init ∈ tb := mt 74 (by decide +kernel) rfl
theorem k_75 : Cond.instanceMethod yX6_init ∈ tb := mt 75 (by decide +kernel) rfl
set_option maxRecDepth 20000 in
theorem k_76 : Cond.code yX6_init cX6_init 2 none ∈ tb := mt 76 rfl rfl
theorem k_739 : Cond.classLink RL 10 RX7 ∈ tb := mt 739 (by decide +kernel) rfl
theorem k_741 : Cond.methodLink RL 12 yX7_init ∈ tb := mt 741 (by decide +kernel) rfl
theorem k_742 : Cond.instanceMethod yX7_init ∈ tb := mt 742 (by decide +kernel) rfl
set_option maxRecDepth 20000 in
theorem k_743 : Cond.code yX7_init cX7_init 1 none ∈ tb := mt 743 rfl rfl
theorem dL_law_0 : decode cL_law 0 = .ok (.new 7, 3) := by decide +kernel
theorem dL_law_3 : decode cL_law 3 = .ok (.dup, 1) := by decide +kernel
theorem dL_law_4 : decode cL_law 4 = .ok (.invokespecial 9, 3) := by decide +kernel
theorem dL_law_7 : decode cL_law 7 = .ok (.astore_n 1, 1) := by decide +kernel
theorem dL_law_8 : decode cL_law 8 = .ok (.new 10, 3) := by decide +kernel
theorem dL_law_11 : decode cL_law 11 = .ok (.dup, 1) := by decide +kernel
theorem dL_law_12 : decode cL_law 12 = .ok (.invokespecial 12, 3) := by decide +kernel
theorem dL_law_15 : decode cL_law 15 = .ok (.astore_n 2, 1) := by decide +kernel
theorem dL_law_16 : decode cL_law 16 = .ok (.iconst 0, 1) := by decide +kernel
theorem dL_law_17 : decode cL_law 17 = .ok (.istore_n 3, 1) := by decide +kernel
set_option maxHeartbeats 4000000 in
set_option maxRecDepth 100000 in
theorem whole_start {p : Program} {e : Env} {s : State} {m : MethodId} {below : List Frame} {meth : Method} {c : Code} (l : Launch) {b L : Nat} {xs : Nat → Int32} (hL : L ≤ 2560) (C0 : lw_At p s m meth c b L xs) : W p l e room_1 s m #[Value.ref b] below meth c s.heap [] 0 0 (lw_Z below #[Value.ref b] s) (entryFrame m ([Value.ref b] : List Value).toArray 4) := by
  obtain ⟨D, cI, cZ, cS, cR, N0, hAs, hB⟩ := st_facts C0
  obtain ⟨hx, hb, hr, hml, hown, hts, hX, hbl, hlocks, hgv⟩ := id C0
  obtain ⟨g, hg⟩ : ∃ g : GS, g = g00 := ⟨_, rfl⟩
  have hT : Tv D cI cZ cS cR N0 s.heap s.heap [] g := by rw [hg]; exact ⟨th00, va_S.rf⟩
  have hI : Inv g := by rw [hg]; exact inv00
  clear hg
  have hl := lv_entry ([.ref b]) (n := 4) (Nat.le_of_ble_eq_true rfl)
  rw [lg_entry_eq]
  generalize (lg_sl ([.ref b]) ++ List.replicate (4 - (lg_sl ([.ref b])).length) Slot.unset).toArray = ls at hl ⊢
  have hl : lv_has ls 4 [(0, .ref b)] := hl
  generalize ([] : List Loc) = locs at hT ⊢
  suffices key : ∀ H : Heap, Tv D cI cZ cS cR N0 s.heap H locs g → W p l e room_1 s m #[Value.ref b] below meth c H locs 0 0 (lw_Z below #[Value.ref b] s) (F0 m 0 ls []) from key s.heap hT
  clear hT
  intro H hT
  have hE : Ex g g := Ex.rf
  have hM : Sm mdA g g := sm_all
  refine t_new (ci := 6) (fs := [.null, .null, .null, .null, .null, .null, .int 0]) hB hT rfl (by decide) k_72 k_73 k_57 (fnew_6) (Nat.le_of_ble_eq_true rfl) (Nat.le_of_ble_eq_true rfl) dL_law_0 (fun q_1 H o_q_1 hT => ?_)
  have z_q_1 : g.1 q_1 = 0 := hE.z0 o_q_1
  have hI : Inv (sN g q_1 17 (vp_V [.null, .null, .null, .null, .null, .null, .int 0])) := hI.newo o_q_1 (fun _ => rfl) (fun _ => trivial) (fun _ _ => trivial)
  have hM : Sm mdA g (sN g q_1 17 (vp_V [.null, .null, .null, .null, .null, .null, .int 0])) := hM.tr hE (Sm.push o_q_1 sN_g)
  have hE : Ex g (sN g q_1 17 (vp_V [.null, .null, .null, .null, .null, .null, .int 0])) := hE.tr (Ex.push o_q_1 sN_g)
  have r_2 : (sN g q_1 17 (vp_V [.null, .null, .null, .null, .null, .null, .int 0])).1 q_1 = 17 := sN_r
  have kn_3 : (sN g q_1 17 (vp_V [.null, .null, .null, .null, .null, .null, .int 0])).2.1 q_1 0 = .null := sN_f
  have kn_4 : (sN g q_1 17 (vp_V [.null, .null, .null, .null, .null, .null, .int 0])).2.1 q_1 1 = .null := sN_f
  have kn_5 : (sN g q_1 17 (vp_V [.null, .null, .null, .null, .null, .null, .int 0])).2.1 q_1 2 = .null := sN_f
  have kn_6 : (sN g q_1 17 (vp_V [.null, .null, .null, .null, .null, .null, .int 0])).2.1 q_1 3 = .null := sN_f
  have kn_7 : (sN g q_1 17 (vp_V [.null, .null, .null, .null, .null, .null, .int 0])).2.1 q_1 4 = .null := sN_f
  have kn_8 : (sN g q_1 17 (vp_V [.null, .null, .null, .null, .null, .null, .int 0])).2.1 q_1 5 = .null := sN_f
  have kn_9 : (sN g q_1 17 (vp_V [.null, .null, .null, .null, .null, .null, .int 0])).2.1 q_1 6 = .int 0 := sN_f
  generalize (sN g q_1 17 (vp_V [.null, .null, .null, .null, .null, .null, .int 0])) = g_10 at hT hI hM hE r_2 kn_3 kn_4 kn_5 kn_6 kn_7 kn_8 kn_9
  refine W.widen (k := 1) (n := 7) (Nat.le_of_ble_eq_true rfl) (Nat.le_of_ble_eq_true rfl) ?_
  refine lv_dup hx hb dL_law_3 rfl ?_
  refine t_callI (n := 0) (As := []) (rest := [.ref q_1]) hB hT hl.1 (k_TwiceOnce l D cI cZ cS cR N0 g_10 hI q_1 r_2) k_76 k_57 k_74 k_75 rfl (by decide +kernel) ⟨(Nat.le_of_ble_eq_true rfl), (Nat.le_of_ble_eq_true rfl)⟩ rfl (Nat.le_of_ble_eq_true rfl) ⟨(by show _ ≤ _; first | exact Nat.le_of_ble_eq_true rfl | (simp only [room_1]; omega)), (by show _ ≤ _; first | exact Nat.le_of_ble_eq_true rfl | (simp only [room_1]; omega))⟩ dL_law_4 (fun v g_11 H locs hp hT => ?_)
  obtain ⟨rfl, hI, x_16, m_15, r_17, f_12, f_13, f_14⟩ := hp
  have hM : Sm mdA g g_11 := sm_all
  have hE : Ex g g_11 := hE.trx z_q_1 x_16
  have r_18 : g_11.1 q_1 = 7 := r_17
  refine W.eq (g2 := F0 m 7 ls [.ref q_1]) rfl ?_
  obtain ⟨tp, nw, rl, lg, k_tp, k_nw, k_rl, k_lg, r_tp, r_nw, r_rl, r_lg, kc_tz, kc_sv, kc_rz, kc_lz⟩ := f_13
  obtain ⟨v_19, e_v_19, r_v_19, n_v_19⟩ := f_5_0 hI r_tp
  obtain ⟨nw_, ke_, hHS⟩ := f_14
  have en_ : nw = nw_ := Value.ref.inj (k_nw.symm.trans ke_)
  subst en_
  skip
  refine lv_astore_n (lv' := [(1, .ref q_1), (0, .ref b)]) hx hb dL_law_7 rfl hl (by decide) rfl (fun ls hl => ?_)
  refine t_new (ci := 7) (fs := [.int 0, .null, .null, .null, .null, .null, .null, .null, .null, .null, .null, .null, .null, .null, .null, .null, .null, .null, .null, .null, .null, .int 0, .int 0, .null, .int 0, .null, .null, .null, .null, .int 0, .int 0, .null, .null, .null, .int 0, .null, .int 0, .int 0, .int 0, .null, .null, .null, .null, .null, .null, .null, .null, .null, .null, .int 0, .int 0, .int 0, .int 0, .null, .null, .null, .null, .null, .null, .null, .int 0, .null, .null, .null, .null, .null, .null]) hB hT rfl (by decide) k_739 k_740 k_65 (fnew_7) (Nat.le_of_ble_eq_true rfl) (Nat.le_of_ble_eq_true rfl) dL_law_8 (fun q_20 H o_q_20 hT => ?_)
  have z_q_20 : g.1 q_20 = 0 := hE.z0 o_q_20
  have hI : Inv (sN g_11 q_20 18 (vp_V [.int 0, .null, .null, .null, .null, .null, .null, .null, .null, .null, .null, .null, .null, .null, .null, .null, .null, .null, .null, .null, .null, .int 0, .int 0, .null, .int 0, .null, .null, .null, .null, .int 0, .int 0, .null, .null, .null, .int 0, .null, .int 0, .int 0, .int 0, .null, .null, .null, .null, .null, .null, .null, .null, .null, .null, .int 0, .int 0, .int 0, .int 0, .null, .null, .null, .null, .null, .null, .null, .int 0, .null, .null, .null, .null, .null, .null])) := hI.newo o_q_20 (fun _ => rfl) (fun _ => trivial) (fun _ _ => trivial)
  have hM : Sm mdA g (sN g_11 q_20 18 (vp_V [.int 0, .null, .null, .null, .null, .null, .null, .null, .null, .null, .null, .null, .null, .null, .null, .null, .null, .null, .null, .null, .null, .int 0, .int 0, .null, .int 0, .null, .null, .null, .null, .int 0, .int 0, .null, .null, .null, .int 0, .null, .int 0, .int 0, .int 0, .null, .null, .null, .null, .null, .null, .null, .null, .null, .null, .int 0, .int 0, .int 0, .int 0, .null, .null, .null, .null, .null, .null, .null, .int 0, .null, .null, .null, .null, .null, .null])) := hM.tr hE (Sm.push o_q_20 sN_g)
  have hE : Ex g (sN g_11 q_20 18 (vp_V [.int 0, .null, .null, .null, .null, .null, .null, .null, .null, .null, .null, .null, .null, .null, .null, .null, .null, .null, .null, .null, .null, .int 0, .int 0, .null, .int 0, .null, .null, .null, .null, .int 0, .int 0, .null, .null, .null, .int 0, .null, .int 0, .int 0, .int 0, .null, .null, .null, .null, .null, .null, .null, .null, .null, .null, .int 0, .int 0, .int 0, .int 0, .null, .null, .null, .null, .null, .null, .null, .int 0, .null, .null, .null, .null, .null, .null])) := hE.tr (Ex.push o_q_20 sN_g)
  have hHS : HS (sN g_11 q_20 18 (vp_V [.int 0, .null, .null, .null, .null, .null, .null, .null, .null, .null, .null, .null, .null, .null, .null, .null, .null, .null, .null, .null, .null, .int 0, .int 0, .null, .int 0, .null, .null, .null, .null, .int 0, .int 0, .null, .null, .null, .int 0, .null, .int 0, .int 0, .int 0, .null, .null, .null, .null, .null, .null, .null, .null, .null, .null, .int 0, .int 0, .int 0, .int 0, .null, .null, .null, .null, .null, .null, .null, .int 0, .null, .null, .null, .null, .null, .null])) nw := hHS.mono (md := fun _ _ => false) (Sm.push o_q_20 sN_g) (Ex.push o_q_20 sN_g) r_nw rfl rfl rfl rfl
  have r_21 : (sN g_11 q_20 18 (vp_V [.int 0, .null, .null, .null, .null, .null, .null, .null, .null, .null, .null, .null, .null, .null, .null, .null, .null, .null, .null, .null, .null, .int 0, .int 0, .null, .int 0, .null, .null, .null, .null, .int 0, .int 0, .null, .null, .null, .int 0, .null, .int 0, .int 0, .int 0, .null, .null, .null, .null, .null, .null, .null, .null, .null, .null, .int 0, .int 0, .int 0, .int 0, .null, .null, .null, .null, .null, .null, .null, .int 0, .null, .null, .null, .null, .null, .null])).1 q_1 = 7 := ((sN_g q_1 (ne0 r_18 o_q_20 (by decide))).1.trans r_18)
  have r_22 : (sN g_11 q_20 18 (vp_V [.int 0, .null, .null, .null, .null, .null, .null, .null, .null, .null, .null, .null, .null, .null, .null, .null, .null, .null, .null, .null, .null, .int 0, .int 0, .null, .int 0, .null, .null, .null, .null, .int 0, .int 0, .null, .null, .null, .int 0, .null, .int 0, .int 0, .int 0, .null, .null, .null, .null, .null, .null, .null, .null, .null, .null, .int 0, .int 0, .int 0, .int 0, .null, .null, .null, .null, .null, .null, .null, .int 0, .null, .null, .null, .null, .null, .null])).1 tp = 5 := ((sN_g tp (ne0 r_tp o_q_20 (by decide))).1.trans r_tp)
  have r_23 : (sN g_11 q_20 18 (vp_V [.int 0, .null, .null, .null, .null, .null, .null, .null, .null, .null, .null, .null, .null, .null, .null, .null, .null, .null, .null, .null, .null, .int 0, .int 0, .null, .int 0, .null, .null, .null, .null, .int 0, .int 0, .null, .null, .null, .int 0, .null, .int 0, .int 0, .int 0, .null, .null, .null, .null, .null, .null, .null, .null, .null, .null, .int 0, .int 0, .int 0, .int 0, .null, .null, .null, .null, .null, .null, .null, .int 0, .null, .null, .null, .null, .null, .null])).1 nw = 19 := ((sN_g nw (ne0 r_nw o_q_20 (by decide))).1.trans r_nw)
  have r_24 : (sN g_11 q_20 18 (vp_V [.int 0, .null, .null, .null, .null, .null, .null, .null, .null, .null, .null, .null, .null, .null, .null, .null, .null, .null, .null, .null, .null, .int 0, .int 0, .null, .int 0, .null, .null, .null, .null, .int 0, .int 0, .null, .null, .null, .int 0, .null, .int 0, .int 0, .int 0, .null, .null, .null, .null, .null, .null, .null, .null, .null, .null, .int 0, .int 0, .int 0, .int 0, .null, .null, .null, .null, .null, .null, .null, .int 0, .null, .null, .null, .null, .null, .null])).1 rl = 1 := ((sN_g rl (ne0 r_rl o_q_20 (by decide))).1.trans r_rl)
  have r_25 : (sN g_11 q_20 18 (vp_V [.int 0, .null, .null, .null, .null, .null, .null, .null, .null, .null, .null, .null, .null, .null, .null, .null, .null, .null, .null, .null, .null, .int 0, .int 0, .null, .int 0, .null, .null, .null, .null, .int 0, .int 0, .null, .null, .null, .int 0, .null, .int 0, .int 0, .int 0, .null, .null, .null, .null, .null, .null, .null, .null, .null, .null, .int 0, .int 0, .int 0, .int 0, .null, .null, .null, .null, .null, .null, .null, .int 0, .null, .null, .null, .null, .null, .null])).1 lg = 9 := ((sN_g lg (ne0 r_lg o_q_20 (by decide))).1.trans r_lg)
  have r_26 : (sN g_11 q_20 18 (vp_V [.int 0, .null, .null, .null, .null, .null, .null, .null, .null, .null, .null, .null, .null, .null, .null, .null, .null, .null, .null, .null, .null, .int 0, .int 0, .null, .int 0, .null, .null, .null, .null, .int 0, .int 0, .null, .null, .null, .int 0, .null, .int 0, .int 0, .int 0, .null, .null, .null, .null, .null, .null, .null, .null, .null, .null, .int 0, .int 0, .int 0, .int 0, .null, .null, .null, .null, .null, .null, .null, .int 0, .null, .null, .null, .null, .null, .null])).1 v_19 = 67 := ((sN_g v_19 (ne0 r_v_19 o_q_20 (by decide))).1.trans r_v_19)
  have r_27 : (sN g_11 q_20 18 (vp_V [.int 0, .null, .null, .null, .null, .null, .null, .null, .null, .null, .null, .null, .null, .null, .null, .null, .null, .null, .null, .null, .null, .int 0, .int 0, .null, .int 0, .null, .null, .null, .null, .int 0, .int 0, .null, .null, .null, .int 0, .null, .int 0, .int 0, .int 0, .null, .null, .null, .null, .null, .null, .null, .null, .null, .null, .int 0, .int 0, .int 0, .int 0, .null, .null, .null, .null, .null, .null, .null, .int 0, .null, .null, .null, .null, .null, .null])).1 q_20 = 18 := sN_r
  have n_28 : (sN g_11 q_20 18 (vp_V [.int 0, .null, .null, .null, .null, .null, .null, .null, .null, .null, .null, .null, .null, .null, .null, .null, .null, .null, .null, .null, .null, .int 0, .int 0, .null, .int 0, .null, .null, .null, .null, .int 0, .int 0, .null, .null, .null, .int 0, .null, .int 0, .int 0, .int 0, .null, .null, .null, .null, .null, .null, .null, .null, .null, .null, .int 0, .int 0, .int 0, .int 0, .null, .null, .null, .null, .null, .null, .null, .int 0, .null, .null, .null, .null, .null, .null])).2.2.1 v_19 = 100 := ((sN_g v_19 (ne0 r_v_19 o_q_20 (by decide))).2.2.1.trans n_v_19)
  have kn_29 : (sN g_11 q_20 18 (vp_V [.int 0, .null, .null, .null, .null, .null, .null, .null, .null, .null, .null, .null, .null, .null, .null, .null, .null, .null, .null, .null, .null, .int 0, .int 0, .null, .int 0, .null, .null, .null, .null, .int 0, .int 0, .null, .null, .null, .int 0, .null, .int 0, .int 0, .int 0, .null, .null, .null, .null, .null, .null, .null, .null, .null, .null, .int 0, .int 0, .int 0, .int 0, .null, .null, .null, .null, .null, .null, .null, .int 0, .null, .null, .null, .null, .null, .null])).2.1 q_1 6 = .int 0 := ((congrFun (sN_g q_1 (ne0 r_18 o_q_20 (by decide))).2.1 6).trans f_12)
  have kn_30 : (sN g_11 q_20 18 (vp_V [.int 0, .null, .null, .null, .null, .null, .null, .null, .null, .null, .null, .null, .null, .null, .null, .null, .null, .null, .null, .null, .null, .int 0, .int 0, .null, .int 0, .null, .null, .null, .null, .int 0, .int 0, .null, .null, .null, .int 0, .null, .int 0, .int 0, .int 0, .null, .null, .null, .null, .null, .null, .null, .null, .null, .null, .int 0, .int 0, .int 0, .int 0, .null, .null, .null, .null, .null, .null, .null, .int 0, .null, .null, .null, .null, .null, .null])).2.1 q_1 0 = .ref tp := ((congrFun (sN_g q_1 (ne0 r_18 o_q_20 (by decide))).2.1 0).trans k_tp)
  have kn_31 : (sN g_11 q_20 18 (vp_V [.int 0, .null, .null, .null, .null, .null, .null, .null, .null, .null, .null, .null, .null, .null, .null, .null, .null, .null, .null, .null, .null, .int 0, .int 0, .null, .int 0, .null, .null, .null, .null, .int 0, .int 0, .null, .null, .null, .int 0, .null, .int 0, .int 0, .int 0, .null, .null, .null, .null, .null, .null, .null, .null, .null, .null, .int 0, .int 0, .int 0, .int 0, .null, .null, .null, .null, .null, .null, .null, .int 0, .null, .null, .null, .null, .null, .null])).2.1 q_1 1 = .ref nw := ((congrFun (sN_g q_1 (ne0 r_18 o_q_20 (by decide))).2.1 1).trans k_nw)
  have kn_32 : (sN g_11 q_20 18 (vp_V [.int 0, .null, .null, .null, .null, .null, .null, .null, .null, .null, .null, .null, .null, .null, .null, .null, .null, .null, .null, .null, .null, .int 0, .int 0, .null, .int 0, .null, .null, .null, .null, .int 0, .int 0, .null, .null, .null, .int 0, .null, .int 0, .int 0, .int 0, .null, .null, .null, .null, .null, .null, .null, .null, .null, .null, .int 0, .int 0, .int 0, .int 0, .null, .null, .null, .null, .null, .null, .null, .int 0, .null, .null, .null, .null, .null, .null])).2.1 q_1 2 = .ref rl := ((congrFun (sN_g q_1 (ne0 r_18 o_q_20 (by decide))).2.1 2).trans k_rl)
  have kn_33 : (sN g_11 q_20 18 (vp_V [.int 0, .null, .null, .null, .null, .null, .null, .null, .null, .null, .null, .null, .null, .null, .null, .null, .null, .null, .null, .null, .null, .int 0, .int 0, .null, .int 0, .null, .null, .null, .null, .int 0, .int 0, .null, .null, .null, .int 0, .null, .int 0, .int 0, .int 0, .null, .null, .null, .null, .null, .null, .null, .null, .null, .null, .int 0, .int 0, .int 0, .int 0, .null, .null, .null, .null, .null, .null, .null, .int 0, .null, .null, .null, .null, .null, .null])).2.1 q_1 3 = .ref lg := ((congrFun (sN_g q_1 (ne0 r_18 o_q_20 (by decide))).2.1 3).trans k_lg)
  have kn_34 : (sN g_11 q_20 18 (vp_V [.int 0, .null, .null, .null, .null, .null, .null, .null, .null, .null, .null, .null, .null, .null, .null, .null, .null, .null, .null, .null, .null, .int 0, .int 0, .null, .int 0, .null, .null, .null, .null, .int 0, .int 0, .null, .null, .null, .int 0, .null, .int 0, .int 0, .int 0, .null, .null, .null, .null, .null, .null, .null, .null, .null, .null, .int 0, .int 0, .int 0, .int 0, .null, .null, .null, .null, .null, .null, .null, .int 0, .null, .null, .null, .null, .null, .null])).2.1 tp 1 = .int 0 := ((congrFun (sN_g tp (ne0 r_tp o_q_20 (by decide))).2.1 1).trans kc_tz)
  have kn_35 : (sN g_11 q_20 18 (vp_V [.int 0, .null, .null, .null, .null, .null, .null, .null, .null, .null, .null, .null, .null, .null, .null, .null, .null, .null, .null, .null, .null, .int 0, .int 0, .null, .int 0, .null, .null, .null, .null, .int 0, .int 0, .null, .null, .null, .int 0, .null, .int 0, .int 0, .int 0, .null, .null, .null, .null, .null, .null, .null, .null, .null, .null, .int 0, .int 0, .int 0, .int 0, .null, .null, .null, .null, .null, .null, .null, .int 0, .null, .null, .null, .null, .null, .null])).2.1 nw 1 = .int 0 := ((congrFun (sN_g nw (ne0 r_nw o_q_20 (by decide))).2.1 1).trans kc_sv)
  have kn_36 : (sN g_11 q_20 18 (vp_V [.int 0, .null, .null, .null, .null, .null, .null, .null, .null, .null, .null, .null, .null, .null, .null, .null, .null, .null, .null, .null, .null, .int 0, .int 0, .null, .int 0, .null, .null, .null, .null, .int 0, .int 0, .null, .null, .null, .int 0, .null, .int 0, .int 0, .int 0, .null, .null, .null, .null, .null, .null, .null, .null, .null, .null, .int 0, .int 0, .int 0, .int 0, .null, .null, .null, .null, .null, .null, .null, .int 0, .null, .null, .null, .null, .null, .null])).2.1 rl 3 = .int 0 := ((congrFun (sN_g rl (ne0 r_rl o_q_20 (by decide))).2.1 3).trans kc_rz)
  have kn_37 : (sN g_11 q_20 18 (vp_V [.int 0, .null, .null, .null, .null, .null, .null, .null, .null, .null, .null, .null, .null, .null, .null, .null, .null, .null, .null, .null, .null, .int 0, .int 0, .null, .int 0, .null, .null, .null, .null, .int 0, .int 0, .null, .null, .null, .int 0, .null, .int 0, .int 0, .int 0, .null, .null, .null, .null, .null, .null, .null, .null, .null, .null, .int 0, .int 0, .int 0, .int 0, .null, .null, .null, .null, .null, .null, .null, .int 0, .null, .null, .null, .null, .null, .null])).2.1 lg 3 = .int 0 := ((congrFun (sN_g lg (ne0 r_lg o_q_20 (by decide))).2.1 3).trans kc_lz)
  have kn_38 : (sN g_11 q_20 18 (vp_V [.int 0, .null, .null, .null, .null, .null, .null, .null, .null, .null, .null, .null, .null, .null, .null, .null, .null, .null, .null, .null, .null, .int 0, .int 0, .null, .int 0, .null, .null, .null, .null, .int 0, .int 0, .null, .null, .null, .int 0, .null, .int 0, .int 0, .int 0, .null, .null, .null, .null, .null, .null, .null, .null, .null, .null, .int 0, .int 0, .int 0, .int 0, .null, .null, .null, .null, .null, .null, .null, .int 0, .null, .null, .null, .null, .null, .null])).2.1 tp 0 = .ref v_19 := ((congrFun (sN_g tp (ne0 r_tp o_q_20 (by decide))).2.1 0).trans e_v_19)
  have kn_39 : (sN g_11 q_20 18 (vp_V [.int 0, .null, .null, .null, .null, .null, .null, .null, .null, .null, .null, .null, .null, .null, .null, .null, .null, .null, .null, .null, .null, .int 0, .int 0, .null, .int 0, .null, .null, .null, .null, .int 0, .int 0, .null, .null, .null, .int 0, .null, .int 0, .int 0, .int 0, .null, .null, .null, .null, .null, .null, .null, .null, .null, .null, .int 0, .int 0, .int 0, .int 0, .null, .null, .null, .null, .null, .null, .null, .int 0, .null, .null, .null, .null, .null, .null])).2.1 q_20 0 = .int 0 := sN_f
  have kn_40 : (sN g_11 q_20 18 (vp_V [.int 0, .null, .null, .null, .null, .null, .null, .null, .null, .null, .null, .null, .null, .null, .null, .null, .null, .null, .null, .null, .null, .int 0, .int 0, .null, .int 0, .null, .null, .null, .null, .int 0, .int 0, .null, .null, .null, .int 0, .null, .int 0, .int 0, .int 0, .null, .null, .null, .null, .null, .null, .null, .null, .null, .null, .int 0, .int 0, .int 0, .int 0, .null, .null, .null, .null, .null, .null, .null, .int 0, .null, .null, .null, .null, .null, .null])).2.1 q_20 21 = .int 0 := sN_f
  have kn_41 : (sN g_11 q_20 18 (vp_V [.int 0, .null, .null, .null, .null, .null, .null, .null, .null, .null, .null, .null, .null, .null, .null, .null, .null, .null, .null, .null, .null, .int 0, .int 0, .null, .int 0, .null, .null, .null, .null, .int 0, .int 0, .null, .null, .null, .int 0, .null, .int 0, .int 0, .int 0, .null, .null, .null, .null, .null, .null, .null, .null, .null, .null, .int 0, .int 0, .int 0, .int 0, .null, .null, .null, .null, .null, .null, .null, .int 0, .null, .null, .null, .null, .null, .null])).2.1 q_20 22 = .int 0 := sN_f
  have kn_42 : (sN g_11 q_20 18 (vp_V [.int 0, .null, .null, .null, .null, .null, .null, .null, .null, .null, .null, .null, .null, .null, .null, .null, .null, .null, .null, .null, .null, .int 0, .int 0, .null, .int 0, .null, .null, .null, .null, .int 0, .int 0, .null, .null, .null, .int 0, .null, .int 0, .int 0, .int 0, .null, .null, .null, .null, .null, .null, .null, .null, .null, .null, .int 0, .int 0, .int 0, .int 0, .null, .null, .null, .null, .null, .null, .null, .int 0, .null, .null, .null, .null, .null, .null])).2.1 q_20 24 = .int 0 := sN_f
  have kn_43 : (sN g_11 q_20 18 (vp_V [.int 0, .null, .null, .null, .null, .null, .null, .null, .null, .null, .null, .null, .null, .null, .null, .null, .null, .null, .null, .null, .null, .int 0, .int 0, .null, .int 0, .null, .null, .null, .null, .int 0, .int 0, .null, .null, .null, .int 0, .null, .int 0, .int 0, .int 0, .null, .null, .null, .null, .null, .null, .null, .null, .null, .null, .int 0, .int 0, .int 0, .int 0, .null, .null, .null, .null, .null, .null, .null, .int 0, .null, .null, .null, .null, .null, .null])).2.1 q_20 29 = .int 0 := sN_f
  have kn_44 : (sN g_11 q_20 18 (vp_V [.int 0, .null, .null, .null, .null, .null, .null, .null, .null, .null, .null, .null, .null, .null, .null, .null, .null, .null, .null, .null, .null, .int 0, .int 0, .null, .int 0, .null, .null, .null, .null, .int 0, .int 0, .null, .null, .null, .int 0, .null, .int 0, .int 0, .int 0, .null, .null, .null, .null, .null, .null, .null, .null, .null, .null, .int 0, .int 0, .int 0, .int 0, .null, .null, .null, .null, .null, .null, .null, .int 0, .null, .null, .null, .null, .null, .null])).2.1 q_20 30 = .int 0 := sN_f
  have kn_45 : (sN g_11 q_20 18 (vp_V [.int 0, .null, .null, .null, .null, .null, .null, .null, .null, .null, .null, .null, .null, .null, .null, .null, .null, .null, .null, .null, .null, .int 0, .int 0, .null, .int 0, .null, .null, .null, .null, .int 0, .int 0, .null, .null, .null, .int 0, .null, .int 0, .int 0, .int 0, .null, .null, .null, .null, .null, .null, .null, .null, .null, .null, .int 0, .int 0, .int 0, .int 0, .null, .null, .null, .null, .null, .null, .null, .int 0, .null, .null, .null, .null, .null, .null])).2.1 q_20 34 = .int 0 := sN_f
  have kn_46 : (sN g_11 q_20 18 (vp_V [.int 0, .null, .null, .null, .null, .null, .null, .null, .null, .null, .null, .null, .null, .null, .null, .null, .null, .null, .null, .null, .null, .int 0, .int 0, .null, .int 0, .null, .null, .null, .null, .int 0, .int 0, .null, .null, .null, .int 0, .null, .int 0, .int 0, .int 0, .null, .null, .null, .null, .null, .null, .null, .null, .null, .null, .int 0, .int 0, .int 0, .int 0, .null, .null, .null, .null, .null, .null, .null, .int 0, .null, .null, .null, .null, .null, .null])).2.1 q_20 36 = .int 0 := sN_f
  have kn_47 : (sN g_11 q_20 18 (vp_V [.int 0, .null, .null, .null, .null, .null, .null, .null, .null, .null, .null, .null, .null, .null, .null, .null, .null, .null, .null, .null, .null, .int 0, .int 0, .null, .int 0, .null, .null, .null, .null, .int 0, .int 0, .null, .null, .null, .int 0, .null, .int 0, .int 0, .int 0, .null, .null, .null, .null, .null, .null, .null, .null, .null, .null, .int 0, .int 0, .int 0, .int 0, .null, .null, .null, .null, .null, .null, .null, .int 0, .null, .null, .null, .null, .null, .null])).2.1 q_20 37 = .int 0 := sN_f
  have kn_48 : (sN g_11 q_20 18 (vp_V [.int 0, .null, .null, .null, .null, .null, .null, .null, .null, .null, .null, .null, .null, .null, .null, .null, .null, .null, .null, .null, .null, .int 0, .int 0, .null, .int 0, .null, .null, .null, .null, .int 0, .int 0, .null, .null, .null, .int 0, .null, .int 0, .int 0, .int 0, .null, .null, .null, .null, .null, .null, .null, .null, .null, .null, .int 0, .int 0, .int 0, .int 0, .null, .null, .null, .null, .null, .null, .null, .int 0, .null, .null, .null, .null, .null, .null])).2.1 q_20 38 = .int 0 := sN_f
  have kn_49 : (sN g_11 q_20 18 (vp_V [.int 0, .null, .null, .null, .null, .null, .null, .null, .null, .null, .null, .null, .null, .null, .null, .null, .null, .null, .null, .null, .null, .int 0, .int 0, .null, .int 0, .null, .null, .null, .null, .int 0, .int 0, .null, .null, .null, .int 0, .null, .int 0, .int 0, .int 0, .null, .null, .null, .null, .null, .null, .null, .null, .null, .null, .int 0, .int 0, .int 0, .int 0, .null, .null, .null, .null, .null, .null, .null, .int 0, .null, .null, .null, .null, .null, .null])).2.1 q_20 49 = .int 0 := sN_f
  have kn_50 : (sN g_11 q_20 18 (vp_V [.int 0, .null, .null, .null, .null, .null, .null, .null, .null, .null, .null, .null, .null, .null, .null, .null, .null, .null, .null, .null, .null, .int 0, .int 0, .null, .int 0, .null, .null, .null, .null, .int 0, .int 0, .null, .null, .null, .int 0, .null, .int 0, .int 0, .int 0, .null, .null, .null, .null, .null, .null, .null, .null, .null, .null, .int 0, .int 0, .int 0, .int 0, .null, .null, .null, .null, .null, .null, .null, .int 0, .null, .null, .null, .null, .null, .null])).2.1 q_20 50 = .int 0 := sN_f
  have kn_51 : (sN g_11 q_20 18 (vp_V [.int 0, .null, .null, .null, .null, .null, .null, .null, .null, .null, .null, .null, .null, .null, .null, .null, .null, .null, .null, .null, .null, .int 0, .int 0, .null, .int 0, .null, .null, .null, .null, .int 0, .int 0, .null, .null, .null, .int 0, .null, .int 0, .int 0, .int 0, .null, .null, .null, .null, .null, .null, .null, .null, .null, .null, .int 0, .int 0, .int 0, .int 0, .null, .null, .null, .null, .null, .null, .null, .int 0, .null, .null, .null, .null, .null, .null])).2.1 q_20 51 = .int 0 := sN_f
  have kn_52 : (sN g_11 q_20 18 (vp_V [.int 0, .null, .null, .null, .null, .null, .null, .null, .null, .null, .null, .null, .null, .null, .null, .null, .null, .null, .null, .null, .null, .int 0, .int 0, .null, .int 0, .null, .null, .null, .null, .int 0, .int 0, .null, .null, .null, .int 0, .null, .int 0, .int 0, .int 0, .null, .null, .null, .null, .null, .null, .null, .null, .null, .null, .int 0, .int 0, .int 0, .int 0, .null, .null, .null, .null, .null, .null, .null, .int 0, .null, .null, .null, .null, .null, .null])).2.1 q_20 52 = .int 0 := sN_f
  have kn_53 : (sN g_11 q_20 18 (vp_V [.int 0, .null, .null, .null, .null, .null, .null, .null, .null, .null, .null, .null, .null, .null, .null, .null, .null, .null, .null, .null, .null, .int 0, .int 0, .null, .int 0, .null, .null, .null, .null, .int 0, .int 0, .null, .null, .null, .int 0, .null, .int 0, .int 0, .int 0, .null, .null, .null, .null, .null, .null, .null, .null, .null, .null, .int 0, .int 0, .int 0, .int 0, .null, .null, .null, .null, .null, .null, .null, .int 0, .null, .null, .null, .null, .null, .null])).2.1 q_20 60 = .int 0 := sN_f
  obtain ⟨g_54, hg_g_54⟩ : ∃ g_ : GS, g_ = (sN g_11 q_20 18 (vp_V [.int 0, .null, .null, .null, .null, .null, .null, .null, .null, .null, .null, .null, .null, .null, .null, .null, .null, .null, .null, .null, .null, .int 0, .int 0, .null, .int 0, .null, .null, .null, .null, .int 0, .int 0, .null, .null, .null, .int 0, .null, .int 0, .int 0, .int 0, .null, .null, .null, .null, .null, .null, .null, .null, .null, .null, .int 0, .int 0, .int 0, .int 0, .null, .null, .null, .null, .null, .null, .null, .int 0, .null, .null, .null, .null, .null, .null])) := ⟨_, rfl⟩
  rw [← hg_g_54] at hT
  rw [← hg_g_54] at hI
  rw [← hg_g_54] at hM
  rw [← hg_g_54] at hE
  rw [← hg_g_54] at r_21
  rw [← hg_g_54] at r_22
  rw [← hg_g_54] at r_23
  rw [← hg_g_54] at r_24
  rw [← hg_g_54] at r_25
  rw [← hg_g_54] at r_26
  rw [← hg_g_54] at r_27
  rw [← hg_g_54] at n_28
  rw [← hg_g_54] at kn_29
  rw [← hg_g_54] at kn_30
  rw [← hg_g_54] at kn_31
  rw [← hg_g_54] at kn_32
  rw [← hg_g_54] at kn_33
  rw [← hg_g_54] at kn_34
  rw [← hg_g_54] at kn_35
  rw [← hg_g_54] at kn_36
  rw [← hg_g_54] at kn_37
  rw [← hg_g_54] at kn_38
  rw [← hg_g_54] at kn_39
  rw [← hg_g_54] at kn_40
  rw [← hg_g_54] at kn_41
  rw [← hg_g_54] at kn_42
  rw [← hg_g_54] at kn_43
  rw [← hg_g_54] at kn_44
  rw [← hg_g_54] at kn_45
  rw [← hg_g_54] at kn_46
  rw [← hg_g_54] at kn_47
  rw [← hg_g_54] at kn_48
  rw [← hg_g_54] at kn_49
  rw [← hg_g_54] at kn_50
  rw [← hg_g_54] at kn_51
  rw [← hg_g_54] at kn_52
  rw [← hg_g_54] at kn_53
  rw [← hg_g_54] at hHS
  clear hg_g_54
  refine W.widen (k := 345) (n := 13607) (Nat.le_of_ble_eq_true rfl) (Nat.le_of_ble_eq_true rfl) ?_
  refine lv_dup hx hb dL_law_11 rfl ?_
  refine t_callI (n := 0) (As := []) (rest := [.ref q_20]) hB hT hl.1 (k_Model l D cI cZ cS cR N0 g_54 hI q_20 r_27 kn_39 kn_40 kn_41 kn_42 kn_43 kn_44 kn_45 kn_46 kn_47 kn_48 kn_49 kn_50 kn_51 kn_52 kn_53) k_743 k_65 k_741 k_742 rfl (by decide +kernel) ⟨(Nat.le_of_ble_eq_true rfl), (Nat.le_of_ble_eq_true rfl)⟩ rfl (Nat.le_of_ble_eq_true rfl) ⟨(by show _ ≤ _; first | exact Nat.le_of_ble_eq_true rfl | (simp only [room_1]; omega)), (by show _ ≤ _; first | exact Nat.le_of_ble_eq_true rfl | (simp only [room_1]; omega))⟩ dL_law_12 (fun v g_55 H locs hp hT => ?_)
  obtain ⟨rfl, hI, x_66, m_65, r_67, f_56, f_57, f_58, f_59, f_60, f_61, f_62, f_63, f_64⟩ := hp
  have hHS : HS g_55 nw := hHS.monx m_65 x_66 r_27 (by decide) r_23 rfl rfl rfl rfl
  have hM : Sm mdA g g_55 := sm_all
  have hE : Ex g g_55 := hE.trx z_q_20 x_66
  have r_68 : g_55.1 q_1 = 7 := (Exx.r x_66 r_21 (by decide) (ro_ne r_21 r_27 (by decide)))
  have r_69 : g_55.1 tp = 5 := (Exx.r x_66 r_22 (by decide) (ro_ne r_22 r_27 (by decide)))
  have r_70 : g_55.1 nw = 19 := (Exx.r x_66 r_23 (by decide) (ro_ne r_23 r_27 (by decide)))
  have r_71 : g_55.1 rl = 1 := (Exx.r x_66 r_24 (by decide) (ro_ne r_24 r_27 (by decide)))
  have r_72 : g_55.1 lg = 9 := (Exx.r x_66 r_25 (by decide) (ro_ne r_25 r_27 (by decide)))
  have r_73 : g_55.1 v_19 = 67 := (Exx.r x_66 r_26 (by decide) (ro_ne r_26 r_27 (by decide)))
  have r_74 : g_55.1 q_20 = 8 := r_67
  have n_75 : g_55.2.2.1 v_19 = 100 := (Exx.n x_66 r_26 (by decide) (ro_ne r_26 r_27 (by decide)) n_28)
  have kn_76 : g_55.2.1 q_1 6 = .int 0 := (Sm.v m_65 r_21 (by decide) rfl kn_29)
  have kn_77 : g_55.2.1 q_1 0 = .ref tp := (Sm.v m_65 r_21 (by decide) rfl kn_30)
  have kn_78 : g_55.2.1 q_1 1 = .ref nw := (Sm.v m_65 r_21 (by decide) rfl kn_31)
  have kn_79 : g_55.2.1 q_1 2 = .ref rl := (Sm.v m_65 r_21 (by decide) rfl kn_32)
  have kn_80 : g_55.2.1 q_1 3 = .ref lg := (Sm.v m_65 r_21 (by decide) rfl kn_33)
  have kn_81 : g_55.2.1 tp 1 = .int 0 := (Sm.v m_65 r_22 (by decide) rfl kn_34)
  have kn_82 : g_55.2.1 nw 1 = .int 0 := (Sm.v m_65 r_23 (by decide) rfl kn_35)
  have kn_83 : g_55.2.1 rl 3 = .int 0 := (Sm.v m_65 r_24 (by decide) rfl kn_36)
  have kn_84 : g_55.2.1 lg 3 = .int 0 := (Sm.v m_65 r_25 (by decide) rfl kn_37)
  have kn_85 : g_55.2.1 tp 0 = .ref v_19 := (Sm.v m_65 r_22 (by decide) rfl kn_38)
  have kn_86 : g_55.2.1 q_20 0 = .int 0 := (Sm.v m_65 r_27 (by decide) rfl kn_39)
  have kn_87 : g_55.2.1 q_20 21 = .int 0 := (Sm.v m_65 r_27 (by decide) rfl kn_40)
  have kn_88 : g_55.2.1 q_20 22 = .int 0 := (Sm.v m_65 r_27 (by decide) rfl kn_41)
  have kn_89 : g_55.2.1 q_20 24 = .int 0 := (Sm.v m_65 r_27 (by decide) rfl kn_42)
  have kn_90 : g_55.2.1 q_20 29 = .int 0 := (Sm.v m_65 r_27 (by decide) rfl kn_43)
  have kn_91 : g_55.2.1 q_20 30 = .int 0 := (Sm.v m_65 r_27 (by decide) rfl kn_44)
  have kn_92 : g_55.2.1 q_20 34 = .int 0 := (Sm.v m_65 r_27 (by decide) rfl kn_45)
  have kn_93 : g_55.2.1 q_20 36 = .int 0 := (Sm.v m_65 r_27 (by decide) rfl kn_46)
  have kn_94 : g_55.2.1 q_20 37 = .int 0 := (Sm.v m_65 r_27 (by decide) rfl kn_47)
  have kn_95 : g_55.2.1 q_20 38 = .int 0 := (Sm.v m_65 r_27 (by decide) rfl kn_48)
  have kn_96 : g_55.2.1 q_20 49 = .int 0 := (Sm.v m_65 r_27 (by decide) rfl kn_49)
  have kn_97 : g_55.2.1 q_20 50 = .int 0 := (Sm.v m_65 r_27 (by decide) rfl kn_50)
  have kn_98 : g_55.2.1 q_20 51 = .int 0 := (Sm.v m_65 r_27 (by decide) rfl kn_51)
  have kn_99 : g_55.2.1 q_20 52 = .int 0 := (Sm.v m_65 r_27 (by decide) rfl kn_52)
  have kn_100 : g_55.2.1 q_20 60 = .int 0 := (Sm.v m_65 r_27 (by decide) rfl kn_53)
  refine W.eq (g2 := F0 m 15 ls [.ref q_20]) rfl ?_
  have hw := f_56
  have hN0 := f_57
  obtain ⟨wt, k_wt, r_wt, n_wt, hWT⟩ := f_64
  refine lv_astore_n (lv' := [(2, .ref q_20), (1, .ref q_1), (0, .ref b)]) hx hb dL_law_15 rfl hl (by decide) rfl (fun ls hl => ?_)
  refine lv_iconst (v := 0) hx hb dL_law_16 (by decide) ?_
  refine lv_istore_n (lv' := [(3, .int 0), (2, .ref q_20), (1, .ref q_1), (0, .ref b)]) hx hb dL_law_17 rfl hl (by decide) rfl (fun ls hl => ?_)
  obtain ⟨v_101, e_v_101, r_v_101, n_v_101⟩ := f_8_28 hI r_74
  obtain ⟨sa, ksa_, rsa_, nsa_, hs4_, hs5_⟩ := hHS
  obtain ⟨v_102, e_v_102, r_v_102, n_v_102⟩ := f_8_1 hI r_74
  obtain ⟨v_103, e_v_103, r_v_103, n_v_103⟩ := f_8_2 hI r_74
  obtain ⟨v_104, e_v_104, r_v_104, n_v_104⟩ := f_8_3 hI r_74
  obtain ⟨v_105, e_v_105, r_v_105, n_v_105⟩ := f_8_4 hI r_74
  exact law_loop hB hAs hX hbl hL hr q_1 q_20 tp nw rl v_19 v_101 wt sa v_102 v_103 v_104 v_105 512 397 43468 g_55 0 0 (0 : Int32) (0 : Int32) (0 : Int32) H locs ls hT hI r_68 r_74 f_58 (by decide) (by decide) hw hN0 kn_77 r_69 kn_78 r_70 kn_79 r_71 kn_85 r_73 n_75 e_v_101 r_v_101 n_v_101 k_wt r_wt n_wt ksa_ rsa_ nsa_ e_v_102 r_v_102 n_v_102 e_v_103 r_v_103 n_v_103 e_v_104 r_v_104 n_v_104 e_v_105 r_v_105 n_v_105 kn_81 f_61 (by decide) (by decide) kn_82 f_60 (by decide) (by decide) kn_83 f_62 (by decide) (by decide) (fun i_ hi_ => absurd hi_ (by have e0_ : (0 : Int32).toInt = 0 := (by decide); omega)) hWT (PGI.of hs5_) (by decide) (by decide) (by have e0_ : (0 : Int32).toInt = 0 := (by decide); omega) (by omega) (by omega) (lv_sub hl [0, 1, 2, 3] rfl)
