theorem k_72 : Cond.classLink RL 7 RX6 ∈ tb := mt 72 (by decide +kernel) rfl
theorem k_74 : Cond.methodLink RL 9 yX6_init ∈ tb := mt 74 (by decide +kernel) rfl
theorem k_75 : Cond.instanceMethod yX6_init ∈ tb := mt 75 (by decide +kernel) rfl
set_option maxRecDepth 20000 in
theorem k_76 : Cond.code yX6_init cX6_init 2 none ∈ tb := mt 76 rfl rfl
theorem k_739 : Cond.classLink RL 10 RX7 ∈ tb := mt 739 (by decide +kernel) rfl
theorem k_741 : Cond.methodLink RL 12 yX7_init ∈ tb := mt 741 (by decide +kernel) rfl
theorem k_742 : Cond.instanceMethod yX7_init ∈ tb := mt 742 (by decide +kernel) rfl
set_option maxRecDepth 20000 in
theorem k_743 : Cond.code yX7_init cX7_init 1 none ∈ tb := mt 743 rfl rfl
theorem dL_law_0 : decode cL_law 0 = .ok (.new 7, 3) := by decide +kernel
theorem dL_law_3 : decode cL_law 3 = .ok (.dup, 1) := by decide +kernel
theorem dL_law_4 : decode cL_law 4 = .ok (.invokespecial 9, 3) := by decide +kernel
theorem dL_law_7 : decode cL_law 7 = .ok (.astore_n 1, 1) := by decide +kernel
theorem dL_law_8 : decode cL_law 8 = .ok (.new 10, 3) := by decide +kernel
theorem dL_law_11 : decode cL_law 11 = .ok (.dup, 1) := by decide +kernel
theorem dL_law_12 : decode cL_law 12 = .ok (.invokespecial 12, 3) := by decide +kernel
theorem dL_law_15 : decode cL_law 15 = .ok (.astore_n 2, 1) := by decide +kernel
theorem dL_law_16 : decode cL_law 16 = .ok (.iconst 0, 1) := by decide +kernel
theorem dL_law_17 : decode cL_law 17 = .ok (.istore_n 3, 1) := by decide +kernel
set_option maxHeartbeats 4000000 in
set_option maxRecDepth 100000 in
theorem whole_start {p : Program} {e : Env} {s : State} {m : MethodId} {below : List Frame} {meth : Method} {c : Code} (l : Launch) {b L : Nat} {xs : Nat → Int32} (hL : L ≤ 2560) (C0 : lw_At p s m meth c b L xs) : W p l e room_1 s m #[Value.ref b] below meth c s.heap [] 0 0 (lw_Z below #[Value.ref b] s) (entryFrame m ([Value.ref b] : List Value).toArray 4) := by
  obtain ⟨D, cI, cZ, cS, cR, N0, hAs, hB⟩ := st_facts C0
  obtain ⟨hx, hb, hr, hml, hown, hts, hX, hbl, hlocks, hgv⟩ := id C0
  obtain ⟨g, hg⟩ : ∃ g : GS, g = g00 := ⟨_, rfl⟩
  have hT : Tv D cI cZ cS cR N0 s.heap s.heap [] g := by rw [hg]; exact ⟨th00, va_S.rf⟩
  have hI : Inv g := by rw [hg]; exact inv00
  clear hg
  have hl := lv_entry ([.ref b]) (n := 4) (Nat.le_of_ble_eq_true rfl)
  rw [lg_entry_eq]
  generalize (lg_sl ([.ref b]) ++ List.replicate (4 - (lg_sl ([.ref b])).length) Slot.unset).toArray = ls at hl ⊢
  have hl : lv_has ls 4 [(0, .ref b)] := hl
  generalize ([] : List Loc) = locs at hT ⊢
  suffices key : ∀ H : Heap, Tv D cI cZ cS cR N0 s.heap H locs g → W p l e room_1 s m #[Value.ref b] below meth c H locs 0 0 (lw_Z below #[Value.ref b] s) (F0 m 0 ls []) from key s.heap hT
  clear hT
  intro H hT
  have hE : Ex g g := Ex.rf
  have hM : Sm mdA g g := sm_all
  refine t_new (ci := 6) (fs := [.null, .null, .null, .null, .null, .null, .int 0]) hB hT rfl (by decide) k_72 k_73 k_57 (fnew_6) (Nat.le_of_ble_eq_true rfl) (Nat.le_of_ble_eq_true rfl) dL_law_0 (fun q_1 H o_q_1 hT => ?_)
  have z_q_1 : g.1 q_1 = 0 := hE.z0 o_q_1
  have hI : Inv (sN g q_1 17 (vp_V [.null, .null, .null, .null, .null, .null, .int 0])) := hI.newo o_q_1 (fun _ => rfl) (fun _ => trivial) (fun _ _ => trivial)
  have hM : Sm mdA g (sN g q_1 17 (vp_V [.null, .null, .null, .null, .null, .null, .int 0])) := hM.tr hE (Sm.push o_q_1 sN_g)
  have hE : Ex g (sN g q_1 17 (vp_V [.null, .null, .null, .null, .null, .null, .int 0])) := hE.tr (Ex.push o_q_1 sN_g)
  have r_2 : (sN g q_1 17 (vp_V [.null, .null, .null, .null, .null, .null, .int 0])).1 q_1 = 17 := sN_r
  have kn_3 : (sN g q_1 17 (vp_V [.null, .null, .null, .null, .null, .null, .int 0])).2.1 q_1 0 = .null := sN_f
  have kn_4 : (sN g q_1 17 (vp_V [.null, .null, .null, .null, .null, .null, .int 0])).2.1 q_1 1 = .null := sN_f
  have kn_5 : (sN g q_1 17 (vp_V [.null, .null, .null, .null, .null, .null, .int 0])).2.1 q_1 2 = .null := sN_f
  have kn_6 : (sN g q_1 17 (vp_V [.null, .null, .null, .null, .null, .null, .int 0])).2.1 q_1 3 = .null := sN_f
  have kn_7 : (sN g q_1 17 (vp_V [.null, .null, .null, .null, .null, .null, .int 0])).2.1 q_1 4 = .null := sN_f
  have kn_8 : (sN g q_1 17 (vp_V [.null, .null, .null, .null, .null, .null, .int 0])).2.1 q_1 5 = .null := sN_f
  have kn_9 : (sN g q_1 17 (vp_V [.null, .null, .null, .null, .null, .null, .int 0])).2.1 q_1 6 = .int 0 := sN_f
  generalize (sN g q_1 17 (vp_V [.null, .null, .null, .null, .null, .null, .int 0])) = g_10 at hT hI hM hE r_2 kn_3 kn_4 kn_5 kn_6 kn_7 kn_8 kn_9
  refine W.widen (k := 1) (n := 7) (Nat.le_of_ble_eq_true rfl) (Nat.le_of_ble_eq_true rfl) ?_
  refine lv_dup hx hb dL_law_3 rfl ?_
  refine t_callI (n := 0) (As := []) (rest := [.ref q_1]) hB hT hl.1 (k_TwiceOnce l D cI cZ cS cR N0 g_10 hI q_1 r_2) k_76 k_57 k_74 k_75 rfl (by decide +kernel) ⟨(Nat.le_of_ble_eq_true rfl), (Nat.le_of_ble_eq_true rfl)⟩ rfl (Nat.le_of_ble_eq_true rfl) ⟨(by show _ ≤ _; first | exact Nat.le_of_ble_eq_true rfl | (simp only [room_1]; omega)), (by show _ ≤ _; first | exact Nat.le_of_ble_eq_true rfl | (simp only [room_1]; omega))⟩ dL_law_4 (fun v g_11 H locs hp hT => ?_)
  obtain ⟨rfl, hI, x_14, m_13, r_15, f_12⟩ := hp
  have hM : Sm mdA g g_11 := sm_all
  have hE : Ex g g_11 := hE.trx z_q_1 x_14
  have r_16 : g_11.1 q_1 = 7 := r_15
  refine W.eq (g2 := F0 m 7 ls [.ref q_1]) rfl ?_
  refine lv_astore_n (lv' := [(1, .ref q_1), (0, .ref b)]) hx hb dL_law_7 rfl hl (by decide) rfl (fun ls hl => ?_)
  refine t_new (ci := 7) (fs := [.int 0, .null, .null, .null, .null, .null, .null, .null, .null, .null, .null, .null, .null, .null, .null, .null, .null, .null, .null, .null, .null, .int 0, .int 0, .null, .int 0, .null, .null, .null, .null, .int 0, .int 0, .null, .null, .null, .int 0, .null, .int 0, .int 0, .int 0, .null, .null, .null, .null, .null, .null, .null, .null, .null, .null, .int 0, .int 0, .int 0, .int 0, .null, .null, .null, .null, .null, .null, .null, .int 0, .null, .null, .null, .null, .null, .null]) hB hT rfl (by decide) k_739 k_740 k_65 (fnew_7) (Nat.le_of_ble_eq_true rfl) (Nat.le_of_ble_eq_true rfl) dL_law_8 (fun q_17 H o_q_17 hT => ?_)
  have z_q_17 : g.1 q_17 = 0 := hE.z0 o_q_17
  have hI : Inv (sN g_11 q_17 18 (vp_V [.int 0, .null, .null, .null, .null, .null, .null, .null, .null, .null, .null, .null, .null, .null, .null, .null, .null, .null, .null, .null, .null, .int 0, .int 0, .null, .int 0, .null, .null, .null, .null, .int 0, .int 0, .null, .null, .null, .int 0, .null, .int 0, .int 0, .int 0, .null, .null, .null, .null, .null, .null, .null, .null, .null, .null, .int 0, .int 0, .int 0, .int 0, .null, .null, .null, .null, .null, .null, .null, .int 0, .null, .null, .null, .null, .null, .null])) := hI.newo o_q_17 (fun _ => rfl) (fun _ => trivial) (fun _ _ => trivial)
  have hM : Sm mdA g (sN g_11 q_17 18 (vp_V [.int 0, .null, .null, .null, .null, .null, .null, .null, .null, .null, .null, .null, .null, .null, .null, .null, .null, .null, .null, .null, .null, .int 0, .int 0, .null, .int 0, .null, .null, .null, .null, .int 0, .int 0, .null, .null, .null, .int 0, .null, .int 0, .int 0, .int 0, .null, .null, .null, .null, .null, .null, .null, .null, .null, .null, .int 0, .int 0, .int 0, .int 0, .null, .null, .null, .null, .null, .null, .null, .int 0, .null, .null, .null, .null, .null, .null])) := hM.tr hE (Sm.push o_q_17 sN_g)
  have hE : Ex g (sN g_11 q_17 18 (vp_V [.int 0, .null, .null, .null, .null, .null, .null, .null, .null, .null, .null, .null, .null, .null, .null, .null, .null, .null, .null, .null, .null, .int 0, .int 0, .null, .int 0, .null, .null, .null, .null, .int 0, .int 0, .null, .null, .null, .int 0, .null, .int 0, .int 0, .int 0, .null, .null, .null, .null, .null, .null, .null, .null, .null, .null, .int 0, .int 0, .int 0, .int 0, .null, .null, .null, .null, .null, .null, .null, .int 0, .null, .null, .null, .null, .null, .null])) := hE.tr (Ex.push o_q_17 sN_g)
  have r_18 : (sN g_11 q_17 18 (vp_V [.int 0, .null, .null, .null, .null, .null, .null, .null, .null, .null, .null, .null, .null, .null, .null, .null, .null, .null, .null, .null, .null, .int 0, .int 0, .null, .int 0, .null, .null, .null, .null, .int 0, .int 0, .null, .null, .null, .int 0, .null, .int 0, .int 0, .int 0, .null, .null, .null, .null, .null, .null, .null, .null, .null, .null, .int 0, .int 0, .int 0, .int 0, .null, .null, .null, .null, .null, .null, .null, .int 0, .null, .null, .null, .null, .null, .null])).1 q_1 = 7 := ((sN_g q_1 (ne0 r_16 o_q_17 (by decide))).1.trans r_16)
  have r_19 : (sN g_11 q_17 18 (vp_V [.int 0, .null, .null, .null, .null, .null, .null, .null, .null, .null, .null, .null, .null, .null, .null, .null, .null, .null, .null, .null, .null, .int 0, .int 0, .null, .int 0, .null, .null, .null, .null, .int 0, .int 0, .null, .null, .null, .int 0, .null, .int 0, .int 0, .int 0, .null, .null, .null, .null, .null, .null, .null, .null, .null, .null, .int 0, .int 0, .int 0, .int 0, .null, .null, .null, .null, .null, .null, .null, .int 0, .null, .null, .null, .null, .null, .null])).1 q_17 = 18 := sN_r
  have kn_20 : (sN g_11 q_17 18 (vp_V [.int 0, .null, .null, .null, .null, .null, .null, .null, .null, .null, .null, .null, .null, .null, .null, .null, .null, .null, .null, .null, .null, .int 0, .int 0, .null, .int 0, .null, .null, .null, .null, .int 0, .int 0, .null, .null, .null, .int 0, .null, .int 0, .int 0, .int 0, .null, .null, .null, .null, .null, .null, .null, .null, .null, .null, .int 0, .int 0, .int 0, .int 0, .null, .null, .null, .null, .null, .null, .null, .int 0, .null, .null, .null, .null, .null, .null])).2.1 q_1 6 = .int 0 := ((congrFun (sN_g q_1 (ne0 r_16 o_q_17 (by decide))).2.1 6).trans f_12)
  have kn_21 : (sN g_11 q_17 18 (vp_V [.int 0, .null, .null, .null, .null, .null, .null, .null, .null, .null, .null, .null, .null, .null, .null, .null, .null, .null, .null, .null, .null, .int 0, .int 0, .null, .int 0, .null, .null, .null, .null, .int 0, .int 0, .null, .null, .null, .int 0, .null, .int 0, .int 0, .int 0, .null, .null, .null, .null, .null, .null, .null, .null, .null, .null, .int 0, .int 0, .int 0, .int 0, .null, .null, .null, .null, .null, .null, .null, .int 0, .null, .null, .null, .null, .null, .null])).2.1 q_17 0 = .int 0 := sN_f
  have kn_22 : (sN g_11 q_17 18 (vp_V [.int 0, .null, .null, .null, .null, .null, .null, .null, .null, .null, .null, .null, .null, .null, .null, .null, .null, .null, .null, .null, .null, .int 0, .int 0, .null, .int 0, .null, .null, .null, .null, .int 0, .int 0, .null, .null, .null, .int 0, .null, .int 0, .int 0, .int 0, .null, .null, .null, .null, .null, .null, .null, .null, .null, .null, .int 0, .int 0, .int 0, .int 0, .null, .null, .null, .null, .null, .null, .null, .int 0, .null, .null, .null, .null, .null, .null])).2.1 q_17 21 = .int 0 := sN_f
  have kn_23 : (sN g_11 q_17 18 (vp_V [.int 0, .null, .null, .null, .null, .null, .null, .null, .null, .null, .null, .null, .null, .null, .null, .null, .null, .null, .null, .null, .null, .int 0, .int 0, .null, .int 0, .null, .null, .null, .null, .int 0, .int 0, .null, .null, .null, .int 0, .null, .int 0, .int 0, .int 0, .null, .null, .null, .null, .null, .null, .null, .null, .null, .null, .int 0, .int 0, .int 0, .int 0, .null, .null, .null, .null, .null, .null, .null, .int 0, .null, .null, .null, .null, .null, .null])).2.1 q_17 22 = .int 0 := sN_f
  have kn_24 : (sN g_11 q_17 18 (vp_V [.int 0, .null, .null, .null, .null, .null, .null, .null, .null, .null, .null, .null, .null, .null, .null, .null, .null, .null, .null, .null, .null, .int 0, .int 0, .null, .int 0, .null, .null, .null, .null, .int 0, .int 0, .null, .null, .null, .int 0, .null, .int 0, .int 0, .int 0, .null, .null, .null, .null, .null, .null, .null, .null, .null, .null, .int 0, .int 0, .int 0, .int 0, .null, .null, .null, .null, .null, .null, .null, .int 0, .null, .null, .null, .null, .null, .null])).2.1 q_17 24 = .int 0 := sN_f
  have kn_25 : (sN g_11 q_17 18 (vp_V [.int 0, .null, .null, .null, .null, .null, .null, .null, .null, .null, .null, .null, .null, .null, .null, .null, .null, .null, .null, .null, .null, .int 0, .int 0, .null, .int 0, .null, .null, .null, .null, .int 0, .int 0, .null, .null, .null, .int 0, .null, .int 0, .int 0, .int 0, .null, .null, .null, .null, .null, .null, .null, .null, .null, .null, .int 0, .int 0, .int 0, .int 0, .null, .null, .null, .null, .null, .null, .null, .int 0, .null, .null, .null, .null, .null, .null])).2.1 q_17 29 = .int 0 := sN_f
  have kn_26 : (sN g_11 q_17 18 (vp_V [.int 0, .null, .null, .null, .null, .null, .null, .null, .null, .null, .null, .null, .null, .null, .null, .null, .null, .null, .null, .null, .null, .int 0, .int 0, .null, .int 0, .null, .null, .null, .null, .int 0, .int 0, .null, .null, .null, .int 0, .null, .int 0, .int 0, .int 0, .null, .null, .null, .null, .null, .null, .null, .null, .null, .null, .int 0, .int 0, .int 0, .int 0, .null, .null, .null, .null, .null, .null, .null, .int 0, .null, .null, .null, .null, .null, .null])).2.1 q_17 30 = .int 0 := sN_f
  have kn_27 : (sN g_11 q_17 18 (vp_V [.int 0, .null, .null, .null, .null, .null, .null, .null, .null, .null, .null, .null, .null, .null, .null, .null, .null, .null, .null, .null, .null, .int 0, .int 0, .null, .int 0, .null, .null, .null, .null, .int 0, .int 0, .null, .null, .null, .int 0, .null, .int 0, .int 0, .int 0, .null, .null, .null, .null, .null, .null, .null, .null, .null, .null, .int 0, .int 0, .int 0, .int 0, .null, .null, .null, .null, .null, .null, .null, .int 0, .null, .null, .null, .null, .null, .null])).2.1 q_17 34 = .int 0 := sN_f
  have kn_28 : (sN g_11 q_17 18 (vp_V [.int 0, .null, .null, .null, .null, .null, .null, .null, .null, .null, .null, .null, .null, .null, .null, .null, .null, .null, .null, .null, .null, .int 0, .int 0, .null, .int 0, .null, .null, .null, .null, .int 0, .int 0, .null, .null, .null, .int 0, .null, .int 0, .int 0, .int 0, .null, .null, .null, .null, .null, .null, .null, .null, .null, .null, .int 0, .int 0, .int 0, .int 0, .null, .null, .null, .null, .null, .null, .null, .int 0, .null, .null, .null, .null, .null, .null])).2.1 q_17 36 = .int 0 := sN_f
  have kn_29 : (sN g_11 q_17 18 (vp_V [.int 0, .null, .null, .null, .null, .null, .null, .null, .null, .null, .null, .null, .null, .null, .null, .null, .null, .null, .null, .null, .null, .int 0, .int 0, .null, .int 0, .null, .null, .null, .null, .int 0, .int 0, .null, .null, .null, .int 0, .null, .int 0, .int 0, .int 0, .null, .null, .null, .null, .null, .null, .null, .null, .null, .null, .int 0, .int 0, .int 0, .int 0, .null, .null, .null, .null, .null, .null, .null, .int 0, .null, .null, .null, .null, .null, .null])).2.1 q_17 37 = .int 0 := sN_f
  have kn_30 : (sN g_11 q_17 18 (vp_V [.int 0, .null, .null, .null, .null, .null, .null, .null, .null, .null, .null, .null, .null, .null, .null, .null, .null, .null, .null, .null, .null, .int 0, .int 0, .null, .int 0, .null, .null, .null, .null, .int 0, .int 0, .null, .null, .null, .int 0, .null, .int 0, .int 0, .int 0, .null, .null, .null, .null, .null, .null, .null, .null, .null, .null, .int 0, .int 0, .int 0, .int 0, .null, .null, .null, .null, .null, .null, .null, .int 0, .null, .null, .null, .null, .null, .null])).2.1 q_17 38 = .int 0 := sN_f
  have kn_31 : (sN g_11 q_17 18 (vp_V [.int 0, .null, .null, .null, .null, .null, .null, .null, .null, .null, .null, .null, .null, .null, .null, .null, .null, .null, .null, .null, .null, .int 0, .int 0, .null, .int 0, .null, .null, .null, .null, .int 0, .int 0, .null, .null, .null, .int 0, .null, .int 0, .int 0, .int 0, .null, .null, .null, .null, .null, .null, .null, .null, .null, .null, .int 0, .int 0, .int 0, .int 0, .null, .null, .null, .null, .null, .null, .null, .int 0, .null, .null, .null, .null, .null, .null])).2.1 q_17 49 = .int 0 := sN_f
  have kn_32 : (sN g_11 q_17 18 (vp_V [.int 0, .null, .null, .null, .null, .null, .null, .null, .null, .null, .null, .null, .null, .null, .null, .null, .null, .null, .null, .null, .null, .int 0, .int 0, .null, .int 0, .null, .null, .null, .null, .int 0, .int 0, .null, .null, .null, .int 0, .null, .int 0, .int 0, .int 0, .null, .null, .null, .null, .null, .null, .null, .null, .null, .null, .int 0, .int 0, .int 0, .int 0, .null, .null, .null, .null, .null, .null, .null, .int 0, .null, .null, .null, .null, .null, .null])).2.1 q_17 50 = .int 0 := sN_f
  have kn_33 : (sN g_11 q_17 18 (vp_V [.int 0, .null, .null, .null, .null, .null, .null, .null, .null, .null, .null, .null, .null, .null, .null, .null, .null, .null, .null, .null, .null, .int 0, .int 0, .null, .int 0, .null, .null, .null, .null, .int 0, .int 0, .null, .null, .null, .int 0, .null, .int 0, .int 0, .int 0, .null, .null, .null, .null, .null, .null, .null, .null, .null, .null, .int 0, .int 0, .int 0, .int 0, .null, .null, .null, .null, .null, .null, .null, .int 0, .null, .null, .null, .null, .null, .null])).2.1 q_17 51 = .int 0 := sN_f
  have kn_34 : (sN g_11 q_17 18 (vp_V [.int 0, .null, .null, .null, .null, .null, .null, .null, .null, .null, .null, .null, .null, .null, .null, .null, .null, .null, .null, .null, .null, .int 0, .int 0, .null, .int 0, .null, .null, .null, .null, .int 0, .int 0, .null, .null, .null, .int 0, .null, .int 0, .int 0, .int 0, .null, .null, .null, .null, .null, .null, .null, .null, .null, .null, .int 0, .int 0, .int 0, .int 0, .null, .null, .null, .null, .null, .null, .null, .int 0, .null, .null, .null, .null, .null, .null])).2.1 q_17 52 = .int 0 := sN_f
  have kn_35 : (sN g_11 q_17 18 (vp_V [.int 0, .null, .null, .null, .null, .null, .null, .null, .null, .null, .null, .null, .null, .null, .null, .null, .null, .null, .null, .null, .null, .int 0, .int 0, .null, .int 0, .null, .null, .null, .null, .int 0, .int 0, .null, .null, .null, .int 0, .null, .int 0, .int 0, .int 0, .null, .null, .null, .null, .null, .null, .null, .null, .null, .null, .int 0, .int 0, .int 0, .int 0, .null, .null, .null, .null, .null, .null, .null, .int 0, .null, .null, .null, .null, .null, .null])).2.1 q_17 60 = .int 0 := sN_f
  obtain ⟨g_36, hg_g_36⟩ : ∃ g_ : GS, g_ = (sN g_11 q_17 18 (vp_V [.int 0, .null, .null, .null, .null, .null, .null, .null, .null, .null, .null, .null, .null, .null, .null, .null, .null, .null, .null, .null, .null, .int 0, .int 0, .null, .int 0, .null, .null, .null, .null, .int 0, .int 0, .null, .null, .null, .int 0, .null, .int 0, .int 0, .int 0, .null, .null, .null, .null, .null, .null, .null, .null, .null, .null, .int 0, .int 0, .int 0, .int 0, .null, .null, .null, .null, .null, .null, .null, .int 0, .null, .null, .null, .null, .null, .null])) := ⟨_, rfl⟩
  rw [← hg_g_36] at hT
  rw [← hg_g_36] at hI
  rw [← hg_g_36] at hM
  rw [← hg_g_36] at hE
  rw [← hg_g_36] at r_18
  rw [← hg_g_36] at r_19
  rw [← hg_g_36] at kn_20
  rw [← hg_g_36] at kn_21
  rw [← hg_g_36] at kn_22
  rw [← hg_g_36] at kn_23
  rw [← hg_g_36] at kn_24
  rw [← hg_g_36] at kn_25
  rw [← hg_g_36] at kn_26
  rw [← hg_g_36] at kn_27
  rw [← hg_g_36] at kn_28
  rw [← hg_g_36] at kn_29
  rw [← hg_g_36] at kn_30
  rw [← hg_g_36] at kn_31
  rw [← hg_g_36] at kn_32
  rw [← hg_g_36] at kn_33
  rw [← hg_g_36] at kn_34
  rw [← hg_g_36] at kn_35
  clear hg_g_36
  refine W.widen (k := 345) (n := 13607) (Nat.le_of_ble_eq_true rfl) (Nat.le_of_ble_eq_true rfl) ?_
  refine lv_dup hx hb dL_law_11 rfl ?_
  refine t_callI (n := 0) (As := []) (rest := [.ref q_17]) hB hT hl.1 (k_Model l D cI cZ cS cR N0 g_36 hI q_17 r_19 kn_21 kn_22 kn_23 kn_24 kn_25 kn_26 kn_27 kn_28 kn_29 kn_30 kn_31 kn_32 kn_33 kn_34 kn_35) k_743 k_65 k_741 k_742 rfl (by decide +kernel) ⟨(Nat.le_of_ble_eq_true rfl), (Nat.le_of_ble_eq_true rfl)⟩ rfl (Nat.le_of_ble_eq_true rfl) ⟨(by show _ ≤ _; first | exact Nat.le_of_ble_eq_true rfl | (simp only [room_1]; omega)), (by show _ ≤ _; first | exact Nat.le_of_ble_eq_true rfl | (simp only [room_1]; omega))⟩ dL_law_12 (fun v g_37 H locs hp hT => ?_)
  obtain ⟨rfl, hI, x_43, m_42, r_44, f_38, f_39, f_40, f_41⟩ := hp
  have hM : Sm mdA g g_37 := sm_all
  have hE : Ex g g_37 := hE.trx z_q_17 x_43
  have r_45 : g_37.1 q_1 = 7 := (Exx.r x_43 r_18 (by decide) (ro_ne r_18 r_19 (by decide)))
  have r_46 : g_37.1 q_17 = 8 := r_44
  have kn_47 : g_37.2.1 q_1 6 = .int 0 := (Sm.v m_42 r_18 (by decide) rfl kn_20)
  have kn_48 : g_37.2.1 q_17 0 = .int 0 := (Sm.v m_42 r_19 (by decide) rfl kn_21)
  have kn_49 : g_37.2.1 q_17 21 = .int 0 := (Sm.v m_42 r_19 (by decide) rfl kn_22)
  have kn_50 : g_37.2.1 q_17 22 = .int 0 := (Sm.v m_42 r_19 (by decide) rfl kn_23)
  have kn_51 : g_37.2.1 q_17 24 = .int 0 := (Sm.v m_42 r_19 (by decide) rfl kn_24)
  have kn_52 : g_37.2.1 q_17 29 = .int 0 := (Sm.v m_42 r_19 (by decide) rfl kn_25)
  have kn_53 : g_37.2.1 q_17 30 = .int 0 := (Sm.v m_42 r_19 (by decide) rfl kn_26)
  have kn_54 : g_37.2.1 q_17 34 = .int 0 := (Sm.v m_42 r_19 (by decide) rfl kn_27)
  have kn_55 : g_37.2.1 q_17 36 = .int 0 := (Sm.v m_42 r_19 (by decide) rfl kn_28)
  have kn_56 : g_37.2.1 q_17 37 = .int 0 := (Sm.v m_42 r_19 (by decide) rfl kn_29)
  have kn_57 : g_37.2.1 q_17 38 = .int 0 := (Sm.v m_42 r_19 (by decide) rfl kn_30)
  have kn_58 : g_37.2.1 q_17 49 = .int 0 := (Sm.v m_42 r_19 (by decide) rfl kn_31)
  have kn_59 : g_37.2.1 q_17 50 = .int 0 := (Sm.v m_42 r_19 (by decide) rfl kn_32)
  have kn_60 : g_37.2.1 q_17 51 = .int 0 := (Sm.v m_42 r_19 (by decide) rfl kn_33)
  have kn_61 : g_37.2.1 q_17 52 = .int 0 := (Sm.v m_42 r_19 (by decide) rfl kn_34)
  have kn_62 : g_37.2.1 q_17 60 = .int 0 := (Sm.v m_42 r_19 (by decide) rfl kn_35)
  refine W.eq (g2 := F0 m 15 ls [.ref q_17]) rfl ?_
  have hw := f_38
  have hN0 := f_39
  refine lv_astore_n (lv' := [(2, .ref q_17), (1, .ref q_1), (0, .ref b)]) hx hb dL_law_15 rfl hl (by decide) rfl (fun ls hl => ?_)
  refine lv_iconst (v := 0) hx hb dL_law_16 (by decide) ?_
  refine lv_istore_n (lv' := [(3, .int 0), (2, .ref q_17), (1, .ref q_1), (0, .ref b)]) hx hb dL_law_17 rfl hl (by decide) rfl (fun ls hl => ?_)
  exact law_loop hB hAs hX hbl hL hr q_1 q_17 512 397 43468 g_37 0 0 0 H locs ls hT hI r_45 r_46 kn_47 f_41 (by decide) (by decide) f_40 (by decide) (by decide) hw hN0 (by decide) (by decide) (by have e0_ : (0 : Int32).toInt = 0 := (by decide); omega) (by omega) (by omega) (lv_sub hl [0, 1, 2, 3] rfl)
