theorem k_72 : Cond.classLink RL 7 RX6 ∈ tb := mt 72 (by decide +kernel) rfl
theorem k_74 : Cond.methodLink RL 9 yX6_init ∈ tb := mt 74 (by decide +kernel) rfl
theorem k_75 : Cond.instanceMethod yX6_init ∈ tb := mt 75 (by decide +kernel) rfl
set_option maxRecDepth 20000 in
theorem k_76 : Cond.code yX6_init cX6_init 2 none ∈ tb := mt 76 rfl rfl
theorem k_739 : Cond.classLink RL 10 RX7 ∈ tb := mt 739 (by decide +kernel) rfl
theorem k_741 : Cond.methodLink RL 12 yX7_init ∈ tb := mt 741 (by decide +kernel) rfl
theorem k_742 : Cond.instanceMethod yX7_init ∈ tb := mt 742 (by decide +kernel) rfl
set_option maxRecDepth 20000 in
theorem k_743 : Cond.code yX7_init cX7_init 1 none ∈ tb := mt 743 rfl rfl
theorem dL_law_0 : decode cL_law 0 = .ok (.new 7, 3) := by decide +kernel
theorem dL_law_3 : decode cL_law 3 = .ok (.dup, 1) := by decide +kernel
theorem dL_law_4 : decode cL_law 4 = .ok (.invokespecial 9, 3) := by decide +kernel
theorem dL_law_7 : decode cL_law 7 = .ok (.astore_n 1, 1) := by decide +kernel
theorem dL_law_8 : decode cL_law 8 = .ok (.new 10, 3) := by decide +kernel
theorem dL_law_11 : decode cL_law 11 = .ok (.dup, 1) := by decide +kernel
theorem dL_law_12 : decode cL_law 12 = .ok (.invokespecial 12, 3) := by decide +kernel
theorem dL_law_15 : decode cL_law 15 = .ok (.astore_n 2, 1) := by decide +kernel
theorem dL_law_16 : decode cL_law 16 = .ok (.iconst 0, 1) := by decide +kernel
theorem dL_law_17 : decode cL_law 17 = .ok (.istore_n 3, 1) := by decide +kernel
set_option maxHeartbeats 4000000 in
set_option maxRecDepth 100000 in
theorem whole_start {p : Program} {e : Env} {s : State} {m : MethodId} {below : List Frame} {meth : Method} {c : Code} (l : Launch) {b L : Nat} {xs : Nat → Int32} (hL : L ≤ 2560) (C0 : lw_At p s m meth c b L xs) : W p l e room_1 s m #[Value.ref b] below meth c s.heap [] 0 0 (lw_Z below #[Value.ref b] s) (entryFrame m ([Value.ref b] : List Value).toArray 4) := by
  obtain ⟨D, cI, cZ, cS, cR, N0, hAs, hB⟩ := st_facts C0
  obtain ⟨hx, hb, hr, hml, hown, hts, hX, hbl, hlocks, hgv⟩ := id C0
  obtain ⟨g, hg⟩ : ∃ g : GS, g = g00 := ⟨_, rfl⟩
  have hT : Tv D cI cZ cS cR N0 s.heap s.heap [] g := by rw [hg]; exact ⟨th00, va_S.rf⟩
  have hI : Inv g := by rw [hg]; exact inv00
  clear hg
  have hl := lv_entry ([.ref b]) (n := 4) (Nat.le_of_ble_eq_true rfl)
  rw [lg_entry_eq]
  generalize (lg_sl ([.ref b]) ++ List.replicate (4 - (lg_sl ([.ref b])).length) Slot.unset).toArray = ls at hl ⊢
  have hl : lv_has ls 4 [(0, .ref b)] := hl
  generalize ([] : List Loc) = locs at hT ⊢
  suffices key : ∀ H : Heap, Tv D cI cZ cS cR N0 s.heap H locs g → W p l e room_1 s m #[Value.ref b] below meth c H locs 0 0 (lw_Z below #[Value.ref b] s) (F0 m 0 ls []) from key s.heap hT
  clear hT
  intro H hT
  have hE : Ex g g := Ex.rf
  have hM : Sm mdA g g := sm_all
  refine t_new (ci := 6) (fs := [.null, .null, .null, .null, .null, .null, .int 0]) hB hT rfl (by decide) k_72 k_73 k_57 (fnew_6) (Nat.le_of_ble_eq_true rfl) (Nat.le_of_ble_eq_true rfl) dL_law_0 (fun q_1 H o_q_1 hT => ?_)
  have z_q_1 : g.1 q_1 = 0 := hE.z0 o_q_1
  have hI : Inv (sN g q_1 17 (vp_V [.null, .null, .null, .null, .null, .null, .int 0])) := hI.newo o_q_1 (fun _ => rfl) (fun _ => trivial) (fun _ _ => trivial)
  have hM : Sm mdA g (sN g q_1 17 (vp_V [.null, .null, .null, .null, .null, .null, .int 0])) := hM.tr hE (Sm.push o_q_1 sN_g)
  have hE : Ex g (sN g q_1 17 (vp_V [.null, .null, .null, .null, .null, .null, .int 0])) := hE.tr (Ex.push o_q_1 sN_g)
  have r_2 : (sN g q_1 17 (vp_V [.null, .null, .null, .null, .null, .null, .int 0])).1 q_1 = 17 := sN_r
  have kn_3 : (sN g q_1 17 (vp_V [.null, .null, .null, .null, .null, .null, .int 0])).2.1 q_1 0 = .null := sN_f
  have kn_4 : (sN g q_1 17 (vp_V [.null, .null, .null, .null, .null, .null, .int 0])).2.1 q_1 1 = .null := sN_f
  have kn_5 : (sN g q_1 17 (vp_V [.null, .null, .null, .null, .null, .null, .int 0])).2.1 q_1 2 = .null := sN_f
  have kn_6 : (sN g q_1 17 (vp_V [.null, .null, .null, .null, .null, .null, .int 0])).2.1 q_1 3 = .null := sN_f
  have kn_7 : (sN g q_1 17 (vp_V [.null, .null, .null, .null, .null, .null, .int 0])).2.1 q_1 4 = .null := sN_f
  have kn_8 : (sN g q_1 17 (vp_V [.null, .null, .null, .null, .null, .null, .int 0])).2.1 q_1 5 = .null := sN_f
  have kn_9 : (sN g q_1 17 (vp_V [.null, .null, .null, .null, .null, .null, .int 0])).2.1 q_1 6 = .int 0 := sN_f
  generalize (sN g q_1 17 (vp_V [.null, .null, .null, .null, .null, .null, .int 0])) = g_10 at hT hI hM hE r_2 kn_3 kn_4 kn_5 kn_6 kn_7 kn_8 kn_9
  refine W.widen (k := 1) (n := 7) (Nat.le_of_ble_eq_true rfl) (Nat.le_of_ble_eq_true rfl) ?_
  refine lv_dup hx hb dL_law_3 rfl ?_
  refine t_callI (n := 0) (As := []) (rest := [.ref q_1]) hB hT hl.1 (k_TwiceOnce l D cI cZ cS cR N0 g_10 hI q_1 r_2) k_76 k_57 k_74 k_75 rfl (by decide +kernel) ⟨(Nat.le_of_ble_eq_true rfl), (Nat.le_of_ble_eq_true rfl)⟩ rfl (Nat.le_of_ble_eq_true rfl) ⟨(by show _ ≤ _; first | exact Nat.le_of_ble_eq_true rfl | (simp only [room_1]; omega)), (by show _ ≤ _; first | exact Nat.le_of_ble_eq_true rfl | (simp only [room_1]; omega))⟩ dL_law_4 (fun v g_11 H locs hp hT => ?_)
  obtain ⟨rfl, hI, x_15, m_14, r_16, f_12, f_13⟩ := hp
  have hM : Sm mdA g g_11 := sm_all
  have hE : Ex g g_11 := hE.trx z_q_1 x_15
  have r_17 : g_11.1 q_1 = 7 := r_16
  refine W.eq (g2 := F0 m 7 ls [.ref q_1]) rfl ?_
  obtain ⟨pa, k5, r_pa, n_pa, c_pa⟩ := f_13
  have c_pa0 : g_11.2.2.2.1 pa (0 : Int32).toNatClampNeg = 1 := c_pa 0 (by decide)
  have c_pa1 : g_11.2.2.2.1 pa (1 : Int32).toNatClampNeg = 1 := c_pa 1 (by decide)
  have c_pa2 : g_11.2.2.2.1 pa (2 : Int32).toNatClampNeg = 1 := c_pa 2 (by decide)
  have c_pa3 : g_11.2.2.2.1 pa (3 : Int32).toNatClampNeg = 1 := c_pa 3 (by decide)
  refine lv_astore_n (lv' := [(1, .ref q_1), (0, .ref b)]) hx hb dL_law_7 rfl hl (by decide) rfl (fun ls hl => ?_)
  refine t_new (ci := 7) (fs := [.int 0, .null, .null, .null, .null, .null, .null, .null, .null, .null, .null, .null, .null, .null, .null, .null, .null, .null, .null, .null, .null, .int 0, .int 0, .null, .int 0, .null, .null, .null, .null, .int 0, .int 0, .null, .null, .null, .int 0, .null, .int 0, .int 0, .int 0, .null, .null, .null, .null, .null, .null, .null, .null, .null, .null, .int 0, .int 0, .int 0, .int 0, .null, .null, .null, .null, .null, .null, .null, .int 0, .null, .null, .null, .null, .null, .null]) hB hT rfl (by decide) k_739 k_740 k_65 (fnew_7) (Nat.le_of_ble_eq_true rfl) (Nat.le_of_ble_eq_true rfl) dL_law_8 (fun q_18 H o_q_18 hT => ?_)
  have z_q_18 : g.1 q_18 = 0 := hE.z0 o_q_18
  have hI : Inv (sN g_11 q_18 18 (vp_V [.int 0, .null, .null, .null, .null, .null, .null, .null, .null, .null, .null, .null, .null, .null, .null, .null, .null, .null, .null, .null, .null, .int 0, .int 0, .null, .int 0, .null, .null, .null, .null, .int 0, .int 0, .null, .null, .null, .int 0, .null, .int 0, .int 0, .int 0, .null, .null, .null, .null, .null, .null, .null, .null, .null, .null, .int 0, .int 0, .int 0, .int 0, .null, .null, .null, .null, .null, .null, .null, .int 0, .null, .null, .null, .null, .null, .null])) := hI.newo o_q_18 (fun _ => rfl) (fun _ => trivial) (fun _ _ => trivial)
  have hM : Sm mdA g (sN g_11 q_18 18 (vp_V [.int 0, .null, .null, .null, .null, .null, .null, .null, .null, .null, .null, .null, .null, .null, .null, .null, .null, .null, .null, .null, .null, .int 0, .int 0, .null, .int 0, .null, .null, .null, .null, .int 0, .int 0, .null, .null, .null, .int 0, .null, .int 0, .int 0, .int 0, .null, .null, .null, .null, .null, .null, .null, .null, .null, .null, .int 0, .int 0, .int 0, .int 0, .null, .null, .null, .null, .null, .null, .null, .int 0, .null, .null, .null, .null, .null, .null])) := hM.tr hE (Sm.push o_q_18 sN_g)
  have hE : Ex g (sN g_11 q_18 18 (vp_V [.int 0, .null, .null, .null, .null, .null, .null, .null, .null, .null, .null, .null, .null, .null, .null, .null, .null, .null, .null, .null, .null, .int 0, .int 0, .null, .int 0, .null, .null, .null, .null, .int 0, .int 0, .null, .null, .null, .int 0, .null, .int 0, .int 0, .int 0, .null, .null, .null, .null, .null, .null, .null, .null, .null, .null, .int 0, .int 0, .int 0, .int 0, .null, .null, .null, .null, .null, .null, .null, .int 0, .null, .null, .null, .null, .null, .null])) := hE.tr (Ex.push o_q_18 sN_g)
  have r_19 : (sN g_11 q_18 18 (vp_V [.int 0, .null, .null, .null, .null, .null, .null, .null, .null, .null, .null, .null, .null, .null, .null, .null, .null, .null, .null, .null, .null, .int 0, .int 0, .null, .int 0, .null, .null, .null, .null, .int 0, .int 0, .null, .null, .null, .int 0, .null, .int 0, .int 0, .int 0, .null, .null, .null, .null, .null, .null, .null, .null, .null, .null, .int 0, .int 0, .int 0, .int 0, .null, .null, .null, .null, .null, .null, .null, .int 0, .null, .null, .null, .null, .null, .null])).1 q_1 = 7 := ((sN_g q_1 (ne0 r_17 o_q_18 (by decide))).1.trans r_17)
  have r_20 : (sN g_11 q_18 18 (vp_V [.int 0, .null, .null, .null, .null, .null, .null, .null, .null, .null, .null, .null, .null, .null, .null, .null, .null, .null, .null, .null, .null, .int 0, .int 0, .null, .int 0, .null, .null, .null, .null, .int 0, .int 0, .null, .null, .null, .int 0, .null, .int 0, .int 0, .int 0, .null, .null, .null, .null, .null, .null, .null, .null, .null, .null, .int 0, .int 0, .int 0, .int 0, .null, .null, .null, .null, .null, .null, .null, .int 0, .null, .null, .null, .null, .null, .null])).1 pa = 60 := ((sN_g pa (ne0 r_pa o_q_18 (by decide))).1.trans r_pa)
  have r_21 : (sN g_11 q_18 18 (vp_V [.int 0, .null, .null, .null, .null, .null, .null, .null, .null, .null, .null, .null, .null, .null, .null, .null, .null, .null, .null, .null, .null, .int 0, .int 0, .null, .int 0, .null, .null, .null, .null, .int 0, .int 0, .null, .null, .null, .int 0, .null, .int 0, .int 0, .int 0, .null, .null, .null, .null, .null, .null, .null, .null, .null, .null, .int 0, .int 0, .int 0, .int 0, .null, .null, .null, .null, .null, .null, .null, .int 0, .null, .null, .null, .null, .null, .null])).1 q_18 = 18 := sN_r
  have n_22 : (sN g_11 q_18 18 (vp_V [.int 0, .null, .null, .null, .null, .null, .null, .null, .null, .null, .null, .null, .null, .null, .null, .null, .null, .null, .null, .null, .null, .int 0, .int 0, .null, .int 0, .null, .null, .null, .null, .int 0, .int 0, .null, .null, .null, .int 0, .null, .int 0, .int 0, .int 0, .null, .null, .null, .null, .null, .null, .null, .null, .null, .null, .int 0, .int 0, .int 0, .int 0, .null, .null, .null, .null, .null, .null, .null, .int 0, .null, .null, .null, .null, .null, .null])).2.2.1 pa = 4 := ((sN_g pa (ne0 r_pa o_q_18 (by decide))).2.2.1.trans n_pa)
  have kn_23 : (sN g_11 q_18 18 (vp_V [.int 0, .null, .null, .null, .null, .null, .null, .null, .null, .null, .null, .null, .null, .null, .null, .null, .null, .null, .null, .null, .null, .int 0, .int 0, .null, .int 0, .null, .null, .null, .null, .int 0, .int 0, .null, .null, .null, .int 0, .null, .int 0, .int 0, .int 0, .null, .null, .null, .null, .null, .null, .null, .null, .null, .null, .int 0, .int 0, .int 0, .int 0, .null, .null, .null, .null, .null, .null, .null, .int 0, .null, .null, .null, .null, .null, .null])).2.1 q_1 6 = .int 0 := ((congrFun (sN_g q_1 (ne0 r_17 o_q_18 (by decide))).2.1 6).trans f_12)
  have kn_24 : (sN g_11 q_18 18 (vp_V [.int 0, .null, .null, .null, .null, .null, .null, .null, .null, .null, .null, .null, .null, .null, .null, .null, .null, .null, .null, .null, .null, .int 0, .int 0, .null, .int 0, .null, .null, .null, .null, .int 0, .int 0, .null, .null, .null, .int 0, .null, .int 0, .int 0, .int 0, .null, .null, .null, .null, .null, .null, .null, .null, .null, .null, .int 0, .int 0, .int 0, .int 0, .null, .null, .null, .null, .null, .null, .null, .int 0, .null, .null, .null, .null, .null, .null])).2.1 q_1 5 = .ref pa := ((congrFun (sN_g q_1 (ne0 r_17 o_q_18 (by decide))).2.1 5).trans k5)
  have kn_25 : (sN g_11 q_18 18 (vp_V [.int 0, .null, .null, .null, .null, .null, .null, .null, .null, .null, .null, .null, .null, .null, .null, .null, .null, .null, .null, .null, .null, .int 0, .int 0, .null, .int 0, .null, .null, .null, .null, .int 0, .int 0, .null, .null, .null, .int 0, .null, .int 0, .int 0, .int 0, .null, .null, .null, .null, .null, .null, .null, .null, .null, .null, .int 0, .int 0, .int 0, .int 0, .null, .null, .null, .null, .null, .null, .null, .int 0, .null, .null, .null, .null, .null, .null])).2.1 q_18 0 = .int 0 := sN_f
  have kn_26 : (sN g_11 q_18 18 (vp_V [.int 0, .null, .null, .null, .null, .null, .null, .null, .null, .null, .null, .null, .null, .null, .null, .null, .null, .null, .null, .null, .null, .int 0, .int 0, .null, .int 0, .null, .null, .null, .null, .int 0, .int 0, .null, .null, .null, .int 0, .null, .int 0, .int 0, .int 0, .null, .null, .null, .null, .null, .null, .null, .null, .null, .null, .int 0, .int 0, .int 0, .int 0, .null, .null, .null, .null, .null, .null, .null, .int 0, .null, .null, .null, .null, .null, .null])).2.1 q_18 21 = .int 0 := sN_f
  have kn_27 : (sN g_11 q_18 18 (vp_V [.int 0, .null, .null, .null, .null, .null, .null, .null, .null, .null, .null, .null, .null, .null, .null, .null, .null, .null, .null, .null, .null, .int 0, .int 0, .null, .int 0, .null, .null, .null, .null, .int 0, .int 0, .null, .null, .null, .int 0, .null, .int 0, .int 0, .int 0, .null, .null, .null, .null, .null, .null, .null, .null, .null, .null, .int 0, .int 0, .int 0, .int 0, .null, .null, .null, .null, .null, .null, .null, .int 0, .null, .null, .null, .null, .null, .null])).2.1 q_18 22 = .int 0 := sN_f
  have kn_28 : (sN g_11 q_18 18 (vp_V [.int 0, .null, .null, .null, .null, .null, .null, .null, .null, .null, .null, .null, .null, .null, .null, .null, .null, .null, .null, .null, .null, .int 0, .int 0, .null, .int 0, .null, .null, .null, .null, .int 0, .int 0, .null, .null, .null, .int 0, .null, .int 0, .int 0, .int 0, .null, .null, .null, .null, .null, .null, .null, .null, .null, .null, .int 0, .int 0, .int 0, .int 0, .null, .null, .null, .null, .null, .null, .null, .int 0, .null, .null, .null, .null, .null, .null])).2.1 q_18 24 = .int 0 := sN_f
  have kn_29 : (sN g_11 q_18 18 (vp_V [.int 0, .null, .null, .null, .null, .null, .null, .null, .null, .null, .null, .null, .null, .null, .null, .null, .null, .null, .null, .null, .null, .int 0, .int 0, .null, .int 0, .null, .null, .null, .null, .int 0, .int 0, .null, .null, .null, .int 0, .null, .int 0, .int 0, .int 0, .null, .null, .null, .null, .null, .null, .null, .null, .null, .null, .int 0, .int 0, .int 0, .int 0, .null, .null, .null, .null, .null, .null, .null, .int 0, .null, .null, .null, .null, .null, .null])).2.1 q_18 29 = .int 0 := sN_f
  have kn_30 : (sN g_11 q_18 18 (vp_V [.int 0, .null, .null, .null, .null, .null, .null, .null, .null, .null, .null, .null, .null, .null, .null, .null, .null, .null, .null, .null, .null, .int 0, .int 0, .null, .int 0, .null, .null, .null, .null, .int 0, .int 0, .null, .null, .null, .int 0, .null, .int 0, .int 0, .int 0, .null, .null, .null, .null, .null, .null, .null, .null, .null, .null, .int 0, .int 0, .int 0, .int 0, .null, .null, .null, .null, .null, .null, .null, .int 0, .null, .null, .null, .null, .null, .null])).2.1 q_18 30 = .int 0 := sN_f
  have kn_31 : (sN g_11 q_18 18 (vp_V [.int 0, .null, .null, .null, .null, .null, .null, .null, .null, .null, .null, .null, .null, .null, .null, .null, .null, .null, .null, .null, .null, .int 0, .int 0, .null, .int 0, .null, .null, .null, .null, .int 0, .int 0, .null, .null, .null, .int 0, .null, .int 0, .int 0, .int 0, .null, .null, .null, .null, .null, .null, .null, .null, .null, .null, .int 0, .int 0, .int 0, .int 0, .null, .null, .null, .null, .null, .null, .null, .int 0, .null, .null, .null, .null, .null, .null])).2.1 q_18 34 = .int 0 := sN_f
  have kn_32 : (sN g_11 q_18 18 (vp_V [.int 0, .null, .null, .null, .null, .null, .null, .null, .null, .null, .null, .null, .null, .null, .null, .null, .null, .null, .null, .null, .null, .int 0, .int 0, .null, .int 0, .null, .null, .null, .null, .int 0, .int 0, .null, .null, .null, .int 0, .null, .int 0, .int 0, .int 0, .null, .null, .null, .null, .null, .null, .null, .null, .null, .null, .int 0, .int 0, .int 0, .int 0, .null, .null, .null, .null, .null, .null, .null, .int 0, .null, .null, .null, .null, .null, .null])).2.1 q_18 36 = .int 0 := sN_f
  have kn_33 : (sN g_11 q_18 18 (vp_V [.int 0, .null, .null, .null, .null, .null, .null, .null, .null, .null, .null, .null, .null, .null, .null, .null, .null, .null, .null, .null, .null, .int 0, .int 0, .null, .int 0, .null, .null, .null, .null, .int 0, .int 0, .null, .null, .null, .int 0, .null, .int 0, .int 0, .int 0, .null, .null, .null, .null, .null, .null, .null, .null, .null, .null, .int 0, .int 0, .int 0, .int 0, .null, .null, .null, .null, .null, .null, .null, .int 0, .null, .null, .null, .null, .null, .null])).2.1 q_18 37 = .int 0 := sN_f
  have kn_34 : (sN g_11 q_18 18 (vp_V [.int 0, .null, .null, .null, .null, .null, .null, .null, .null, .null, .null, .null, .null, .null, .null, .null, .null, .null, .null, .null, .null, .int 0, .int 0, .null, .int 0, .null, .null, .null, .null, .int 0, .int 0, .null, .null, .null, .int 0, .null, .int 0, .int 0, .int 0, .null, .null, .null, .null, .null, .null, .null, .null, .null, .null, .int 0, .int 0, .int 0, .int 0, .null, .null, .null, .null, .null, .null, .null, .int 0, .null, .null, .null, .null, .null, .null])).2.1 q_18 38 = .int 0 := sN_f
  have kn_35 : (sN g_11 q_18 18 (vp_V [.int 0, .null, .null, .null, .null, .null, .null, .null, .null, .null, .null, .null, .null, .null, .null, .null, .null, .null, .null, .null, .null, .int 0, .int 0, .null, .int 0, .null, .null, .null, .null, .int 0, .int 0, .null, .null, .null, .int 0, .null, .int 0, .int 0, .int 0, .null, .null, .null, .null, .null, .null, .null, .null, .null, .null, .int 0, .int 0, .int 0, .int 0, .null, .null, .null, .null, .null, .null, .null, .int 0, .null, .null, .null, .null, .null, .null])).2.1 q_18 49 = .int 0 := sN_f
  have kn_36 : (sN g_11 q_18 18 (vp_V [.int 0, .null, .null, .null, .null, .null, .null, .null, .null, .null, .null, .null, .null, .null, .null, .null, .null, .null, .null, .null, .null, .int 0, .int 0, .null, .int 0, .null, .null, .null, .null, .int 0, .int 0, .null, .null, .null, .int 0, .null, .int 0, .int 0, .int 0, .null, .null, .null, .null, .null, .null, .null, .null, .null, .null, .int 0, .int 0, .int 0, .int 0, .null, .null, .null, .null, .null, .null, .null, .int 0, .null, .null, .null, .null, .null, .null])).2.1 q_18 50 = .int 0 := sN_f
  have kn_37 : (sN g_11 q_18 18 (vp_V [.int 0, .null, .null, .null, .null, .null, .null, .null, .null, .null, .null, .null, .null, .null, .null, .null, .null, .null, .null, .null, .null, .int 0, .int 0, .null, .int 0, .null, .null, .null, .null, .int 0, .int 0, .null, .null, .null, .int 0, .null, .int 0, .int 0, .int 0, .null, .null, .null, .null, .null, .null, .null, .null, .null, .null, .int 0, .int 0, .int 0, .int 0, .null, .null, .null, .null, .null, .null, .null, .int 0, .null, .null, .null, .null, .null, .null])).2.1 q_18 51 = .int 0 := sN_f
  have kn_38 : (sN g_11 q_18 18 (vp_V [.int 0, .null, .null, .null, .null, .null, .null, .null, .null, .null, .null, .null, .null, .null, .null, .null, .null, .null, .null, .null, .null, .int 0, .int 0, .null, .int 0, .null, .null, .null, .null, .int 0, .int 0, .null, .null, .null, .int 0, .null, .int 0, .int 0, .int 0, .null, .null, .null, .null, .null, .null, .null, .null, .null, .null, .int 0, .int 0, .int 0, .int 0, .null, .null, .null, .null, .null, .null, .null, .int 0, .null, .null, .null, .null, .null, .null])).2.1 q_18 52 = .int 0 := sN_f
  have kn_39 : (sN g_11 q_18 18 (vp_V [.int 0, .null, .null, .null, .null, .null, .null, .null, .null, .null, .null, .null, .null, .null, .null, .null, .null, .null, .null, .null, .null, .int 0, .int 0, .null, .int 0, .null, .null, .null, .null, .int 0, .int 0, .null, .null, .null, .int 0, .null, .int 0, .int 0, .int 0, .null, .null, .null, .null, .null, .null, .null, .null, .null, .null, .int 0, .int 0, .int 0, .int 0, .null, .null, .null, .null, .null, .null, .null, .int 0, .null, .null, .null, .null, .null, .null])).2.1 q_18 60 = .int 0 := sN_f
  have kn_40 : (sN g_11 q_18 18 (vp_V [.int 0, .null, .null, .null, .null, .null, .null, .null, .null, .null, .null, .null, .null, .null, .null, .null, .null, .null, .null, .null, .null, .int 0, .int 0, .null, .int 0, .null, .null, .null, .null, .int 0, .int 0, .null, .null, .null, .int 0, .null, .int 0, .int 0, .int 0, .null, .null, .null, .null, .null, .null, .null, .null, .null, .null, .int 0, .int 0, .int 0, .int 0, .null, .null, .null, .null, .null, .null, .null, .int 0, .null, .null, .null, .null, .null, .null])).2.2.2.1 pa (0 : Int32).toNatClampNeg = 1 := ((congrFun (sN_g pa (ne0 r_pa o_q_18 (by decide))).2.2.2.1 _).trans c_pa0)
  have kn_41 : (sN g_11 q_18 18 (vp_V [.int 0, .null, .null, .null, .null, .null, .null, .null, .null, .null, .null, .null, .null, .null, .null, .null, .null, .null, .null, .null, .null, .int 0, .int 0, .null, .int 0, .null, .null, .null, .null, .int 0, .int 0, .null, .null, .null, .int 0, .null, .int 0, .int 0, .int 0, .null, .null, .null, .null, .null, .null, .null, .null, .null, .null, .int 0, .int 0, .int 0, .int 0, .null, .null, .null, .null, .null, .null, .null, .int 0, .null, .null, .null, .null, .null, .null])).2.2.2.1 pa (1 : Int32).toNatClampNeg = 1 := ((congrFun (sN_g pa (ne0 r_pa o_q_18 (by decide))).2.2.2.1 _).trans c_pa1)
  have kn_42 : (sN g_11 q_18 18 (vp_V [.int 0, .null, .null, .null, .null, .null, .null, .null, .null, .null, .null, .null, .null, .null, .null, .null, .null, .null, .null, .null, .null, .int 0, .int 0, .null, .int 0, .null, .null, .null, .null, .int 0, .int 0, .null, .null, .null, .int 0, .null, .int 0, .int 0, .int 0, .null, .null, .null, .null, .null, .null, .null, .null, .null, .null, .int 0, .int 0, .int 0, .int 0, .null, .null, .null, .null, .null, .null, .null, .int 0, .null, .null, .null, .null, .null, .null])).2.2.2.1 pa (2 : Int32).toNatClampNeg = 1 := ((congrFun (sN_g pa (ne0 r_pa o_q_18 (by decide))).2.2.2.1 _).trans c_pa2)
  have kn_43 : (sN g_11 q_18 18 (vp_V [.int 0, .null, .null, .null, .null, .null, .null, .null, .null, .null, .null, .null, .null, .null, .null, .null, .null, .null, .null, .null, .null, .int 0, .int 0, .null, .int 0, .null, .null, .null, .null, .int 0, .int 0, .null, .null, .null, .int 0, .null, .int 0, .int 0, .int 0, .null, .null, .null, .null, .null, .null, .null, .null, .null, .null, .int 0, .int 0, .int 0, .int 0, .null, .null, .null, .null, .null, .null, .null, .int 0, .null, .null, .null, .null, .null, .null])).2.2.2.1 pa (3 : Int32).toNatClampNeg = 1 := ((congrFun (sN_g pa (ne0 r_pa o_q_18 (by decide))).2.2.2.1 _).trans c_pa3)
  obtain ⟨g_44, hg_g_44⟩ : ∃ g_ : GS, g_ = (sN g_11 q_18 18 (vp_V [.int 0, .null, .null, .null, .null, .null, .null, .null, .null, .null, .null, .null, .null, .null, .null, .null, .null, .null, .null, .null, .null, .int 0, .int 0, .null, .int 0, .null, .null, .null, .null, .int 0, .int 0, .null, .null, .null, .int 0, .null, .int 0, .int 0, .int 0, .null, .null, .null, .null, .null, .null, .null, .null, .null, .null, .int 0, .int 0, .int 0, .int 0, .null, .null, .null, .null, .null, .null, .null, .int 0, .null, .null, .null, .null, .null, .null])) := ⟨_, rfl⟩
  rw [← hg_g_44] at hT
  rw [← hg_g_44] at hI
  rw [← hg_g_44] at hM
  rw [← hg_g_44] at hE
  rw [← hg_g_44] at r_19
  rw [← hg_g_44] at r_20
  rw [← hg_g_44] at r_21
  rw [← hg_g_44] at n_22
  rw [← hg_g_44] at kn_23
  rw [← hg_g_44] at kn_24
  rw [← hg_g_44] at kn_25
  rw [← hg_g_44] at kn_26
  rw [← hg_g_44] at kn_27
  rw [← hg_g_44] at kn_28
  rw [← hg_g_44] at kn_29
  rw [← hg_g_44] at kn_30
  rw [← hg_g_44] at kn_31
  rw [← hg_g_44] at kn_32
  rw [← hg_g_44] at kn_33
  rw [← hg_g_44] at kn_34
  rw [← hg_g_44] at kn_35
  rw [← hg_g_44] at kn_36
  rw [← hg_g_44] at kn_37
  rw [← hg_g_44] at kn_38
  rw [← hg_g_44] at kn_39
  rw [← hg_g_44] at kn_40
  rw [← hg_g_44] at kn_41
  rw [← hg_g_44] at kn_42
  rw [← hg_g_44] at kn_43
  clear hg_g_44
  refine W.widen (k := 345) (n := 13607) (Nat.le_of_ble_eq_true rfl) (Nat.le_of_ble_eq_true rfl) ?_
  refine lv_dup hx hb dL_law_11 rfl ?_
  refine t_callI (n := 0) (As := []) (rest := [.ref q_18]) hB hT hl.1 (k_Model l D cI cZ cS cR N0 g_44 hI q_18 r_21 kn_25 kn_26 kn_27 kn_28 kn_29 kn_30 kn_31 kn_32 kn_33 kn_34 kn_35 kn_36 kn_37 kn_38 kn_39) k_743 k_65 k_741 k_742 rfl (by decide +kernel) ⟨(Nat.le_of_ble_eq_true rfl), (Nat.le_of_ble_eq_true rfl)⟩ rfl (Nat.le_of_ble_eq_true rfl) ⟨(by show _ ≤ _; first | exact Nat.le_of_ble_eq_true rfl | (simp only [room_1]; omega)), (by show _ ≤ _; first | exact Nat.le_of_ble_eq_true rfl | (simp only [room_1]; omega))⟩ dL_law_12 (fun v g_45 H locs hp hT => ?_)
  obtain ⟨rfl, hI, x_52, m_51, r_53, f_46, f_47, f_48, f_49, f_50⟩ := hp
  have hM : Sm mdA g g_45 := sm_all
  have hE : Ex g g_45 := hE.trx z_q_18 x_52
  have r_54 : g_45.1 q_1 = 7 := (Exx.r x_52 r_19 (by decide) (ro_ne r_19 r_21 (by decide)))
  have r_55 : g_45.1 pa = 60 := (Exx.r x_52 r_20 (by decide) (ro_ne r_20 r_21 (by decide)))
  have r_56 : g_45.1 q_18 = 8 := r_53
  have n_57 : g_45.2.2.1 pa = 4 := (Exx.n x_52 r_20 (by decide) (ro_ne r_20 r_21 (by decide)) n_22)
  have kn_58 : g_45.2.1 q_1 6 = .int 0 := (Sm.v m_51 r_19 (by decide) rfl kn_23)
  have kn_59 : g_45.2.1 q_1 5 = .ref pa := (Sm.v m_51 r_19 (by decide) rfl kn_24)
  have kn_60 : g_45.2.1 q_18 0 = .int 0 := (Sm.v m_51 r_21 (by decide) rfl kn_25)
  have kn_61 : g_45.2.1 q_18 21 = .int 0 := (Sm.v m_51 r_21 (by decide) rfl kn_26)
  have kn_62 : g_45.2.1 q_18 22 = .int 0 := (Sm.v m_51 r_21 (by decide) rfl kn_27)
  have kn_63 : g_45.2.1 q_18 24 = .int 0 := (Sm.v m_51 r_21 (by decide) rfl kn_28)
  have kn_64 : g_45.2.1 q_18 29 = .int 0 := (Sm.v m_51 r_21 (by decide) rfl kn_29)
  have kn_65 : g_45.2.1 q_18 30 = .int 0 := (Sm.v m_51 r_21 (by decide) rfl kn_30)
  have kn_66 : g_45.2.1 q_18 34 = .int 0 := (Sm.v m_51 r_21 (by decide) rfl kn_31)
  have kn_67 : g_45.2.1 q_18 36 = .int 0 := (Sm.v m_51 r_21 (by decide) rfl kn_32)
  have kn_68 : g_45.2.1 q_18 37 = .int 0 := (Sm.v m_51 r_21 (by decide) rfl kn_33)
  have kn_69 : g_45.2.1 q_18 38 = .int 0 := (Sm.v m_51 r_21 (by decide) rfl kn_34)
  have kn_70 : g_45.2.1 q_18 49 = .int 0 := (Sm.v m_51 r_21 (by decide) rfl kn_35)
  have kn_71 : g_45.2.1 q_18 50 = .int 0 := (Sm.v m_51 r_21 (by decide) rfl kn_36)
  have kn_72 : g_45.2.1 q_18 51 = .int 0 := (Sm.v m_51 r_21 (by decide) rfl kn_37)
  have kn_73 : g_45.2.1 q_18 52 = .int 0 := (Sm.v m_51 r_21 (by decide) rfl kn_38)
  have kn_74 : g_45.2.1 q_18 60 = .int 0 := (Sm.v m_51 r_21 (by decide) rfl kn_39)
  have kn_75 : g_45.2.2.2.1 pa (0 : Int32).toNatClampNeg = 1 := (Sm.c m_51 r_20 (by decide) rfl kn_40)
  have kn_76 : g_45.2.2.2.1 pa (1 : Int32).toNatClampNeg = 1 := (Sm.c m_51 r_20 (by decide) rfl kn_41)
  have kn_77 : g_45.2.2.2.1 pa (2 : Int32).toNatClampNeg = 1 := (Sm.c m_51 r_20 (by decide) rfl kn_42)
  have kn_78 : g_45.2.2.2.1 pa (3 : Int32).toNatClampNeg = 1 := (Sm.c m_51 r_20 (by decide) rfl kn_43)
  refine W.eq (g2 := F0 m 15 ls [.ref q_18]) rfl ?_
  have hw := f_46
  have hN0 := f_47
  obtain ⟨pb, k35, r_pb, n_pb, c_pb⟩ := f_50
  refine lv_astore_n (lv' := [(2, .ref q_18), (1, .ref q_1), (0, .ref b)]) hx hb dL_law_15 rfl hl (by decide) rfl (fun ls hl => ?_)
  refine lv_iconst (v := 0) hx hb dL_law_16 (by decide) ?_
  refine lv_istore_n (lv' := [(3, .int 0), (2, .ref q_18), (1, .ref q_1), (0, .ref b)]) hx hb dL_law_17 rfl hl (by decide) rfl (fun ls hl => ?_)
  exact law_loop hB hAs hX hbl hL hr q_1 q_18 pa pb 512 397 43468 g_45 0 0 H locs ls hT hI r_54 r_56 f_48 (by decide) (by decide) hw hN0 kn_59 k35 r_55 r_pb n_57 n_pb (fun i_ hi_ => (match i_, hi_ with | 0, _ => kn_75 | 1, _ => kn_76 | 2, _ => kn_77 | 3, _ => kn_78 | k + 4, h => absurd h (by omega) : g_45.2.2.2.1 pa i_ = 1).trans (c_pb i_ hi_).symm) (by decide) (by decide) (by have e0_ : (0 : Int32).toInt = 0 := (by decide); omega) (by omega) (by omega) (lv_sub hl [0, 1, 2, 3] rfl)
