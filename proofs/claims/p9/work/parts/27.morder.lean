theorem k_806 : Cond.fieldLink RX7 149 "TwiceOnceModel" "order" "[I" ∈ tb := mt 806 (by decide +kernel) rfl
theorem dX7_isOrder_20 : decode cX7_isOrder 20 = .ok (.iload 6, 2) := by decide +kernel
theorem dX7_isOrder_22 : decode cX7_isOrder 22 = .ok (.iload_n 1, 1) := by decide +kernel
theorem dX7_isOrder_23 : decode cX7_isOrder 23 = .ok (.if_icmp .ge 31, 3) := by decide +kernel
theorem dX7_isOrder_26 : decode cX7_isOrder 26 = .ok (.iload 5, 2) := by decide +kernel
theorem dX7_isOrder_28 : decode cX7_isOrder 28 = .ok (.aload_n 0, 1) := by decide +kernel
theorem dX7_isOrder_29 : decode cX7_isOrder 29 = .ok (.getfield 149, 3) := by decide +kernel
theorem dX7_isOrder_32 : decode cX7_isOrder 32 = .ok (.iload 6, 2) := by decide +kernel
theorem dX7_isOrder_34 : decode cX7_isOrder 34 = .ok (.iaload, 1) := by decide +kernel
theorem dX7_isOrder_35 : decode cX7_isOrder 35 = .ok (.iload 4, 2) := by decide +kernel
theorem dX7_isOrder_37 : decode cX7_isOrder 37 = .ok (.if_icmp .ne 7, 3) := by decide +kernel
theorem dX7_isOrder_44 : decode cX7_isOrder 44 = .ok (.iconst 0, 1) := by decide +kernel
theorem dX7_isOrder_45 : decode cX7_isOrder 45 = .ok (.iadd, 1) := by decide +kernel
theorem dX7_isOrder_46 : decode cX7_isOrder 46 = .ok (.istore 5, 2) := by decide +kernel
theorem dX7_isOrder_48 : decode cX7_isOrder 48 = .ok (.iinc 6 1, 3) := by decide +kernel
theorem dX7_isOrder_51 : decode cX7_isOrder 51 = .ok (.goto (-31), 3) := by decide +kernel
theorem dX7_isOrder_40 : decode cX7_isOrder 40 = .ok (.iconst 1, 1) := by decide +kernel
theorem dX7_isOrder_41 : decode cX7_isOrder 41 = .ok (.goto 4, 3) := by decide +kernel
theorem dX7_isOrder_5 : decode cX7_isOrder 5 = .ok (.iload 4, 2) := by decide +kernel
theorem dX7_isOrder_7 : decode cX7_isOrder 7 = .ok (.aload_n 0, 1) := by decide +kernel
theorem dX7_isOrder_8 : decode cX7_isOrder 8 = .ok (.getfield 290, 3) := by decide +kernel
theorem dX7_isOrder_11 : decode cX7_isOrder 11 = .ok (.if_icmp .ge 75, 3) := by decide +kernel
theorem dX7_isOrder_86 : decode cX7_isOrder 86 = .ok (.iload_n 3, 1) := by decide +kernel
theorem dX7_isOrder_87 : decode cX7_isOrder 87 = .ok (.ireturn, 1) := by decide +kernel
theorem dX7_isOrder_14 : decode cX7_isOrder 14 = .ok (.iconst 0, 1) := by decide +kernel
theorem dX7_isOrder_15 : decode cX7_isOrder 15 = .ok (.istore 5, 2) := by decide +kernel
theorem dX7_isOrder_17 : decode cX7_isOrder 17 = .ok (.iconst 0, 1) := by decide +kernel
theorem dX7_isOrder_18 : decode cX7_isOrder 18 = .ok (.istore 6, 2) := by decide +kernel
theorem dX7_isOrder_54 : decode cX7_isOrder 54 = .ok (.iload_n 3, 1) := by decide +kernel
theorem dX7_isOrder_55 : decode cX7_isOrder 55 = .ok (.ifCond .eq 23, 3) := by decide +kernel
theorem dX7_isOrder_78 : decode cX7_isOrder 78 = .ok (.iconst 0, 1) := by decide +kernel
theorem dX7_isOrder_79 : decode cX7_isOrder 79 = .ok (.istore_n 3, 1) := by decide +kernel
theorem dX7_isOrder_80 : decode cX7_isOrder 80 = .ok (.iinc 4 1, 3) := by decide +kernel
theorem dX7_isOrder_83 : decode cX7_isOrder 83 = .ok (.goto (-78), 3) := by decide +kernel
theorem dX7_isOrder_58 : decode cX7_isOrder 58 = .ok (.iload 5, 2) := by decide +kernel
theorem dX7_isOrder_60 : decode cX7_isOrder 60 = .ok (.iload 4, 2) := by decide +kernel
theorem dX7_isOrder_62 : decode cX7_isOrder 62 = .ok (.iload_n 2, 1) := by decide +kernel
theorem dX7_isOrder_63 : decode cX7_isOrder 63 = .ok (.if_icmp .ne 7, 3) := by decide +kernel
theorem dX7_isOrder_70 : decode cX7_isOrder 70 = .ok (.iconst 1, 1) := by decide +kernel
theorem dX7_isOrder_71 : decode cX7_isOrder 71 = .ok (.if_icmp .ne 7, 3) := by decide +kernel
theorem dX7_isOrder_74 : decode cX7_isOrder 74 = .ok (.iconst 1, 1) := by decide +kernel
theorem dX7_isOrder_75 : decode cX7_isOrder 75 = .ok (.goto 4, 3) := by decide +kernel
theorem dX7_isOrder_66 : decode cX7_isOrder 66 = .ok (.iconst 2, 1) := by decide +kernel
theorem dX7_isOrder_67 : decode cX7_isOrder 67 = .ok (.goto 4, 3) := by decide +kernel
theorem dX7_isOrder_0 : decode cX7_isOrder 0 = .ok (.iconst 1, 1) := by decide +kernel
theorem dX7_isOrder_1 : decode cX7_isOrder 1 = .ok (.istore_n 3, 1) := by decide +kernel
theorem dX7_isOrder_2 : decode cX7_isOrder 2 = .ok (.iconst 0, 1) := by decide +kernel
theorem dX7_isOrder_3 : decode cX7_isOrder 3 = .ok (.istore 4, 2) := by decide +kernel
theorem dX7_reads__5 : decode cX7_reads_ 5 = .ok (.iload 4, 2) := by decide +kernel
theorem dX7_reads__7 : decode cX7_reads_ 7 = .ok (.iload_n 2, 1) := by decide +kernel
theorem dX7_reads__8 : decode cX7_reads_ 8 = .ok (.if_icmp .ge 29, 3) := by decide +kernel
theorem dX7_reads__37 : decode cX7_reads_ 37 = .ok (.return_, 1) := by decide +kernel
theorem dX7_reads__11 : decode cX7_reads_ 11 = .ok (.aload_n 0, 1) := by decide +kernel
theorem dX7_reads__12 : decode cX7_reads_ 12 = .ok (.getfield 149, 3) := by decide +kernel
theorem dX7_reads__15 : decode cX7_reads_ 15 = .ok (.iload 4, 2) := by decide +kernel
theorem dX7_reads__17 : decode cX7_reads_ 17 = .ok (.iload_n 3, 1) := by decide +kernel
theorem dX7_reads__18 : decode cX7_reads_ 18 = .ok (.aload_n 0, 1) := by decide +kernel
theorem dX7_reads__19 : decode cX7_reads_ 19 = .ok (.getfield 290, 3) := by decide +kernel
theorem dX7_reads__22 : decode cX7_reads_ 22 = .ok (.irem, 1) := by decide +kernel
theorem dX7_reads__23 : decode cX7_reads_ 23 = .ok (.iastore, 1) := by decide +kernel
theorem dX7_reads__24 : decode cX7_reads_ 24 = .ok (.iload_n 3, 1) := by decide +kernel
theorem dX7_reads__25 : decode cX7_reads_ 25 = .ok (.aload_n 0, 1) := by decide +kernel
theorem dX7_reads__26 : decode cX7_reads_ 26 = .ok (.getfield 290, 3) := by decide +kernel
theorem dX7_reads__29 : decode cX7_reads_ 29 = .ok (.idiv, 1) := by decide +kernel
theorem dX7_reads__30 : decode cX7_reads_ 30 = .ok (.istore_n 3, 1) := by decide +kernel
theorem dX7_reads__31 : decode cX7_reads_ 31 = .ok (.iinc 4 1, 3) := by decide +kernel
theorem dX7_reads__34 : decode cX7_reads_ 34 = .ok (.goto (-29), 3) := by decide +kernel
theorem dX7_reads__0 : decode cX7_reads_ 0 = .ok (.iload_n 1, 1) := by decide +kernel
theorem dX7_reads__1 : decode cX7_reads_ 1 = .ok (.istore_n 3, 1) := by decide +kernel
theorem dX7_reads__2 : decode cX7_reads_ 2 = .ok (.iconst 0, 1) := by decide +kernel
theorem dX7_reads__3 : decode cX7_reads_ 3 = .ok (.istore 4, 2) := by decide +kernel
theorem dX7_does_6 : decode cX7_does 6 = .ok (.iload_n 2, 1) := by decide +kernel
theorem dX7_does_7 : decode cX7_does 7 = .ok (.iload_n 1, 1) := by decide +kernel
theorem dX7_does_8 : decode cX7_does 8 = .ok (.if_icmp .ge 24, 3) := by decide +kernel
theorem dX7_does_32 : decode cX7_does 32 = .ok (.aload_n 0, 1) := by decide +kernel
theorem dX7_does_33 : decode cX7_does 33 = .ok (.iconst 0, 1) := by decide +kernel
theorem dX7_does_34 : decode cX7_does 34 = .ok (.putfield 223, 3) := by decide +kernel
theorem dX7_does_37 : decode cX7_does 37 = .ok (.return_, 1) := by decide +kernel
theorem dX7_does_11 : decode cX7_does 11 = .ok (.aload_n 0, 1) := by decide +kernel
theorem dX7_does_12 : decode cX7_does 12 = .ok (.aload_n 0, 1) := by decide +kernel
theorem dX7_does_13 : decode cX7_does 13 = .ok (.aload_n 0, 1) := by decide +kernel
theorem dX7_does_14 : decode cX7_does 14 = .ok (.getfield 149, 3) := by decide +kernel
theorem dX7_does_17 : decode cX7_does 17 = .ok (.iload_n 2, 1) := by decide +kernel
theorem dX7_does_18 : decode cX7_does 18 = .ok (.iaload, 1) := by decide +kernel
theorem dX7_does_19 : decode cX7_does 19 = .ok (.iconst 0, 1) := by decide +kernel
theorem dX7_does_20 : decode cX7_does 20 = .ok (.invokevirtual 299, 3) := by decide +kernel
theorem dX7_does_23 : decode cX7_does 23 = .ok (.putfield 246, 3) := by decide +kernel
theorem dX7_does_26 : decode cX7_does 26 = .ok (.iinc 2 1, 3) := by decide +kernel
theorem dX7_does_29 : decode cX7_does 29 = .ok (.goto (-23), 3) := by decide +kernel
theorem dX7_does_0 : decode cX7_does 0 = .ok (.aload_n 0, 1) := by decide +kernel
theorem dX7_does_1 : decode cX7_does 1 = .ok (.invokevirtual 296, 3) := by decide +kernel
theorem dX7_does_4 : decode cX7_does 4 = .ok (.iconst 0, 1) := by decide +kernel
theorem dX7_does_5 : decode cX7_does 5 = .ok (.istore_n 2, 1) := by decide +kernel
theorem dX7_power_0 : decode cX7_power 0 = .ok (.iconst 1, 1) := by decide +kernel
theorem dX7_power_1 : decode cX7_power 1 = .ok (.istore_n 2, 1) := by decide +kernel
theorem dX7_power_2 : decode cX7_power 2 = .ok (.iconst 0, 1) := by decide +kernel
theorem dX7_power_3 : decode cX7_power 3 = .ok (.istore_n 3, 1) := by decide +kernel
theorem dX7_power_4 : decode cX7_power 4 = .ok (.iload_n 3, 1) := by decide +kernel
theorem dX7_power_5 : decode cX7_power 5 = .ok (.iload_n 1, 1) := by decide +kernel
theorem dX7_power_6 : decode cX7_power 6 = .ok (.if_icmp .ge 13, 3) := by decide +kernel
theorem dX7_power_9 : decode cX7_power 9 = .ok (.iload_n 2, 1) := by decide +kernel
theorem dX7_power_10 : decode cX7_power 10 = .ok (.iload_n 0, 1) := by decide +kernel
theorem dX7_power_11 : decode cX7_power 11 = .ok (.imul, 1) := by decide +kernel
theorem dX7_power_12 : decode cX7_power 12 = .ok (.istore_n 2, 1) := by decide +kernel
theorem dX7_power_13 : decode cX7_power 13 = .ok (.iinc 3 1, 3) := by decide +kernel
theorem dX7_power_16 : decode cX7_power 16 = .ok (.goto (-12), 3) := by decide +kernel
theorem dX7_power_19 : decode cX7_power 19 = .ok (.iload_n 2, 1) := by decide +kernel
theorem dX7_power_20 : decode cX7_power 20 = .ok (.ireturn, 1) := by decide +kernel
abbrev md_m_isOrder : Nat → Nat → Bool := mdf []
set_option maxHeartbeats 4000000 in
set_option maxRecDepth 100000 in
theorem lt_m_isOrder_b (l : Launch) (D : va_G) (cI cZ cS cR : ClassId) (N0 : NT) (g : GS) (h : Nat) (n : Int32) (k : Int32) (oa : Nat) (z : Int32) (r_h : g.1 h = 8) (r_oa : g.1 oa = 52) (n_oa : g.2.2.1 oa = 5) (koa : g.2.1 h 61 = .ref oa) (kz : g.2.1 h 30 = .int z) (l_n : 0 ≤ n.toInt) (u_n : n.toInt ≤ 5) (l_z : 1 ≤ z.toInt) (u_z : z.toInt ≤ 4) {p : Program} {e : Env} {s : State} {m : MethodId} {args : Array Value} {below : List Frame} {meth : Method} {c : Code} (hB : Tz p s m meth c args cX7_isOrder 7 RX7 D cI cZ cS cR N0) (hr : meth.sig.returnType = (some .boolean)) (c1 : Int32) (is1 : Int32) (l_c1 : 0 ≤ c1.toInt) (u_c1 : c1.toInt ≤ 3) (l_is1 : 0 ≤ is1.toInt) (u_is1 : is1.toInt ≤ 1) (K : ∀ (m1 : Int32)  (H : Heap) (locs : List Loc) (ls : Array Slot), Tv D cI cZ cS cR N0 s.heap H locs g → Inv g → Ex g g → Sm md_m_isOrder g g → 0 ≤ m1.toInt → m1.toInt ≤ 5 → (m1.toInt = 0 ∨ ∃ q : Nat, (q : Int) < n.toInt ∧ (g.2.2.2.1 oa q).toInt = c1.toInt) → lv_has ls 7 [(5, .int m1), (4, .int c1), (3, .int is1), (0, .ref h), (1, .int n), (2, .int k)] → W p l e (rmx 0 0 0) s m args below meth c H locs 0 0 (MQ below (tQ D cI cZ cS cR N0 (fun v g' => ∃ (r : Int32), v = some (.int r) ∧ g' = g ∧ ((r = 1 ∧ ∀ c : Nat, (c : Int) < z.toInt → ∃ q : Nat, (q : Int) < n.toInt ∧ (g.2.2.2.1 oa q).toInt = (c : Int)) ∨ r = 0))) args s 0 0 (fun q => N0.1 ≤ q)) (F0 m 54 ls [])) : ∀ (kf : Nat) (i : Int32) (m1 : Int32)  (H : Heap) (locs : List Loc) (ls : Array Slot), Tv D cI cZ cS cR N0 s.heap H locs g → Inv g → Ex g g → Sm md_m_isOrder g g → 0 ≤ i.toInt → i.toInt ≤ 5 → 0 ≤ m1.toInt → m1.toInt ≤ 5 → (m1.toInt = 0 ∨ ∃ q : Nat, (q : Int) < n.toInt ∧ (g.2.2.2.1 oa q).toInt = c1.toInt) → (5 ≤ i.toInt + kf ∧ m1.toInt ≤ i.toInt) → lv_has ls 7 [(6, .int i), (5, .int m1), (4, .int c1), (3, .int is1), (0, .ref h), (1, .int n), (2, .int k)] → W p l e (rmx 0 0 0) s m args below meth c H locs 0 0 (MQ below (tQ D cI cZ cS cR N0 (fun v g' => ∃ (r : Int32), v = some (.int r) ∧ g' = g ∧ ((r = 1 ∧ ∀ c : Nat, (c : Int) < z.toInt → ∃ q : Nat, (q : Int) < n.toInt ∧ (g.2.2.2.1 oa q).toInt = (c : Int)) ∨ r = 0))) args s 0 0 (fun q => N0.1 ≤ q)) (F0 m 20 ls []) := by
  have hx := hB.1
  have hb := hB.2.1
  intro kf
  induction kf using Nat.strongRecOn with
  | ind kf ih =>
    intro i m1 H locs ls hT hI hE hM l_i u_i l_m1 u_m1 hm hk hl
    have r_1 : g.1 h = 8 := Ex.r hE r_h (by decide)
    have r_2 : g.1 oa = 52 := Ex.r hE r_oa (by decide)
    have n_3 : g.2.2.1 oa = 5 := Ex.n hE r_oa (by decide) n_oa
    refine lv_iload hx hb dX7_isOrder_20 (lv_at hl 0 rfl) ?_
    refine lv_iload_n hx hb dX7_isOrder_22 rfl (lv_at hl 5 rfl) ?_
    refine lv_icmp_ge (tgt := 54) hx hb dX7_isOrder_23 (by decide) (fun c_4 => ?_) (fun c_4 => ?_)
    · have c_4' : n.toInt ≤ i.toInt := i_le c_4 rfl rfl
      exact K m1 H locs ls hT hI hE hM (by omega) (by omega) (hm.imp (fun h => by omega) (fun h => h)) (lv_sub hl [1, 2, 3, 4, 5, 6] rfl)
    · have c_4' : i.toInt < n.toInt := i_nle c_4 rfl rfl
      refine lv_iload hx hb dX7_isOrder_26 (lv_at hl 1 rfl) ?_
      refine lv_aload_n hx hb dX7_isOrder_28 rfl (lv_at hl 4 rfl) ?_
      refine t_get (ci := 7) (v := .ref oa) hB hT (ro_ci r_1 rfl) rfl 61 (by decide) k_806 koa dX7_isOrder_29 ?_
      refine lv_iload hx hb dX7_isOrder_32 (lv_at hl 0 rfl) ?_
      have i_u_5 : vp_in i 5 := (i_in (n := 5) rfl (by omega) (by omega))
      refine t_iald hB hT (ro_in r_2 (by decide)) n_3 i_u_5 rfl dX7_isOrder_34 ?_
      have c_u_5 := hI.c r_2 n_3 (i_cl i_u_5)
      refine lv_topi (fun u_5 e_u_5 => ?_)
      obtain ⟨l_u_5, u_u_5⟩ := c_u_5
      rw [← e_u_5] at l_u_5 u_u_5
      refine lv_iload hx hb dX7_isOrder_35 (lv_at hl 2 rfl) ?_
      refine lv_icmp_ne (tgt := 44) hx hb dX7_isOrder_37 (by decide) (fun c_6 => ?_) (fun c_6 => ?_)
      · have c_6' : u_5.toInt ≠ c1.toInt := i_ne c_6 rfl rfl
        refine lv_iconst (v := 0) hx hb dX7_isOrder_44 (by decide) ?_
        refine lv_iadd hx hb dX7_isOrder_45 ?_
        refine lv_topi (fun z_7 ez_7 => ?_)
        have e_z_7 : z_7.toInt = m1.toInt + 0 := i_add ez_7 rfl (by decide) (by omega) (by omega)
        refine lv_istore (lv' := [(5, .int z_7), (6, .int i), (4, .int c1), (3, .int is1), (0, .ref h), (1, .int n), (2, .int k)]) hx hb dX7_isOrder_46 hl (by decide) rfl (fun ls hl => ?_)
        obtain ⟨z_8, ez_8⟩ : ∃ z : Int32, z = i + 1 := ⟨_, rfl⟩
        have e_z_8 : z_8.toInt = i.toInt + 1 := i_add ez_8 rfl (by decide) (by omega) (by omega)
        refine lv_iinc (v := z_8) (lv' := [(6, .int z_8), (5, .int z_7), (4, .int c1), (3, .int is1), (0, .ref h), (1, .int n), (2, .int k)]) hx hb dX7_isOrder_48 hl (k := 1) rfl (by rw [ez_8]; rfl) (by decide) rfl (fun ls hl => ?_)
        refine lv_goto (tgt := 20) hx hb dX7_isOrder_51 (by decide) ?_
        exact ih (kf - 1) (by omega) z_8 z_7 H locs ls hT hI hE hM (by omega) (by omega) (by omega) (by omega) (by first | exact hm.imp (fun h => by omega) (fun h => h) | exact Or.inr ⟨i.toNatClampNeg, by have := i_nn (x := i) (by omega); omega, by rw [e_u_5.symm]; omega⟩) (by have e0_ : (0 : Int32).toInt = 0 := (by decide); omega) (lv_sub hl [0, 1, 2, 3, 4, 5, 6] rfl)
      · have c_6' : u_5.toInt = c1.toInt := i_eq c_6 rfl rfl
        refine lv_iconst (v := 1) hx hb dX7_isOrder_40 (by decide) ?_
        refine lv_goto (tgt := 45) hx hb dX7_isOrder_41 (by decide) ?_
        refine lv_iadd hx hb dX7_isOrder_45 ?_
        refine lv_topi (fun z_9 ez_9 => ?_)
        have e_z_9 : z_9.toInt = m1.toInt + 1 := i_add ez_9 rfl (by decide) (by omega) (by omega)
        refine lv_istore (lv' := [(5, .int z_9), (6, .int i), (4, .int c1), (3, .int is1), (0, .ref h), (1, .int n), (2, .int k)]) hx hb dX7_isOrder_46 hl (by decide) rfl (fun ls hl => ?_)
        obtain ⟨z_10, ez_10⟩ : ∃ z : Int32, z = i + 1 := ⟨_, rfl⟩
        have e_z_10 : z_10.toInt = i.toInt + 1 := i_add ez_10 rfl (by decide) (by omega) (by omega)
        refine lv_iinc (v := z_10) (lv' := [(6, .int z_10), (5, .int z_9), (4, .int c1), (3, .int is1), (0, .ref h), (1, .int n), (2, .int k)]) hx hb dX7_isOrder_48 hl (k := 1) rfl (by rw [ez_10]; rfl) (by decide) rfl (fun ls hl => ?_)
        refine lv_goto (tgt := 20) hx hb dX7_isOrder_51 (by decide) ?_
        exact ih (kf - 1) (by omega) z_10 z_9 H locs ls hT hI hE hM (by omega) (by omega) (by omega) (by omega) (by first | exact hm.imp (fun h => by omega) (fun h => h) | exact Or.inr ⟨i.toNatClampNeg, by have := i_nn (x := i) (by omega); omega, by rw [e_u_5.symm]; omega⟩) (by have e0_ : (0 : Int32).toInt = 0 := (by decide); omega) (lv_sub hl [0, 1, 2, 3, 4, 5, 6] rfl)
set_option maxHeartbeats 4000000 in
set_option maxRecDepth 100000 in
theorem lt_m_isOrder_a (l : Launch) (D : va_G) (cI cZ cS cR : ClassId) (N0 : NT) (g : GS) (h : Nat) (n : Int32) (k : Int32) (oa : Nat) (z : Int32) (r_h : g.1 h = 8) (r_oa : g.1 oa = 52) (n_oa : g.2.2.1 oa = 5) (koa : g.2.1 h 61 = .ref oa) (kz : g.2.1 h 30 = .int z) (l_n : 0 ≤ n.toInt) (u_n : n.toInt ≤ 5) (l_z : 1 ≤ z.toInt) (u_z : z.toInt ≤ 4) {p : Program} {e : Env} {s : State} {m : MethodId} {args : Array Value} {below : List Frame} {meth : Method} {c : Code} (hB : Tz p s m meth c args cX7_isOrder 7 RX7 D cI cZ cS cR N0) (hr : meth.sig.returnType = (some .boolean))    : ∀ (kf : Nat) (c1 : Int32) (is1 : Int32)  (H : Heap) (locs : List Loc) (ls : Array Slot), Tv D cI cZ cS cR N0 s.heap H locs g → Inv g → Ex g g → Sm md_m_isOrder g g → 0 ≤ c1.toInt → c1.toInt ≤ 4 → 0 ≤ is1.toInt → is1.toInt ≤ 1 → (is1.toInt = 0 ∨ ∀ c : Nat, (c : Int) < c1.toInt → ∃ q : Nat, (q : Int) < n.toInt ∧ (g.2.2.2.1 oa q).toInt = (c : Int)) → (4 ≤ c1.toInt + kf) → lv_has ls 7 [(4, .int c1), (3, .int is1), (0, .ref h), (1, .int n), (2, .int k)] → W p l e (rmx 0 0 0) s m args below meth c H locs 0 0 (MQ below (tQ D cI cZ cS cR N0 (fun v g' => ∃ (r : Int32), v = some (.int r) ∧ g' = g ∧ ((r = 1 ∧ ∀ c : Nat, (c : Int) < z.toInt → ∃ q : Nat, (q : Int) < n.toInt ∧ (g.2.2.2.1 oa q).toInt = (c : Int)) ∨ r = 0))) args s 0 0 (fun q => N0.1 ≤ q)) (F0 m 5 ls []) := by
  have hx := hB.1
  have hb := hB.2.1
  intro kf
  induction kf using Nat.strongRecOn with
  | ind kf ih =>
    intro c1 is1 H locs ls hT hI hE hM l_c1 u_c1 l_is1 u_is1 hc hk hl
    have r_1 : g.1 h = 8 := Ex.r hE r_h (by decide)
    have r_2 : g.1 oa = 52 := Ex.r hE r_oa (by decide)
    have n_3 : g.2.2.1 oa = 5 := Ex.n hE r_oa (by decide) n_oa
    refine lv_iload hx hb dX7_isOrder_5 (lv_at hl 0 rfl) ?_
    refine lv_aload_n hx hb dX7_isOrder_7 rfl (lv_at hl 2 rfl) ?_
    refine t_get (ci := 7) (v := .int z) hB hT (ro_ci r_1 rfl) rfl 30 (by decide) k_775 kz dX7_isOrder_8 ?_
    refine lv_icmp_ge (tgt := 86) hx hb dX7_isOrder_11 (by decide) (fun c_4 => ?_) (fun c_4 => ?_)
    · have c_4' : z.toInt ≤ c1.toInt := i_le c_4 rfl rfl
      refine lv_iload_n hx hb dX7_isOrder_86 rfl (lv_at hl 1 rfl) ?_
      exact t_zret hB hr (z_01 (i_01 (by omega) (by omega))) hT (Nat.le_of_ble_eq_true rfl) (Nat.le_of_ble_eq_true rfl) dX7_isOrder_87 ⟨is1, rfl, rfl, ((i_01 (x := is1) (by omega) (by omega)).imp (fun e => ⟨e, fun c hc1 => (hc.resolve_left (fun q => by rw [e] at q; exact absurd q (by decide))) c (by omega)⟩) (fun e => e))⟩
    · have c_4' : c1.toInt < z.toInt := i_nle c_4 rfl rfl
      refine lv_iconst (v := 0) hx hb dX7_isOrder_14 (by decide) ?_
      refine lv_istore (lv' := [(5, .int 0), (4, .int c1), (3, .int is1), (0, .ref h), (1, .int n), (2, .int k)]) hx hb dX7_isOrder_15 hl (by decide) rfl (fun ls hl => ?_)
      refine lv_iconst (v := 0) hx hb dX7_isOrder_17 (by decide) ?_
      refine lv_istore (lv' := [(6, .int 0), (5, .int 0), (4, .int c1), (3, .int is1), (0, .ref h), (1, .int n), (2, .int k)]) hx hb dX7_isOrder_18 hl (by decide) rfl (fun ls hl => ?_)
      refine lt_m_isOrder_b l D cI cZ cS cR N0 g h n k oa z r_h r_oa n_oa koa kz l_n u_n l_z u_z hB hr c1 is1 (by omega) (by omega) (by omega) (by omega) (fun m1_b_5 H locs ls hT hI hE hM l_m1_b_5 u_m1_b_5 hm_b_5 hl => ?_) 5 (0 : Int32) (0 : Int32) H locs ls hT hI hE hM (by decide) (by decide) (by decide) (by decide) (Or.inl (by decide)) (by have e0_ : (0 : Int32).toInt = 0 := (by decide); omega) (lv_sub hl [0, 1, 2, 3, 4, 5, 6] rfl)
      have r_6 : g.1 h = 8 := Ex.r hE r_h (by decide)
      have r_7 : g.1 oa = 52 := Ex.r hE r_oa (by decide)
      have n_8 : g.2.2.1 oa = 5 := Ex.n hE r_oa (by decide) n_oa
      refine lv_iload_n hx hb dX7_isOrder_54 rfl (lv_at hl 2 rfl) ?_
      refine lv_if_eq (tgt := 78) hx hb dX7_isOrder_55 (by decide) (fun c_9 => ?_) (fun c_9 => ?_)
      · have c_9' : is1.toInt = 0 := i_eq c_9 rfl (by decide)
        refine lv_iconst (v := 0) hx hb dX7_isOrder_78 (by decide) ?_
        refine lv_istore_n (lv' := [(3, .int 0), (5, .int m1_b_5), (4, .int c1), (0, .ref h), (1, .int n), (2, .int k)]) hx hb dX7_isOrder_79 rfl hl (by decide) rfl (fun ls hl => ?_)
        obtain ⟨z_10, ez_10⟩ : ∃ z : Int32, z = c1 + 1 := ⟨_, rfl⟩
        have e_z_10 : z_10.toInt = c1.toInt + 1 := i_add ez_10 rfl (by decide) (by omega) (by omega)
        refine lv_iinc (v := z_10) (lv' := [(4, .int z_10), (3, .int 0), (5, .int m1_b_5), (0, .ref h), (1, .int n), (2, .int k)]) hx hb dX7_isOrder_80 hl (k := 2) rfl (by rw [ez_10]; rfl) (by decide) rfl (fun ls hl => ?_)
        refine lv_goto (tgt := 5) hx hb dX7_isOrder_83 (by decide) ?_
        exact ih (kf - 1) (by omega) z_10 (0 : Int32) H locs ls hT hI hE hM (by omega) (by omega) (by decide) (by decide) (Or.inl (by decide)) (by have e0_ : (0 : Int32).toInt = 0 := (by decide); omega) (lv_sub hl [0, 1, 3, 4, 5] rfl)
      · have c_9' : is1.toInt ≠ 0 := i_ne c_9 rfl (by decide)
        refine lv_iload hx hb dX7_isOrder_58 (lv_at hl 0 rfl) ?_
        refine lv_iload hx hb dX7_isOrder_60 (lv_at hl 1 rfl) ?_
        refine lv_iload_n hx hb dX7_isOrder_62 rfl (lv_at hl 5 rfl) ?_
        refine lv_icmp_ne (tgt := 70) hx hb dX7_isOrder_63 (by decide) (fun c_11 => ?_) (fun c_11 => ?_)
        · have c_11' : c1.toInt ≠ k.toInt := i_ne c_11 rfl rfl
          refine lv_iconst (v := 1) hx hb dX7_isOrder_70 (by decide) ?_
          refine lv_icmp_ne (tgt := 78) hx hb dX7_isOrder_71 (by decide) (fun c_12 => ?_) (fun c_12 => ?_)
          · have c_12' : m1_b_5.toInt ≠ 1 := i_ne c_12 rfl (by decide)
            refine lv_iconst (v := 0) hx hb dX7_isOrder_78 (by decide) ?_
            refine lv_istore_n (lv' := [(3, .int 0), (5, .int m1_b_5), (4, .int c1), (0, .ref h), (1, .int n), (2, .int k)]) hx hb dX7_isOrder_79 rfl hl (by decide) rfl (fun ls hl => ?_)
            obtain ⟨z_13, ez_13⟩ : ∃ z : Int32, z = c1 + 1 := ⟨_, rfl⟩
            have e_z_13 : z_13.toInt = c1.toInt + 1 := i_add ez_13 rfl (by decide) (by omega) (by omega)
            refine lv_iinc (v := z_13) (lv' := [(4, .int z_13), (3, .int 0), (5, .int m1_b_5), (0, .ref h), (1, .int n), (2, .int k)]) hx hb dX7_isOrder_80 hl (k := 2) rfl (by rw [ez_13]; rfl) (by decide) rfl (fun ls hl => ?_)
            refine lv_goto (tgt := 5) hx hb dX7_isOrder_83 (by decide) ?_
            exact ih (kf - 1) (by omega) z_13 (0 : Int32) H locs ls hT hI hE hM (by omega) (by omega) (by decide) (by decide) (Or.inl (by decide)) (by have e0_ : (0 : Int32).toInt = 0 := (by decide); omega) (lv_sub hl [0, 1, 3, 4, 5] rfl)
          · have c_12' : m1_b_5.toInt = 1 := i_eq c_12 rfl (by decide)
            refine lv_iconst (v := 1) hx hb dX7_isOrder_74 (by decide) ?_
            refine lv_goto (tgt := 79) hx hb dX7_isOrder_75 (by decide) ?_
            refine lv_istore_n (lv' := [(3, .int 1), (5, .int m1_b_5), (4, .int c1), (0, .ref h), (1, .int n), (2, .int k)]) hx hb dX7_isOrder_79 rfl hl (by decide) rfl (fun ls hl => ?_)
            obtain ⟨z_14, ez_14⟩ : ∃ z : Int32, z = c1 + 1 := ⟨_, rfl⟩
            have e_z_14 : z_14.toInt = c1.toInt + 1 := i_add ez_14 rfl (by decide) (by omega) (by omega)
            refine lv_iinc (v := z_14) (lv' := [(4, .int z_14), (3, .int 1), (5, .int m1_b_5), (0, .ref h), (1, .int n), (2, .int k)]) hx hb dX7_isOrder_80 hl (k := 2) rfl (by rw [ez_14]; rfl) (by decide) rfl (fun ls hl => ?_)
            refine lv_goto (tgt := 5) hx hb dX7_isOrder_83 (by decide) ?_
            exact ih (kf - 1) (by omega) z_14 (1 : Int32) H locs ls hT hI hE hM (by omega) (by omega) (by decide) (by decide) (Or.inr (fun c_ hc1 => if hq : (c_ : Int) < c1.toInt then (hc.resolve_left (by omega)) c_ hq else (hm_b_5.resolve_left (by omega)).imp (fun q h => ⟨h.1, by have h2_ := h.2; omega⟩))) (by have e0_ : (0 : Int32).toInt = 0 := (by decide); have e1_ : (1 : Int32).toInt = 1 := (by decide); omega) (lv_sub hl [0, 1, 3, 4, 5] rfl)
        · have c_11' : c1.toInt = k.toInt := i_eq c_11 rfl rfl
          refine lv_iconst (v := 2) hx hb dX7_isOrder_66 (by decide) ?_
          refine lv_goto (tgt := 71) hx hb dX7_isOrder_67 (by decide) ?_
          refine lv_icmp_ne (tgt := 78) hx hb dX7_isOrder_71 (by decide) (fun c_15 => ?_) (fun c_15 => ?_)
          · have c_15' : m1_b_5.toInt ≠ 2 := i_ne c_15 rfl (by decide)
            refine lv_iconst (v := 0) hx hb dX7_isOrder_78 (by decide) ?_
            refine lv_istore_n (lv' := [(3, .int 0), (5, .int m1_b_5), (4, .int c1), (0, .ref h), (1, .int n), (2, .int k)]) hx hb dX7_isOrder_79 rfl hl (by decide) rfl (fun ls hl => ?_)
            obtain ⟨z_16, ez_16⟩ : ∃ z : Int32, z = c1 + 1 := ⟨_, rfl⟩
            have e_z_16 : z_16.toInt = c1.toInt + 1 := i_add ez_16 rfl (by decide) (by omega) (by omega)
            refine lv_iinc (v := z_16) (lv' := [(4, .int z_16), (3, .int 0), (5, .int m1_b_5), (0, .ref h), (1, .int n), (2, .int k)]) hx hb dX7_isOrder_80 hl (k := 2) rfl (by rw [ez_16]; rfl) (by decide) rfl (fun ls hl => ?_)
            refine lv_goto (tgt := 5) hx hb dX7_isOrder_83 (by decide) ?_
            exact ih (kf - 1) (by omega) z_16 (0 : Int32) H locs ls hT hI hE hM (by omega) (by omega) (by decide) (by decide) (Or.inl (by decide)) (by have e0_ : (0 : Int32).toInt = 0 := (by decide); omega) (lv_sub hl [0, 1, 3, 4, 5] rfl)
          · have c_15' : m1_b_5.toInt = 2 := i_eq c_15 rfl (by decide)
            refine lv_iconst (v := 1) hx hb dX7_isOrder_74 (by decide) ?_
            refine lv_goto (tgt := 79) hx hb dX7_isOrder_75 (by decide) ?_
            refine lv_istore_n (lv' := [(3, .int 1), (5, .int m1_b_5), (4, .int c1), (0, .ref h), (1, .int n), (2, .int k)]) hx hb dX7_isOrder_79 rfl hl (by decide) rfl (fun ls hl => ?_)
            obtain ⟨z_17, ez_17⟩ : ∃ z : Int32, z = c1 + 1 := ⟨_, rfl⟩
            have e_z_17 : z_17.toInt = c1.toInt + 1 := i_add ez_17 rfl (by decide) (by omega) (by omega)
            refine lv_iinc (v := z_17) (lv' := [(4, .int z_17), (3, .int 1), (5, .int m1_b_5), (0, .ref h), (1, .int n), (2, .int k)]) hx hb dX7_isOrder_80 hl (k := 2) rfl (by rw [ez_17]; rfl) (by decide) rfl (fun ls hl => ?_)
            refine lv_goto (tgt := 5) hx hb dX7_isOrder_83 (by decide) ?_
            exact ih (kf - 1) (by omega) z_17 (1 : Int32) H locs ls hT hI hE hM (by omega) (by omega) (by decide) (by decide) (Or.inr (fun c_ hc1 => if hq : (c_ : Int) < c1.toInt then (hc.resolve_left (by omega)) c_ hq else (hm_b_5.resolve_left (by omega)).imp (fun q h => ⟨h.1, by have h2_ := h.2; omega⟩))) (by have e0_ : (0 : Int32).toInt = 0 := (by decide); have e1_ : (1 : Int32).toInt = 1 := (by decide); omega) (lv_sub hl [0, 1, 3, 4, 5] rfl)
set_option maxHeartbeats 4000000 in
set_option maxRecDepth 100000 in
theorem m_isOrder (l : Launch) (D : va_G) (cI cZ cS cR : ClassId) (N0 : NT) (g : GS) (hI : Inv g) (h : Nat) (n : Int32) (k : Int32) (oa : Nat) (z : Int32) (r_h : g.1 h = 8) (r_oa : g.1 oa = 52) (n_oa : g.2.2.1 oa = 5) (koa : g.2.1 h 61 = .ref oa) (kz : g.2.1 h 30 = .int z) (l_n : 0 ≤ n.toInt) (u_n : n.toInt ≤ 5) (l_z : 1 ≤ z.toInt) (u_z : z.toInt ≤ 4) : Ty l D cI cZ cS cR N0 yX7_isOrder cX7_isOrder 7 (some .boolean) 0 0 0 [.ref h, .int n, .int k] g (fun v g' => ∃ (r : Int32), v = some (.int r) ∧ g' = g ∧ ((r = 1 ∧ ∀ c : Nat, (c : Int) < z.toInt → ∃ q : Nat, (q : Int) < n.toInt ∧ (g.2.2.2.1 oa q).toInt = (c : Int)) ∨ r = 0)) := by
  refine t_enter (by decide) (Nat.le_of_ble_eq_true rfl) ?_
  intro p e s m args below meth c ls H locs hB hr hin hl hT
  have hx := hB.1
  have hb := hB.2.1
  have hl : lv_has ls 7 [(0, .ref h), (1, .int n), (2, .int k)] := hl
  have hE : Ex g g := Ex.rf
  have hM : Sm md_m_isOrder g g := Sm.rf
  refine lv_iconst (v := 1) hx hb dX7_isOrder_0 (by decide) ?_
  refine lv_istore_n (lv' := [(3, .int 1), (0, .ref h), (1, .int n), (2, .int k)]) hx hb dX7_isOrder_1 rfl hl (by decide) rfl (fun ls hl => ?_)
  refine lv_iconst (v := 0) hx hb dX7_isOrder_2 (by decide) ?_
  refine lv_istore (lv' := [(4, .int 0), (3, .int 1), (0, .ref h), (1, .int n), (2, .int k)]) hx hb dX7_isOrder_3 hl (by decide) rfl (fun ls hl => ?_)
  exact lt_m_isOrder_a l D cI cZ cS cR N0 g h n k oa z r_h r_oa n_oa koa kz l_n u_n l_z u_z hB hr   4 (0 : Int32) (1 : Int32) H locs ls hT hI hE hM (by decide) (by decide) (by decide) (by decide) (Or.inr (fun c1_ hc1 => absurd hc1 (by have e0_ : (0 : Int32).toInt = 0 := (by decide); omega))) (by have e0_ : (0 : Int32).toInt = 0 := (by decide); have e1_ : (1 : Int32).toInt = 1 := (by decide); omega) (lv_sub hl [0, 1, 2, 3, 4] rfl)
abbrev md_m_readsX : Nat → Nat → Bool := mdf [(52, 99)]
set_option maxHeartbeats 4000000 in
set_option maxRecDepth 100000 in
theorem lt_m_readsX_a (l : Launch) (D : va_G) (cI cZ cS cR : ClassId) (N0 : NT) (g : GS) (h : Nat) (n : Int32) (k : Int32) (oa : Nat) (z : Int32) (r_h : g.1 h = 8) (r_oa : g.1 oa = 52) (n_oa : g.2.2.1 oa = 5) (koa : g.2.1 h 61 = .ref oa) (kz : g.2.1 h 30 = .int z) (l_n : 0 ≤ n.toInt) (u_n : n.toInt ≤ 2147483647) (l_k : 0 ≤ k.toInt) (u_k : k.toInt ≤ 5) (l_z : 1 ≤ z.toInt) (u_z : z.toInt ≤ 4) {p : Program} {e : Env} {s : State} {m : MethodId} {args : Array Value} {below : List Frame} {meth : Method} {c : Code} (hB : Tz p s m meth c args cX7_reads_ 5 RX7 D cI cZ cS cR N0) (hr : meth.sig.returnType = none)    : ∀ (kf : Nat) (g1 : GS) (i : Int32) (rs : Int32)  (H : Heap) (locs : List Loc) (ls : Array Slot), Tv D cI cZ cS cR N0 s.heap H locs g1 → Inv g1 → Ex g g1 → Sm md_m_readsX g g1 → 0 ≤ i.toInt → i.toInt ≤ 5 → 0 ≤ rs.toInt → rs.toInt ≤ 2147483647 → (∀ q : Nat, (q : Int) < i.toInt → (g1.2.2.2.1 oa q).toInt = n.toInt / z.toInt ^ q % z.toInt) → (rs.toInt = n.toInt / z.toInt ^ i.toNatClampNeg) → (5 ≤ i.toInt + kf ∧ i.toInt ≤ k.toInt) → lv_has ls 5 [(4, .int i), (3, .int rs), (0, .ref h), (1, .int n), (2, .int k)] → W p l e (rmx 0 0 0) s m args below meth c H locs 0 0 (MQ below (tQ D cI cZ cS cR N0 (fun v g' => v = none ∧ Inv g' ∧ Ex g g' ∧ Sm md_m_readsX g g' ∧ (∀ q : Nat, (q : Int) < k.toInt → (g'.2.2.2.1 oa q).toInt = n.toInt / z.toInt ^ q % z.toInt))) args s 0 0 (fun q => N0.1 ≤ q)) (F0 m 5 ls []) := by
  have hx := hB.1
  have hb := hB.2.1
  intro kf
  induction kf using Nat.strongRecOn with
  | ind kf ih =>
    intro g1 i rs H locs ls hT hI hE hM l_i u_i l_rs u_rs ho hr1 hk hl
    have r_1 : g1.1 h = 8 := Ex.r hE r_h (by decide)
    have r_2 : g1.1 oa = 52 := Ex.r hE r_oa (by decide)
    have n_3 : g1.2.2.1 oa = 5 := Ex.n hE r_oa (by decide) n_oa
    have kn_4 : g1.2.1 h 61 = .ref oa := Sm.v hM r_h (by decide) rfl koa
    have kn_5 : g1.2.1 h 30 = .int z := Sm.v hM r_h (by decide) rfl kz
    refine lv_iload hx hb dX7_reads__5 (lv_at hl 0 rfl) ?_
    refine lv_iload_n hx hb dX7_reads__7 rfl (lv_at hl 4 rfl) ?_
    refine lv_icmp_ge (tgt := 37) hx hb dX7_reads__8 (by decide) (fun c_6 => ?_) (fun c_6 => ?_)
    · have c_6' : k.toInt ≤ i.toInt := i_le c_6 rfl rfl
      exact t_vret hB hr hT (Nat.le_of_ble_eq_true rfl) (Nat.le_of_ble_eq_true rfl) dX7_reads__37 ⟨rfl, hI, hE, hM, (fun q hq => ho q (by omega))⟩
    · have c_6' : i.toInt < k.toInt := i_nle c_6 rfl rfl
      refine lv_aload_n hx hb dX7_reads__11 rfl (lv_at hl 2 rfl) ?_
      refine t_get (ci := 7) (v := .ref oa) hB hT (ro_ci r_1 rfl) rfl 61 (by decide) k_806 kn_4 dX7_reads__12 ?_
      refine lv_iload hx hb dX7_reads__15 (lv_at hl 0 rfl) ?_
      refine lv_iload_n hx hb dX7_reads__17 rfl (lv_at hl 1 rfl) ?_
      refine lv_aload_n hx hb dX7_reads__18 rfl (lv_at hl 2 rfl) ?_
      refine t_get (ci := 7) (v := .int z) hB hT (ro_ci r_1 rfl) rfl 30 (by decide) k_775 kn_5 dX7_reads__19 ?_
      refine lv_irem hx hb dX7_reads__22 (fun q => by have := i_eq q rfl z0; omega) ?_
      refine lv_topi (fun z_7 ez_7 => ?_)
      have e_z_7 := i_rem (a := rs.toInt) (b := z.toInt) ez_7 rfl rfl (by omega) (by omega)
      have i_8 : vp_in i 5 := (i_in (n := 5) rfl (by omega) (by omega))
      refine t_iast hB hT (ro_in r_2 (by decide)) n_3 i_8 dX7_reads__23 (fun H locs hT => ?_)
      have hI : Inv (sC g1 oa i.toNatClampNeg z_7) := hI.sC (ck r_2 ⟨by omega, by omega⟩)
      have hM : Sm md_m_readsX g (sC g1 oa i.toNatClampNeg z_7) := hM.tr hE (Sm_sC (by rw [r_2]; rfl))
      have hE : Ex g (sC g1 oa i.toNatClampNeg z_7) := hE
      refine lv_iload_n hx hb dX7_reads__24 rfl (lv_at hl 1 rfl) ?_
      refine lv_aload_n hx hb dX7_reads__25 rfl (lv_at hl 2 rfl) ?_
      refine t_get (ci := 7) (v := .int z) hB hT (ro_ci r_1 rfl) rfl 30 (by decide) k_775 kn_5 dX7_reads__26 ?_
      refine lv_idiv hx hb dX7_reads__29 (fun q => by have := i_eq q rfl z0; omega) ?_
      refine lv_topi (fun z_9 ez_9 => ?_)
      have e_z_9 := i_div (a := rs.toInt) (b := z.toInt) ez_9 rfl rfl (by omega) (by omega)
      refine lv_istore_n (lv' := [(3, .int z_9), (4, .int i), (0, .ref h), (1, .int n), (2, .int k)]) hx hb dX7_reads__30 rfl hl (by decide) rfl (fun ls hl => ?_)
      obtain ⟨z_10, ez_10⟩ : ∃ z : Int32, z = i + 1 := ⟨_, rfl⟩
      have e_z_10 : z_10.toInt = i.toInt + 1 := i_add ez_10 rfl (by decide) (by omega) (by omega)
      refine lv_iinc (v := z_10) (lv' := [(4, .int z_10), (3, .int z_9), (0, .ref h), (1, .int n), (2, .int k)]) hx hb dX7_reads__31 hl (k := 1) rfl (by rw [ez_10]; rfl) (by decide) rfl (fun ls hl => ?_)
      refine lv_goto (tgt := 5) hx hb dX7_reads__34 (by decide) ?_
      exact ih (kf - 1) (by omega) (sC g1 oa i.toNatClampNeg z_7) z_10 z_9 H locs ls hT hI hE hM (by omega) (by omega) (by omega) (by omega) (OD.st ho (by omega) (i_remE ez_7 rfl rfl (by omega) (by omega)) hr1 (by omega)) (OD.rs (by omega) (by omega) hr1 (i_divE ez_9 rfl rfl (by omega) (by omega)) (by omega)) (by have e0_ : (0 : Int32).toInt = 0 := (by decide); omega) (lv_sub hl [0, 1, 2, 3, 4] rfl)
set_option maxHeartbeats 4000000 in
set_option maxRecDepth 100000 in
theorem m_readsX (l : Launch) (D : va_G) (cI cZ cS cR : ClassId) (N0 : NT) (g : GS) (hI : Inv g) (h : Nat) (n : Int32) (k : Int32) (oa : Nat) (z : Int32) (r_h : g.1 h = 8) (r_oa : g.1 oa = 52) (n_oa : g.2.2.1 oa = 5) (koa : g.2.1 h 61 = .ref oa) (kz : g.2.1 h 30 = .int z) (l_n : 0 ≤ n.toInt) (u_n : n.toInt ≤ 2147483647) (l_k : 0 ≤ k.toInt) (u_k : k.toInt ≤ 5) (l_z : 1 ≤ z.toInt) (u_z : z.toInt ≤ 4) : Ty l D cI cZ cS cR N0 yX7_reads_ cX7_reads_ 5 none 0 0 0 [.ref h, .int n, .int k] g (fun v g' => v = none ∧ Inv g' ∧ Ex g g' ∧ Sm md_m_readsX g g' ∧ (∀ q : Nat, (q : Int) < k.toInt → (g'.2.2.2.1 oa q).toInt = n.toInt / z.toInt ^ q % z.toInt)) := by
  refine t_enter (by decide) (Nat.le_of_ble_eq_true rfl) ?_
  intro p e s m args below meth c ls H locs hB hr hin hl hT
  have hx := hB.1
  have hb := hB.2.1
  have hl : lv_has ls 5 [(0, .ref h), (1, .int n), (2, .int k)] := hl
  have hE : Ex g g := Ex.rf
  have hM : Sm md_m_readsX g g := Sm.rf
  refine lv_iload_n hx hb dX7_reads__0 rfl (lv_at hl 1 rfl) ?_
  refine lv_istore_n (lv' := [(3, .int n), (0, .ref h), (1, .int n), (2, .int k)]) hx hb dX7_reads__1 rfl hl (by decide) rfl (fun ls hl => ?_)
  refine lv_iconst (v := 0) hx hb dX7_reads__2 (by decide) ?_
  refine lv_istore (lv' := [(4, .int 0), (3, .int n), (0, .ref h), (1, .int n), (2, .int k)]) hx hb dX7_reads__3 hl (by decide) rfl (fun ls hl => ?_)
  exact lt_m_readsX_a l D cI cZ cS cR N0 g h n k oa z r_h r_oa n_oa koa kz l_n u_n l_k u_k l_z u_z hB hr   5 g (0 : Int32) n H locs ls hT hI hE hM (by decide) (by decide) (by omega) (by omega) (fun q hq => absurd hq (by have e0_ : (0 : Int32).toInt = 0 := (by decide); omega)) (by show n.toInt = n.toInt / z.toInt ^ 0; rw [Int.pow_zero, Int.ediv_one]) (by have e0_ : (0 : Int32).toInt = 0 := (by decide); omega) (lv_sub hl [0, 1, 2, 3, 4] rfl)
abbrev md_m_does : Nat → Nat → Bool := mdf [(8, 21), (8, 49), (8, 50), (8, 51), (8, 52), (40, 99), (50, 99), (51, 99), (54, 99), (55, 99), (56, 99), (58, 99)]
theorem mdle_m_does_m_rowCall {r k : Nat} (h : md_m_does r k = false) : md_m_rowCall r k = false := mdf_le (by decide +kernel) h
theorem mdle_m_does_m_tries {r k : Nat} (h : md_m_does r k = false) : md_m_tries r k = false := mdf_le (by decide +kernel) h
set_option maxHeartbeats 4000000 in
set_option maxRecDepth 100000 in
theorem lt_m_does_a (l : Launch) (D : va_G) (cI cZ cS cR : ClassId) (N0 : NT) (g : GS) (h : Nat) (n : Int32) (r_h : g.1 h = 8) (l_n : 0 ≤ n.toInt) (u_n : n.toInt ≤ 5) (hw : PX 48 2 3 71 72 g h) {p : Program} {e : Env} {s : State} {m : MethodId} {args : Array Value} {below : List Frame} {meth : Method} {c : Code} (hB : Tz p s m meth c args cX7_does 3 RX7 D cI cZ cS cR N0) (hr : meth.sig.returnType = none)    : ∀ (kf : Nat) (g1 : GS) (i : Int32) (to1 : Int32)  (H : Heap) (locs : List Loc) (ls : Array Slot), Tv D cI cZ cS cR N0 s.heap H locs g1 → Inv g1 → Ex g g1 → Sm md_m_does g g1 → 0 ≤ i.toInt → i.toInt ≤ 5 → 0 ≤ to1.toInt → to1.toInt ≤ 1200 → g1.2.1 h 21 = .int 1 → g1.2.1 h 52 = .int to1 → (5 ≤ i.toInt + kf ∧ to1.toInt ≤ 60 * i.toInt) → lv_has ls 3 [(2, .int i), (0, .ref h), (1, .int n)] → W p l e (rmx 7 0 0) s m args below meth c H locs 0 0 (MQ below (tQ D cI cZ cS cR N0 (fun v g' => v = none ∧ Inv g' ∧ Ex g g' ∧ Sm md_m_does g g')) args s 0 0 (fun q => N0.1 ≤ q)) (F0 m 6 ls []) := by
  have hx := hB.1
  have hb := hB.2.1
  intro kf
  induction kf using Nat.strongRecOn with
  | ind kf ih =>
    intro g1 i to1 H locs ls hT hI hE hM l_i u_i l_to1 u_to1 kp0 kp1 hk hl
    have r_1 : g1.1 h = 8 := Ex.r hE r_h (by decide)
    refine lv_iload_n hx hb dX7_does_6 rfl (lv_at hl 0 rfl) ?_
    refine lv_iload_n hx hb dX7_does_7 rfl (lv_at hl 2 rfl) ?_
    refine lv_icmp_ge (tgt := 32) hx hb dX7_does_8 (by decide) (fun c_2 => ?_) (fun c_2 => ?_)
    · have c_2' : n.toInt ≤ i.toInt := i_le c_2 rfl rfl
      refine lv_aload_n hx hb dX7_does_32 rfl (lv_at hl 1 rfl) ?_
      refine lv_iconst (v := 0) hx hb dX7_does_33 (by decide) ?_
      refine t_put0 (ci := 7) (v := .int 0) hB hT (ro_ci r_1 rfl) (ro_n0 r_1 (by decide)) rfl 21 (by decide) k_766 (Or.inl rfl) rfl rfl dX7_does_34 (fun H locs hT => ?_)
      have hI : Inv (sF g1 h 21 (.int 0)) := hI.sF (p_8_21 r_1 (⟨_, rfl, by decide, by decide⟩))
      have hM : Sm md_m_does g (sF g1 h 21 (.int 0)) := hM.tr hE (Sm_sF (by rw [r_1]; rfl))
      have hE : Ex g (sF g1 h 21 (.int 0)) := hE
      exact t_vret hB hr hT (Nat.le_of_ble_eq_true rfl) (Nat.le_of_ble_eq_true rfl) dX7_does_37 ⟨rfl, hI, hE, hM⟩
    · have c_2' : i.toInt < n.toInt := i_nle c_2 rfl rfl
      refine lv_aload_n hx hb dX7_does_11 rfl (lv_at hl 1 rfl) ?_
      refine lv_aload_n hx hb dX7_does_12 rfl (lv_at hl 1 rfl) ?_
      refine lv_aload_n hx hb dX7_does_13 rfl (lv_at hl 1 rfl) ?_
      obtain ⟨v_3, e_v_3, r_v_3, n_v_3⟩ := f_8_61 hI r_1
      refine t_get (ci := 7) (v := .ref v_3) hB hT (ro_ci r_1 rfl) rfl 61 (by decide) k_806 e_v_3 dX7_does_14 ?_
      refine lv_iload_n hx hb dX7_does_17 rfl (lv_at hl 0 rfl) ?_
      have i_u_4 : vp_in i 5 := (i_in (n := 5) rfl (by omega) (by omega))
      refine t_iald hB hT (ro_in r_v_3 (by decide)) n_v_3 i_u_4 rfl dX7_does_18 ?_
      have c_u_4 := hI.c r_v_3 n_v_3 (i_cl i_u_4)
      refine lv_topi (fun u_4 e_u_4 => ?_)
      obtain ⟨l_u_4, u_u_4⟩ := c_u_4
      rw [← e_u_4] at l_u_4 u_u_4
      refine lv_iconst (v := 0) hx hb dX7_does_19 (by decide) ?_
      obtain ⟨v_5, e_v_5, r_v_5, n_v_5⟩ := f_8_43 hI r_1
      obtain ⟨v_6, e_v_6, r_v_6, n_v_6⟩ := f_8_46 hI r_1
      refine t_callV (n := 2) (As := [.int u_4, .int 0]) (rest := [.ref h]) (ci := 7) hB hT hl.1 (m_rowCall l D cI cZ cS cR N0 g1 hI h u_4 0 to1 v_5 v_6 r_1 r_v_5 n_v_5 r_v_6 n_v_6 kp1 kp0 e_v_5 e_v_6 (by have q0 : (0 : Int32).toInt = 0 := (by decide); omega) (by have q0 : (0 : Int32).toInt = 0 := (by decide); omega) (by have q0 : (0 : Int32).toInt = 0 := (by decide); omega) (by have q0 : (0 : Int32).toInt = 0 := (by decide); omega) (hw.mono hM hE r_h (by decide) (by decide) rfl rfl rfl rfl)) (ro_ci r_1 rfl) rfl k_1111 k_65 k_1108 k_1110 k_46 (by decide +kernel) ⟨(Nat.le_of_ble_eq_true rfl), (Nat.le_of_ble_eq_true rfl)⟩ rfl (Nat.le_of_ble_eq_true rfl) ⟨(Nat.le_of_ble_eq_true rfl), (Nat.le_of_ble_eq_true rfl)⟩ dX7_does_20 (fun v g_7 H locs hp hT => ?_)
      obtain ⟨r_8, t2_9, rfl, hI, x_14, m_13, f_10, f_11, f_12⟩ := hp
      have hM : Sm md_m_does g g_7 := hM.tr hE (m_13.mo (fun r k h => mdle_m_does_m_rowCall h))
      have hE : Ex g g_7 := hE.tr x_14
      have r_15 : g_7.1 h = 8 := (Ex.r x_14 r_1 (by decide))
      have r_16 : g_7.1 v_3 = 52 := (Ex.r x_14 r_v_3 (by decide))
      have r_17 : g_7.1 v_5 = 51 := (Ex.r x_14 r_v_5 (by decide))
      have r_18 : g_7.1 v_6 = 55 := (Ex.r x_14 r_v_6 (by decide))
      have n_19 : g_7.2.2.1 v_3 = 5 := (Ex.n x_14 r_v_3 (by decide) n_v_3)
      have n_20 : g_7.2.2.1 v_5 = 7 := (Ex.n x_14 r_v_5 (by decide) n_v_5)
      have n_21 : g_7.2.2.1 v_6 = 7 := (Ex.n x_14 r_v_6 (by decide) n_v_6)
      have kn_22 : g_7.2.1 h 21 = .int 1 := (Sm.v m_13 r_1 (by decide) rfl kp0)
      have kn_23 : g_7.2.1 h 61 = .ref v_3 := (Sm.v m_13 r_1 (by decide) rfl e_v_3)
      have kn_24 : g_7.2.1 h 43 = .ref v_5 := (Sm.v m_13 r_1 (by decide) rfl e_v_5)
      have kn_25 : g_7.2.1 h 46 = .ref v_6 := (Sm.v m_13 r_1 (by decide) rfl e_v_6)
      have kn_26 : g_7.2.2.2.1 v_3 i.toNatClampNeg = u_4 := (Sm.c m_13 r_v_3 (by decide) rfl e_u_4.symm)
      refine W.eq (g2 := F0 m 23 ls [.int r_8, .ref h]) rfl ?_
      have qc_27 : (0 : Int32).toInt = 0 := (by decide)
      refine t_put0 (ci := 7) (v := .int r_8) hB hT (ro_ci r_15 rfl) (ro_n0 r_15 (by decide)) rfl 51 (by decide) k_796 (Or.inl rfl) rfl rfl dX7_does_23 (fun H locs hT => ?_)
      have hI : Inv (sF g_7 h 51 (.int r_8)) := hI.sF (p_8_51 r_15 (⟨_, rfl, by omega, by omega⟩))
      have hM : Sm md_m_does g (sF g_7 h 51 (.int r_8)) := hM.tr hE (Sm_sF (by rw [r_15]; rfl))
      have hE : Ex g (sF g_7 h 51 (.int r_8)) := hE
      obtain ⟨z_28, ez_28⟩ : ∃ z : Int32, z = i + 1 := ⟨_, rfl⟩
      have e_z_28 : z_28.toInt = i.toInt + 1 := i_add ez_28 rfl (by decide) (by omega) (by omega)
      refine lv_iinc (v := z_28) (lv' := [(2, .int z_28), (0, .ref h), (1, .int n)]) hx hb dX7_does_26 hl (k := 0) rfl (by rw [ez_28]; rfl) (by decide) rfl (fun ls hl => ?_)
      refine lv_goto (tgt := 6) hx hb dX7_does_29 (by decide) ?_
      exact ih (kf - 1) (by omega) (sF g_7 h 51 (.int r_8)) z_28 t2_9 H locs ls hT hI hE hM (by omega) (by omega) (by omega) (by omega) (sF_k kn_22 (by decide)) (sF_k f_11 (by decide)) (by have e0_ : (0 : Int32).toInt = 0 := (by decide); omega) (lv_sub hl [0, 1, 2] rfl)
set_option maxHeartbeats 4000000 in
set_option maxRecDepth 100000 in
theorem m_does (l : Launch) (D : va_G) (cI cZ cS cR : ClassId) (N0 : NT) (g : GS) (hI : Inv g) (h : Nat) (n : Int32) (r_h : g.1 h = 8) (l_n : 0 ≤ n.toInt) (u_n : n.toInt ≤ 5) (hw : PX 48 2 3 71 72 g h) : Ty l D cI cZ cS cR N0 yX7_does cX7_does 3 none 7 0 0 [.ref h, .int n] g (fun v g' => v = none ∧ Inv g' ∧ Ex g g' ∧ Sm md_m_does g g') := by
  refine t_enter (by decide) (Nat.le_of_ble_eq_true rfl) ?_
  intro p e s m args below meth c ls H locs hB hr hin hl hT
  have hx := hB.1
  have hb := hB.2.1
  have hl : lv_has ls 3 [(0, .ref h), (1, .int n)] := hl
  have hE : Ex g g := Ex.rf
  have hM : Sm md_m_does g g := Sm.rf
  refine lv_aload_n hx hb dX7_does_0 rfl (lv_at hl 0 rfl) ?_
  refine t_callV (n := 0) (As := []) (rest := []) (ci := 7) hB hT hl.1 (m_tries l D cI cZ cS cR N0 g hI h r_h) (ro_ci r_h rfl) rfl k_1107 k_65 k_1104 k_1106 k_45 (by decide +kernel) ⟨(Nat.le_of_ble_eq_true rfl), (Nat.le_of_ble_eq_true rfl)⟩ rfl (Nat.le_of_ble_eq_true rfl) ⟨(Nat.le_of_ble_eq_true rfl), (Nat.le_of_ble_eq_true rfl)⟩ dX7_does_1 (fun v g_1 H locs hp hT => ?_)
  obtain ⟨rfl, hI, x_5, m_4, f_2, f_3⟩ := hp
  have hM : Sm md_m_does g g_1 := hM.tr hE (m_4.mo (fun r k h => mdle_m_does_m_tries h))
  have hE : Ex g g_1 := hE.tr x_5
  have r_6 : g_1.1 h = 8 := (Ex.r x_5 r_h (by decide))
  refine W.eq (g2 := F0 m 4 ls []) rfl ?_
  refine lv_iconst (v := 0) hx hb dX7_does_4 (by decide) ?_
  refine lv_istore_n (lv' := [(2, .int 0), (0, .ref h), (1, .int n)]) hx hb dX7_does_5 rfl hl (by decide) rfl (fun ls hl => ?_)
  exact lt_m_does_a l D cI cZ cS cR N0 g h n r_h l_n u_n hw hB hr   5 g_1 (0 : Int32) (0 : Int32) H locs ls hT hI hE hM (by decide) (by decide) (by decide) (by decide) f_2 f_3 (by have e0_ : (0 : Int32).toInt = 0 := (by decide); omega) (lv_sub hl [0, 1, 2] rfl)
abbrev md_m_power2 : Nat → Nat → Bool := mdf []
set_option maxHeartbeats 4000000 in
set_option maxRecDepth 100000 in
theorem m_power2 (l : Launch) (D : va_G) (cI cZ cS cR : ClassId) (N0 : NT) (g : GS) (hI : Inv g)   : Ty l D cI cZ cS cR N0 yX7_power cX7_power 4 (some .int) 0 0 0 [.int 2, .int 2] g (fun v g' => v = some (.int 4) ∧ g' = g) := by
  refine t_enter (by decide) (Nat.le_of_ble_eq_true rfl) ?_
  intro p e s m args below meth c ls H locs hB hr hin hl hT
  have hx := hB.1
  have hb := hB.2.1
  have hl : lv_has ls 4 [(0, .int 2), (1, .int 2)] := hl
  have hE : Ex g g := Ex.rf
  have hM : Sm md_m_power2 g g := Sm.rf
  refine lv_iconst (v := 1) hx hb dX7_power_0 (by decide) ?_
  refine lv_istore_n (lv' := [(2, .int 1), (0, .int 2), (1, .int 2)]) hx hb dX7_power_1 rfl hl (by decide) rfl (fun ls hl => ?_)
  refine lv_iconst (v := 0) hx hb dX7_power_2 (by decide) ?_
  refine lv_istore_n (lv' := [(3, .int 0), (2, .int 1), (0, .int 2), (1, .int 2)]) hx hb dX7_power_3 rfl hl (by decide) rfl (fun ls hl => ?_)
  refine lv_iload_n hx hb dX7_power_4 rfl (lv_at hl 0 rfl) ?_
  refine lv_iload_n hx hb dX7_power_5 rfl (lv_at hl 3 rfl) ?_
  refine lv_icmp_ge (tgt := 19) hx hb dX7_power_6 (by decide) (fun c_ => absurd c_ (by decide)) (fun c_ => ?_)
  refine lv_iload_n hx hb dX7_power_9 rfl (lv_at hl 1 rfl) ?_
  refine lv_iload_n hx hb dX7_power_10 rfl (lv_at hl 2 rfl) ?_
  refine lv_imul hx hb dX7_power_11 ?_
  refine x_ev (y := 2) (by decide) ?_
  refine lv_istore_n (lv' := [(2, .int 2), (3, .int 0), (0, .int 2), (1, .int 2)]) hx hb dX7_power_12 rfl hl (by decide) rfl (fun ls hl => ?_)
  refine lv_iinc (v := 1) (lv' := [(3, .int 1), (2, .int 2), (0, .int 2), (1, .int 2)]) hx hb dX7_power_13 hl (k := 1) rfl (by decide) (by decide) rfl (fun ls hl => ?_)
  refine lv_goto (tgt := 4) hx hb dX7_power_16 (by decide) ?_
  refine lv_iload_n hx hb dX7_power_4 rfl (lv_at hl 0 rfl) ?_
  refine lv_iload_n hx hb dX7_power_5 rfl (lv_at hl 3 rfl) ?_
  refine lv_icmp_ge (tgt := 19) hx hb dX7_power_6 (by decide) (fun c_ => absurd c_ (by decide)) (fun c_ => ?_)
  refine lv_iload_n hx hb dX7_power_9 rfl (lv_at hl 1 rfl) ?_
  refine lv_iload_n hx hb dX7_power_10 rfl (lv_at hl 2 rfl) ?_
  refine lv_imul hx hb dX7_power_11 ?_
  refine x_ev (y := 4) (by decide) ?_
  refine lv_istore_n (lv' := [(2, .int 4), (3, .int 1), (0, .int 2), (1, .int 2)]) hx hb dX7_power_12 rfl hl (by decide) rfl (fun ls hl => ?_)
  refine lv_iinc (v := 2) (lv' := [(3, .int 2), (2, .int 4), (0, .int 2), (1, .int 2)]) hx hb dX7_power_13 hl (k := 1) rfl (by decide) (by decide) rfl (fun ls hl => ?_)
  refine lv_goto (tgt := 4) hx hb dX7_power_16 (by decide) ?_
  refine lv_iload_n hx hb dX7_power_4 rfl (lv_at hl 0 rfl) ?_
  refine lv_iload_n hx hb dX7_power_5 rfl (lv_at hl 3 rfl) ?_
  refine lv_icmp_ge (tgt := 19) hx hb dX7_power_6 (by decide) (fun c_ => ?_) (fun c_ => absurd (by decide) c_)
  refine lv_iload_n hx hb dX7_power_19 rfl (lv_at hl 1 rfl) ?_
  exact t_iret hB hr hT (Nat.le_of_ble_eq_true rfl) (Nat.le_of_ble_eq_true rfl) dX7_power_20 ⟨rfl, rfl⟩
abbrev md_m_power3 : Nat → Nat → Bool := mdf []
set_option maxHeartbeats 4000000 in
set_option maxRecDepth 100000 in
theorem m_power3 (l : Launch) (D : va_G) (cI cZ cS cR : ClassId) (N0 : NT) (g : GS) (hI : Inv g)   : Ty l D cI cZ cS cR N0 yX7_power cX7_power 4 (some .int) 0 0 0 [.int 3, .int 3] g (fun v g' => v = some (.int 27) ∧ g' = g) := by
  refine t_enter (by decide) (Nat.le_of_ble_eq_true rfl) ?_
  intro p e s m args below meth c ls H locs hB hr hin hl hT
  have hx := hB.1
  have hb := hB.2.1
  have hl : lv_has ls 4 [(0, .int 3), (1, .int 3)] := hl
  have hE : Ex g g := Ex.rf
  have hM : Sm md_m_power3 g g := Sm.rf
  refine lv_iconst (v := 1) hx hb dX7_power_0 (by decide) ?_
  refine lv_istore_n (lv' := [(2, .int 1), (0, .int 3), (1, .int 3)]) hx hb dX7_power_1 rfl hl (by decide) rfl (fun ls hl => ?_)
  refine lv_iconst (v := 0) hx hb dX7_power_2 (by decide) ?_
  refine lv_istore_n (lv' := [(3, .int 0), (2, .int 1), (0, .int 3), (1, .int 3)]) hx hb dX7_power_3 rfl hl (by decide) rfl (fun ls hl => ?_)
  refine lv_iload_n hx hb dX7_power_4 rfl (lv_at hl 0 rfl) ?_
  refine lv_iload_n hx hb dX7_power_5 rfl (lv_at hl 3 rfl) ?_
  refine lv_icmp_ge (tgt := 19) hx hb dX7_power_6 (by decide) (fun c_ => absurd c_ (by decide)) (fun c_ => ?_)
  refine lv_iload_n hx hb dX7_power_9 rfl (lv_at hl 1 rfl) ?_
  refine lv_iload_n hx hb dX7_power_10 rfl (lv_at hl 2 rfl) ?_
  refine lv_imul hx hb dX7_power_11 ?_
  refine x_ev (y := 3) (by decide) ?_
  refine lv_istore_n (lv' := [(2, .int 3), (3, .int 0), (0, .int 3), (1, .int 3)]) hx hb dX7_power_12 rfl hl (by decide) rfl (fun ls hl => ?_)
  refine lv_iinc (v := 1) (lv' := [(3, .int 1), (2, .int 3), (0, .int 3), (1, .int 3)]) hx hb dX7_power_13 hl (k := 1) rfl (by decide) (by decide) rfl (fun ls hl => ?_)
  refine lv_goto (tgt := 4) hx hb dX7_power_16 (by decide) ?_
  refine lv_iload_n hx hb dX7_power_4 rfl (lv_at hl 0 rfl) ?_
  refine lv_iload_n hx hb dX7_power_5 rfl (lv_at hl 3 rfl) ?_
  refine lv_icmp_ge (tgt := 19) hx hb dX7_power_6 (by decide) (fun c_ => absurd c_ (by decide)) (fun c_ => ?_)
  refine lv_iload_n hx hb dX7_power_9 rfl (lv_at hl 1 rfl) ?_
  refine lv_iload_n hx hb dX7_power_10 rfl (lv_at hl 2 rfl) ?_
  refine lv_imul hx hb dX7_power_11 ?_
  refine x_ev (y := 9) (by decide) ?_
  refine lv_istore_n (lv' := [(2, .int 9), (3, .int 1), (0, .int 3), (1, .int 3)]) hx hb dX7_power_12 rfl hl (by decide) rfl (fun ls hl => ?_)
  refine lv_iinc (v := 2) (lv' := [(3, .int 2), (2, .int 9), (0, .int 3), (1, .int 3)]) hx hb dX7_power_13 hl (k := 1) rfl (by decide) (by decide) rfl (fun ls hl => ?_)
  refine lv_goto (tgt := 4) hx hb dX7_power_16 (by decide) ?_
  refine lv_iload_n hx hb dX7_power_4 rfl (lv_at hl 0 rfl) ?_
  refine lv_iload_n hx hb dX7_power_5 rfl (lv_at hl 3 rfl) ?_
  refine lv_icmp_ge (tgt := 19) hx hb dX7_power_6 (by decide) (fun c_ => absurd c_ (by decide)) (fun c_ => ?_)
  refine lv_iload_n hx hb dX7_power_9 rfl (lv_at hl 1 rfl) ?_
  refine lv_iload_n hx hb dX7_power_10 rfl (lv_at hl 2 rfl) ?_
  refine lv_imul hx hb dX7_power_11 ?_
  refine x_ev (y := 27) (by decide) ?_
  refine lv_istore_n (lv' := [(2, .int 27), (3, .int 2), (0, .int 3), (1, .int 3)]) hx hb dX7_power_12 rfl hl (by decide) rfl (fun ls hl => ?_)
  refine lv_iinc (v := 3) (lv' := [(3, .int 3), (2, .int 27), (0, .int 3), (1, .int 3)]) hx hb dX7_power_13 hl (k := 1) rfl (by decide) (by decide) rfl (fun ls hl => ?_)
  refine lv_goto (tgt := 4) hx hb dX7_power_16 (by decide) ?_
  refine lv_iload_n hx hb dX7_power_4 rfl (lv_at hl 0 rfl) ?_
  refine lv_iload_n hx hb dX7_power_5 rfl (lv_at hl 3 rfl) ?_
  refine lv_icmp_ge (tgt := 19) hx hb dX7_power_6 (by decide) (fun c_ => ?_) (fun c_ => absurd (by decide) c_)
  refine lv_iload_n hx hb dX7_power_19 rfl (lv_at hl 1 rfl) ?_
  exact t_iret hB hr hT (Nat.le_of_ble_eq_true rfl) (Nat.le_of_ble_eq_true rfl) dX7_power_20 ⟨rfl, rfl⟩
abbrev md_m_power4 : Nat → Nat → Bool := mdf []
set_option maxHeartbeats 4000000 in
set_option maxRecDepth 100000 in
theorem m_power4 (l : Launch) (D : va_G) (cI cZ cS cR : ClassId) (N0 : NT) (g : GS) (hI : Inv g)   : Ty l D cI cZ cS cR N0 yX7_power cX7_power 4 (some .int) 0 0 0 [.int 4, .int 4] g (fun v g' => v = some (.int 256) ∧ g' = g) := by
  refine t_enter (by decide) (Nat.le_of_ble_eq_true rfl) ?_
  intro p e s m args below meth c ls H locs hB hr hin hl hT
  have hx := hB.1
  have hb := hB.2.1
  have hl : lv_has ls 4 [(0, .int 4), (1, .int 4)] := hl
  have hE : Ex g g := Ex.rf
  have hM : Sm md_m_power4 g g := Sm.rf
  refine lv_iconst (v := 1) hx hb dX7_power_0 (by decide) ?_
  refine lv_istore_n (lv' := [(2, .int 1), (0, .int 4), (1, .int 4)]) hx hb dX7_power_1 rfl hl (by decide) rfl (fun ls hl => ?_)
  refine lv_iconst (v := 0) hx hb dX7_power_2 (by decide) ?_
  refine lv_istore_n (lv' := [(3, .int 0), (2, .int 1), (0, .int 4), (1, .int 4)]) hx hb dX7_power_3 rfl hl (by decide) rfl (fun ls hl => ?_)
  refine lv_iload_n hx hb dX7_power_4 rfl (lv_at hl 0 rfl) ?_
  refine lv_iload_n hx hb dX7_power_5 rfl (lv_at hl 3 rfl) ?_
  refine lv_icmp_ge (tgt := 19) hx hb dX7_power_6 (by decide) (fun c_ => absurd c_ (by decide)) (fun c_ => ?_)
  refine lv_iload_n hx hb dX7_power_9 rfl (lv_at hl 1 rfl) ?_
  refine lv_iload_n hx hb dX7_power_10 rfl (lv_at hl 2 rfl) ?_
  refine lv_imul hx hb dX7_power_11 ?_
  refine x_ev (y := 4) (by decide) ?_
  refine lv_istore_n (lv' := [(2, .int 4), (3, .int 0), (0, .int 4), (1, .int 4)]) hx hb dX7_power_12 rfl hl (by decide) rfl (fun ls hl => ?_)
  refine lv_iinc (v := 1) (lv' := [(3, .int 1), (2, .int 4), (0, .int 4), (1, .int 4)]) hx hb dX7_power_13 hl (k := 1) rfl (by decide) (by decide) rfl (fun ls hl => ?_)
  refine lv_goto (tgt := 4) hx hb dX7_power_16 (by decide) ?_
  refine lv_iload_n hx hb dX7_power_4 rfl (lv_at hl 0 rfl) ?_
  refine lv_iload_n hx hb dX7_power_5 rfl (lv_at hl 3 rfl) ?_
  refine lv_icmp_ge (tgt := 19) hx hb dX7_power_6 (by decide) (fun c_ => absurd c_ (by decide)) (fun c_ => ?_)
  refine lv_iload_n hx hb dX7_power_9 rfl (lv_at hl 1 rfl) ?_
  refine lv_iload_n hx hb dX7_power_10 rfl (lv_at hl 2 rfl) ?_
  refine lv_imul hx hb dX7_power_11 ?_
  refine x_ev (y := 16) (by decide) ?_
  refine lv_istore_n (lv' := [(2, .int 16), (3, .int 1), (0, .int 4), (1, .int 4)]) hx hb dX7_power_12 rfl hl (by decide) rfl (fun ls hl => ?_)
  refine lv_iinc (v := 2) (lv' := [(3, .int 2), (2, .int 16), (0, .int 4), (1, .int 4)]) hx hb dX7_power_13 hl (k := 1) rfl (by decide) (by decide) rfl (fun ls hl => ?_)
  refine lv_goto (tgt := 4) hx hb dX7_power_16 (by decide) ?_
  refine lv_iload_n hx hb dX7_power_4 rfl (lv_at hl 0 rfl) ?_
  refine lv_iload_n hx hb dX7_power_5 rfl (lv_at hl 3 rfl) ?_
  refine lv_icmp_ge (tgt := 19) hx hb dX7_power_6 (by decide) (fun c_ => absurd c_ (by decide)) (fun c_ => ?_)
  refine lv_iload_n hx hb dX7_power_9 rfl (lv_at hl 1 rfl) ?_
  refine lv_iload_n hx hb dX7_power_10 rfl (lv_at hl 2 rfl) ?_
  refine lv_imul hx hb dX7_power_11 ?_
  refine x_ev (y := 64) (by decide) ?_
  refine lv_istore_n (lv' := [(2, .int 64), (3, .int 2), (0, .int 4), (1, .int 4)]) hx hb dX7_power_12 rfl hl (by decide) rfl (fun ls hl => ?_)
  refine lv_iinc (v := 3) (lv' := [(3, .int 3), (2, .int 64), (0, .int 4), (1, .int 4)]) hx hb dX7_power_13 hl (k := 1) rfl (by decide) (by decide) rfl (fun ls hl => ?_)
  refine lv_goto (tgt := 4) hx hb dX7_power_16 (by decide) ?_
  refine lv_iload_n hx hb dX7_power_4 rfl (lv_at hl 0 rfl) ?_
  refine lv_iload_n hx hb dX7_power_5 rfl (lv_at hl 3 rfl) ?_
  refine lv_icmp_ge (tgt := 19) hx hb dX7_power_6 (by decide) (fun c_ => absurd c_ (by decide)) (fun c_ => ?_)
  refine lv_iload_n hx hb dX7_power_9 rfl (lv_at hl 1 rfl) ?_
  refine lv_iload_n hx hb dX7_power_10 rfl (lv_at hl 2 rfl) ?_
  refine lv_imul hx hb dX7_power_11 ?_
  refine x_ev (y := 256) (by decide) ?_
  refine lv_istore_n (lv' := [(2, .int 256), (3, .int 3), (0, .int 4), (1, .int 4)]) hx hb dX7_power_12 rfl hl (by decide) rfl (fun ls hl => ?_)
  refine lv_iinc (v := 4) (lv' := [(3, .int 4), (2, .int 256), (0, .int 4), (1, .int 4)]) hx hb dX7_power_13 hl (k := 1) rfl (by decide) (by decide) rfl (fun ls hl => ?_)
  refine lv_goto (tgt := 4) hx hb dX7_power_16 (by decide) ?_
  refine lv_iload_n hx hb dX7_power_4 rfl (lv_at hl 0 rfl) ?_
  refine lv_iload_n hx hb dX7_power_5 rfl (lv_at hl 3 rfl) ?_
  refine lv_icmp_ge (tgt := 19) hx hb dX7_power_6 (by decide) (fun c_ => ?_) (fun c_ => absurd (by decide) c_)
  refine lv_iload_n hx hb dX7_power_19 rfl (lv_at hl 1 rfl) ?_
  exact t_iret hB hr hT (Nat.le_of_ble_eq_true rfl) (Nat.le_of_ble_eq_true rfl) dX7_power_20 ⟨rfl, rfl⟩
abbrev md_m_power : Nat → Nat → Bool := mdf []
set_option maxHeartbeats 4000000 in
set_option maxRecDepth 100000 in
theorem lt_m_power_a (l : Launch) (D : va_G) (cI cZ cS cR : ClassId) (N0 : NT) (g : GS) (n : Int32) (k : Int32)  {p : Program} {e : Env} {s : State} {m : MethodId} {args : Array Value} {below : List Frame} {meth : Method} {c : Code} (hB : Tz p s m meth c args cX7_power 4 RX7 D cI cZ cS cR N0) (hr : meth.sig.returnType = (some .int))    : ∀ (kf : Nat) (i : Int32) (v : Int32)  (H : Heap) (locs : List Loc) (ls : Array Slot), Tv D cI cZ cS cR N0 s.heap H locs g → Inv g → Ex g g → Sm md_m_power g g → 0 ≤ i.toInt → i.toInt ≤ 2147483647 → (2147483648 ≤ i.toInt + kf) → lv_has ls 4 [(3, .int i), (2, .int v), (0, .int n), (1, .int k)] → W p l e (rmx 0 0 0) s m args below meth c H locs 0 0 (MQ below (tQ D cI cZ cS cR N0 (fun v g' => ∃ (r : Int32), v = some (.int r) ∧ g' = g)) args s 0 0 (fun q => N0.1 ≤ q)) (F0 m 4 ls []) := by
  have hx := hB.1
  have hb := hB.2.1
  intro kf
  induction kf using Nat.strongRecOn with
  | ind kf ih =>
    intro i v H locs ls hT hI hE hM l_i u_i hk hl
    have rg := i_rng k
    refine lv_iload_n hx hb dX7_power_4 rfl (lv_at hl 0 rfl) ?_
    refine lv_iload_n hx hb dX7_power_5 rfl (lv_at hl 3 rfl) ?_
    refine lv_icmp_ge (tgt := 19) hx hb dX7_power_6 (by decide) (fun c_1 => ?_) (fun c_1 => ?_)
    · have c_1' : k.toInt ≤ i.toInt := i_le c_1 rfl rfl
      refine lv_iload_n hx hb dX7_power_19 rfl (lv_at hl 1 rfl) ?_
      exact t_iret hB hr hT (Nat.le_of_ble_eq_true rfl) (Nat.le_of_ble_eq_true rfl) dX7_power_20 ⟨v, rfl, rfl⟩
    · have c_1' : i.toInt < k.toInt := i_nle c_1 rfl rfl
      refine lv_iload_n hx hb dX7_power_9 rfl (lv_at hl 1 rfl) ?_
      refine lv_iload_n hx hb dX7_power_10 rfl (lv_at hl 2 rfl) ?_
      refine lv_imul hx hb dX7_power_11 ?_
      refine lv_topi (fun z_2 ez_2 => ?_)
      refine lv_istore_n (lv' := [(2, .int z_2), (3, .int i), (0, .int n), (1, .int k)]) hx hb dX7_power_12 rfl hl (by decide) rfl (fun ls hl => ?_)
      obtain ⟨z_3, ez_3⟩ : ∃ z : Int32, z = i + 1 := ⟨_, rfl⟩
      have e_z_3 : z_3.toInt = i.toInt + 1 := i_add ez_3 rfl (by decide) (by omega) (by omega)
      refine lv_iinc (v := z_3) (lv' := [(3, .int z_3), (2, .int z_2), (0, .int n), (1, .int k)]) hx hb dX7_power_13 hl (k := 1) rfl (by rw [ez_3]; rfl) (by decide) rfl (fun ls hl => ?_)
      refine lv_goto (tgt := 4) hx hb dX7_power_16 (by decide) ?_
      exact ih (kf - 1) (by omega) z_3 z_2 H locs ls hT hI hE hM (by omega) (by omega) (by have e0_ : (0 : Int32).toInt = 0 := (by decide); omega) (lv_sub hl [0, 1, 2, 3] rfl)
set_option maxHeartbeats 4000000 in
set_option maxRecDepth 100000 in
theorem m_power (l : Launch) (D : va_G) (cI cZ cS cR : ClassId) (N0 : NT) (g : GS) (hI : Inv g) (n : Int32) (k : Int32)  : Ty l D cI cZ cS cR N0 yX7_power cX7_power 4 (some .int) 0 0 0 [.int n, .int k] g (fun v g' => ∃ (r : Int32), v = some (.int r) ∧ g' = g) := by
  refine t_enter (by decide) (Nat.le_of_ble_eq_true rfl) ?_
  intro p e s m args below meth c ls H locs hB hr hin hl hT
  have hx := hB.1
  have hb := hB.2.1
  have hl : lv_has ls 4 [(0, .int n), (1, .int k)] := hl
  have hE : Ex g g := Ex.rf
  have hM : Sm md_m_power g g := Sm.rf
  refine lv_iconst (v := 1) hx hb dX7_power_0 (by decide) ?_
  refine lv_istore_n (lv' := [(2, .int 1), (0, .int n), (1, .int k)]) hx hb dX7_power_1 rfl hl (by decide) rfl (fun ls hl => ?_)
  refine lv_iconst (v := 0) hx hb dX7_power_2 (by decide) ?_
  refine lv_istore_n (lv' := [(3, .int 0), (2, .int 1), (0, .int n), (1, .int k)]) hx hb dX7_power_3 rfl hl (by decide) rfl (fun ls hl => ?_)
  exact lt_m_power_a l D cI cZ cS cR N0 g n k  hB hr   2147483648 (0 : Int32) (1 : Int32) H locs ls hT hI hE hM (by decide) (by decide) (by have e0_ : (0 : Int32).toInt = 0 := (by decide); have e1_ : (1 : Int32).toInt = 1 := (by decide); omega) (lv_sub hl [0, 1, 2, 3] rfl)
