theorem k_121 : Cond.fieldLink RX2 9 "TwiceOnce$Program" "words" "[I" ∈ tb := mt 121 (by decide +kernel) rfl
theorem k_125 : Cond.fieldLink RX2 15 "TwiceOnce$Program" "targets" "[I" ∈ tb := mt 125 (by decide +kernel) rfl
theorem k_129 : Cond.fieldLink RX2 18 "TwiceOnce$Program" "values" "[I" ∈ tb := mt 129 (by decide +kernel) rfl
theorem k_131 : Cond.fieldLink RX2 21 "TwiceOnce$Program" "size" "I" ∈ tb := mt 131 (by decide +kernel) rfl
theorem dX6_within_0 : decode cX6_within 0 = .ok (.iload_n 0, 1) := by decide +kernel
theorem dX6_within_1 : decode cX6_within 1 = .ok (.ifCond .lt 12, 3) := by decide +kernel
theorem dX6_within_13 : decode cX6_within 13 = .ok (.iconst 0, 1) := by decide +kernel
theorem dX6_within_14 : decode cX6_within 14 = .ok (.ireturn, 1) := by decide +kernel
theorem dX6_within_4 : decode cX6_within 4 = .ok (.iload_n 0, 1) := by decide +kernel
theorem dX6_within_5 : decode cX6_within 5 = .ok (.iload_n 1, 1) := by decide +kernel
theorem dX6_within_6 : decode cX6_within 6 = .ok (.if_icmp .gt 7, 3) := by decide +kernel
theorem dX6_within_9 : decode cX6_within 9 = .ok (.iconst 1, 1) := by decide +kernel
theorem dX6_within_10 : decode cX6_within 10 = .ok (.goto 4, 3) := by decide +kernel
theorem dX2_valueAt_0 : decode cX2_valueAt 0 = .ok (.aload_n 0, 1) := by decide +kernel
theorem dX2_valueAt_1 : decode cX2_valueAt 1 = .ok (.getfield 18, 3) := by decide +kernel
theorem dX2_valueAt_4 : decode cX2_valueAt 4 = .ok (.iload_n 1, 1) := by decide +kernel
theorem dX2_valueAt_5 : decode cX2_valueAt 5 = .ok (.iaload, 1) := by decide +kernel
theorem dX2_valueAt_6 : decode cX2_valueAt 6 = .ok (.istore 4, 2) := by decide +kernel
theorem dX2_valueAt_8 : decode cX2_valueAt 8 = .ok (.iload 4, 2) := by decide +kernel
theorem dX2_valueAt_10 : decode cX2_valueAt 10 = .ok (.sipush 1000, 3) := by decide +kernel
theorem dX2_valueAt_13 : decode cX2_valueAt 13 = .ok (.if_icmp .ne 5, 3) := by decide +kernel
theorem dX2_valueAt_18 : decode cX2_valueAt 18 = .ok (.iload 4, 2) := by decide +kernel
theorem dX2_valueAt_20 : decode cX2_valueAt 20 = .ok (.sipush 1001, 3) := by decide +kernel
theorem dX2_valueAt_23 : decode cX2_valueAt 23 = .ok (.if_icmp .ne 13, 3) := by decide +kernel
theorem dX2_valueAt_36 : decode cX2_valueAt 36 = .ok (.iload 4, 2) := by decide +kernel
theorem dX2_valueAt_38 : decode cX2_valueAt 38 = .ok (.ireturn, 1) := by decide +kernel
theorem dX2_valueAt_26 : decode cX2_valueAt 26 = .ok (.iload_n 3, 1) := by decide +kernel
theorem dX2_valueAt_27 : decode cX2_valueAt 27 = .ok (.ifCond .le 7, 3) := by decide +kernel
theorem dX2_valueAt_34 : decode cX2_valueAt 34 = .ok (.iconst 0, 1) := by decide +kernel
theorem dX2_valueAt_35 : decode cX2_valueAt 35 = .ok (.ireturn, 1) := by decide +kernel
theorem dX2_valueAt_30 : decode cX2_valueAt 30 = .ok (.iload_n 3, 1) := by decide +kernel
theorem dX2_valueAt_31 : decode cX2_valueAt 31 = .ok (.goto 4, 3) := by decide +kernel
theorem dX2_valueAt_16 : decode cX2_valueAt 16 = .ok (.iload_n 2, 1) := by decide +kernel
theorem dX2_valueAt_17 : decode cX2_valueAt 17 = .ok (.ireturn, 1) := by decide +kernel
theorem dX2_append_0 : decode cX2_append 0 = .ok (.aload_n 0, 1) := by decide +kernel
theorem dX2_append_1 : decode cX2_append 1 = .ok (.getfield 21, 3) := by decide +kernel
theorem dX2_append_4 : decode cX2_append 4 = .ok (.bipush 8, 2) := by decide +kernel
theorem dX2_append_6 : decode cX2_append 6 = .ok (.if_icmp .ge 43, 3) := by decide +kernel
theorem dX2_append_9 : decode cX2_append 9 = .ok (.aload_n 0, 1) := by decide +kernel
theorem dX2_append_10 : decode cX2_append 10 = .ok (.getfield 9, 3) := by decide +kernel
theorem dX2_append_13 : decode cX2_append 13 = .ok (.aload_n 0, 1) := by decide +kernel
theorem dX2_append_14 : decode cX2_append 14 = .ok (.getfield 21, 3) := by decide +kernel
theorem dX2_append_17 : decode cX2_append 17 = .ok (.iload_n 1, 1) := by decide +kernel
theorem dX2_append_18 : decode cX2_append 18 = .ok (.iastore, 1) := by decide +kernel
theorem dX2_append_19 : decode cX2_append 19 = .ok (.aload_n 0, 1) := by decide +kernel
theorem dX2_append_20 : decode cX2_append 20 = .ok (.getfield 15, 3) := by decide +kernel
theorem dX2_append_23 : decode cX2_append 23 = .ok (.aload_n 0, 1) := by decide +kernel
theorem dX2_append_24 : decode cX2_append 24 = .ok (.getfield 21, 3) := by decide +kernel
theorem dX2_append_27 : decode cX2_append 27 = .ok (.iload_n 2, 1) := by decide +kernel
theorem dX2_append_28 : decode cX2_append 28 = .ok (.iastore, 1) := by decide +kernel
theorem dX2_append_29 : decode cX2_append 29 = .ok (.aload_n 0, 1) := by decide +kernel
theorem dX2_append_30 : decode cX2_append 30 = .ok (.getfield 18, 3) := by decide +kernel
theorem dX2_append_33 : decode cX2_append 33 = .ok (.aload_n 0, 1) := by decide +kernel
theorem dX2_append_34 : decode cX2_append 34 = .ok (.getfield 21, 3) := by decide +kernel
theorem dX2_append_37 : decode cX2_append 37 = .ok (.iload_n 3, 1) := by decide +kernel
theorem dX2_append_38 : decode cX2_append 38 = .ok (.iastore, 1) := by decide +kernel
theorem dX2_append_39 : decode cX2_append 39 = .ok (.aload_n 0, 1) := by decide +kernel
theorem dX2_append_40 : decode cX2_append 40 = .ok (.dup, 1) := by decide +kernel
theorem dX2_append_41 : decode cX2_append 41 = .ok (.getfield 21, 3) := by decide +kernel
theorem dX2_append_44 : decode cX2_append 44 = .ok (.iconst 1, 1) := by decide +kernel
theorem dX2_append_45 : decode cX2_append 45 = .ok (.iadd, 1) := by decide +kernel
theorem dX2_append_46 : decode cX2_append 46 = .ok (.putfield 21, 3) := by decide +kernel
theorem dX2_append_49 : decode cX2_append 49 = .ok (.return_, 1) := by decide +kernel
abbrev md_s_within : Nat → Nat → Bool := mdf []
set_option maxHeartbeats 4000000 in
set_option maxRecDepth 100000 in
theorem s_within (l : Launch) (D : va_G) (cI cZ cS cR : ClassId) (N0 : NT) (g : GS) (hI : Inv g) (n : Int32) (b : Int32)  : Ty l D cI cZ cS cR N0 yX6_within cX6_within 2 (some .boolean) 0 0 0 [.int n, .int b] g (fun v g' => ∃ (r : Int32), v = some (.int r) ∧ g' = g ∧ ((r = 1 ∧ 0 ≤ n.toInt ∧ n.toInt ≤ b.toInt) ∨ (r = 0 ∧ (n.toInt < 0 ∨ b.toInt < n.toInt)))) := by
  refine t_enter (by decide) (Nat.le_of_ble_eq_true rfl) ?_
  intro p e s m args below meth c ls H locs hB hr hin hl hT
  have hx := hB.1
  have hb := hB.2.1
  have hl : lv_has ls 2 [(0, .int n), (1, .int b)] := hl
  have hE : Ex g g := Ex.rf
  have hM : Sm md_s_within g g := Sm.rf
  refine lv_iload_n hx hb dX6_within_0 rfl (lv_at hl 0 rfl) ?_
  refine lv_if_lt (tgt := 13) hx hb dX6_within_1 (by decide) (fun c_1 => ?_) (fun c_1 => ?_)
  · have c_1' : n.toInt < 0 := i_lt c_1 rfl (by decide)
    refine lv_iconst (v := 0) hx hb dX6_within_13 (by decide) ?_
    exact t_zret hB hr rfl hT (Nat.le_of_ble_eq_true rfl) (Nat.le_of_ble_eq_true rfl) dX6_within_14 ⟨0, rfl, rfl, (Or.inr ⟨rfl, by omega⟩)⟩
  · have c_1' : 0 ≤ n.toInt := i_nlt c_1 rfl (by decide)
    refine lv_iload_n hx hb dX6_within_4 rfl (lv_at hl 0 rfl) ?_
    refine lv_iload_n hx hb dX6_within_5 rfl (lv_at hl 1 rfl) ?_
    refine lv_icmp_gt (tgt := 13) hx hb dX6_within_6 (by decide) (fun c_2 => ?_) (fun c_2 => ?_)
    · have c_2' : b.toInt < n.toInt := i_lt c_2 rfl rfl
      refine lv_iconst (v := 0) hx hb dX6_within_13 (by decide) ?_
      exact t_zret hB hr rfl hT (Nat.le_of_ble_eq_true rfl) (Nat.le_of_ble_eq_true rfl) dX6_within_14 ⟨0, rfl, rfl, (Or.inr ⟨rfl, by omega⟩)⟩
    · have c_2' : n.toInt ≤ b.toInt := i_nlt c_2 rfl rfl
      refine lv_iconst (v := 1) hx hb dX6_within_9 (by decide) ?_
      refine lv_goto (tgt := 14) hx hb dX6_within_10 (by decide) ?_
      exact t_zret hB hr rfl hT (Nat.le_of_ble_eq_true rfl) (Nat.le_of_ble_eq_true rfl) dX6_within_14 ⟨1, rfl, rfl, (Or.inl ⟨rfl, by omega, by omega⟩)⟩
abbrev md_s_valueAt : Nat → Nat → Bool := mdf []
set_option maxHeartbeats 4000000 in
set_option maxRecDepth 100000 in
theorem s_valueAt (l : Launch) (D : va_G) (cI cZ cS cR : ClassId) (N0 : NT) (g : GS) (hI : Inv g) (h : Nat) (n : Int32) (k : Int32) (j : Int32) (r_h : g.1 h = 3) (l_n : 0 ≤ n.toInt) (u_n : n.toInt ≤ 7) : Ty l D cI cZ cS cR N0 yX2_valueAt cX2_valueAt 5 (some .int) 0 0 0 [.ref h, .int n, .int k, .int j] g (fun v g' => ∃ (r : Int32), v = some (.int r) ∧ g' = g) := by
  refine t_enter (by decide) (Nat.le_of_ble_eq_true rfl) ?_
  intro p e s m args below meth c ls H locs hB hr hin hl hT
  have hx := hB.1
  have hb := hB.2.1
  have hl : lv_has ls 5 [(0, .ref h), (1, .int n), (2, .int k), (3, .int j)] := hl
  have hE : Ex g g := Ex.rf
  have hM : Sm md_s_valueAt g g := Sm.rf
  refine lv_aload_n hx hb dX2_valueAt_0 rfl (lv_at hl 0 rfl) ?_
  obtain ⟨v_1, e_v_1, r_v_1, n_v_1⟩ := f_3_2 hI r_h
  refine t_get (ci := 2) (v := .ref v_1) hB hT (ro_ci r_h rfl) rfl 2 (by decide) k_129 e_v_1 dX2_valueAt_1 ?_
  refine lv_iload_n hx hb dX2_valueAt_4 rfl (lv_at hl 1 rfl) ?_
  have i_u_2 : vp_in n 8 := (i_in (n := 8) rfl (by omega) (by omega))
  refine t_iald hB hT (ro_in r_v_1 (by decide)) n_v_1 i_u_2 rfl dX2_valueAt_5 ?_
  refine lv_topi (fun u_2 e_u_2 => ?_)
  refine lv_istore (lv' := [(4, .int u_2), (0, .ref h), (1, .int n), (2, .int k), (3, .int j)]) hx hb dX2_valueAt_6 hl (by decide) rfl (fun ls hl => ?_)
  refine lv_iload hx hb dX2_valueAt_8 (lv_at hl 0 rfl) ?_
  refine lv_sipush (v := 1000) hx hb dX2_valueAt_10 (by decide) ?_
  refine lv_icmp_ne (tgt := 18) hx hb dX2_valueAt_13 (by decide) (fun c_3 => ?_) (fun c_3 => ?_)
  · have c_3' : u_2.toInt ≠ 1000 := i_ne c_3 rfl (by decide)
    refine lv_iload hx hb dX2_valueAt_18 (lv_at hl 0 rfl) ?_
    refine lv_sipush (v := 1001) hx hb dX2_valueAt_20 (by decide) ?_
    refine lv_icmp_ne (tgt := 36) hx hb dX2_valueAt_23 (by decide) (fun c_4 => ?_) (fun c_4 => ?_)
    · have c_4' : u_2.toInt ≠ 1001 := i_ne c_4 rfl (by decide)
      refine lv_iload hx hb dX2_valueAt_36 (lv_at hl 0 rfl) ?_
      exact t_iret hB hr hT (Nat.le_of_ble_eq_true rfl) (Nat.le_of_ble_eq_true rfl) dX2_valueAt_38 ⟨u_2, rfl, rfl⟩
    · have c_4' : u_2.toInt = 1001 := i_eq c_4 rfl (by decide)
      refine lv_iload_n hx hb dX2_valueAt_26 rfl (lv_at hl 4 rfl) ?_
      refine lv_if_le (tgt := 34) hx hb dX2_valueAt_27 (by decide) (fun c_5 => ?_) (fun c_5 => ?_)
      · have c_5' : j.toInt ≤ 0 := i_le c_5 rfl (by decide)
        refine lv_iconst (v := 0) hx hb dX2_valueAt_34 (by decide) ?_
        exact t_iret hB hr hT (Nat.le_of_ble_eq_true rfl) (Nat.le_of_ble_eq_true rfl) dX2_valueAt_35 ⟨0, rfl, rfl⟩
      · have c_5' : 0 < j.toInt := i_nle c_5 rfl (by decide)
        refine lv_iload_n hx hb dX2_valueAt_30 rfl (lv_at hl 4 rfl) ?_
        refine lv_goto (tgt := 35) hx hb dX2_valueAt_31 (by decide) ?_
        exact t_iret hB hr hT (Nat.le_of_ble_eq_true rfl) (Nat.le_of_ble_eq_true rfl) dX2_valueAt_35 ⟨j, rfl, rfl⟩
  · have c_3' : u_2.toInt = 1000 := i_eq c_3 rfl (by decide)
    refine lv_iload_n hx hb dX2_valueAt_16 rfl (lv_at hl 3 rfl) ?_
    exact t_iret hB hr hT (Nat.le_of_ble_eq_true rfl) (Nat.le_of_ble_eq_true rfl) dX2_valueAt_17 ⟨k, rfl, rfl⟩
abbrev md_s_pappend : Nat → Nat → Bool := mdf [(3, 3), (68, 99), (69, 99), (70, 99)]
set_option maxHeartbeats 4000000 in
set_option maxRecDepth 100000 in
theorem s_pappend (l : Launch) (D : va_G) (cI cZ cS cR : ClassId) (N0 : NT) (g : GS) (hI : Inv g) (h : Nat) (n : Int32) (k : Int32) (j : Int32) (z : Int32) (wa : Nat) (ta : Nat) (va : Nat) (r_h : g.1 h = 3) (r_wa : g.1 wa = 68) (n_wa : g.2.2.1 wa = 8) (r_ta : g.1 ta = 69) (n_ta : g.2.2.1 ta = 8) (r_va : g.1 va = 70) (n_va : g.2.2.1 va = 8) (kz : g.2.1 h 3 = .int z) (kwa : g.2.1 h 0 = .ref wa) (kta : g.2.1 h 1 = .ref ta) (kva : g.2.1 h 2 = .ref va) (l_k : 0 ≤ k.toInt) (u_k : k.toInt ≤ 5) (l_z : 0 ≤ z.toInt) (u_z : z.toInt ≤ 7) : Ty l D cI cZ cS cR N0 yX2_append cX2_append 4 none 0 0 0 [.ref h, .int n, .int k, .int j] g (fun v g' => ∃ (z2 : Int32), v = none ∧ Inv g' ∧ Ex g g' ∧ Sm md_s_pappend g g' ∧ (g'.2.1 h 3 = .int z2) ∧ (z2.toInt = z.toInt + 1) ∧ (UP g' wa (g.2.2.2.1 wa) true z.toNatClampNeg n) ∧ (UP g' ta (g.2.2.2.1 ta) true z.toNatClampNeg k) ∧ (UP g' va (g.2.2.2.1 va) true z.toNatClampNeg j) ∧ (OX h wa ta va g g')) := by
  refine t_enter (by decide) (Nat.le_of_ble_eq_true rfl) ?_
  intro p e s m args below meth c ls H locs hB hr hin hl hT
  have hx := hB.1
  have hb := hB.2.1
  have hl : lv_has ls 4 [(0, .ref h), (1, .int n), (2, .int k), (3, .int j)] := hl
  have hE : Ex g g := Ex.rf
  have hM : Sm md_s_pappend g g := Sm.rf
  have hU0 : UP g wa (g.2.2.2.1 wa) false z.toNatClampNeg n := UP.zero rfl
  have hU1 : UP g ta (g.2.2.2.1 ta) false z.toNatClampNeg k := UP.zero rfl
  have hU2 : UP g va (g.2.2.2.1 va) false z.toNatClampNeg j := UP.zero rfl
  refine lv_aload_n hx hb dX2_append_0 rfl (lv_at hl 0 rfl) ?_
  refine t_get (ci := 2) (v := .int z) hB hT (ro_ci r_h rfl) rfl 3 (by decide) k_131 kz dX2_append_1 ?_
  refine lv_bipush (v := 8) hx hb dX2_append_4 (by decide) ?_
  refine lv_icmp_ge (tgt := 49) hx hb dX2_append_6 (by decide) (fun c_1 => ?_) (fun c_1 => ?_)
  · have c_1' : 8 ≤ z.toInt := i_le c_1 (by decide) rfl
    exact absurd c_1' (by omega)
  · have c_1' : z.toInt < 8 := i_nle c_1 (by decide) rfl
    refine lv_aload_n hx hb dX2_append_9 rfl (lv_at hl 0 rfl) ?_
    refine t_get (ci := 2) (v := .ref wa) hB hT (ro_ci r_h rfl) rfl 0 (by decide) k_121 kwa dX2_append_10 ?_
    refine lv_aload_n hx hb dX2_append_13 rfl (lv_at hl 0 rfl) ?_
    refine t_get (ci := 2) (v := .int z) hB hT (ro_ci r_h rfl) rfl 3 (by decide) k_131 kz dX2_append_14 ?_
    refine lv_iload_n hx hb dX2_append_17 rfl (lv_at hl 1 rfl) ?_
    have i_2 : vp_in z 8 := (i_in (n := 8) rfl (by omega) (by omega))
    refine t_iast hB hT (ro_in r_wa (by decide)) n_wa i_2 dX2_append_18 (fun H locs hT => ?_)
    have hI : Inv (sC g wa z.toNatClampNeg n) := hI.sC (ck r_wa trivial)
    have hM : Sm md_s_pappend g (sC g wa z.toNatClampNeg n) := hM.tr hE (Sm_sC (by rw [r_wa]; rfl))
    have hE : Ex g (sC g wa z.toNatClampNeg n) := hE
    have hU0 : UP (sC g wa z.toNatClampNeg n) wa (g.2.2.2.1 wa) true z.toNatClampNeg n := UP.st hU0 rfl
    have hU1 : UP (sC g wa z.toNatClampNeg n) ta (g.2.2.2.1 ta) false z.toNatClampNeg k := hU1.tC (ro_ne r_ta r_wa (by decide))
    have hU2 : UP (sC g wa z.toNatClampNeg n) va (g.2.2.2.1 va) false z.toNatClampNeg j := hU2.tC (ro_ne r_va r_wa (by decide))
    refine lv_aload_n hx hb dX2_append_19 rfl (lv_at hl 0 rfl) ?_
    refine t_get (ci := 2) (v := .ref ta) hB hT (ro_ci r_h rfl) rfl 1 (by decide) k_125 kta dX2_append_20 ?_
    refine lv_aload_n hx hb dX2_append_23 rfl (lv_at hl 0 rfl) ?_
    refine t_get (ci := 2) (v := .int z) hB hT (ro_ci r_h rfl) rfl 3 (by decide) k_131 kz dX2_append_24 ?_
    refine lv_iload_n hx hb dX2_append_27 rfl (lv_at hl 2 rfl) ?_
    have i_3 : vp_in z 8 := (i_in (n := 8) rfl (by omega) (by omega))
    refine t_iast hB hT (ro_in r_ta (by decide)) n_ta i_3 dX2_append_28 (fun H locs hT => ?_)
    have hI : Inv (sC (sC g wa z.toNatClampNeg n) ta z.toNatClampNeg k) := hI.sC (ck r_ta ⟨by omega, by omega⟩)
    have hM : Sm md_s_pappend g (sC (sC g wa z.toNatClampNeg n) ta z.toNatClampNeg k) := hM.tr hE (Sm_sC (by rw [r_ta]; rfl))
    have hE : Ex g (sC (sC g wa z.toNatClampNeg n) ta z.toNatClampNeg k) := hE
    have hU0 : UP (sC (sC g wa z.toNatClampNeg n) ta z.toNatClampNeg k) wa (g.2.2.2.1 wa) true z.toNatClampNeg n := hU0.tC (ro_ne r_wa r_ta (by decide))
    have hU1 : UP (sC (sC g wa z.toNatClampNeg n) ta z.toNatClampNeg k) ta (g.2.2.2.1 ta) true z.toNatClampNeg k := UP.st hU1 rfl
    have hU2 : UP (sC (sC g wa z.toNatClampNeg n) ta z.toNatClampNeg k) va (g.2.2.2.1 va) false z.toNatClampNeg j := hU2.tC (ro_ne r_va r_ta (by decide))
    refine lv_aload_n hx hb dX2_append_29 rfl (lv_at hl 0 rfl) ?_
    refine t_get (ci := 2) (v := .ref va) hB hT (ro_ci r_h rfl) rfl 2 (by decide) k_129 kva dX2_append_30 ?_
    refine lv_aload_n hx hb dX2_append_33 rfl (lv_at hl 0 rfl) ?_
    refine t_get (ci := 2) (v := .int z) hB hT (ro_ci r_h rfl) rfl 3 (by decide) k_131 kz dX2_append_34 ?_
    refine lv_iload_n hx hb dX2_append_37 rfl (lv_at hl 3 rfl) ?_
    have i_4 : vp_in z 8 := (i_in (n := 8) rfl (by omega) (by omega))
    refine t_iast hB hT (ro_in r_va (by decide)) n_va i_4 dX2_append_38 (fun H locs hT => ?_)
    have hI : Inv (sC (sC (sC g wa z.toNatClampNeg n) ta z.toNatClampNeg k) va z.toNatClampNeg j) := hI.sC (ck r_va trivial)
    have hM : Sm md_s_pappend g (sC (sC (sC g wa z.toNatClampNeg n) ta z.toNatClampNeg k) va z.toNatClampNeg j) := hM.tr hE (Sm_sC (by rw [r_va]; rfl))
    have hE : Ex g (sC (sC (sC g wa z.toNatClampNeg n) ta z.toNatClampNeg k) va z.toNatClampNeg j) := hE
    have hU0 : UP (sC (sC (sC g wa z.toNatClampNeg n) ta z.toNatClampNeg k) va z.toNatClampNeg j) wa (g.2.2.2.1 wa) true z.toNatClampNeg n := hU0.tC (ro_ne r_wa r_va (by decide))
    have hU1 : UP (sC (sC (sC g wa z.toNatClampNeg n) ta z.toNatClampNeg k) va z.toNatClampNeg j) ta (g.2.2.2.1 ta) true z.toNatClampNeg k := hU1.tC (ro_ne r_ta r_va (by decide))
    have hU2 : UP (sC (sC (sC g wa z.toNatClampNeg n) ta z.toNatClampNeg k) va z.toNatClampNeg j) va (g.2.2.2.1 va) true z.toNatClampNeg j := UP.st hU2 rfl
    refine lv_aload_n hx hb dX2_append_39 rfl (lv_at hl 0 rfl) ?_
    refine lv_dup hx hb dX2_append_40 rfl ?_
    refine t_get (ci := 2) (v := .int z) hB hT (ro_ci r_h rfl) rfl 3 (by decide) k_131 kz dX2_append_41 ?_
    refine lv_iconst (v := 1) hx hb dX2_append_44 (by decide) ?_
    refine lv_iadd hx hb dX2_append_45 ?_
    refine lv_topi (fun z_5 ez_5 => ?_)
    have e_z_5 : z_5.toInt = z.toInt + 1 := i_add ez_5 rfl (by decide) (by omega) (by omega)
    refine t_put0 (ci := 2) (v := .int z_5) hB hT (ro_ci r_h rfl) (ro_n0 r_h (by decide)) rfl 3 (by decide) k_131 (Or.inl rfl) rfl rfl dX2_append_46 (fun H locs hT => ?_)
    have hI : Inv (sF (sC (sC (sC g wa z.toNatClampNeg n) ta z.toNatClampNeg k) va z.toNatClampNeg j) h 3 (.int z_5)) := hI.sF (p_3_3 r_h (⟨_, rfl, by omega, by omega⟩))
    have hM : Sm md_s_pappend g (sF (sC (sC (sC g wa z.toNatClampNeg n) ta z.toNatClampNeg k) va z.toNatClampNeg j) h 3 (.int z_5)) := hM.tr hE (Sm_sF (by rw [r_h]; rfl))
    have hE : Ex g (sF (sC (sC (sC g wa z.toNatClampNeg n) ta z.toNatClampNeg k) va z.toNatClampNeg j) h 3 (.int z_5)) := hE
    have hU0 : UP (sF (sC (sC (sC g wa z.toNatClampNeg n) ta z.toNatClampNeg k) va z.toNatClampNeg j) h 3 (.int z_5)) wa (g.2.2.2.1 wa) true z.toNatClampNeg n := hU0
    have hU1 : UP (sF (sC (sC (sC g wa z.toNatClampNeg n) ta z.toNatClampNeg k) va z.toNatClampNeg j) h 3 (.int z_5)) ta (g.2.2.2.1 ta) true z.toNatClampNeg k := hU1
    have hU2 : UP (sF (sC (sC (sC g wa z.toNatClampNeg n) ta z.toNatClampNeg k) va z.toNatClampNeg j) h 3 (.int z_5)) va (g.2.2.2.1 va) true z.toNatClampNeg j := hU2
    exact t_vret hB hr hT (Nat.le_of_ble_eq_true rfl) (Nat.le_of_ble_eq_true rfl) dX2_append_49 ⟨z_5, rfl, hI, hE, hM, sF_eq, (by omega), hU0, hU1, hU2, OX.ap⟩
