theorem k_334 : Cond.methodLink RX6 54 yX4_append ∈ tb := mt 334 (by decide +kernel) rfl
theorem k_335 : Cond.instanceMethod yX4_append ∈ tb := mt 335 (by decide +kernel) rfl
theorem k_336 : Cond.selects RX4 yX4_append yX4_append ∈ tb := mt 336 (by decide +kernel) rfl
set_option maxRecDepth 20000 in
theorem k_337 : Cond.code yX4_append cX4_append 5 none ∈ tb := mt 337 rfl rfl
theorem k_338 : Cond.constantLong RX4 25 255 ∈ tb := mt 338 (by decide +kernel) rfl
theorem dX4_append_5 : decode cX4_append 5 = .ok (.iload 4, 2) := by decide +kernel
theorem dX4_append_7 : decode cX4_append 7 = .ok (.ifCond .lt 49, 3) := by decide +kernel
theorem dX4_append_10 : decode cX4_append 10 = .ok (.aload_n 0, 1) := by decide +kernel
theorem dX4_append_11 : decode cX4_append 11 = .ok (.getfield 15, 3) := by decide +kernel
theorem dX4_append_14 : decode cX4_append 14 = .ok (.bipush 100, 2) := by decide +kernel
theorem dX4_append_16 : decode cX4_append 16 = .ok (.if_icmp .ge 40, 3) := by decide +kernel
theorem dX4_append_19 : decode cX4_append 19 = .ok (.aload_n 0, 1) := by decide +kernel
theorem dX4_append_20 : decode cX4_append 20 = .ok (.getfield 9, 3) := by decide +kernel
theorem dX4_append_23 : decode cX4_append 23 = .ok (.aload_n 0, 1) := by decide +kernel
theorem dX4_append_24 : decode cX4_append 24 = .ok (.getfield 15, 3) := by decide +kernel
theorem dX4_append_27 : decode cX4_append 27 = .ok (.lload_n 1, 1) := by decide +kernel
theorem dX4_append_28 : decode cX4_append 28 = .ok (.bipush 8, 2) := by decide +kernel
theorem dX4_append_30 : decode cX4_append 30 = .ok (.iload 4, 2) := by decide +kernel
theorem dX4_append_32 : decode cX4_append 32 = .ok (.imul, 1) := by decide +kernel
theorem dX4_append_33 : decode cX4_append 33 = .ok (.lushr, 1) := by decide +kernel
theorem dX4_append_34 : decode cX4_append 34 = .ok (.ldc2_w 25, 3) := by decide +kernel
theorem dX4_append_37 : decode cX4_append 37 = .ok (.land, 1) := by decide +kernel
theorem dX4_append_38 : decode cX4_append 38 = .ok (.l2i, 1) := by decide +kernel
theorem dX4_append_39 : decode cX4_append 39 = .ok (.iastore, 1) := by decide +kernel
theorem dX4_append_40 : decode cX4_append 40 = .ok (.aload_n 0, 1) := by decide +kernel
theorem dX4_append_41 : decode cX4_append 41 = .ok (.dup, 1) := by decide +kernel
theorem dX4_append_42 : decode cX4_append 42 = .ok (.getfield 15, 3) := by decide +kernel
theorem dX4_append_45 : decode cX4_append 45 = .ok (.iconst 1, 1) := by decide +kernel
theorem dX4_append_46 : decode cX4_append 46 = .ok (.iadd, 1) := by decide +kernel
theorem dX4_append_47 : decode cX4_append 47 = .ok (.putfield 15, 3) := by decide +kernel
theorem dX4_append_50 : decode cX4_append 50 = .ok (.iinc 4 (-1), 3) := by decide +kernel
theorem dX4_append_53 : decode cX4_append 53 = .ok (.goto (-48), 3) := by decide +kernel
theorem dX4_append_0 : decode cX4_append 0 = .ok (.iload_n 3, 1) := by decide +kernel
theorem dX4_append_1 : decode cX4_append 1 = .ok (.iconst 1, 1) := by decide +kernel
theorem dX4_append_2 : decode cX4_append 2 = .ok (.isub, 1) := by decide +kernel
theorem dX4_append_3 : decode cX4_append 3 = .ok (.istore 4, 2) := by decide +kernel
theorem dX4_append_56 : decode cX4_append 56 = .ok (.return_, 1) := by decide +kernel
theorem dX6_feed_0 : decode cX6_feed 0 = .ok (.iload_n 3, 1) := by decide +kernel
theorem dX6_feed_1 : decode cX6_feed 1 = .ok (.iconst 1, 1) := by decide +kernel
theorem dX6_feed_2 : decode cX6_feed 2 = .ok (.if_icmp .lt 9, 3) := by decide +kernel
theorem dX6_feed_11 : decode cX6_feed 11 = .ok (.bipush (-2), 2) := by decide +kernel
theorem dX6_feed_13 : decode cX6_feed 13 = .ok (.ireturn, 1) := by decide +kernel
theorem dX6_feed_5 : decode cX6_feed 5 = .ok (.iload_n 3, 1) := by decide +kernel
theorem dX6_feed_6 : decode cX6_feed 6 = .ok (.bipush 8, 2) := by decide +kernel
theorem dX6_feed_8 : decode cX6_feed 8 = .ok (.if_icmp .le 6, 3) := by decide +kernel
theorem dX6_feed_14 : decode cX6_feed 14 = .ok (.aload_n 0, 1) := by decide +kernel
theorem dX6_feed_15 : decode cX6_feed 15 = .ok (.getfield 12, 3) := by decide +kernel
theorem dX6_feed_18 : decode cX6_feed 18 = .ok (.getfield 50, 3) := by decide +kernel
theorem dX6_feed_21 : decode cX6_feed 21 = .ok (.iload_n 3, 1) := by decide +kernel
theorem dX6_feed_22 : decode cX6_feed 22 = .ok (.iadd, 1) := by decide +kernel
theorem dX6_feed_23 : decode cX6_feed 23 = .ok (.bipush 100, 2) := by decide +kernel
theorem dX6_feed_25 : decode cX6_feed 25 = .ok (.if_icmp .le 6, 3) := by decide +kernel
theorem dX6_feed_31 : decode cX6_feed 31 = .ok (.aload_n 0, 1) := by decide +kernel
theorem dX6_feed_32 : decode cX6_feed 32 = .ok (.getfield 12, 3) := by decide +kernel
theorem dX6_feed_35 : decode cX6_feed 35 = .ok (.lload_n 1, 1) := by decide +kernel
theorem dX6_feed_36 : decode cX6_feed 36 = .ok (.iload_n 3, 1) := by decide +kernel
theorem dX6_feed_37 : decode cX6_feed 37 = .ok (.invokevirtual 54, 3) := by decide +kernel
theorem dX6_feed_40 : decode cX6_feed 40 = .ok (.aload_n 0, 1) := by decide +kernel
theorem dX6_feed_41 : decode cX6_feed 41 = .ok (.getfield 12, 3) := by decide +kernel
theorem dX6_feed_44 : decode cX6_feed 44 = .ok (.getfield 50, 3) := by decide +kernel
theorem dX6_feed_47 : decode cX6_feed 47 = .ok (.ireturn, 1) := by decide +kernel
set_option maxHeartbeats 4000000 in
set_option maxRecDepth 100000 in
theorem lp_append {p : Program} {l : Launch} {e : Env} {R : Room} {s : State} {m : MethodId} {args : Array Value} {below : List Frame} {meth : Method} {c : Code} {D : va_G} {cI cZ cS : ClassId} {A : Nat → Prop} {N0 : NT} {cells slots : Nat} {Q : State → Prop} (hB : Bx p s m meth c args cX4_append 5 RX4 D cI cZ cS A N0) (h : Nat) (byt : Nat) (w : Int64) (x3 : Int32) (tt : Nat)  (K : ∀ (f : Nat → Int32) (H : Heap) (locs : List Loc) (ls : Array Slot), Vx D A s.heap H locs [(h, .inr (4, [.ref byt, .int (nI tt), .int 0, .int 0])), (byt, .inl (cI, 100, .inl f))] → lv_has ls 5 [(4, .int (-1)), (0, .ref h), (1, .long w), (3, .int x3)] → W p l e R s m args below meth c H locs cells slots Q (F0 m 56 ls [])) :
    ∀ (k : Nat) (t : Nat) (f : Nat → Int32) (H : Heap) (locs : List Loc) (ls : Array Slot), t + k = tt → tt ≤ 8 → Vx D A s.heap H locs [(h, .inr (4, [.ref byt, .int (nI t), .int 0, .int 0])), (byt, .inl (cI, 100, .inl f))] → lv_has ls 5 [(4, .int (dn k)), (0, .ref h), (1, .long w), (3, .int x3)] → W p l e R s m args below meth c H locs cells slots Q (F0 m 5 ls []) := by
  have hx := hB.1
  have hb := hB.2.1
  intro k
  induction k with
  | zero =>
    intro t f H locs ls hT h8 hV hl
    obtain rfl : tt = t := by omega
    have hV : Vx D A s.heap H locs [(h, .inr (4, [.ref byt, .int (nI tt), .int 0, .int 0])), (byt, .inl (cI, 100, .inl f))] := hV
    have hl : lv_has ls 5 [(4, .int (-1)), (0, .ref h), (1, .long w), (3, .int x3)] := hl
    refine lv_iload hx hb dX4_append_5 (lv_at hl 0 rfl) ?_
    refine lv_if_lt (tgt := 56) hx hb dX4_append_7 (by decide) (fun c_ => ?_) (fun c_ => absurd (by decide) c_)
    exact K f H locs ls hV (lv_sub hl [0, 1, 2, 3] rfl)
  | succ k ih =>
    intro t f H locs ls hT h8 hV hl
    have hV : Vx D A s.heap H locs [(h, .inr (4, [.ref byt, .int (nI t), .int 0, .int 0])), (byt, .inl (cI, 100, .inl f))] := hV
    have hl : lv_has ls 5 [(4, .int (nI k)), (0, .ref h), (1, .long w), (3, .int x3)] := hl
    refine lv_iload hx hb dX4_append_5 (lv_at hl 0 rfl) ?_
    refine lv_if_lt (tgt := 56) hx hb dX4_append_7 (by decide) (fun c_ => absurd c_ (nI_pos (by omega))) (fun c_ => ?_)
    refine lv_aload_n hx hb dX4_append_10 rfl (lv_at hl 1 rfl) ?_
    refine x_get (v := .int (nI t)) hB hV 0 rfl rfl 1 (by decide) k_87 rfl dX4_append_11 ?_
    refine lv_bipush (v := 100) hx hb dX4_append_14 (by decide) ?_
    refine lv_icmp_ge (tgt := 56) hx hb dX4_append_16 (by decide) (fun c_ => absurd c_ (nI_ge (a := t) (b := 100) (by omega) (by decide))) (fun c_ => ?_)
    refine lv_aload_n hx hb dX4_append_19 rfl (lv_at hl 1 rfl) ?_
    refine x_get (v := .ref byt) hB hV 0 rfl rfl 0 (by decide) k_86 rfl dX4_append_20 ?_
    refine lv_aload_n hx hb dX4_append_23 rfl (lv_at hl 1 rfl) ?_
    refine x_get (v := .int (nI t)) hB hV 0 rfl rfl 1 (by decide) k_87 rfl dX4_append_24 ?_
    refine lv_lload_n hx hb dX4_append_27 rfl (lv_at hl 2 rfl) ?_
    refine lv_bipush (v := 8) hx hb dX4_append_28 (by decide) ?_
    refine lv_iload hx hb dX4_append_30 (lv_at hl 0 rfl) ?_
    refine lv_imul hx hb dX4_append_32 ?_
    refine lv_topi (fun z_1 ez_1 => ?_)
    refine lv_lushr hx hb dX4_append_33 rfl ?_
    refine lv_topl (fun z_2 ez_2 => ?_)
    refine lv_ldc2 (v := 255) hx hb hB.2.2.2.1 (hB.2.2.2.2.1 _ k_338) dX4_append_34 ?_
    refine lv_land hx hb dX4_append_37 ?_
    refine lv_topl (fun z_3 ez_3 => ?_)
    refine lv_l2i hx hb dX4_append_38 rfl ?_
    refine lv_topi (fun z_4 ez_4 => ?_)
    refine x_iast (g := (upd f (nI t).toNatClampNeg z_4)) hB hV 1 rfl (vp_in_nI (by omega) (by decide)) rfl dX4_append_39 (fun H locs hV => ?_)
    have hV : Vx D A s.heap H locs [(h, .inr (4, [.ref byt, .int (nI t), .int 0, .int 0])), (byt, .inl (cI, 100, .inl (upd f (nI t).toNatClampNeg z_4)))] := hV
    refine lv_aload_n hx hb dX4_append_40 rfl (lv_at hl 1 rfl) ?_
    refine lv_dup hx hb dX4_append_41 rfl ?_
    refine x_get (v := .int (nI t)) hB hV 0 rfl rfl 1 (by decide) k_87 rfl dX4_append_42 ?_
    refine lv_iconst (v := 1) hx hb dX4_append_45 (by decide) ?_
    refine lv_iadd hx hb dX4_append_46 ?_
    refine x_ev (y := nI (t + 1)) (nI_add t 1) ?_
    refine x_put (v := .int (nI (t + 1))) hB hV 0 rfl rfl 1 (by decide) k_87 rfl rfl rfl (Nat.le_of_ble_eq_true rfl) dX4_append_47 (fun H locs hV => ?_)
    have hV : Vx D A s.heap H locs [(h, .inr (4, [.ref byt, .int (nI (t + 1)), .int 0, .int 0])), (byt, .inl (cI, 100, .inl (upd f (nI t).toNatClampNeg z_4)))] := hV
    refine lv_iinc (v := dn k) (lv' := [(4, .int (dn k)), (0, .ref h), (1, .long w), (3, .int x3)]) hx hb dX4_append_50 hl (k := 0) rfl (dn_dec k) (by decide) rfl (fun ls hl => ?_)
    refine lv_goto (tgt := 5) hx hb dX4_append_53 (by decide) ?_
    exact ih (t + 1) _ H locs ls (by omega) h8 hV (lv_sub hl [0, 1, 2, 3] rfl)
set_option maxHeartbeats 4000000 in
set_option maxRecDepth 100000 in
theorem c_append (l : Launch) (D : va_G) (cI cZ cS : ClassId) (N0 : NT) (h : Nat) (byt : Nat) (f : Nat → Int32) (w : Int64) (j : Nat) (x3 : Int32) (hj : j < 8) (e3 : x3 = nI (j + 1)) : Mx l D cI cZ cS N0 yX4_append cX4_append 5 none 1 0 0 [.ref h, .long w, .int x3] [(h, .inr (4, [.ref byt, .int 0, .int 0, .int 0])), (byt, .inl (cI, 100, .inl f))] (fun v w => v = none ∧ w = ([(h, .inr (4, [.ref byt, .int x3, .int 0, .int 0]))] : va_W)) := by
  refine x_enter (by decide) (Nat.le_of_ble_eq_true rfl) ?_
  intro p e s m args below meth c A ls H locs hB hr hin hl hV hA
  have hx := hB.1
  have hb := hB.2.1
  have hl : lv_has ls 5 [(0, .ref h), (1, .long w), (3, .int x3)] := hl
  refine lv_iload_n hx hb dX4_append_0 rfl (lv_at hl 2 rfl) ?_
  refine lv_iconst (v := 1) hx hb dX4_append_1 (by decide) ?_
  refine lv_isub hx hb dX4_append_2 ?_
  refine x_ev (y := nI j) (by rw [e3]; exact nI_pred j) ?_
  refine lv_istore (lv' := [(4, .int (nI j)), (0, .ref h), (1, .long w), (3, .int x3)]) hx hb dX4_append_3 hl (by decide) rfl (fun ls hl => ?_)
  subst e3
  refine lp_append hB h byt w (nI (j + 1)) (j + 1) (fun f H locs ls hV hl => ?_) (j + 1) 0 _ H locs ls (by omega) (by omega) hV (lv_sub hl [0, 1, 2, 3] rfl)
  exact x_vret (w := [(h, .inr (4, [.ref byt, .int (nI (j + 1)), .int 0, .int 0]))]) hB hr hV hA (Nat.le_of_ble_eq_true rfl) (Nat.le_of_ble_eq_true rfl) [0] rfl rfl (by decide) dX4_append_56 ⟨rfl, rfl⟩
theorem n_of {x : Int32} (h1 : ¬ x < 1) (h2 : x ≤ 8) : ∃ j : Nat, j < 8 ∧ x = nI (j + 1) := by
  have h0 : ¬ x < 0 := fun q => h1 (by
    rw [Int32.lt_iff_toInt_lt] at q ⊢
    have e0 : (0 : Int32).toInt = 0 := by decide
    have e1 : (1 : Int32).toInt = 1 := by decide
    omega)
  obtain ⟨j, hj, rfl⟩ := nI_of h0
  rw [Int32.lt_iff_toInt_lt, nI_toInt hj] at h1
  rw [Int32.le_iff_toInt_le, nI_toInt hj] at h2
  have e1 : (1 : Int32).toInt = 1 := by decide
  have e8 : (8 : Int32).toInt = 8 := by decide
  cases j with
  | zero => exact absurd e1 (by omega)
  | succ j => exact ⟨j, by omega, rfl⟩
set_option maxHeartbeats 4000000 in
set_option maxRecDepth 100000 in
theorem p_feed (l : Launch) (D : va_G) (cI cZ cS : ClassId) (N0 : NT) (h : Nat) (tp : Nat) (nw : Nat) (rw : Nat) (lg : Nat) (jd : Nat) (pr : Nat) (byt : Nat) (w : Int64) (x1 : Int32)  : Mx l D cI cZ cS N0 yX6_feed cX6_feed 4 (some .int) 2 0 0 [.ref h, .long w, .int x1] [(h, .inr (6, [.ref tp, .ref nw, .ref rw, .ref lg, .ref jd, .ref pr, .int 0])), (tp, .inr (4, [.ref byt, .int 0, .int 0, .int 0])), (byt, .inl (cI, 100, .inl (fun _ => 0)))] (fun v w => ∃ (r : Int32), v = some (.int r) ∧ w = ([] : va_W) ∧ (r = sp_feed x1)) := by
  refine x_enter (by decide) (Nat.le_of_ble_eq_true rfl) ?_
  intro p e s m args below meth c A ls H locs hB hr hin hl hV hA
  have hx := hB.1
  have hb := hB.2.1
  have hl : lv_has ls 4 [(0, .ref h), (1, .long w), (3, .int x1)] := hl
  refine lv_iload_n hx hb dX6_feed_0 rfl (lv_at hl 2 rfl) ?_
  refine lv_iconst (v := 1) hx hb dX6_feed_1 (by decide) ?_
  refine lv_icmp_lt (tgt := 11) hx hb dX6_feed_2 (by decide) (fun c1 => ?_) (fun c1 => ?_)
  · refine lv_bipush (v := (-2)) hx hb dX6_feed_11 (by decide) ?_
    exact x_iret (w := []) hB hr hV hA (Nat.le_of_ble_eq_true rfl) (Nat.le_of_ble_eq_true rfl) [] rfl rfl (by decide) dX6_feed_13 ⟨(-2), rfl, rfl, (if_pos (Or.inl c1)).symm⟩
  · refine lv_iload_n hx hb dX6_feed_5 rfl (lv_at hl 2 rfl) ?_
    refine lv_bipush (v := 8) hx hb dX6_feed_6 (by decide) ?_
    refine lv_icmp_le (tgt := 14) hx hb dX6_feed_8 (by decide) (fun c2 => ?_) (fun c2 => ?_)
    · obtain ⟨j, hj, e1⟩ := n_of c1 c2
      refine lv_aload_n hx hb dX6_feed_14 rfl (lv_at hl 0 rfl) ?_
      refine x_get (v := .ref tp) hB hV 0 rfl rfl 0 (by decide) k_308 rfl dX6_feed_15 ?_
      refine x_get (v := .int 0) hB hV 1 rfl rfl 1 (by decide) k_88 rfl dX6_feed_18 ?_
      refine lv_iload_n hx hb dX6_feed_21 rfl (lv_at hl 2 rfl) ?_
      refine lv_iadd hx hb dX6_feed_22 ?_
      refine x_ev (y := nI (j + 1)) (by rw [e1, Int32.zero_add]) ?_
      refine lv_bipush (v := 100) hx hb dX6_feed_23 (by decide) ?_
      refine lv_icmp_le (tgt := 31) hx hb dX6_feed_25 (by decide) (fun c_ => ?_) (fun c_ => absurd (nI_le (a := j + 1) (b := 100) (by omega) (by decide)) c_)
      refine lv_aload_n hx hb dX6_feed_31 rfl (lv_at hl 0 rfl) ?_
      refine x_get (v := .ref tp) hB hV 0 rfl rfl 0 (by decide) k_308 rfl dX6_feed_32 ?_
      refine lv_lload_n hx hb dX6_feed_35 rfl (lv_at hl 1 rfl) ?_
      refine lv_iload_n hx hb dX6_feed_36 rfl (lv_at hl 2 rfl) ?_
      refine x_callV (n := 2) (wr := [(h, .inr (6, [.ref tp, .ref nw, .ref rw, .ref lg, .ref jd, .ref pr, .int 0]))]) (q0 := 1) (As := [.long w, .int x1]) (rest := []) hB hV (x_N hB) hl.1 (c_append l D cI cZ cS N0 tp byt (fun _ => 0) w j x1 hj e1) rfl rfl k_337 k_58 k_334 k_335 k_336 (by decide +kernel) ⟨(Nat.le_of_ble_eq_true rfl), (Nat.le_of_ble_eq_true rfl)⟩ rfl (Nat.le_of_ble_eq_true rfl) ⟨(Nat.le_of_ble_eq_true rfl), (Nat.le_of_ble_eq_true rfl)⟩ [1, 2] [0] rfl rfl rfl ⟨by decide, by decide, by decide⟩ dX6_feed_37 (fun v w H locs hp hV => ?_)
      obtain ⟨rfl, rfl⟩ := hp
      have hV : Vx D A s.heap H locs [(h, .inr (6, [.ref tp, .ref nw, .ref rw, .ref lg, .ref jd, .ref pr, .int 0])), (tp, .inr (4, [.ref byt, .int x1, .int 0, .int 0]))] := hV
      refine W.eq (g2 := F0 m 40 ls []) rfl ?_
      refine lv_aload_n hx hb dX6_feed_40 rfl (lv_at hl 0 rfl) ?_
      refine x_get (v := .ref tp) hB hV 0 rfl rfl 0 (by decide) k_308 rfl dX6_feed_41 ?_
      refine x_get (v := .int x1) hB hV 1 rfl rfl 1 (by decide) k_88 rfl dX6_feed_44 ?_
      exact x_iret (w := []) hB hr hV hA (Nat.le_of_ble_eq_true rfl) (Nat.le_of_ble_eq_true rfl) [] rfl rfl (by decide) dX6_feed_47 ⟨x1, rfl, rfl, (if_neg (fun q => q.elim c1 (Int32.not_lt.mpr c2))).symm⟩
    · refine lv_bipush (v := (-2)) hx hb dX6_feed_11 (by decide) ?_
      exact x_iret (w := []) hB hr hV hA (Nat.le_of_ble_eq_true rfl) (Nat.le_of_ble_eq_true rfl) [] rfl rfl (by decide) dX6_feed_13 ⟨(-2), rfl, rfl, (if_pos (Or.inr (Int32.not_le.mp c2))).symm⟩
