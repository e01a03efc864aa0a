theorem k_66 : Cond.initialized RJ0 ∈ tb := mt 66 (by decide +kernel) rfl
theorem k_67 : Cond.initialized RJ1 ∈ tb := mt 67 (by decide +kernel) rfl
theorem k_68 : Cond.initialized RJ3 ∈ tb := mt 68 (by decide +kernel) rfl
theorem k_372 : Cond.methodLink RJ0 492 yJ0_isLatin1_aae02 ∈ tb := mt 372 (by decide +kernel) rfl
theorem k_373 : Cond.instanceMethod yJ0_isLatin1_aae02 ∈ tb := mt 373 (by decide +kernel) rfl
theorem k_374 : Cond.selects RJ0 yJ0_isLatin1_aae02 yJ0_isLatin1_aae02 ∈ tb := mt 374 (by decide +kernel) rfl
set_option maxRecDepth 20000 in
theorem k_375 : Cond.code yJ0_isLatin1_aae02 cJ0_isLatin1_aae02 1 (some .boolean) ∈ tb := mt 375 rfl rfl
theorem k_376 : Cond.fieldLink RJ0 38 "java/lang/String" "COMPACT_STRINGS" "Z" ∈ tb := mt 376 (by decide +kernel) rfl
theorem k_378 : Cond.methodLink RJ0 495 yJ1_charAt_3b067 ∈ tb := mt 378 (by decide +kernel) rfl
theorem k_379 : Cond.static yJ1_charAt_3b067 ∈ tb := mt 379 (by decide +kernel) rfl
set_option maxRecDepth 20000 in
theorem k_380 : Cond.code yJ1_charAt_3b067 cJ1_charAt_3b067 2 (some .char) ∈ tb := mt 380 rfl rfl
theorem k_381 : Cond.methodLink RJ1 9 yJ0_checkIndex_df160 ∈ tb := mt 381 (by decide +kernel) rfl
theorem k_382 : Cond.static yJ0_checkIndex_df160 ∈ tb := mt 382 (by decide +kernel) rfl
set_option maxRecDepth 20000 in
theorem k_383 : Cond.code yJ0_checkIndex_df160 cJ0_checkIndex_df160 2 none ∈ tb := mt 383 rfl rfl
theorem k_384 : Cond.fieldLink RJ0 1053 "jdk/internal/util/Preconditions" "SIOOBE_FORMATTER" "Ljava/util/function/BiFunction;" ∈ tb := mt 384 (by decide +kernel) rfl
theorem k_386 : Cond.methodLink RJ0 1059 yJ3_checkIndex_8e157 ∈ tb := mt 386 (by decide +kernel) rfl
theorem k_387 : Cond.static yJ3_checkIndex_8e157 ∈ tb := mt 387 (by decide +kernel) rfl
set_option maxRecDepth 20000 in
theorem k_388 : Cond.code yJ3_checkIndex_8e157 cJ3_checkIndex_8e157 3 (some .int) ∈ tb := mt 388 rfl rfl
theorem k_1191 : Cond.fieldLink RJ0 15 "java/lang/String" "coder" "B" ∈ tb := mt 1191 (by decide +kernel) rfl
theorem k_1192 : Cond.fieldLink RJ0 9 "java/lang/String" "value" "[B" ∈ tb := mt 1192 (by decide +kernel) rfl
theorem dJ3_checkIndex_8e157_0 : decode cJ3_checkIndex_8e157 0 = .ok (.iload_n 0, 1) := by decide +kernel
theorem dJ3_checkIndex_8e157_1 : decode cJ3_checkIndex_8e157 1 = .ok (.ifCond .lt 8, 3) := by decide +kernel
theorem dJ3_checkIndex_8e157_4 : decode cJ3_checkIndex_8e157 4 = .ok (.iload_n 0, 1) := by decide +kernel
theorem dJ3_checkIndex_8e157_5 : decode cJ3_checkIndex_8e157 5 = .ok (.iload_n 1, 1) := by decide +kernel
theorem dJ3_checkIndex_8e157_6 : decode cJ3_checkIndex_8e157 6 = .ok (.if_icmp .lt 10, 3) := by decide +kernel
theorem dJ3_checkIndex_8e157_16 : decode cJ3_checkIndex_8e157 16 = .ok (.iload_n 0, 1) := by decide +kernel
theorem dJ3_checkIndex_8e157_17 : decode cJ3_checkIndex_8e157 17 = .ok (.ireturn, 1) := by decide +kernel
theorem dJ0_checkIndex_df160_0 : decode cJ0_checkIndex_df160 0 = .ok (.iload_n 0, 1) := by decide +kernel
theorem dJ0_checkIndex_df160_1 : decode cJ0_checkIndex_df160 1 = .ok (.iload_n 1, 1) := by decide +kernel
theorem dJ0_checkIndex_df160_2 : decode cJ0_checkIndex_df160 2 = .ok (.getstatic 1053, 3) := by decide +kernel
theorem dJ0_checkIndex_df160_5 : decode cJ0_checkIndex_df160 5 = .ok (.invokestatic 1059, 3) := by decide +kernel
theorem dJ0_checkIndex_df160_8 : decode cJ0_checkIndex_df160 8 = .ok (.pop, 1) := by decide +kernel
theorem dJ0_checkIndex_df160_9 : decode cJ0_checkIndex_df160 9 = .ok (.return_, 1) := by decide +kernel
theorem dJ1_charAt_3b067_0 : decode cJ1_charAt_3b067 0 = .ok (.iload_n 1, 1) := by decide +kernel
theorem dJ1_charAt_3b067_1 : decode cJ1_charAt_3b067 1 = .ok (.aload_n 0, 1) := by decide +kernel
theorem dJ1_charAt_3b067_2 : decode cJ1_charAt_3b067 2 = .ok (.arraylength, 1) := by decide +kernel
theorem dJ1_charAt_3b067_3 : decode cJ1_charAt_3b067 3 = .ok (.invokestatic 9, 3) := by decide +kernel
theorem dJ1_charAt_3b067_6 : decode cJ1_charAt_3b067 6 = .ok (.aload_n 0, 1) := by decide +kernel
theorem dJ1_charAt_3b067_7 : decode cJ1_charAt_3b067 7 = .ok (.iload_n 1, 1) := by decide +kernel
theorem dJ1_charAt_3b067_8 : decode cJ1_charAt_3b067 8 = .ok (.baload, 1) := by decide +kernel
theorem dJ1_charAt_3b067_9 : decode cJ1_charAt_3b067 9 = .ok (.sipush 255, 3) := by decide +kernel
theorem dJ1_charAt_3b067_12 : decode cJ1_charAt_3b067 12 = .ok (.iand, 1) := by decide +kernel
theorem dJ1_charAt_3b067_13 : decode cJ1_charAt_3b067 13 = .ok (.i2c, 1) := by decide +kernel
theorem dJ1_charAt_3b067_14 : decode cJ1_charAt_3b067 14 = .ok (.ireturn, 1) := by decide +kernel
theorem dJ0_isLatin1_aae02_0 : decode cJ0_isLatin1_aae02 0 = .ok (.getstatic 38, 3) := by decide +kernel
theorem dJ0_isLatin1_aae02_3 : decode cJ0_isLatin1_aae02 3 = .ok (.ifCond .eq 14, 3) := by decide +kernel
theorem dJ0_isLatin1_aae02_6 : decode cJ0_isLatin1_aae02 6 = .ok (.aload_n 0, 1) := by decide +kernel
theorem dJ0_isLatin1_aae02_7 : decode cJ0_isLatin1_aae02 7 = .ok (.getfield 15, 3) := by decide +kernel
theorem dJ0_isLatin1_aae02_10 : decode cJ0_isLatin1_aae02 10 = .ok (.ifCond .ne 7, 3) := by decide +kernel
theorem dJ0_isLatin1_aae02_13 : decode cJ0_isLatin1_aae02 13 = .ok (.iconst 1, 1) := by decide +kernel
theorem dJ0_isLatin1_aae02_14 : decode cJ0_isLatin1_aae02 14 = .ok (.goto 4, 3) := by decide +kernel
theorem dJ0_isLatin1_aae02_18 : decode cJ0_isLatin1_aae02 18 = .ok (.ireturn, 1) := by decide +kernel
theorem dJ0_charAt_5068e_0 : decode cJ0_charAt_5068e 0 = .ok (.aload_n 0, 1) := by decide +kernel
theorem dJ0_charAt_5068e_1 : decode cJ0_charAt_5068e 1 = .ok (.invokevirtual 492, 3) := by decide +kernel
theorem dJ0_charAt_5068e_4 : decode cJ0_charAt_5068e 4 = .ok (.ifCond .eq 12, 3) := by decide +kernel
theorem dJ0_charAt_5068e_7 : decode cJ0_charAt_5068e 7 = .ok (.aload_n 0, 1) := by decide +kernel
theorem dJ0_charAt_5068e_8 : decode cJ0_charAt_5068e 8 = .ok (.getfield 9, 3) := by decide +kernel
theorem dJ0_charAt_5068e_11 : decode cJ0_charAt_5068e 11 = .ok (.iload_n 1, 1) := by decide +kernel
theorem dJ0_charAt_5068e_12 : decode cJ0_charAt_5068e 12 = .ok (.invokestatic 495, 3) := by decide +kernel
theorem dJ0_charAt_5068e_15 : decode cJ0_charAt_5068e 15 = .ok (.ireturn, 1) := by decide +kernel
section TX
variable {p : Program} {l : Launch} {e : Env} {R : Room} {s : State} {m : MethodId} {args : Array Value} {below : List Frame} {meth : Method} {c : Code} {H : Heap} {locs : List Loc} {cells slots : Nat} {Q : State → Prop}
variable {cc : ByteArray} {pc nL : Nat} {ls : Array Slot} {rest : List Value} {own : String} {D : va_G} {cI cZ cS cR : ClassId} {N0 : NT} {a : Nat} {g : GS}
theorem ux_of (hB : Tz p s m meth c args cc nL own D cI cZ cS cR N0) : Tx N0 s := hB.2.2.2.2.2.2.2.1.2.2.2.2.2.2.2.1
theorem ux_wb (hB : Tz p s m meth c args cc nL own D cI cZ cS cR N0) : va_Z "TwiceOnce$Tape" "WORD_BEGINS" "[I" (.ref N0.2.1) (fun q => N0.1 ≤ q) s s.heap := (ux_of hB).1
theorem ux_tab (hB : Tz p s m meth c args cc nL own D cI cZ cS cR N0) : va_T .int N0.2.1 9 tabW (fun q => N0.1 ≤ q) s s.heap := (ux_of hB).2.1
theorem ux_r (hB : Tz p s m meth c args cc nL own D cI cZ cS cR N0) : vk_R "TwiceOnce$Tape" 62 "set add max new get ask do if " N0.2.2.1 s := (ux_of hB).2.2.1
theorem ux_o (hB : Tz p s m meth c args cc nL own D cI cZ cS cR N0) : va_O "java/lang/String" N0.2.2.1 (fun q => N0.1 ≤ q) s s.heap := (ux_of hB).2.2.2.1
theorem ux_cd (hB : Tz p s m meth c args cc nL own D cI cZ cS cR N0) : va_OF "java/lang/String" "coder" "B" (.int 0) N0.2.2.1 (fun q => N0.1 ≤ q) s s.heap := (ux_of hB).2.2.2.2.1
theorem ux_va (hB : Tz p s m meth c args cc nL own D cI cZ cS cR N0) : va_OF "java/lang/String" "value" "[B" (.ref N0.2.2.2) N0.2.2.1 (fun q => N0.1 ≤ q) s s.heap := (ux_of hB).2.2.2.2.2.1
theorem ux_by (hB : Tz p s m meth c args cc nL own D cI cZ cS cR N0) : va_T .byte N0.2.2.2 30 (fun j => .int (strW.getD j 0)) (fun q => N0.1 ≤ q) s s.heap := (ux_of hB).2.2.2.2.2.2.1
theorem ux_cs (hB : Tz p s m meth c args cc nL own D cI cZ cS cR N0) : va_Z "java/lang/String" "COMPACT_STRINGS" "Z" (.int 1) (fun q => N0.1 ≤ q) s s.heap := (ux_of hB).2.2.2.2.2.2.2.1
theorem ux_fm (hB : Tz p s m meth c args cc nL own D cI cZ cS cR N0) : va_Zq "jdk/internal/util/Preconditions" "SIOOBE_FORMATTER" "Ljava/util/function/BiFunction;" (fun q => N0.1 ≤ q) s s.heap := (ux_of hB).2.2.2.2.2.2.2.2
theorem ux_recv (hB : Tz p s m meth c args cc nL own D cI cZ cS cR N0) (hT : Tv D cI cZ cS cR N0 s.heap H locs g) : ∃ cell : Cell, H[N0.2.2.1]? = some cell ∧ cell.vm.isStatics = false ∧ s.vm.findClass "java/lang/String" = some cell.cls := by
  obtain ⟨cell, h1, h2, h3, -⟩ := (ux_o hB).kept hT.2.2.1
  exact ⟨cell, h1, h2, h3⟩
theorem t_callT {y : MethodName} {b : ByteArray} {n' d mc ms n index : Nat} {r : Option FieldType} {As : List Value} {post : Option Value → GS → Prop} (hB : Tz p s m meth c args cc nL own D cI cZ cS cR N0) (hT : Tv D cI cZ cS cR N0 s.heap H locs g) (hsz : ls.size = nL)
    (hM : Ty l D cI cZ cS cR N0 y b n' r d mc ms (.ref N0.2.2.1 :: As) g post) (hc : Cond.code y b n' r ∈ tb) (hini : Cond.initialized y.cls ∈ tb) (hl : Cond.methodLink own index y ∈ tb) (hi : Cond.instanceMethod y ∈ tb) (hsel : Cond.selects "java/lang/String" y y ∈ tb) (hd : y.cls ≠ "java/lang/invoke/MethodHandle" ∧ y.cls ≠ "java/lang/invoke/VarHandle" ∧ (parseMethodDescriptor y.desc).map (fun d => d.parameters.length) = some n) (hR : d + 1 + 1 ≤ R.frames ∧ 8 + (n' + 11) + 64 * (d + 1) ≤ R.locals) (hn : As.length = n) (hW : (rest.map fun v => v.category).sum ≤ 8) (hf : cells + mc ≤ R.cells ∧ slots + ms ≤ R.slots) (hdg : decode cc pc = .ok (.invokevirtual index, 3))
    (kk : ∀ (v : Option Value) (g' : GS) (H1 : Heap) (locs1 : List Loc), post v g' → Tv D cI cZ cS cR N0 s.heap H1 locs1 g' → W p l e R s m args below meth c H1 locs1 (cells + mc) (slots + ms) Q (F0 m (pc + 3) ls (v.toList ++ rest))) : W p l e R s m args below meth c H locs cells slots Q (F0 m pc ls (As.reverse ++ .ref N0.2.2.1 :: rest)) := by
  have hp := t_pre (av := .ref N0.2.2.1 :: As) hB hT
  exact t_back hT (va_runV (As := As) (rest := rest) (nL := nL) ⟨hB.1, hB.2.1, hB.2.2.1, hB.2.2.2.1, hB.2.2.2.2.1⟩ hM ⟨t_cb hB hc hini hl hd hR, hB.2.2.2.2.1 _ hi, hB.2.2.2.2.1 _ hsel⟩ ⟨hp.1, ux_recv hB hT, hp.2⟩ rfl hn hsz rfl (lv_room hW) hdg hf) kk
theorem t_callSN {y : MethodName} {b : ByteArray} {n' d mc ms n index : Nat} {host : String} {r : Option FieldType} {As : List Value} {post : Option Value → GS → Prop} (hB : Tz p s m meth c args cc nL own D cI cZ cS cR N0) (hT : Tv D cI cZ cS cR N0 s.heap H locs g) (hsz : ls.size = nL)
    (hM : Ty l D cI cZ cS cR N0 y b n' r d mc ms As g post) (hc : Cond.code y b n' r ∈ tb) (hini : Cond.initialized y.cls ∈ tb) (hl : va_Nw (.methodLinkNest own index y host) s) (hst : Cond.static y ∈ tb) (hd : y.cls ≠ "java/lang/invoke/MethodHandle" ∧ y.cls ≠ "java/lang/invoke/VarHandle" ∧ (parseMethodDescriptor y.desc).map (fun d => d.parameters.length) = some n) (hR : d + 1 + 1 ≤ R.frames ∧ 8 + (n' + 11) + 64 * (d + 1) ≤ R.locals) (hn : As.length = n) (hW : (rest.map fun v => v.category).sum ≤ 8) (hf : cells + mc ≤ R.cells ∧ slots + ms ≤ R.slots) (hdg : decode cc pc = .ok (.invokestatic index, 3))
    (kk : ∀ (v : Option Value) (g' : GS) (H1 : Heap) (locs1 : List Loc), post v g' → Tv D cI cZ cS cR N0 s.heap H1 locs1 g' → W p l e R s m args below meth c H1 locs1 (cells + mc) (slots + ms) Q (F0 m (pc + 3) ls (v.toList ++ rest))) : W p l e R s m args below meth c H locs cells slots Q (F0 m pc ls (As.reverse ++ rest)) :=
  t_back hT (va_runSN (As := As) (rest := rest) (nL := nL) ⟨hB.1, hB.2.1, hB.2.2.1, hB.2.2.2.1, hB.2.2.2.2.1⟩ hM ⟨va_cnB n hB.2.2.2.2.1 (gd0 hc) rfl rfl rfl hl (hB.2.2.2.2.1 _ hini) hd hR, hB.2.2.2.2.1 _ hst, trivial⟩ (t_pre hB hT) rfl hn hsz rfl (lv_room hW) hdg hf) kk
end TX
theorem tabW_in (j : Nat) : ∃ u : Int32, tabW j = .int u ∧ 0 ≤ u.toInt ∧ u.toInt ≤ 30 := by
  refine ⟨_, rfl, ?_⟩
  by_cases h : j < 9
  · exact (by decide : ∀ j : Nat, j < 9 → 0 ≤ (([0, 4, 8, 12, 16, 20, 24, 27, 30] : List Int32).getD j 0).toInt ∧ (([0, 4, 8, 12, 16, 20, 24, 27, 30] : List Int32).getD j 0).toInt ≤ 30) j h
  · have hz : ([0, 4, 8, 12, 16, 20, 24, 27, 30] : List Int32).getD j 0 = 0 := by
      rw [List.getD_eq_getElem?_getD, List.getElem?_eq_none (by show 9 ≤ j; omega)]
      rfl
    rw [hz]
    decide

abbrev md_u_chkN : Nat → Nat → Bool := mdf []
set_option maxHeartbeats 4000000 in
set_option maxRecDepth 100000 in
theorem u_chkN (l : Launch) (D : va_G) (cI cZ cS cR : ClassId) (N0 : NT) (g : GS) (hI : Inv g) (x1 : Int32) (l_x1 : 0 ≤ x1.toInt) (u_x1 : x1.toInt ≤ 29) : Ty l D cI cZ cS cR N0 yJ3_checkIndex_8e157 cJ3_checkIndex_8e157 3 (some .int) 0 0 0 [.int x1, .int 30, .null] g (fun v g' => v = some (.int x1) ∧ g' = g) := by
  refine t_enter (by decide) (Nat.le_of_ble_eq_true rfl) ?_
  intro p e s m args below meth c ls H locs hB hr hin hl hT
  have hx := hB.1
  have hb := hB.2.1
  have hl : lv_has ls 3 [(0, .int x1), (1, .int 30), (2, .null)] := hl
  have hE : Ex g g := Ex.rf
  have hM : Sm md_u_chkN g g := Sm.rf
  refine lv_iload_n hx hb dJ3_checkIndex_8e157_0 rfl (lv_at hl 0 rfl) ?_
  refine lv_if_lt (tgt := 9) hx hb dJ3_checkIndex_8e157_1 (by decide) (fun c_1 => ?_) (fun c_1 => ?_)
  · have c_1' : x1.toInt < 0 := i_lt c_1 rfl (by decide)
    exact absurd c_1' (by omega)
  · have c_1' : 0 ≤ x1.toInt := i_nlt c_1 rfl (by decide)
    refine lv_iload_n hx hb dJ3_checkIndex_8e157_4 rfl (lv_at hl 0 rfl) ?_
    refine lv_iload_n hx hb dJ3_checkIndex_8e157_5 rfl (lv_at hl 1 rfl) ?_
    refine lv_icmp_lt (tgt := 16) hx hb dJ3_checkIndex_8e157_6 (by decide) (fun c_2 => ?_) (fun c_2 => ?_)
    · have c_2' : x1.toInt < 30 := i_lt c_2 rfl (by decide)
      refine lv_iload_n hx hb dJ3_checkIndex_8e157_16 rfl (lv_at hl 0 rfl) ?_
      exact t_iret hB hr hT (Nat.le_of_ble_eq_true rfl) (Nat.le_of_ble_eq_true rfl) dJ3_checkIndex_8e157_17 ⟨rfl, rfl⟩
    · have c_2' : 30 ≤ x1.toInt := i_nlt c_2 rfl (by decide)
      exact absurd c_2' (by omega)
abbrev md_u_chkR : Nat → Nat → Bool := mdf []
set_option maxHeartbeats 4000000 in
set_option maxRecDepth 100000 in
theorem u_chkR (l : Launch) (D : va_G) (cI cZ cS cR : ClassId) (N0 : NT) (g : GS) (hI : Inv g) (x1 : Int32) (tz : Nat) (l_x1 : 0 ≤ x1.toInt) (u_x1 : x1.toInt ≤ 29) : Ty l D cI cZ cS cR N0 yJ3_checkIndex_8e157 cJ3_checkIndex_8e157 3 (some .int) 0 0 0 [.int x1, .int 30, .ref tz] g (fun v g' => v = some (.int x1) ∧ g' = g) := by
  refine t_enter (by decide) (Nat.le_of_ble_eq_true rfl) ?_
  intro p e s m args below meth c ls H locs hB hr hin hl hT
  have hx := hB.1
  have hb := hB.2.1
  have hl : lv_has ls 3 [(0, .int x1), (1, .int 30), (2, .ref tz)] := hl
  have hE : Ex g g := Ex.rf
  have hM : Sm md_u_chkR g g := Sm.rf
  refine lv_iload_n hx hb dJ3_checkIndex_8e157_0 rfl (lv_at hl 0 rfl) ?_
  refine lv_if_lt (tgt := 9) hx hb dJ3_checkIndex_8e157_1 (by decide) (fun c_1 => ?_) (fun c_1 => ?_)
  · have c_1' : x1.toInt < 0 := i_lt c_1 rfl (by decide)
    exact absurd c_1' (by omega)
  · have c_1' : 0 ≤ x1.toInt := i_nlt c_1 rfl (by decide)
    refine lv_iload_n hx hb dJ3_checkIndex_8e157_4 rfl (lv_at hl 0 rfl) ?_
    refine lv_iload_n hx hb dJ3_checkIndex_8e157_5 rfl (lv_at hl 1 rfl) ?_
    refine lv_icmp_lt (tgt := 16) hx hb dJ3_checkIndex_8e157_6 (by decide) (fun c_2 => ?_) (fun c_2 => ?_)
    · have c_2' : x1.toInt < 30 := i_lt c_2 rfl (by decide)
      refine lv_iload_n hx hb dJ3_checkIndex_8e157_16 rfl (lv_at hl 0 rfl) ?_
      exact t_iret hB hr hT (Nat.le_of_ble_eq_true rfl) (Nat.le_of_ble_eq_true rfl) dJ3_checkIndex_8e157_17 ⟨rfl, rfl⟩
    · have c_2' : 30 ≤ x1.toInt := i_nlt c_2 rfl (by decide)
      exact absurd c_2' (by omega)
abbrev md_u_chk : Nat → Nat → Bool := mdf []
set_option maxHeartbeats 4000000 in
set_option maxRecDepth 100000 in
theorem u_chk (l : Launch) (D : va_G) (cI cZ cS cR : ClassId) (N0 : NT) (g : GS) (hI : Inv g) (x1 : Int32) (l_x1 : 0 ≤ x1.toInt) (u_x1 : x1.toInt ≤ 29) : Ty l D cI cZ cS cR N0 yJ0_checkIndex_df160 cJ0_checkIndex_df160 2 none 1 0 0 [.int x1, .int 30] g (fun v g' => v = none ∧ g' = g) := by
  refine t_enter (by decide) (Nat.le_of_ble_eq_true rfl) ?_
  intro p e s m args below meth c ls H locs hB hr hin hl hT
  have hx := hB.1
  have hb := hB.2.1
  have hl : lv_has ls 2 [(0, .int x1), (1, .int 30)] := hl
  have hE : Ex g g := Ex.rf
  have hM : Sm md_u_chk g g := Sm.rf
  refine lv_iload_n hx hb dJ0_checkIndex_df160_0 rfl (lv_at hl 0 rfl) ?_
  refine lv_iload_n hx hb dJ0_checkIndex_df160_1 rfl (lv_at hl 1 rfl) ?_
  rcases ux_fm hB with hz | ⟨tz, hz⟩
  · refine va_gets hx hb hz hT.2 hB.2.2.2.1 (hB.2.2.2.2.1 _ k_384) (fun _ h => h) dJ0_checkIndex_df160_2 ?_
    refine t_callS (n := 3) (As := [.int x1, .int 30, .null]) (rest := []) hB hT hl.1 (u_chkN l D cI cZ cS cR N0 g hI x1 (by omega) (by omega)) k_388 k_68 k_386 k_387 (by decide +kernel) ⟨(Nat.le_of_ble_eq_true rfl), (Nat.le_of_ble_eq_true rfl)⟩ rfl (Nat.le_of_ble_eq_true rfl) ⟨(Nat.le_of_ble_eq_true rfl), (Nat.le_of_ble_eq_true rfl)⟩ dJ0_checkIndex_df160_5 (fun v g_1 H locs hp hT => ?_)
    obtain ⟨rfl, eg⟩ := hp
    rw [eg] at hT
    clear eg
    refine W.eq (g2 := F0 m 8 ls [.int x1]) rfl ?_
    refine lv_pop hx hb dJ0_checkIndex_df160_8 rfl ?_
    exact t_vret hB hr hT (Nat.le_of_ble_eq_true rfl) (Nat.le_of_ble_eq_true rfl) dJ0_checkIndex_df160_9 ⟨rfl, rfl⟩
  · refine va_gets hx hb hz hT.2 hB.2.2.2.1 (hB.2.2.2.2.1 _ k_384) (fun _ h => h) dJ0_checkIndex_df160_2 ?_
    refine t_callS (n := 3) (As := [.int x1, .int 30, .ref tz]) (rest := []) hB hT hl.1 (u_chkR l D cI cZ cS cR N0 g hI x1 tz (by omega) (by omega)) k_388 k_68 k_386 k_387 (by decide +kernel) ⟨(Nat.le_of_ble_eq_true rfl), (Nat.le_of_ble_eq_true rfl)⟩ rfl (Nat.le_of_ble_eq_true rfl) ⟨(Nat.le_of_ble_eq_true rfl), (Nat.le_of_ble_eq_true rfl)⟩ dJ0_checkIndex_df160_5 (fun v g_4 H locs hp hT => ?_)
    obtain ⟨rfl, eg⟩ := hp
    rw [eg] at hT
    clear eg
    refine W.eq (g2 := F0 m 8 ls [.int x1]) rfl ?_
    refine lv_pop hx hb dJ0_checkIndex_df160_8 rfl ?_
    exact t_vret hB hr hT (Nat.le_of_ble_eq_true rfl) (Nat.le_of_ble_eq_true rfl) dJ0_checkIndex_df160_9 ⟨rfl, rfl⟩
abbrev md_u_lat : Nat → Nat → Bool := mdf []
set_option maxHeartbeats 4000000 in
set_option maxRecDepth 100000 in
theorem u_lat (l : Launch) (D : va_G) (cI cZ cS cR : ClassId) (N0 : NT) (g : GS) (hI : Inv g) (x1 : Int32) (l_x1 : 0 ≤ x1.toInt) (u_x1 : x1.toInt ≤ 29) : Ty l D cI cZ cS cR N0 yJ1_charAt_3b067 cJ1_charAt_3b067 2 (some .char) 2 0 0 [.ref N0.2.2.2, .int x1] g (fun v g' => ∃ (r : Int32), v = some (.int r) ∧ g' = g ∧ (narrow .char (.int r) = .int r) ∧ (r = strW.getD x1.toNatClampNeg 0 &&& 255)) := by
  refine t_enter (by decide) (Nat.le_of_ble_eq_true rfl) ?_
  intro p e s m args below meth c ls H locs hB hr hin hl hT
  have hx := hB.1
  have hb := hB.2.1
  have hl : lv_has ls 2 [(0, .ref N0.2.2.2), (1, .int x1)] := hl
  have hE : Ex g g := Ex.rf
  have hM : Sm md_u_lat g g := Sm.rf
  refine lv_iload_n hx hb dJ1_charAt_3b067_0 rfl (lv_at hl 1 rfl) ?_
  refine lv_aload_n hx hb dJ1_charAt_3b067_1 rfl (lv_at hl 0 rfl) ?_
  refine va_tlen (v := 30) hx hb (ux_by hB) hT.2 rfl dJ1_charAt_3b067_2 ?_
  refine t_callS (n := 2) (As := [.int x1, .int 30]) (rest := []) hB hT hl.1 (u_chk l D cI cZ cS cR N0 g hI x1 (by omega) (by omega)) k_383 k_66 k_381 k_382 (by decide +kernel) ⟨(Nat.le_of_ble_eq_true rfl), (Nat.le_of_ble_eq_true rfl)⟩ rfl (Nat.le_of_ble_eq_true rfl) ⟨(Nat.le_of_ble_eq_true rfl), (Nat.le_of_ble_eq_true rfl)⟩ dJ1_charAt_3b067_3 (fun v g_1 H locs hp hT => ?_)
  obtain ⟨rfl, eg⟩ := hp
  rw [eg] at hT
  clear eg
  refine W.eq (g2 := F0 m 6 ls []) rfl ?_
  refine lv_aload_n hx hb dJ1_charAt_3b067_6 rfl (lv_at hl 0 rfl) ?_
  refine lv_iload_n hx hb dJ1_charAt_3b067_7 rfl (lv_at hl 1 rfl) ?_
  refine va_tb hx hb (ux_by hB) hT.2 (i_in (n := 30) rfl (by omega) (by omega)) rfl dJ1_charAt_3b067_8 ?_
  refine lv_topi (fun u_b eu_b => ?_)
  refine lv_sipush (v := 255) hx hb dJ1_charAt_3b067_9 (by decide) ?_
  refine lv_iand hx hb dJ1_charAt_3b067_12 ?_
  refine lv_i2c (v := u_b &&& 255) hx hb dJ1_charAt_3b067_13 (sc_c2 u_b) ?_
  exact t_zret hB hr (sc_nar u_b) hT (Nat.le_of_ble_eq_true rfl) (Nat.le_of_ble_eq_true rfl) dJ1_charAt_3b067_14 ⟨(u_b &&& 255), rfl, rfl, (sc_nar u_b), (by rw [eu_b])⟩
abbrev md_u_isLatin1 : Nat → Nat → Bool := mdf []
set_option maxHeartbeats 4000000 in
set_option maxRecDepth 100000 in
theorem u_isLatin1 (l : Launch) (D : va_G) (cI cZ cS cR : ClassId) (N0 : NT) (g : GS) (hI : Inv g)   : Ty l D cI cZ cS cR N0 yJ0_isLatin1_aae02 cJ0_isLatin1_aae02 1 (some .boolean) 0 0 0 [.ref N0.2.2.1] g (fun v g' => v = some (.int 1) ∧ g' = g) := by
  refine t_enter (by decide) (Nat.le_of_ble_eq_true rfl) ?_
  intro p e s m args below meth c ls H locs hB hr hin hl hT
  have hx := hB.1
  have hb := hB.2.1
  have hl : lv_has ls 1 [(0, .ref N0.2.2.1)] := hl
  have hE : Ex g g := Ex.rf
  have hM : Sm md_u_isLatin1 g g := Sm.rf
  refine va_gets hx hb (ux_cs hB) hT.2 hB.2.2.2.1 (hB.2.2.2.2.1 _ k_376) (fun _ h => h) dJ0_isLatin1_aae02_0 ?_
  refine lv_if_eq (tgt := 17) hx hb dJ0_isLatin1_aae02_3 (by decide) (fun c_ => absurd c_ (by decide)) (fun c_ => ?_)
  refine lv_aload_n hx hb dJ0_isLatin1_aae02_6 rfl (lv_at hl 0 rfl) ?_
  refine vk_getf hx hb (ux_cd hB) hT.2 hB.2.2.2.1 (hB.2.2.2.2.1 _ k_1191) (fun _ h => h) dJ0_isLatin1_aae02_7 ?_
  refine lv_if_ne (tgt := 17) hx hb dJ0_isLatin1_aae02_10 (by decide) (fun c_ => absurd (by decide) c_) (fun c_ => ?_)
  refine lv_iconst (v := 1) hx hb dJ0_isLatin1_aae02_13 (by decide) ?_
  refine lv_goto (tgt := 18) hx hb dJ0_isLatin1_aae02_14 (by decide) ?_
  exact t_zret hB hr rfl hT (Nat.le_of_ble_eq_true rfl) (Nat.le_of_ble_eq_true rfl) dJ0_isLatin1_aae02_18 ⟨rfl, rfl⟩
abbrev md_u_charAt : Nat → Nat → Bool := mdf []
set_option maxHeartbeats 4000000 in
set_option maxRecDepth 100000 in
theorem u_charAt (l : Launch) (D : va_G) (cI cZ cS cR : ClassId) (N0 : NT) (g : GS) (hI : Inv g) (x1 : Int32) (l_x1 : 0 ≤ x1.toInt) (u_x1 : x1.toInt ≤ 29) : Ty l D cI cZ cS cR N0 yJ0_charAt_5068e cJ0_charAt_5068e 2 (some .char) 3 0 0 [.ref N0.2.2.1, .int x1] g (fun v g' => ∃ (r : Int32), v = some (.int r) ∧ g' = g ∧ (narrow .char (.int r) = .int r) ∧ (r = strW.getD x1.toNatClampNeg 0 &&& 255)) := by
  refine t_enter (by decide) (Nat.le_of_ble_eq_true rfl) ?_
  intro p e s m args below meth c ls H locs hB hr hin hl hT
  have hx := hB.1
  have hb := hB.2.1
  have hl : lv_has ls 2 [(0, .ref N0.2.2.1), (1, .int x1)] := hl
  have hE : Ex g g := Ex.rf
  have hM : Sm md_u_charAt g g := Sm.rf
  refine lv_aload_n hx hb dJ0_charAt_5068e_0 rfl (lv_at hl 0 rfl) ?_
  refine t_callT (n := 0) (As := []) (rest := []) hB hT hl.1 (u_isLatin1 l D cI cZ cS cR N0 g hI  ) k_375 k_66 k_372 k_373 k_374 (by decide +kernel) ⟨(Nat.le_of_ble_eq_true rfl), (Nat.le_of_ble_eq_true rfl)⟩ rfl (Nat.le_of_ble_eq_true rfl) ⟨(Nat.le_of_ble_eq_true rfl), (Nat.le_of_ble_eq_true rfl)⟩ dJ0_charAt_5068e_1 (fun v g_1 H locs hp hT => ?_)
  obtain ⟨rfl, eg⟩ := hp
  rw [eg] at hT
  clear eg
  refine W.eq (g2 := F0 m 4 ls [.int 1]) rfl ?_
  refine lv_if_eq (tgt := 16) hx hb dJ0_charAt_5068e_4 (by decide) (fun c_ => absurd c_ (by decide)) (fun c_ => ?_)
  refine lv_aload_n hx hb dJ0_charAt_5068e_7 rfl (lv_at hl 0 rfl) ?_
  refine vk_getf hx hb (ux_va hB) hT.2 hB.2.2.2.1 (hB.2.2.2.2.1 _ k_1192) (fun _ h => h) dJ0_charAt_5068e_8 ?_
  refine lv_iload_n hx hb dJ0_charAt_5068e_11 rfl (lv_at hl 1 rfl) ?_
  refine t_callS (n := 2) (As := [.ref N0.2.2.2, .int x1]) (rest := []) hB hT hl.1 (u_lat l D cI cZ cS cR N0 g hI x1 (by omega) (by omega)) k_380 k_67 k_378 k_379 (by decide +kernel) ⟨(Nat.le_of_ble_eq_true rfl), (Nat.le_of_ble_eq_true rfl)⟩ rfl (Nat.le_of_ble_eq_true rfl) ⟨(Nat.le_of_ble_eq_true rfl), (Nat.le_of_ble_eq_true rfl)⟩ dJ0_charAt_5068e_12 (fun v g_4 H locs hp hT => ?_)
  obtain ⟨r_5, rfl, eg, f_6, f_7⟩ := hp
  rw [eg] at hT
  clear eg
  refine W.eq (g2 := F0 m 15 ls [.int r_5]) rfl ?_
  exact t_zret hB hr f_6 hT (Nat.le_of_ble_eq_true rfl) (Nat.le_of_ble_eq_true rfl) dJ0_charAt_5068e_15 ⟨r_5, rfl, rfl, f_6, f_7⟩
