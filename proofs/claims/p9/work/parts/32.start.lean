theorem k_73 : Cond.instantiable RX6 7 ∈ tb := mt 73 (by decide +kernel) rfl
theorem k_740 : Cond.instantiable RX7 67 ∈ tb := mt 740 (by decide +kernel) rfl
theorem rw_0 : Cond.methodLinkNest RX6 11 yX4_init RX6 ∈ lw_tbl := List.mem_of_getElem? (i := 82) (by decide +kernel)
theorem rw_1 : Cond.methodLinkNest RX5 41 yX3_init RX6 ∈ lw_tbl := List.mem_of_getElem? (i := 111) (by decide +kernel)
theorem rw_2 : Cond.methodLinkNest RX3 11 yX2_init RX6 ∈ lw_tbl := List.mem_of_getElem? (i := 117) (by decide +kernel)
theorem rw_3 : Cond.methodLinkNest RX6 37 yX1_init RX6 ∈ lw_tbl := List.mem_of_getElem? (i := 268) (by decide +kernel)
theorem rw_4 : Cond.methodLinkNest RX4 29 yX2_init RX6 ∈ lw_tbl := List.mem_of_getElem? (i := 348) (by decide +kernel)
theorem rw_5 : Cond.arrayOver (.object "TwiceOnce$Service") ∈ lw_tbl := List.mem_of_getElem? (i := 109) (by decide +kernel)
theorem rw_6 : Cond.arrayOver (.array .int) ∈ lw_tbl := List.mem_of_getElem? (i := 275) (by decide +kernel)
theorem rw_7 : Cond.laysStatic "TwiceOnce$Tape" "WORD_BEGINS" "[I" ∈ lw_tbl := List.mem_of_getElem? (i := 362) (by decide +kernel)
theorem rw_8 : Cond.stringRef "TwiceOnce$Tape" 62 "set add max new get ask do if " ∈ lw_tbl := List.mem_of_getElem? (i := 367) (by decide +kernel)
theorem rw_9 : Cond.laysStatic "java/lang/String" "COMPACT_STRINGS" "Z" ∈ lw_tbl := List.mem_of_getElem? (i := 377) (by decide +kernel)
theorem rw_10 : Cond.laysStatic "jdk/internal/util/Preconditions" "SIOOBE_FORMATTER" "Ljava/util/function/BiFunction;" ∈ lw_tbl := List.mem_of_getElem? (i := 385) (by decide +kernel)
theorem rw_11 : Cond.methodLinkNest RX4 76 yX6_within RX6 ∈ lw_tbl := List.mem_of_getElem? (i := 413) (by decide +kernel)
/-! THE CLAIM OUT OF ONE WALK OF THE LAW'S BODY. Your part is whole_start (and what it stands on); all else here is the same for every law, but numbers. -/
def R_law : String := "TwiceOnceLaw"
def lw_P (b : Addr) (xs : List Int32) (args : Array Value) (s : State) : Prop := args = #[.ref b] ∧ s.IntsAt b xs ∧ xs.length ≤ 2560 ∧ (Jvm.Cond.and given_1 narrow_1).before args s = true
def lw_Q (_ : Array Value) (s : State) (o : Outcome) (t : State) : Prop := o = .returned (some (.int 1)) ∧ Framed s o t [] 600000 7302250
def lw_Z (below : List Frame) (a : Array Value) (s : State) : State → Prop := fun t => ∃ o, t.status = .running ∧ Ended t below o ∧ lw_Q a s o t
/-- the law's own end, with 1 on the stack, nothing written that was there before, its room as the claim has it -/
theorem lw_ret {p : Program} {l : Launch} {e : Env} {s : State} {m : MethodId} {below : List Frame} {meth : Method} {c : Code} {b : Nat} (hx : p.tables.exec = Jvm.exec) (hb : c.code = code) (hr : meth.sig.returnType = ret) (hlocks : meth.locks = false) {pc : Nat} {H : Heap} {ls : Array Slot} (hdg : decode code pc = .ok (.ireturn, 1)) : W p l e room_1 s m #[Value.ref b] below meth c H [] 600000 7302250 (lw_Z below #[Value.ref b] s) (F0 m pc ls [.int 1]) := by
  intro T hT X
  obtain ⟨fs, hret, hrun, hended, hW, hframe⟩ := X.leave (v := some (.int 1)) (hlocks := hlocks) (fun h => by rw [hr] at h; cases h)
  have hmeth' : T.vm.method? m = some meth := X.method'
  refine ⟨T.setFrames fs, ?_, .returned (some (.int 1)), hrun, hended, rfl, ⟨_, rfl⟩, hW, hframe⟩
  jvm_step X.here [X.here.top, hx, hb, hdg, hmeth', hr, ret, narrow_b1]
  (try refine ⟨rfl, ?_⟩); (try refine ⟨rfl, ?_⟩)
  first | (intro acts; rw [hret _ acts rfl rfl rfl]) | rw [hret _ _ rfl rfl rfl]
  exact Steps.refl _
/-- what holds at the law's entry: the machine, the code, the tables' words (any of lw_tbl by 'hts w (by decide +kernel)'), the script of L ints xs at the cell b, what the Statement gives of the start (any of its parts by flat_of_before) -/
def lw_At (p : Program) (s : State) (m : MethodId) (meth : Method) (c : Code) (b L : Nat) (xs : Nat → Int32) : Prop :=
  p.tables.exec = Jvm.exec ∧ c.code = code ∧ meth.sig.returnType = ret ∧ c.maxLocals = 4 ∧ s.vm.findClass R_law = some m.cls ∧ (∀ w ∈ lw_tbl, w.before #[Value.ref b] s = true) ∧ va_X b L xs s s.heap ∧ b < s.heap.size ∧ meth.locks = false ∧ (Jvm.Cond.and given_1 narrow_1).before #[Value.ref b] s = true
/-! the law: one ghost for both objects -/
def mdA : Nat → Nat → Bool := fun _ _ => true
theorem sm_all {g g' : GS} : Sm mdA g g' := ⟨fun _ _ _ h => Bool.noConfusion h, fun _ _ h => Bool.noConfusion h⟩
def g00 : GS := (fun _ => 0, fun _ _ => .null, fun _ => 0, fun _ _ => 0, fun _ _ => none)
theorem inv00 : Inv g00 := ⟨fun _ _ => (show fsm _ _ ft from trivial), fun _ _ _ => trivial, fun _ _ _ => trivial⟩
theorem th00 {D : va_G} {cI cZ cS cR : ClassId} {N0 : NT} {H : Heap} : TH D cI cZ cS cR N0 g00 H := fun a => TC.zero rfl

theorem ar_of {s : State} {args : Array Value} {ty : FieldType} (h : (Cond.arrayClass ty).before args s = true) (hr : ∀ c, va_RA s c ty = (s.vm.findClass ("[" ++ ty.toString) = some c)) : ∃ c : ClassId, ArrOfT s c ty ∧ va_RA s c ty := by
  obtain ⟨c, k, co, h1, h2, h3⟩ := Cond.arrayClass_spec h
  refine ⟨c, fun n z => ⟨fun k h => (by cases h), k, h2, co, h3⟩, ?_⟩
  rw [hr]
  exact h1
set_option maxHeartbeats 4000000 in
set_option maxRecDepth 100000 in
theorem st_facts {p : Program} {s : State} {m : MethodId} {meth : Method} {c : Code} {b L : Nat} {xs : Nat → Int32} (C0 : lw_At p s m meth c b L xs) : ∃ (D : va_G) (cI cZ cS cR : ClassId) (N0 : NT), N0.1 = s.heap.size ∧ Tz p s m meth c #[Value.ref b] code 4 RL D cI cZ cS cR N0 := by
  obtain ⟨hx, hb, hr, hml, hown, hts, hX, hbl, hlocks, hgv⟩ := C0
  have htb : ∀ w ∈ tb, w.before #[Value.ref b] s = true := fun w h => hts w (tb_sub w h)
  have hs := flat_of_before _ hgv
  have hA : ∀ a : Nat, a < s.heap.size → ¬ (fun q : Nat => s.heap.size ≤ q) a := fun a h q => Nat.not_le.mpr h q
  obtain ⟨c0, i0, hK0⟩ := u_known (C := RX0) (T := TX0) (N := 4) (n := 4) htb (cl_in 0 _ rfl) (htb _ k_235)
  obtain ⟨c1, i1, hK1⟩ := u_known (C := RX1) (T := TX1) (N := 10) (n := 10) htb (cl_in 1 _ rfl) (htb _ k_267)
  obtain ⟨c2, i2, hK2⟩ := u_known (C := RX2) (T := TX2) (N := 4) (n := 4) htb (cl_in 2 _ rfl) (htb _ k_116)
  obtain ⟨c3, i3, hK3⟩ := u_known (C := RX3) (T := TX3) (N := 15) (n := 15) htb (cl_in 3 _ rfl) (htb _ k_110)
  obtain ⟨c4, i4, hK4⟩ := u_known (C := RX4) (T := TX4) (N := 4) (n := 4) htb (cl_in 4 _ rfl) (htb _ k_81)
  obtain ⟨c5, i5, hK5⟩ := u_known (C := RX5) (T := TX5) (N := 8) (n := 8) htb (cl_in 5 _ rfl) (htb _ k_103)
  obtain ⟨c6, i6, hK6⟩ := u_known (C := RX6) (T := TX6) (N := 7) (n := 7) htb (cl_in 6 _ rfl) (htb _ k_73)
  obtain ⟨c7, i7, hK7⟩ := u_known (C := RX7) (T := TX7) (N := 67) (n := 67) htb (cl_in 7 _ rfl) (htb _ k_740)
  obtain ⟨cI, hI⟩ := ar_of (htb _ k_101) (fun _ => rfl)
  obtain ⟨cZ, hZ⟩ := ar_of (htb _ k_947) (fun _ => rfl)
  obtain ⟨comp, cS, kS, s1, s2, s3, s4, s5⟩ := Cond.arrayOver_spec (hts _ rw_5)
  obtain ⟨compR, cR, kR, q1, q2, q3, q4, q5⟩ := arrayOverA_spec (hts _ rw_6)
  obtain ⟨t, ht, hT⟩ := va_Tof (s := s) (args := #[Value.ref b]) (tm := .static "TwiceOnce$Tape" "WORD_BEGINS" "[I") (ty := .int) (N := 9) (f := tabW) (A := fun q : Nat => s.heap.size ≤ q) (by decide) (hs _ (by decide +kernel)) (va_eqt (hs (Cond.eq (.length (.static "TwiceOnce$Tape" "WORD_BEGINS" "[I")) (.int 9)) (by decide +kernel))) (fun j hj => by
    match j, hj with
    | 0, _ => exact va_eqt (hs (Cond.eq (.elem (.static "TwiceOnce$Tape" "WORD_BEGINS" "[I") (.int 0)) (.int 0)) (by decide +kernel))
    | 1, _ => exact va_eqt (hs (Cond.eq (.elem (.static "TwiceOnce$Tape" "WORD_BEGINS" "[I") (.int 1)) (.int 4)) (by decide +kernel))
    | 2, _ => exact va_eqt (hs (Cond.eq (.elem (.static "TwiceOnce$Tape" "WORD_BEGINS" "[I") (.int 2)) (.int 8)) (by decide +kernel))
    | 3, _ => exact va_eqt (hs (Cond.eq (.elem (.static "TwiceOnce$Tape" "WORD_BEGINS" "[I") (.int 3)) (.int 12)) (by decide +kernel))
    | 4, _ => exact va_eqt (hs (Cond.eq (.elem (.static "TwiceOnce$Tape" "WORD_BEGINS" "[I") (.int 4)) (.int 16)) (by decide +kernel))
    | 5, _ => exact va_eqt (hs (Cond.eq (.elem (.static "TwiceOnce$Tape" "WORD_BEGINS" "[I") (.int 5)) (.int 20)) (by decide +kernel))
    | 6, _ => exact va_eqt (hs (Cond.eq (.elem (.static "TwiceOnce$Tape" "WORD_BEGINS" "[I") (.int 6)) (.int 24)) (by decide +kernel))
    | 7, _ => exact va_eqt (hs (Cond.eq (.elem (.static "TwiceOnce$Tape" "WORD_BEGINS" "[I") (.int 7)) (.int 27)) (by decide +kernel))
    | 8, _ => exact va_eqt (hs (Cond.eq (.elem (.static "TwiceOnce$Tape" "WORD_BEGINS" "[I") (.int 8)) (.int 30)) (by decide +kernel))
    | j + 9, hj => exact absurd hj (by omega)) hA
  obtain ⟨adK, adV, hSt, hev⟩ := vk_Sof (s := s) (args := #[Value.ref b]) (N := 1) (tm := fun _ => .string "TwiceOnce$Tape" 62) (len := [30]) (byt := [strW]) (A := fun q : Nat => s.heap.size ≤ q) (fun i hi => by rcases (show i = 0 by omega) with rfl; decide) (fun i hi => hs _ (by decide +kernel)) (fun i hi => hs _ (by decide +kernel)) (fun i hi => hs _ (by decide +kernel)) (fun i hi => by rcases (show i = 0 by omega) with rfl; exact hs (Cond.eq (.length (.field (.string "TwiceOnce$Tape" 62) "java/lang/String" "value" "[B")) (.int 30)) (by decide +kernel)) (fun i hi j hj => by
    rcases (show i = 0 by omega) with rfl
    match j, hj with
    | 0, _ => exact hs (Cond.eq (.elem (.field (.string "TwiceOnce$Tape" 62) "java/lang/String" "value" "[B") (.int 0)) (.int 115)) (by decide +kernel)
    | 1, _ => exact hs (Cond.eq (.elem (.field (.string "TwiceOnce$Tape" 62) "java/lang/String" "value" "[B") (.int 1)) (.int 101)) (by decide +kernel)
    | 2, _ => exact hs (Cond.eq (.elem (.field (.string "TwiceOnce$Tape" 62) "java/lang/String" "value" "[B") (.int 2)) (.int 116)) (by decide +kernel)
    | 3, _ => exact hs (Cond.eq (.elem (.field (.string "TwiceOnce$Tape" 62) "java/lang/String" "value" "[B") (.int 3)) (.int 32)) (by decide +kernel)
    | 4, _ => exact hs (Cond.eq (.elem (.field (.string "TwiceOnce$Tape" 62) "java/lang/String" "value" "[B") (.int 4)) (.int 97)) (by decide +kernel)
    | 5, _ => exact hs (Cond.eq (.elem (.field (.string "TwiceOnce$Tape" 62) "java/lang/String" "value" "[B") (.int 5)) (.int 100)) (by decide +kernel)
    | 6, _ => exact hs (Cond.eq (.elem (.field (.string "TwiceOnce$Tape" 62) "java/lang/String" "value" "[B") (.int 6)) (.int 100)) (by decide +kernel)
    | 7, _ => exact hs (Cond.eq (.elem (.field (.string "TwiceOnce$Tape" 62) "java/lang/String" "value" "[B") (.int 7)) (.int 32)) (by decide +kernel)
    | 8, _ => exact hs (Cond.eq (.elem (.field (.string "TwiceOnce$Tape" 62) "java/lang/String" "value" "[B") (.int 8)) (.int 109)) (by decide +kernel)
    | 9, _ => exact hs (Cond.eq (.elem (.field (.string "TwiceOnce$Tape" 62) "java/lang/String" "value" "[B") (.int 9)) (.int 97)) (by decide +kernel)
    | 10, _ => exact hs (Cond.eq (.elem (.field (.string "TwiceOnce$Tape" 62) "java/lang/String" "value" "[B") (.int 10)) (.int 120)) (by decide +kernel)
    | 11, _ => exact hs (Cond.eq (.elem (.field (.string "TwiceOnce$Tape" 62) "java/lang/String" "value" "[B") (.int 11)) (.int 32)) (by decide +kernel)
    | 12, _ => exact hs (Cond.eq (.elem (.field (.string "TwiceOnce$Tape" 62) "java/lang/String" "value" "[B") (.int 12)) (.int 110)) (by decide +kernel)
    | 13, _ => exact hs (Cond.eq (.elem (.field (.string "TwiceOnce$Tape" 62) "java/lang/String" "value" "[B") (.int 13)) (.int 101)) (by decide +kernel)
    | 14, _ => exact hs (Cond.eq (.elem (.field (.string "TwiceOnce$Tape" 62) "java/lang/String" "value" "[B") (.int 14)) (.int 119)) (by decide +kernel)
    | 15, _ => exact hs (Cond.eq (.elem (.field (.string "TwiceOnce$Tape" 62) "java/lang/String" "value" "[B") (.int 15)) (.int 32)) (by decide +kernel)
    | 16, _ => exact hs (Cond.eq (.elem (.field (.string "TwiceOnce$Tape" 62) "java/lang/String" "value" "[B") (.int 16)) (.int 103)) (by decide +kernel)
    | 17, _ => exact hs (Cond.eq (.elem (.field (.string "TwiceOnce$Tape" 62) "java/lang/String" "value" "[B") (.int 17)) (.int 101)) (by decide +kernel)
    | 18, _ => exact hs (Cond.eq (.elem (.field (.string "TwiceOnce$Tape" 62) "java/lang/String" "value" "[B") (.int 18)) (.int 116)) (by decide +kernel)
    | 19, _ => exact hs (Cond.eq (.elem (.field (.string "TwiceOnce$Tape" 62) "java/lang/String" "value" "[B") (.int 19)) (.int 32)) (by decide +kernel)
    | 20, _ => exact hs (Cond.eq (.elem (.field (.string "TwiceOnce$Tape" 62) "java/lang/String" "value" "[B") (.int 20)) (.int 97)) (by decide +kernel)
    | 21, _ => exact hs (Cond.eq (.elem (.field (.string "TwiceOnce$Tape" 62) "java/lang/String" "value" "[B") (.int 21)) (.int 115)) (by decide +kernel)
    | 22, _ => exact hs (Cond.eq (.elem (.field (.string "TwiceOnce$Tape" 62) "java/lang/String" "value" "[B") (.int 22)) (.int 107)) (by decide +kernel)
    | 23, _ => exact hs (Cond.eq (.elem (.field (.string "TwiceOnce$Tape" 62) "java/lang/String" "value" "[B") (.int 23)) (.int 32)) (by decide +kernel)
    | 24, _ => exact hs (Cond.eq (.elem (.field (.string "TwiceOnce$Tape" 62) "java/lang/String" "value" "[B") (.int 24)) (.int 100)) (by decide +kernel)
    | 25, _ => exact hs (Cond.eq (.elem (.field (.string "TwiceOnce$Tape" 62) "java/lang/String" "value" "[B") (.int 25)) (.int 111)) (by decide +kernel)
    | 26, _ => exact hs (Cond.eq (.elem (.field (.string "TwiceOnce$Tape" 62) "java/lang/String" "value" "[B") (.int 26)) (.int 32)) (by decide +kernel)
    | 27, _ => exact hs (Cond.eq (.elem (.field (.string "TwiceOnce$Tape" 62) "java/lang/String" "value" "[B") (.int 27)) (.int 105)) (by decide +kernel)
    | 28, _ => exact hs (Cond.eq (.elem (.field (.string "TwiceOnce$Tape" 62) "java/lang/String" "value" "[B") (.int 28)) (.int 102)) (by decide +kernel)
    | 29, _ => exact hs (Cond.eq (.elem (.field (.string "TwiceOnce$Tape" 62) "java/lang/String" "value" "[B") (.int 29)) (.int 32)) (by decide +kernel)
    | j + 30, hj => exact absurd hj (by show ¬ j + 30 < 30; omega)) (fun i j hi hj n => absurd (show i = j by omega) n) hA
  have hS0 := hSt.1 0 (by decide)
  obtain ⟨dC, dI, hKc⟩ : ∃ (dC : Nat → ClassId) (dI : Nat → Nat → Nat), ∀ (k : Nat) (q : vw_C), vwCl[k]? = some q → u_Kn s q.1 q.2.1 q.2.2 (dC k) (dI k) := by
    refine ⟨fun k => match k with | 0 => c0 | 1 => c1 | 2 => c2 | 3 => c3 | 4 => c4 | 5 => c5 | 6 => c6 | _ => c7, fun k => match k with | 0 => i0 | 1 => i1 | 2 => i2 | 3 => i3 | 4 => i4 | 5 => i5 | 6 => i6 | _ => i7, ?_⟩
    intro k q hq
    match k, hq with
    | 0, hq => cases hq; exact hK0
    | 1, hq => cases hq; exact hK1
    | 2, hq => cases hq; exact hK2
    | 3, hq => cases hq; exact hK3
    | 4, hq => cases hq; exact hK4
    | 5, hq => cases hq; exact hK5
    | 6, hq => cases hq; exact hK6
    | 7, hq => cases hq; exact hK7
    | k + 8, hq => simp [vwCl] at hq
  have hTx : Tx (s.heap.size, t, adK 0, adV 0) s := ⟨va_Zref (hts _ rw_7) (htb _ k_58) ht hA, hT, vk_R.of (hts _ rw_8) (hev 0 (by decide)), hS0.1, hS0.2.1, hS0.2.2.1, hS0.2.2.2, va_Zof (hts _ rw_9) (htb _ k_66) (va_eqi (hs (Cond.eq (.static "java/lang/String" "COMPACT_STRINGS" "Z") (.int 1)) (by decide +kernel))) hA, va_Zqof (hts _ rw_10) (htb _ k_68) (hs (Cond.isRef (.static "jdk/internal/util/Preconditions" "SIOOBE_FORMATTER" "Ljava/util/function/BiFunction;")) (by decide +kernel)) hA⟩
  refine ⟨(dC, dI), cI, cZ, cS, cR, (s.heap.size, t, adK 0, adV 0), rfl, hx, hb, hml, hown, htb, ⟨hKc, fun k q hq => ?_⟩, Nat.le_refl _, ⟨va_Nw.of rfl (hts _ rw_0), va_Nw.of rfl (hts _ rw_1), va_Nw.of rfl (hts _ rw_2), va_Nw.of rfl (hts _ rw_3), va_Nw.of rfl (hts _ rw_4), va_AO.of (hts _ rw_5), hts _ rw_6, hTx, va_Nw.of rfl (hts _ rw_11)⟩, hlocks⟩
  match k, hq with
  | 0, hq => cases hq; exact hI
  | 1, hq => cases hq; exact hZ
  | 2, hq => cases hq; exact ⟨fun n z => ⟨fun k h => (by cases h), kS, s3, comp, s4⟩, kS, comp, s3, s4, s1, s5⟩
  | 3, hq => cases hq; exact ⟨fun n z => ⟨fun k h => (by cases h), kR, q3, compR, q4⟩, q5⟩
  | k + 4, hq => simp [ty4] at hq
