section TCL
variable {p : Program} {l : Launch} {e : Env} {R : Room} {s : State} {m : MethodId} {args : Array Value} {below : List Frame} {meth : Method} {c : Code} {H : Heap} {locs : List Loc} {cells slots : Nat} {Q : State → Prop}
variable {cc : ByteArray} {pc nL : Nat} {ls : Array Slot} {rest : List Value} {own : String} {D : va_G} {cI cZ cS cR : ClassId} {N0 : NT} {a : Nat} {g : GS}
theorem t_callI {y : MethodName} {b : ByteArray} {n' d mc ms n index : Nat} {As : List Value} {post : Option Value → GS → Prop} (hB : Tz p s m meth c args cc nL own D cI cZ cS cR N0) (hT : Tv D cI cZ cS cR N0 s.heap H locs g) (hsz : ls.size = nL)
    (hM : Ty l D cI cZ cS cR N0 y b n' none d mc ms (.ref a :: As) g post) (hc : Cond.code y b n' none ∈ tb) (hini : Cond.initialized y.cls ∈ tb) (hl : Cond.methodLink own index y ∈ tb) (hi : Cond.instanceMethod y ∈ tb) (hy : y.name = "<init>") (hd : y.cls ≠ "java/lang/invoke/MethodHandle" ∧ y.cls ≠ "java/lang/invoke/VarHandle" ∧ (parseMethodDescriptor y.desc).map (fun d => d.parameters.length) = some n) (hR : d + 1 + 1 ≤ R.frames ∧ 8 + (n' + 11) + 64 * (d + 1) ≤ R.locals) (hn : As.length = n) (hW : (rest.map fun v => v.category).sum ≤ 8) (hf : cells + mc ≤ R.cells ∧ slots + ms ≤ R.slots) (hdg : decode cc pc = .ok (.invokespecial index, 3))
    (kk : ∀ (v : Option Value) (g' : GS) (H1 : Heap) (locs1 : List Loc), post v g' → Tv D cI cZ cS cR N0 s.heap H1 locs1 g' → W p l e R s m args below meth c H1 locs1 (cells + mc) (slots + ms) Q (F0 m (pc + 3) ls (v.toList ++ rest))) : W p l e R s m args below meth c H locs cells slots Q (F0 m pc ls (As.reverse ++ .ref a :: rest)) :=
  t_back hT (va_runI (As := As) (rest := rest) (nL := nL) ⟨hB.1, hB.2.1, hB.2.2.1, hB.2.2.2.1, hB.2.2.2.2.1⟩ hM ⟨t_cb hB hc hini hl hd hR, hy, hB.2.2.2.2.1 _ hi⟩ (t_pre hB hT) rfl hn hsz rfl (lv_room hW) hdg hf) kk
theorem t_callIN {y : MethodName} {b : ByteArray} {n' d mc ms n index : Nat} {host : String} {As : List Value} {post : Option Value → GS → Prop} (hB : Tz p s m meth c args cc nL own D cI cZ cS cR N0) (hT : Tv D cI cZ cS cR N0 s.heap H locs g) (hsz : ls.size = nL)
    (hM : Ty l D cI cZ cS cR N0 y b n' none d mc ms (.ref a :: As) g post) (hc : Cond.code y b n' none ∈ tb) (hini : Cond.initialized y.cls ∈ tb) (hl : va_Nw (.methodLinkNest own index y host) s) (hi : Cond.instanceMethod y ∈ tb) (hy : y.name = "<init>") (hd : y.cls ≠ "java/lang/invoke/MethodHandle" ∧ y.cls ≠ "java/lang/invoke/VarHandle" ∧ (parseMethodDescriptor y.desc).map (fun d => d.parameters.length) = some n) (hR : d + 1 + 1 ≤ R.frames ∧ 8 + (n' + 11) + 64 * (d + 1) ≤ R.locals) (hn : As.length = n) (hW : (rest.map fun v => v.category).sum ≤ 8) (hf : cells + mc ≤ R.cells ∧ slots + ms ≤ R.slots) (hdg : decode cc pc = .ok (.invokespecial index, 3))
    (kk : ∀ (v : Option Value) (g' : GS) (H1 : Heap) (locs1 : List Loc), post v g' → Tv D cI cZ cS cR N0 s.heap H1 locs1 g' → W p l e R s m args below meth c H1 locs1 (cells + mc) (slots + ms) Q (F0 m (pc + 3) ls (v.toList ++ rest))) : W p l e R s m args below meth c H locs cells slots Q (F0 m pc ls (As.reverse ++ .ref a :: rest)) :=
  t_back hT (va_runIN (As := As) (rest := rest) (nL := nL) ⟨hB.1, hB.2.1, hB.2.2.1, hB.2.2.2.1, hB.2.2.2.2.1⟩ hM ⟨va_cnB n hB.2.2.2.2.1 (gd0 hc) rfl rfl rfl hl (hB.2.2.2.2.1 _ hini) hd hR, hy, hB.2.2.2.2.1 _ hi⟩ (t_pre hB hT) rfl hn hsz rfl (lv_room hW) hdg hf) kk
theorem t_oinit (hB : Tz p s m meth c args cc nL own D cI cZ cS cR N0) {idx : Nat} (hl : Cond.methodLink own idx Lib.objectInit ∈ tb) (hi : Cond.instanceMethod Lib.objectInit ∈ tb) (hc : Cond.code Lib.objectInit ⟨#[0xb1]⟩ 1 none ∈ tb) (hsz : ls.size = nL) (hd : decode cc pc = .ok (.invokespecial idx, 3)) (hframes : 1 ≤ R.frames) (hlocals : (rest.map fun v => v.category).sum + 12 ≤ R.locals)
    (kk : W p l e R s m args below meth c H locs cells slots Q (F0 m (pc + 3) ls rest)) : W p l e R s m args below meth c H locs cells slots Q (F0 m pc ls (.ref a :: rest)) :=
  W.objInit hB.1 hB.2.1 hB.2.2.2.1 (hB.2.2.2.2.1 _ hl) (hB.2.2.2.2.1 _ hi) (hB.2.2.2.2.1 _ hc) rfl (by rw [hB.2.2.1]; exact hsz) rfl hd hframes (by show 2 * 0 + _ + 12 ≤ _; omega) kk
theorem t_aret {v : Value} {rt : FieldType} {post : Option Value → GS → Prop} {mc ms : Nat} (hB : Tz p s m meth c args cc nL own D cI cZ cS cR N0) (hr : meth.sig.returnType = some rt) (hrt : (∃ n, rt = .object n) ∨ ∃ t, rt = .array t) (hv : v = .null ∨ ∃ a, v = .ref a) (hT : Tv D cI cZ cS cR N0 s.heap H locs g) (h1 : cells ≤ mc) (h2 : slots ≤ ms) (hdg : decode cc pc = .ok (.areturn, 1)) (hp : post (some v) g) :
    W p l e R s m args below meth c H locs cells slots (MQ below (tQ D cI cZ cS cR N0 post) args s mc ms (fun q => N0.1 ≤ q)) (F0 m pc ls [v]) :=
  W.widen h1 h2 (W.aret hB.1 hB.2.1 hr hrt hv (t_end hT hp) hT.2.2.2 hdg hB.2.2.2.2.2.2.2.2)
theorem t_aaldR (hB : Tz p s m meth c args cc nL own D cI cZ cS cR N0) (hT : Tv D cI cZ cS cR N0 s.heap H locs g) {n q : Nat} {i : Int32} (hr : g.1 a = 43) (hn : g.2.2.1 a = n) (hin : vp_in i n) (hv : g.2.2.2.2 a i.toNatClampNeg = some q) (hdg : decode cc pc = .ok (.aaload, 1))
    (kk : W p l e R s m args below meth c H locs cells slots Q (F0 m (pc + 1) ls (.ref q :: rest))) : W p l e R s m args below meth c H locs cells slots Q (F0 m pc ls (.int i :: .ref a :: rest)) := by
  subst hn
  have hlt : i.toNatClampNeg < g.2.2.1 a := Nat.not_le.mp fun q => hin (Or.inr q)
  refine W.aald (v := va_rf (g.2.2.2.2 a i.toNatClampNeg)) (ty := .array .int) hB.1 hB.2.1 ((hT.1 a).2.2.2.2.1 hr) ((hB.2.2.2.2.2.1.2 3 _ rfl).1 (g.2.2.1 a) (fun j => va_rf (g.2.2.2.2 a j))) rfl (fun q => by cases q) (by show ¬ (i < 0 ∨ (arrV _ _ _).slots.size ≤ _); rw [arrV_size]; exact hin) (by show (arrV _ _ _).slots[_]? = _; rw [arrV_read _ _ hlt]) rfl rfl hdg ?_
  rw [hv]
  exact kk
/-- int[N'][K']: of role 43, its rows of role 50 -/
abbrev sM (g : GS) (q N' K' : Nat) : GS := (fun x => if x = q then 43 else if q < x ∧ x ≤ q + N' then 50 else g.1 x, g.2.1, fun x => if x = q then N' else if q < x ∧ x ≤ q + N' then K' else g.2.2.1 x, fun x j => if q ≤ x ∧ x ≤ q + N' then 0 else g.2.2.2.1 x j, fun x j => if x = q then (if j < N' then some (q + 1 + j) else none) else if q < x ∧ x ≤ q + N' then none else g.2.2.2.2 x j)
theorem t_mna (hB : Tz p s m meth c args cc nL own D cI cZ cS cR N0) (hT : Tv D cI cZ cS cR N0 s.heap H locs g) {index : Nat} (hcl : Cond.classLink own index "[[I" ∈ tb) (harr : Cond.arrayClass .int ∈ tb) {n k : Int32} {N' K' : Nat} (hn : ¬ n < 0) (hk : ¬ k < 0) (hN : n.toNatClampNeg = N') (hM : k.toNatClampNeg = K') (hb1 : N' * 4 ≤ 536870912) (hb2 : K' * 4 ≤ 536870912) (hcells : cells + (1 + N') ≤ R.cells) (hslots : slots + (N' + N' * K') ≤ R.slots) (hdg : decode cc pc = .ok (.multianewarray index 2, 4))
    (kk : ∀ (q : Nat) (H1 : Heap) (locs1 : List Loc), (∀ x, q ≤ x → g.1 x = 0) → Tv D cI cZ cS cR N0 s.heap H1 locs1 (sM g q N' K') → W p l e R s m args below meth c H1 locs1 (cells + 1 + N') (slots + N' + N' * K') Q (F0 m (pc + 4) ls (.ref q :: rest))) : W p l e R s m args below meth c H locs cells slots Q (F0 m pc ls (.int k :: .int n :: rest)) := by
  subst hN
  subst hM
  refine mn_step (ty := .int) hB.1 hB.2.1 hB.2.2.2.1 (hB.2.2.2.2.1 _ hcl) hB.2.2.2.2.2.2.2.1.2.2.2.2.2.2.1 (hB.2.2.2.2.1 _ harr) hn hk hb1 hb2 (by omega) rfl rfl hcells hslots hdg (fun H1 cA co hz ho h1 h2 f1 f2 => ?_)
  have e1 : co = cI := by
    have h : s.vm.findClass ("[" ++ FieldType.int.toString) = some cI := (hB.2.2.2.2.2.1.2 0 _ rfl).2
    exact Option.some.inj (f2.symm.trans h)
  have e2 : cA = cR := by
    have h : s.vm.findClass ("[" ++ (FieldType.array .int).toString) = some cR := (hB.2.2.2.2.2.1.2 3 _ rfl).2
    exact Option.some.inj (f1.symm.trans h)
  subst e1
  subst e2
  have hS1 : va_S (fun q => N0.1 ≤ q) s.heap H1 (locs ++ (List.range n.toNatClampNeg).map fun j => ⟨H.size, j⟩) := ⟨Nat.le_trans hT.2.1 (by omega), fun q g1 g2 => (ho q (Nat.lt_of_lt_of_le g1 hT.2.1)).trans (hT.2.2.1 q g1 g2), fun q hq => by
    rcases List.mem_append.mp hq with h | h
    · exact hT.2.2.2 q h
    · obtain ⟨j, -, rfl⟩ := List.mem_map.mp h
      exact Nat.le_trans hB.2.2.2.2.2.2.1 hT.2.1⟩
  have hNs : N0.1 ≤ H.size := Nat.le_trans hB.2.2.2.2.2.2.1 hT.2.1
  refine kk H.size H1 _ (fun x hx => hT.1.z hx) ⟨hT.1.push (by omega) ho (fun x hx => ?_) (fun x hx => ?_), hS1⟩
  · have i1 : ¬ x = H.size := by omega
    have i2 : ¬ (H.size < x ∧ x ≤ H.size + n.toNatClampNeg) := by omega
    have i3 : ¬ (H.size ≤ x ∧ x ≤ H.size + n.toNatClampNeg) := by omega
    refine ⟨?_, rfl, ?_, ?_, ?_⟩
    · show (if x = H.size then 43 else if _ then 50 else g.1 x) = _
      rw [if_neg i1, if_neg i2]
    · show (if x = H.size then _ else if _ then _ else g.2.2.1 x) = _
      rw [if_neg i1, if_neg i2]
    · funext j
      show (if _ then _ else g.2.2.2.1 x j) = _
      rw [if_neg i3]
    · funext j
      show (if x = H.size then _ else if _ then _ else g.2.2.2.2 x j) = _
      rw [if_neg i1, if_neg i2]
  · by_cases i1 : x = H.size
    · subst i1
      have er : (sM g H.size n.toNatClampNeg k.toNatClampNeg).1 H.size = 43 := if_pos rfl
      refine ⟨fun ci q hc' _ => ?_, fun h => ?_, fun h => ?_, fun h => ?_, fun h => ?_, fun _ => ⟨hNs, by omega⟩⟩
      · exfalso; rw [er] at hc'; simp [ciOf] at hc'
      · exfalso; rw [er] at h; omega
      · exfalso; rw [er] at h; omega
      · exfalso; rw [er] at h; omega
      · rw [h1, mn_ocv, vp_cell_q]
        show some (arrV cA n.toNatClampNeg _) = some (arrV cA (if H.size = H.size then n.toNatClampNeg else _) _)
        rw [if_pos rfl]
        congr 2
        funext j
        show _ = va_rf (if H.size = H.size then _ else _)
        rw [if_pos rfl]
        by_cases hj : j < n.toNatClampNeg
        · rw [if_pos hj, if_pos hj]; rfl
        · rw [if_neg hj, if_neg hj]; rfl
    · by_cases i2 : H.size < x ∧ x ≤ H.size + n.toNatClampNeg
      · have er : (sM g H.size n.toNatClampNeg k.toNatClampNeg).1 x = 50 := (if_neg i1).trans (if_pos i2)
        have en : (sM g H.size n.toNatClampNeg k.toNatClampNeg).2.2.1 x = k.toNatClampNeg := (if_neg i1).trans (if_pos i2)
        have ec : (sM g H.size n.toNatClampNeg k.toNatClampNeg).2.2.2.1 x = fun _ => 0 := by
          funext j
          exact if_pos ⟨by omega, by omega⟩
        refine ⟨fun ci q hc' _ => ?_, fun _ => ?_, fun h => ?_, fun h => ?_, fun h => ?_, fun _ => ⟨by omega, by omega⟩⟩
        · exfalso; rw [er] at hc'; simp [ciOf] at hc'
        · rw [en, ec]
          have h3 := h2 (x - H.size - 1) (by omega)
          rw [show H.size + 1 + (x - H.size - 1) = x by omega] at h3
          rw [h3, vp_cell_i, ← arrV_new]
          rfl
        · exfalso; rw [er] at h; omega
        · exfalso; rw [er] at h; omega
        · exfalso; rw [er] at h; omega
      · refine TC.zero ?_
        show (if x = H.size then 43 else if _ then 50 else g.1 x) = 0
        rw [if_neg i1, if_neg i2]
        exact hT.1.z hx
theorem sM_x {g : GS} {q N' K' : Nat} (h0 : ∀ x, q ≤ x → g.1 x = 0) : Ex g (sM g q N' K') := fun x hx => by
  have hl : x < q := Nat.lt_of_not_le fun h => hx (h0 x h)
  refine ⟨?_, ?_⟩
  · show (if x = q then 43 else if _ then 50 else g.1 x) = _
    rw [if_neg (by omega), if_neg (by omega)]
  · show (if x = q then _ else if _ then _ else g.2.2.1 x) = _
    rw [if_neg (by omega), if_neg (by omega)]
theorem sM_s {md : Nat → Nat → Bool} {g : GS} {q N' K' : Nat} (h0 : ∀ x, q ≤ x → g.1 x = 0) : Sm md g (sM g q N' K') := ⟨fun _ _ _ _ => rfl, fun x hx _ => by
  have hl : x < q := Nat.lt_of_not_le fun h => hx (h0 x h)
  refine ⟨?_, ?_⟩
  · funext j
    show (if _ then _ else g.2.2.2.1 x j) = _
    rw [if_neg (by omega)]
  · funext j
    show (if x = q then _ else if _ then _ else g.2.2.2.2 x j) = _
    rw [if_neg (by omega), if_neg (by omega)]⟩
theorem sM_r {g : GS} {q N' K' : Nat} : (sM g q N' K').1 q = 43 := if_pos rfl
theorem sM_n {g : GS} {q N' K' : Nat} : (sM g q N' K').2.2.1 q = N' := if_pos rfl
theorem Inv.sM {g : GS} {q N' : Nat} (h : Inv g) (h0 : ∀ x, q ≤ x → g.1 x = 0) : Inv (sM g q N' 325) := by
  have hx := sM_x (N' := N') (K' := 325) h0
  refine ⟨fun x k => ?_, fun x i hi => ?_, fun x i hi => ?_⟩
  · show Fok _ (if x = q then 43 else if _ then 50 else g.1 x) k (g.2.1 x k)
    by_cases i1 : x = q
    · rw [if_pos i1]; exact (show fsm _ _ ft from trivial)
    · rw [if_neg i1]
      by_cases i2 : q < x ∧ x ≤ q + N'
      · rw [if_pos i2]; exact (show fsm _ _ ft from trivial)
      · rw [if_neg i2]; exact fsm.mono hx (h.1 x k)
  · show Cok (if x = q then 43 else if _ then 50 else g.1 x) _
    by_cases i1 : x = q
    · rw [if_pos i1]; exact trivial
    · rw [if_neg i1]
      by_cases i2 : q < x ∧ x ≤ q + N'
      · rw [if_pos i2]; exact trivial
      · rw [if_neg i2]
        show Cok (g.1 x) (if q ≤ x ∧ x ≤ q + N' then 0 else g.2.2.2.1 x i)
        rw [if_neg (by omega)]
        have hi' : i < (if x = q then N' else if q < x ∧ x ≤ q + N' then 325 else g.2.2.1 x) := hi
        rw [if_neg i1, if_neg i2] at hi'
        exact h.2.1 x i hi'
  · have hi' : i < (if x = q then N' else if q < x ∧ x ≤ q + N' then 325 else g.2.2.1 x) := hi
    show Qok _ (if x = q then 43 else if _ then 50 else g.1 x) (if x = q then (if i < N' then some (q + 1 + i) else none) else if q < x ∧ x ≤ q + N' then none else g.2.2.2.2 x i)
    by_cases i1 : x = q
    · rw [if_pos i1] at hi'
      rw [if_pos i1, if_pos i1, if_pos hi']
      refine ⟨q + 1 + i, rfl, ?_, ?_⟩
      · show (if q + 1 + i = q then 43 else if _ then 50 else _) = 50
        rw [if_neg (by omega), if_pos (by omega)]
      · show (if q + 1 + i = q then _ else if _ then 325 else _) = 325
        rw [if_neg (by omega), if_pos (by omega)]
    · rw [if_neg i1, if_neg i1]
      by_cases i2 : q < x ∧ x ≤ q + N'
      · rw [if_pos i2, if_pos i2]; exact trivial
      · rw [if_neg i1, if_neg i2] at hi'
        rw [if_neg i2, if_neg i2]
        exact Qok.mono hx (h.2.2 x i hi')
end TCL
