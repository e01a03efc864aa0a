/-! new cells -/
theorem fsm.mono {g g' : GS} {v : Value} {x : FS} (hx : ∀ a, g.1 a ≠ 0 → g'.1 a = g.1 a ∧ g'.2.2.1 a = g.2.2.1 a) (h : fsm g v x) : fsm g' v x := by
  unfold fsm at h ⊢
  split at h
  · exact h
  · exact h
  · obtain ⟨h0, q, rfl, hq⟩ := h
    exact ⟨h0, q, rfl, ((hx q (by rw [hq]; exact h0.1)).1).trans hq⟩
  · obtain ⟨h0, q, rfl, hq, hn⟩ := h
    have e := hx q (by rw [hq]; exact h0.1)
    exact ⟨h0, q, rfl, e.1.trans hq, e.2.trans hn⟩
  · exact trivial
theorem Qok.mono {g g' : GS} {r : Nat} {v : Option Nat} (hx : ∀ a, g.1 a ≠ 0 → g'.1 a = g.1 a ∧ g'.2.2.1 a = g.2.2.1 a) (h : Qok g r v) : Qok g' r v := by
  unfold Qok at h ⊢
  split at h
  · obtain ⟨q, e, hq⟩ := h
    exact ⟨q, e, ((hx q (by omega)).1).trans hq⟩
  · obtain ⟨q, e, hq⟩ := h
    exact ⟨q, e, ((hx q (by omega)).1).trans hq⟩
  · obtain ⟨q, e, hq, hn⟩ := h
    have e' := hx q (by omega)
    exact ⟨q, e, e'.1.trans hq, e'.2.trans hn⟩
  · exact trivial
/-- a cell that nothing may name yet takes its role -/
theorem Inv.promo {g : GS} {a r : Nat} (h : Inv g) (hraw : ¬ okR (g.1 a)) (hF : ∀ k, Fok (sR g a r) r k (g.2.1 a k)) (hC : ∀ i, i < g.2.2.1 a → Cok r (g.2.2.2.1 a i)) (hQ : ∀ i, i < g.2.2.1 a → Qok (sR g a r) r (g.2.2.2.2 a i)) : Inv (sR g a r) := by
  have hx : ∀ x, okR (g.1 x) → (sR g a r).1 x = g.1 x := fun x hx => if_neg (fun q => hraw (by rw [← q]; exact hx))
  refine ⟨fun x k => ?_, fun x i hi => ?_, fun x i hi => ?_⟩
  · show Fok _ (if x = a then r else g.1 x) k (g.2.1 x k)
    by_cases hn : x = a
    · rw [if_pos hn, hn]; exact hF k
    · rw [if_neg hn]
      have h1 : fsm g (g.2.1 x k) (fsp (g.1 x) k) := h.1 x k
      show fsm _ _ _
      unfold fsm at h1 ⊢
      split at h1
      · exact h1
      · exact h1
      · obtain ⟨h0, q, e, hq⟩ := h1
        exact ⟨h0, q, e, (hx q (by rw [hq]; exact h0)).trans hq⟩
      · obtain ⟨h0, q, e, hq, hn⟩ := h1
        exact ⟨h0, q, e, (hx q (by rw [hq]; exact h0)).trans hq, hn⟩
      · exact trivial
  · show Cok (if x = a then r else g.1 x) (g.2.2.2.1 x i)
    by_cases hn : x = a
    · rw [if_pos hn, hn]; exact hC i (by rw [← hn]; exact hi)
    · rw [if_neg hn]; exact h.2.1 x i hi
  · show Qok _ (if x = a then r else g.1 x) (g.2.2.2.2 x i)
    by_cases hn : x = a
    · rw [if_pos hn, hn]; exact hQ i (by rw [← hn]; exact hi)
    · rw [if_neg hn]
      have h1 := h.2.2 x i hi
      unfold Qok at h1 ⊢
      split at h1
      · obtain ⟨q, e, hq⟩ := h1
        exact ⟨q, e, (hx q (by rw [hq]; decide)).trans hq⟩
      · obtain ⟨q, e, hq⟩ := h1
        exact ⟨q, e, (hx q (by rw [hq]; decide)).trans hq⟩
      · obtain ⟨q, e, hq, hn⟩ := h1
        exact ⟨q, e, (hx q (by rw [hq]; decide)).trans hq, hn⟩
      · exact trivial
theorem Exx.promo {g g' : GS} {a r : Nat} (h : Ex g g') : Exx a g (sR g' a r) := fun x hx h0 => by
  obtain ⟨e1, e2⟩ := h x h0
  refine ⟨?_, e2⟩
  show (if x = a then r else g'.1 x) = g.1 x
  rw [if_neg hx]; exact e1
theorem Sm.promo {md : Nat → Nat → Bool} {g g' : GS} {a r : Nat} (h : Sm md g g') : Sm md g (sR g' a r) := h
theorem Ex.trx {g g' g'' : GS} {q : Nat} (h : Ex g g') (h0 : g.1 q = 0) (h' : Exx q g' g'') : Ex g g'' := fun a ha => by
  obtain ⟨e1, e2⟩ := h a ha
  obtain ⟨e3, e4⟩ := h' a (fun z => ha (by rw [z]; exact h0)) (by rw [e1]; exact ha)
  exact ⟨e3.trans e1, e4.trans e2⟩
theorem Exx.r {g g' : GS} {q a r : Nat} (h : Exx q g g') (hr : g.1 a = r) (h0 : r ≠ 0) (hn : a ≠ q) : g'.1 a = r := ((h a hn (by rw [hr]; exact h0)).1).trans hr
theorem Exx.n {g g' : GS} {q a r n : Nat} (h : Exx q g g') (hr : g.1 a = r) (h0 : r ≠ 0) (hn : a ≠ q) (hl : g.2.2.1 a = n) : g'.2.2.1 a = n := ((h a hn (by rw [hr]; exact h0)).2).trans hl
section TN
variable {p : Program} {l : Launch} {e : Env} {R : Room} {s : State} {m : MethodId} {args : Array Value} {below : List Frame} {meth : Method} {c : Code} {H : Heap} {locs : List Loc} {cells slots : Nat} {Q : State → Prop}
variable {cc : ByteArray} {pc nL : Nat} {ls : Array Slot} {rest : List Value} {own : String} {D : va_G} {cI cZ cS cR : ClassId} {N0 : NT} {a : Nat} {g : GS}
theorem TH.z {D : va_G} {cI cZ cS cR : ClassId} {N0 : NT} {g : GS} {H : Heap} (h : TH D cI cZ cS cR N0 g H) {x : Nat} (hx : H.size ≤ x) : g.1 x = 0 := by
  by_cases h0 : g.1 x = 0
  · exact h0
  · exact absurd ((h x).2.2.2.2.2 h0).2 (by omega)
theorem TC.zero {D : va_G} {cI cZ cS cR : ClassId} {N0 : NT} {g : GS} {H : Heap} {x : Nat} (er : g.1 x = 0) : TC D cI cZ cS cR N0 g H x := by
  refine ⟨fun ci q hc' _ => ?_, fun h => ?_, fun h => ?_, fun h => ?_, fun h => ?_, fun h => absurd er h⟩
  · exfalso; rw [er] at hc'; simp [ciOf] at hc'
  · exfalso; rw [er] at h; omega
  · exfalso; rw [er] at h; omega
  · exfalso; rw [er] at h; omega
  · exfalso; rw [er] at h; omega
theorem TH.push {D : va_G} {cI cZ cS cR : ClassId} {N0 : NT} {g g' : GS} {H H1 : Heap} (hT : TH D cI cZ cS cR N0 g H) (hz : H.size ≤ H1.size) (ho : ∀ x : Nat, x < H.size → H1[x]? = H[x]?) (hg : ∀ x : Nat, x < H.size → g'.1 x = g.1 x ∧ g'.2.1 x = g.2.1 x ∧ g'.2.2.1 x = g.2.2.1 x ∧ g'.2.2.2.1 x = g.2.2.2.1 x ∧ g'.2.2.2.2 x = g.2.2.2.2 x) (hc : ∀ x : Nat, H.size ≤ x → TC D cI cZ cS cR N0 g' H1 x) : TH D cI cZ cS cR N0 g' H1 := fun x => by
  by_cases hl : x < H.size
  · obtain ⟨e1, e2, e3, e4, e5⟩ := hg x hl
    exact (hT x).kept (ho x hl) hz e1 e2 e3 e4 e5
  · exact hc x (by omega)
theorem va_S.push {A : Nat → Prop} {H0 H H1 : Heap} {locs : List Loc} (h : va_S A H0 H locs) (hz : H.size ≤ H1.size) (ho : ∀ x : Nat, x < H.size → H1[x]? = H[x]?) : va_S A H0 H1 locs := ⟨Nat.le_trans h.1 hz, fun x h1 h2 => (ho x (Nat.lt_of_lt_of_le h1 h.1)).trans (h.2.1 x h1 h2), h.2.2⟩
/-- a new array whose role is r -/
theorem t_push1 (hB : Tz p s m meth c args cc nL own D cI cZ cS cR N0) (hT : Tv D cI cZ cS cR N0 s.heap H locs g) {H1 : Heap} {r n : Nat} (z1 : H1.size = H.size + 1) (o1 : ∀ x : Nat, x < H.size → H1[x]? = H[x]?) (hr : 40 ≤ r ∧ r ≤ 99) (h50 : 50 ≤ r → H1[H.size]? = some (vp_cell cI (n, .inl (fun _ => 0)))) (h40 : r = 40 → H1[H.size]? = some (vp_cell cZ (n, .inl (fun _ => 0)))) (h41 : (r = 41 ∨ r = 42 ∨ r = 44) → H1[H.size]? = some (vp_cell cS (n, .inr (.inr (.inr (.inr (fun _ => none))))))) (h43 : r ≠ 43) : Tv D cI cZ cS cR N0 s.heap H1 locs (sA g H.size r n) := by
  refine ⟨hT.1.push (by omega) o1 (fun x hx => ?_) (fun x hx => ?_), hT.2.push (by omega) o1⟩
  · have hx' : ∀ {α : Type} (u v : α), (if x = H.size then u else v) = v := fun u v => if_neg (by omega)
    exact ⟨hx' _ _, rfl, hx' _ _, by funext j; exact hx' _ _, by funext j; exact hx' _ _⟩
  · by_cases hx2 : x = H.size
    · subst hx2
      have er : (sA g H.size r n).1 H.size = r := if_pos rfl
      have en : (sA g H.size r n).2.2.1 H.size = n := if_pos rfl
      have ec : (sA g H.size r n).2.2.2.1 H.size = (fun _ => 0) := by funext j; exact if_pos rfl
      have eq : (sA g H.size r n).2.2.2.2 H.size = (fun _ => none) := by funext j; exact if_pos rfl
      refine ⟨fun ci q hc' _ => ?_, fun h => ?_, fun h => ?_, fun h => ?_, fun h => ?_, fun _ => ⟨Nat.le_trans hB.2.2.2.2.2.2.1 hT.2.1, by omega⟩⟩
      · exfalso
        rw [er] at hc'
        unfold ciOf at hc'
        rw [if_neg (by omega), if_neg (by omega), if_neg (by omega), if_neg (by omega), if_neg (by omega)] at hc'
        cases hc'
      · rw [en, ec]; rw [er] at h; exact h50 h.1
      · rw [en, ec]; rw [er] at h; exact h40 h
      · rw [en, eq]; rw [er] at h; exact h41 h
      · exfalso; rw [er] at h; exact h43 h
    · refine TC.zero ?_
      show (if x = H.size then r else g.1 x) = 0
      rw [if_neg hx2]
      exact hT.1.z hx
theorem t_newi (hB : Tz p s m meth c args cc nL own D cI cZ cS cR N0) (hT : Tv D cI cZ cS cR N0 s.heap H locs g) (r : Nat) (hr : 50 ≤ r ∧ r ≤ 99) (harr : Cond.arrayClass .int ∈ tb) {n : Int32} {N' : Nat} (hn : ¬ n < 0) (hN : n.toNatClampNeg = N') (hb : N' * 4 ≤ 536870912) (hcells : cells + 1 ≤ R.cells) (hslots : slots + N' ≤ R.slots) (hdg : decode cc pc = .ok (.newarray .int, 2))
    (kk : ∀ (q : Nat) (H1 : Heap), g.1 q = 0 → Tv D cI cZ cS cR N0 s.heap H1 locs (sA g q r N') → W p l e R s m args below meth c H1 locs (cells + 1) (slots + N') Q (F0 m (pc + 2) ls (.ref q :: rest))) : W p l e R s m args below meth c H locs cells slots Q (F0 m pc ls (.int n :: rest)) := by
  refine va_newaK (atype := .int) hB.1 hB.2.1 (hB.2.2.2.2.1 _ harr) rfl hdg rfl hn hN hb hcells hslots rfl fun H1 cA' e1 z1 o1 hAr hNm => ?_
  have hc : cA' = cI := by
    have h1 : s.vm.findClass ("[" ++ FieldType.int.toString) = some cI := (hB.2.2.2.2.2.1.2 0 _ rfl).2
    exact Option.some.inj (hNm.symm.trans h1)
  subst hc
  exact kk H.size H1 (hT.1.z (Nat.le_refl _)) (t_push1 hB hT z1 o1 (by omega) (fun _ => by rw [e1]; rfl) (fun h => by omega) (fun h => by omega) (by omega))
theorem t_newz (hB : Tz p s m meth c args cc nL own D cI cZ cS cR N0) (hT : Tv D cI cZ cS cR N0 s.heap H locs g) (harr : Cond.arrayClass .boolean ∈ tb) {n : Int32} {N' : Nat} (hn : ¬ n < 0) (hN : n.toNatClampNeg = N') (hb : N' * 1 ≤ 536870912) (hcells : cells + 1 ≤ R.cells) (hslots : slots + N' ≤ R.slots) (hdg : decode cc pc = .ok (.newarray .boolean, 2))
    (kk : ∀ (q : Nat) (H1 : Heap), g.1 q = 0 → Tv D cI cZ cS cR N0 s.heap H1 locs (sA g q 40 N') → W p l e R s m args below meth c H1 locs (cells + 1) (slots + N') Q (F0 m (pc + 2) ls (.ref q :: rest))) : W p l e R s m args below meth c H locs cells slots Q (F0 m pc ls (.int n :: rest)) := by
  refine va_newaK (atype := .boolean) hB.1 hB.2.1 (hB.2.2.2.2.1 _ harr) rfl hdg rfl hn hN hb hcells hslots rfl fun H1 cA' e1 z1 o1 hAr hNm => ?_
  have hc : cA' = cZ := by
    have h1 : s.vm.findClass ("[" ++ FieldType.boolean.toString) = some cZ := (hB.2.2.2.2.2.1.2 1 _ rfl).2
    exact Option.some.inj (hNm.symm.trans h1)
  subst hc
  exact kk H.size H1 (hT.1.z (Nat.le_refl _)) (t_push1 hB hT z1 o1 (by omega) (fun h => by omega) (fun _ => by rw [e1]; rfl) (fun h => by omega) (by omega))
theorem t_newq (hB : Tz p s m meth c args cc nL own D cI cZ cS cR N0) (hT : Tv D cI cZ cS cR N0 s.heap H locs g) {index : Nat} (hcl : Cond.classLink own index "TwiceOnce$Service" ∈ tb) {n : Int32} {N' : Nat} (hn : ¬ n < 0) (hN : n.toNatClampNeg = N') (hb : N' * 4 ≤ 536870912) (hcells : cells + 1 ≤ R.cells) (hslots : slots + N' ≤ R.slots) (hdg : decode cc pc = .ok (.anewarray index, 3))
    (kk : ∀ (q : Nat) (H1 : Heap), g.1 q = 0 → Tv D cI cZ cS cR N0 s.heap H1 locs (sA g q 44 N') → W p l e R s m args below meth c H1 locs (cells + 1) (slots + N') Q (F0 m (pc + 3) ls (.ref q :: rest))) : W p l e R s m args below meth c H locs cells slots Q (F0 m pc ls (.int n :: rest)) := by
  subst hN
  refine W.anew hB.1 hB.2.1 hB.2.2.2.1 (hB.2.2.2.2.1 _ hcl) (va_AO.use hB.2.2.2.2.2.2.2.1.2.2.2.2.2.1) rfl hdg rfl hn hb hcells hslots fun cA kA comp f1 f2 f3 f4 => ?_
  have e : cA = cS := by
    obtain ⟨-, -, -, -, -, h5⟩ := (hB.2.2.2.2.2.1.2 2 _ rfl).2
    exact Option.some.inj (f1.symm.trans h5)
  subst e
  generalize hH1 : H.push ({ cls := cA, slots := Array.replicate n.toNatClampNeg .null, vm := .none } : Cell) = H1
  have z1 : H1.size = H.size + 1 := by rw [← hH1, Array.size_push]
  have e1 : H1[H.size]? = some (arrV cA n.toNatClampNeg (fun _ => .null)) := by rw [← hH1, Array.getElem?_push_size, ← arrV_new]
  have o1 : ∀ q : Nat, q < H.size → H1[q]? = H[q]? := fun q hq => by rw [← hH1, Array.getElem?_push, if_neg (Nat.ne_of_lt hq)]
  exact kk H.size H1 (hT.1.z (Nat.le_refl _)) (t_push1 hB hT z1 o1 (by omega) (fun h => by omega) (fun h => by omega) (fun _ => by rw [vp_cell_q]; exact e1) (by omega))
theorem t_new (hB : Tz p s m meth c args cc nL own D cI cZ cS cR N0) (hT : Tv D cI cZ cS cR N0 s.heap H locs g) {ci N index : Nat} {C : String} {T : u_T} {fs : List Value} (hc : vwCl[ci]? = some (C, T, N)) (hci : ci ≤ 7) (hcl : Cond.classLink own index C ∈ tb) (hi : Cond.instantiable C N ∈ tb) (hini : Cond.initialized C ∈ tb) (hfs : ∀ j, j < N → defaultValue (clty ci j) = vp_V fs j) (hcells : cells + 1 ≤ R.cells) (hslots : slots + N ≤ R.slots) (hdg : decode cc pc = .ok (.new index, 3))
    (kk : ∀ (q : Nat) (H1 : Heap), g.1 q = 0 → Tv D cI cZ cS cR N0 s.heap H1 locs (sN g q (11 + ci) (vp_V fs)) → W p l e R s m args below meth c H1 locs (cells + 1) (slots + N) Q (F0 m (pc + 3) ls (.ref q :: rest))) : W p l e R s m args below meth c H locs cells slots Q (F0 m pc ls rest) := by
  have hKn := hB.2.2.2.2.2.1.1 ci _ hc
  refine W.newcK hB.1 hB.2.1 hB.2.2.2.1 (hB.2.2.2.2.1 _ hcl) (hB.2.2.2.2.1 _ hi) (hB.2.2.2.2.1 _ hini) rfl hdg hcells hslots hKn.2.1 rfl fun H1 kC hkC e1 z1 o1 => ?_
  refine kk H.size H1 (hT.1.z (Nat.le_refl _)) ⟨hT.1.push (by omega) o1 (fun x hx => ?_) (fun x hx => ?_), hT.2.push (by omega) o1⟩
  · have hx' : ∀ {α : Type} (u v : α), (if x = H.size then u else v) = v := fun u v => if_neg (by omega)
    exact ⟨hx' _ _, by funext j; exact hx' _ _, rfl, rfl, rfl⟩
  · by_cases hx2 : x = H.size
    · subst hx2
      have er : (sN g H.size (11 + ci) (vp_V fs)).1 H.size = 11 + ci := if_pos rfl
      have ef : (sN g H.size (11 + ci) (vp_V fs)).2.1 H.size = vp_V fs := by funext j; exact if_pos rfl
      refine ⟨fun ci' q hc' hq' => ?_, fun h => ?_, fun h => ?_, fun h => ?_, fun h => ?_, fun _ => ⟨Nat.le_trans hB.2.2.2.2.2.2.1 hT.2.1, by omega⟩⟩
      · rw [er] at hc'
        unfold ciOf at hc'
        rw [if_neg (by omega), if_neg (by omega), if_neg (by omega), if_neg (by omega), if_pos (by omega)] at hc'
        have e2 : ci' = ci := by have := Option.some.inj hc'; omega
        subst e2
        have e3 := Option.some.inj (hq'.symm.trans hc)
        subst e3
        rw [ef]
        exact (u_born (clty ci') hB.2.2.2.2.1 (cl_in ci' _ hc) hKn hkC e1 (cl_ty ci' _ hc)).to hfs
      · exfalso; rw [er] at h; omega
      · exfalso; rw [er] at h; omega
      · exfalso; rw [er] at h; omega
      · exfalso; rw [er] at h; omega
    · refine TC.zero ?_
      show (if x = H.size then 11 + ci else g.1 x) = 0
      rw [if_neg hx2]
      exact hT.1.z hx
theorem Inv.push {g g' : GS} {a : Nat} (h : Inv g) (h0 : g.1 a = 0) (hg : ∀ x : Nat, x ≠ a → g'.1 x = g.1 x ∧ g'.2.1 x = g.2.1 x ∧ g'.2.2.1 x = g.2.2.1 x ∧ g'.2.2.2.1 x = g.2.2.2.1 x ∧ g'.2.2.2.2 x = g.2.2.2.2 x) (hF : ∀ k, Fok g' (g'.1 a) k (g'.2.1 a k)) (hC : ∀ i, Cok (g'.1 a) (g'.2.2.2.1 a i)) (hQ : ∀ i, i < g'.2.2.1 a → Qok g' (g'.1 a) (g'.2.2.2.2 a i)) : Inv g' := by
  have hx : ∀ x, g.1 x ≠ 0 → g'.1 x = g.1 x ∧ g'.2.2.1 x = g.2.2.1 x := fun x hx => by
    have hn : x ≠ a := fun q => hx (by rw [q]; exact h0)
    exact ⟨(hg x hn).1, (hg x hn).2.2.1⟩
  refine ⟨fun x k => ?_, fun x i hi => ?_, fun x i hi => ?_⟩
  · by_cases hn : x = a
    · subst hn; exact hF k
    · obtain ⟨e1, e2, e3, e4, e5⟩ := hg x hn
      rw [e1, e2]
      exact fsm.mono hx (h.1 x k)
  · by_cases hn : x = a
    · subst hn; exact hC i
    · obtain ⟨e1, e2, e3, e4, e5⟩ := hg x hn
      rw [e1, e4]
      exact h.2.1 x i (by rw [← e3]; exact hi)
  · by_cases hn : x = a
    · subst hn; exact hQ i hi
    · obtain ⟨e1, e2, e3, e4, e5⟩ := hg x hn
      rw [e1, e5]
      exact Qok.mono hx (h.2.2 x i (by rw [← e3]; exact hi))
theorem sA_g {g : GS} {a r n : Nat} : ∀ x : Nat, x ≠ a → (sA g a r n).1 x = g.1 x ∧ (sA g a r n).2.1 x = g.2.1 x ∧ (sA g a r n).2.2.1 x = g.2.2.1 x ∧ (sA g a r n).2.2.2.1 x = g.2.2.2.1 x ∧ (sA g a r n).2.2.2.2 x = g.2.2.2.2 x := fun x hx => by
  have hx' : ∀ {α : Type} (u v : α), (if x = a then u else v) = v := fun u v => if_neg hx
  exact ⟨hx' _ _, rfl, hx' _ _, by funext j; exact hx' _ _, by funext j; exact hx' _ _⟩
theorem sN_g {g : GS} {a r : Nat} {V : Nat → Value} : ∀ x : Nat, x ≠ a → (sN g a r V).1 x = g.1 x ∧ (sN g a r V).2.1 x = g.2.1 x ∧ (sN g a r V).2.2.1 x = g.2.2.1 x ∧ (sN g a r V).2.2.2.1 x = g.2.2.2.1 x ∧ (sN g a r V).2.2.2.2 x = g.2.2.2.2 x := fun x hx => by
  have hx' : ∀ {α : Type} (u v : α), (if x = a then u else v) = v := fun u v => if_neg hx
  exact ⟨hx' _ _, by funext j; exact hx' _ _, rfl, rfl, rfl⟩
theorem sA_r {g : GS} {a r n : Nat} : (sA g a r n).1 a = r := if_pos rfl
theorem sA_n {g : GS} {a r n : Nat} : (sA g a r n).2.2.1 a = n := if_pos rfl
theorem sA_c {g : GS} {a r n i : Nat} : (sA g a r n).2.2.2.1 a i = 0 := if_pos rfl
theorem sN_r {g : GS} {a r : Nat} {V : Nat → Value} : (sN g a r V).1 a = r := if_pos rfl
theorem sN_f {g : GS} {a r k : Nat} {V : Nat → Value} : (sN g a r V).2.1 a k = V k := if_pos rfl
theorem Inv.newi {g : GS} {a r n : Nat} (h : Inv g) (h0 : g.1 a = 0) (hr : 40 ≤ r) (hF : ∀ k, fsp r k = ft) (hC : Cok r 0) (hQ : ∀ g', Qok g' r none) : Inv (sA g a r n) :=
  h.push h0 sA_g (fun k => by show fsm _ _ (fsp ((sA g a r n).1 a) k); rw [sA_r, hF k]; exact trivial) (fun i => by rw [sA_r, sA_c]; exact hC) (fun i _ => by rw [sA_r]; rw [show (sA g a r n).2.2.2.2 a i = none from if_pos rfl]; exact hQ _)
theorem Inv.newo {g : GS} {a r : Nat} {V : Nat → Value} (h : Inv g) (h0 : g.1 a = 0) (hF : ∀ k, fsp r k = ft) (hC : ∀ x, Cok r x) (hQ : ∀ g' v, Qok g' r v) : Inv (sN g a r V) :=
  h.push h0 sN_g (fun k => by show fsm _ _ (fsp ((sN g a r V).1 a) k); rw [sN_r, hF k]; exact trivial) (fun i => by rw [sN_r]; exact hC _) (fun i _ => by rw [sN_r]; exact hQ _ _)
theorem Ex.push {g g' : GS} {a : Nat} (h0 : g.1 a = 0) (hg : ∀ x : Nat, x ≠ a → g'.1 x = g.1 x ∧ g'.2.1 x = g.2.1 x ∧ g'.2.2.1 x = g.2.2.1 x ∧ g'.2.2.2.1 x = g.2.2.2.1 x ∧ g'.2.2.2.2 x = g.2.2.2.2 x) : Ex g g' := fun x hx => by
  have hn : x ≠ a := fun q => hx (by rw [q]; exact h0)
  exact ⟨(hg x hn).1, (hg x hn).2.2.1⟩
theorem Sm.push {md : Nat → Nat → Bool} {g g' : GS} {a : Nat} (h0 : g.1 a = 0) (hg : ∀ x : Nat, x ≠ a → g'.1 x = g.1 x ∧ g'.2.1 x = g.2.1 x ∧ g'.2.2.1 x = g.2.2.1 x ∧ g'.2.2.2.1 x = g.2.2.2.1 x ∧ g'.2.2.2.2 x = g.2.2.2.2 x) : Sm md g g' := ⟨fun x k hx _ => by
  have hn : x ≠ a := fun q => hx (by rw [q]; exact h0)
  rw [(hg x hn).2.1], fun x hx _ => by
  have hn : x ≠ a := fun q => hx (by rw [q]; exact h0)
  exact ⟨(hg x hn).2.2.2.1, (hg x hn).2.2.2.2⟩⟩
/-- a store into Service[] under its making -/
theorem t_astq (hB : Tz p s m meth c args cc nL own D cI cZ cS cR N0) (hT : Tv D cI cZ cS cR N0 s.heap H locs g) {n v : Nat} {i : Int32} (hr : g.1 a = 44) (hn : g.2.2.1 a = n) (hv : ciOf (g.1 v) = some 3) (hin : vp_in i n) (hdg : decode cc pc = .ok (.aastore, 1))
    (kk : ∀ (H1 : Heap) (locs1 : List Loc), Tv D cI cZ cS cR N0 s.heap H1 locs1 (sQ g a i.toNatClampNeg (some v)) → W p l e R s m args below meth c H1 locs1 cells slots Q (F0 m (pc + 1) ls rest)) : W p l e R s m args below meth c H locs cells slots Q (F0 m pc ls (.ref v :: .int i :: .ref a :: rest)) := by
  subst hn
  have hc := (hT.1 a).2.2.2.1 (Or.inr (Or.inr hr))
  have hNa := ((hT.1 a).2.2.2.2.2 (by omega)).1
  have hlt : i.toNatClampNeg < g.2.2.1 a := Nat.not_le.mp fun q => hin (Or.inr q)
  have h0 : ¬ i < 0 := fun q => hin (Or.inl q)
  obtain ⟨cellV, g1, g2, g3, -⟩ := (hT.1 v).1 3 _ hv rfl
  have hcls := (hB.2.2.2.2.2.1.1 3 _ rfl).2
  obtain ⟨kA, comp, k1, k2, k3, -⟩ := (hB.2.2.2.2.2.1.2 2 _ rfl).2
  have hcomp : comp = D.1 3 := Option.some.inj (k3.symm.trans hcls.1)
  subst hcomp
  obtain ⟨kC, hkC, -⟩ := hcls.2
  refine W.aast hB.1 hB.2.1 hc (fun q h => by cases h) (fun h => by cases h) k1 k2 rfl hkC ⟨h0, by show _ < (arrV _ _ _).slots.size; rw [arrV_size]; exact hlt⟩ g1 (fun q h => by rw [g3] at h; cases h) (by rw [g2]; exact hkC) (by rw [g2]; exact va_assign hcls) rfl rfl hdg fun H1 e z oq => ?_
  refine kk H1 _ ⟨fun y => ?_, hT.2.put z oq hNa⟩
  by_cases hy : y = a
  · subst hy
    have hu : (fun j => if y = y ∧ j = i.toNatClampNeg then some v else g.2.2.2.2 y j) = va_up (g.2.2.2.2 y) i.toNatClampNeg (some v) := by
      funext j
      by_cases hj : j = i.toNatClampNeg
      · subst hj; simp [va_up]
      · simp [va_up, hj]
    refine ⟨fun ci q hc' _ => ?_, fun h => ?_, fun h => ?_, fun h => ?_, fun h => ?_, fun h => ⟨hNa, by rw [z]; exact ((hT.1 y).2.2.2.2.2 h).2⟩⟩
    · exfalso
      have hc'' : ciOf (g.1 y) = some ci := hc'
      rw [hr] at hc''
      simp [ciOf] at hc''
    · exfalso
      have h' : 50 ≤ g.1 y ∧ g.1 y ≤ 99 := h
      omega
    · exfalso
      have h' : g.1 y = 40 := h
      omega
    · show H1[y]? = some (vp_cell cS (g.2.2.1 y, .inr (.inr (.inr (.inr (fun j => if y = y ∧ j = i.toNatClampNeg then some v else g.2.2.2.2 y j))))))
      rw [hu, e]
      rw [vp_cell_q, vp_cell_q, arrV_store]
      congr 2
      funext q
      by_cases hq : q = i.toNatClampNeg
      · subst hq
        simp [updV, va_up, va_rf]
      · simp [updV, va_up, hq]
    · exfalso
      have h' : g.1 y = 43 := h
      omega
  · exact (hT.1 y).kept (oq y hy) (Nat.le_of_eq z.symm) rfl rfl rfl rfl (by funext j; show (if y = a ∧ j = _ then _ else g.2.2.2.2 y j) = _; rw [if_neg (fun q => hy q.1)])
/-- the role of a made object or array -/
theorem TH.promo {D : va_G} {cI cZ cS cR : ClassId} {N0 : NT} {g : GS} {H : Heap} {a r : Nat} (h : TH D cI cZ cS cR N0 g H) (h0 : g.1 a ≠ 0) (h1 : ciOf r = ciOf (g.1 a)) (h2 : r < 40 ∨ (g.1 a = 44 ∧ (r = 41 ∨ r = 42))) : TH D cI cZ cS cR N0 (sR g a r) H := fun x => by
  by_cases hx : x = a
  · subst hx
    obtain ⟨g1, g2, g3, g4, g5, g6⟩ := h x
    have er : (sR g x r).1 x = r := if_pos rfl
    refine ⟨fun ci q hc hq => ?_, fun h => ?_, fun h => ?_, fun h => ?_, fun h => ?_, fun _ => g6 h0⟩
    · rw [er, h1] at hc; exact g1 ci q hc hq
    · rw [er] at h; omega
    · rw [er] at h; omega
    · rw [er] at h; exact g4 (by omega)
    · rw [er] at h; omega
  · exact (h x).kept rfl (Nat.le_refl _) (if_neg hx) rfl rfl rfl rfl
end TN
