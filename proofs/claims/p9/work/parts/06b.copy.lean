abbrev sV (g : GS) (a : Nat) (f : Nat → Int32) : GS := (g.1, g.2.1, g.2.2.1, fun x j => if x = a then f j else g.2.2.2.1 x j, g.2.2.2.2)
theorem Sm_sV {md : Nat → Nat → Bool} {g : GS} {a : Nat} {f : Nat → Int32} (h : md (g.1 a) 99 = true) : Sm md g (sV g a f) := ⟨fun _ _ _ _ => rfl, fun x _ hm => by
  by_cases hx : x = a
  · rw [hx, h] at hm; cases hm
  · refine ⟨?_, rfl⟩
    funext j
    show (if x = a then f j else g.2.2.2.1 x j) = _
    rw [if_neg hx]⟩
theorem sV_a {g : GS} {a b j : Nat} {f : Nat → Int32} {w : Int32} (h : g.2.2.2.1 b j = w) (n : b ≠ a) : (sV g a f).2.2.2.1 b j = w := by
  show (if b = a then f j else g.2.2.2.1 b j) = w
  rw [if_neg n]; exact h
section TCY
variable {p : Program} {l : Launch} {e : Env} {R : Room} {s : State} {m : MethodId} {args : Array Value} {below : List Frame} {meth : Method} {c : Code} {H : Heap} {locs : List Loc} {cells slots : Nat} {Q : State → Prop}
variable {cc : ByteArray} {pc nL : Nat} {ls : Array Slot} {rest : List Value} {own : String} {D : va_G} {cI cZ cS cR : ClassId} {N0 : NT} {a : Nat} {g : GS}
theorem t_arr {H1 : Heap} (hT : TH D cI cZ cS cR N0 g H) {f : Nat → Int32} (hr : 50 ≤ g.1 a ∧ g.1 a ≤ 99) (he : H1[a]? = some (vp_cell cI (g.2.2.1 a, .inl f))) (hz : H1.size = H.size) (ho : ∀ q : Nat, q ≠ a → H1[q]? = H[q]?) : TH D cI cZ cS cR N0 (sV g a f) H1 := fun y => by
  by_cases hy : y = a
  · subst hy
    obtain ⟨g1, g2, g3, g4, g5, g6⟩ := hT y
    have hu : (fun j => if y = y then f j else g.2.2.2.1 y j) = f := by
      funext j
      rw [if_pos rfl]
    refine ⟨fun ci q hc _ => ?_, fun h => ?_, fun h => ?_, fun h => ?_, fun h => ?_, fun h => ⟨(g6 h).1, by rw [hz]; exact (g6 h).2⟩⟩
    · exfalso
      have hc' : ciOf (g.1 y) = some ci := hc
      unfold ciOf at hc'
      rw [if_neg (by omega), if_neg (by omega), if_neg (by omega), if_neg (by omega), if_neg (by omega)] at hc'
      cases hc'
    · show H1[y]? = some (vp_cell cI (g.2.2.1 y, .inl (fun j => if y = y then f j else g.2.2.2.1 y j)))
      rw [hu]
      exact he
    · exfalso
      have h' : g.1 y = 40 := h
      omega
    · exfalso
      have h' : g.1 y = 41 ∨ g.1 y = 42 ∨ g.1 y = 44 := h
      omega
    · exfalso
      have h' : g.1 y = 43 := h
      omega
  · exact (hT y).kept (ho y hy) (Nat.le_of_eq hz.symm) rfl rfl rfl (by funext j; show (if y = a then f j else g.2.2.2.1 y j) = _; rw [if_neg hy]) rfl
theorem Inv.sV {g : GS} {a : Nat} {f : Nat → Int32} (h : Inv g) (hf : ∀ i, i < g.2.2.1 a → Cok (g.1 a) (f i)) : Inv (sV g a f) := by
  refine ⟨h.1, fun x j hj => ?_, h.2.2⟩
  show Cok (g.1 x) (if x = a then f j else g.2.2.2.1 x j)
  by_cases hx : x = a
  · rw [if_pos hx, hx]; exact hf j (by have hj' : j < g.2.2.1 x := hj; rw [← hx]; exact hj')
  · rw [if_neg hx]; exact h.2.1 x j hj
theorem t_copy (hB : Tz p s m meth c args cc nL own D cI cZ cS cR N0) (hT : Tv D cI cZ cS cR N0 s.heap H locs g) {index a0 r n0 n1 : Nat} (hlink : Cond.methodLink own index arraycopyName ∈ tb) (hnat : Cond.native arraycopyName ∈ tb) (hstat : Cond.static arraycopyName ∈ tb) (hini : Cond.initialized "java/lang/System" ∈ tb) (hsz : ls.size = nL) (hr0 : g.1 a0 = r) (hr1 : g.1 a = r) (hrr : 50 ≤ r ∧ r ≤ 99) (hn0 : g.2.2.1 a0 = n0) (hn1 : g.2.2.1 a = n1)
    {sp dp n : Int32} (h1 : 0 ≤ sp.toInt) (h2 : 0 ≤ dp.toInt) (h3 : 0 ≤ n.toInt) (h4 : sp.toInt + n.toInt ≤ n0) (h5 : dp.toInt + n.toInt ≤ n1) (hframes : 1 ≤ R.frames) (hlocals : (rest.map fun v => v.category).sum + (nativeFrameWords "java/lang/System" "arraycopy" 5 + 11) ≤ R.locals) (hdg : decode cc pc = .ok (.invokestatic index, 3)) (hI : Inv g)
    (kk : ∀ (H1 : Heap) (locs1 : List Loc) (f : Nat → Int32), f = va_cpy (g.2.2.2.1 a0) (g.2.2.2.1 a) sp.toNatClampNeg dp.toNatClampNeg n.toNatClampNeg → Tv D cI cZ cS cR N0 s.heap H1 locs1 (sV g a f) → Inv (sV g a f) → W p l e R s m args below meth c H1 locs1 cells slots Q (F0 m (pc + 3) ls rest)) : W p l e R s m args below meth c H locs cells slots Q (F0 m pc ls (.int n :: .int dp :: .ref a :: .int sp :: .ref a0 :: rest)) := by
  subst hn0
  subst hn1
  have k1 : ¬ sp < 0 := fun q => by have := i_lt q rfl z0; omega
  have k2 : ¬ dp < 0 := fun q => by have := i_lt q rfl z0; omega
  have k3 : ¬ n < 0 := fun q => by have := i_lt q rfl z0; omega
  have nn : ∀ z : Int32, 0 ≤ z.toInt → z.toInt = (z.toNatClampNeg : Int) := by
    intro z hz
    show z.toInt = ((z.toInt.toNat : Nat) : Int)
    omega
  have m1 := nn sp h1
  have m2 := nn dp h2
  have m3 := nn n h3
  have hc0 := (hT.1 a0).2.1 (by rw [hr0]; exact hrr)
  have hc1 := (hT.1 a).2.1 (by rw [hr1]; exact hrr)
  have hNa := ((hT.1 a).2.2.2.2.2 (by rw [hr1]; omega)).1
  intro T hT' X
  obtain ⟨-, q0, hk0, cm0, hkk0⟩ := (hB.2.2.2.2.2.1.2 0 _ rfl).1 (g.2.2.1 a0) (fun j => .int (g.2.2.2.1 a0 j))
  obtain ⟨-, q1, hk1, cm1, hkk1⟩ := (hB.2.2.2.2.2.1.2 0 _ rfl).1 (g.2.2.1 a) (fun j => .int (g.2.2.2.1 a j))
  obtain ⟨vm', X', step⟩ := X.arraycopy hB.1 hB.2.2.2.1 (hB.2.2.2.2.1 _ hlink) (hB.2.2.2.2.1 _ hnat) (hB.2.2.2.2.1 _ hstat) (hB.2.2.2.2.1 _ hini) (src := a0) (dst := a) (cs := vp_cell cI (g.2.2.1 a0, .inl (g.2.2.2.1 a0))) (cd := vp_cell cI (g.2.2.1 a, .inl (g.2.2.2.1 a))) (srcPos := sp) (destPos := dp) (n := n) (by rw [hT']; exact hc0) (by rw [hT']; exact hc1)
    (fun _ h => by cases h) (fun _ h => by cases h) (fun h => by cases h) (fun h => by cases h) hk0 hk1 hkk0 hkk1 (by simp [refKind]) k1 k2 k3
    (by show ¬ _ > ((arrV cI (g.2.2.1 a0) (fun j => .int (g.2.2.2.1 a0 j))).slots.size : Int); rw [arrV_size]; omega)
    (by show ¬ _ > ((arrV cI (g.2.2.1 a) (fun j => .int (g.2.2.2.1 a j))).slots.size : Int); rw [arrV_size]; omega)
    (fun vm₁ _ i hi => by
      have e : (vp_cell cI (g.2.2.1 a0, .inl (g.2.2.2.1 a0))).slots.getD (sp.toNatClampNeg + i) .null = .int (g.2.2.2.1 a0 (sp.toNatClampNeg + i)) := by
        show (arrV cI (g.2.2.1 a0) (fun j => .int (g.2.2.2.1 a0 j))).slots.getD _ _ = _
        rw [Array.getD_eq_getD_getElem?, arrV_read _ _ (by omega)]
        rfl
      refine ⟨?_, ?_⟩
      · rw [e]; rfl
      · rw [e]; exact trivial)
    (g := F0 m pc ls (.int n :: .int dp :: .ref a :: .int sp :: .ref a0 :: rest)) rfl (by rw [hB.2.2.1, hsz]) (rest := rest) rfl (by rw [hB.2.1]; exact hdg) hframes (by show 2 * 0 + _ + _ ≤ _; omega)
  have e1 : copied (vp_cell cI (g.2.2.1 a0, .inl (g.2.2.2.1 a0))) (vp_cell cI (g.2.2.1 a, .inl (g.2.2.2.1 a))) sp dp n = vp_cell cI (g.2.2.1 a, .inl (va_cpy (g.2.2.2.1 a0) (g.2.2.2.1 a) sp.toNatClampNeg dp.toNatClampNeg n.toNatClampNeg)) := va_copied (fun z => .int z) cI cI (g.2.2.2.1 a0) (g.2.2.2.1 a) (by omega)
  rw [e1] at X' step
  generalize hf : va_cpy (g.2.2.2.1 a0) (g.2.2.2.1 a) sp.toNatClampNeg dp.toNatClampNeg n.toNatClampNeg = f at X' step
  have hl : a < H.size := (Array.getElem?_eq_some_iff.mp hc1).1
  have hheap : ((T.setVm vm').setCell a (vp_cell cI (g.2.2.1 a, .inl f))).heap = H.setIfInBounds a (vp_cell cI (g.2.2.1 a, .inl f)) := by rw [← hT']; rfl
  have oq : ∀ q : Nat, q ≠ a → (H.setIfInBounds a (vp_cell cI (g.2.2.1 a, .inl f)))[q]? = H[q]? := fun q hq => by simp [Array.getElem?_setIfInBounds, Ne.symm hq]
  have hIf : Inv (sV g a f) := hI.sV (fun i hi => by
    rw [← hf]
    unfold va_cpy
    by_cases hc : dp.toNatClampNeg ≤ i ∧ i < dp.toNatClampNeg + n.toNatClampNeg
    · rw [if_pos hc, hr1, ← hr0]
      exact hI.2.1 a0 _ (by omega)
    · rw [if_neg hc]
      exact hI.2.1 a i hi)
  obtain ⟨t, b1, b2⟩ := kk _ _ f hf.symm ⟨t_arr hT.1 (by rw [hr1]; exact hrr) (show (H.setIfInBounds a _)[a]? = some _ by simp [Array.getElem?_setIfInBounds, hl]) (by simp) oq, ⟨by simp; exact hT.2.1, fun q g1 g2 => by
      rw [oq q (fun e => g2 (by rw [e]; exact hNa))]
      exact hT.2.2.1 q g1 g2, fun q hq => by
      rcases List.mem_append.mp hq with h | h
      · exact hT.2.2.2 q h
      · obtain ⟨z, -, hz⟩ := List.mem_map.mp h
        rw [← hz]
        exact hNa⟩⟩ hIf _ hheap X'
  exact ⟨t, step t b1, b2⟩
end TCY
