/-! A TYPED HEAP: every cell of ours has a role (0: none of ours); what the cells hold is a ghost, g; no cell needs to be apart from another. g: roles, fields, lengths, ints of arrays, references of arrays -/
abbrev GS : Type := (Nat → Nat) × (Nat → Nat → Value) × (Nat → Nat) × (Nat → Nat → Int32) × (Nat → Nat → Option Nat)
abbrev gr_ (g : GS) : Nat → Nat := g.1
abbrev gf_ (g : GS) : Nat → Nat → Value := g.2.1
abbrev gl_ (g : GS) : Nat → Nat := g.2.2.1
abbrev gc_ (g : GS) : Nat → Nat → Int32 := g.2.2.2.1
abbrev gq_ (g : GS) : Nat → Nat → Option Nat := g.2.2.2.2
/-- a field, an int of an array, a reference of an array is set; a new cell -/
abbrev sF (g : GS) (a k : Nat) (v : Value) : GS := (g.1, fun x j => if x = a ∧ j = k then v else g.2.1 x j, g.2.2)
abbrev sC (g : GS) (a i : Nat) (v : Int32) : GS := (g.1, g.2.1, g.2.2.1, fun x j => if x = a ∧ j = i then v else g.2.2.2.1 x j, g.2.2.2.2)
abbrev sQ (g : GS) (a i : Nat) (v : Option Nat) : GS := (g.1, g.2.1, g.2.2.1, g.2.2.2.1, fun x j => if x = a ∧ j = i then v else g.2.2.2.2 x j)
abbrev sR (g : GS) (a r : Nat) : GS := (fun x => if x = a then r else g.1 x, g.2)
abbrev sN (g : GS) (a r : Nat) (V : Nat → Value) : GS := (fun x => if x = a then r else g.1 x, fun x j => if x = a then V j else g.2.1 x j, g.2.2)
abbrev sA (g : GS) (a r n : Nat) : GS := (fun x => if x = a then r else g.1 x, g.2.1, fun x => if x = a then n else g.2.2.1 x, fun x j => if x = a then 0 else g.2.2.2.1 x j, fun x j => if x = a then none else g.2.2.2.2 x j)
/-- roles: 1 .. 8 objects of the classes 0 .. 7; 9 the log's CallList; 10 a Service, 19 the World that is now; 11 .. 18 such under their making; 50 .. 99 int[]; 40 boolean[]; 41, 42 Service[] (44: under its making); 43 int[][] -/
def ciOf (r : Nat) : Option Nat := if 1 ≤ r ∧ r ≤ 8 then some (r - 1) else if r = 9 then some 0 else if r = 10 then some 3 else if r = 19 then some 5 else if 11 ≤ r ∧ r ≤ 18 then some (r - 11) else none
abbrev ty4 (cI cZ cS cR : ClassId) : List (ClassId × FieldType) := [(cI, .int), (cZ, .boolean), (cS, .object "TwiceOnce$Service"), (cR, .array .int)]
def TC (D : va_G) (cI cZ cS cR : ClassId) (N0 : NT) (g : GS) (H : Heap) (a : Nat) : Prop :=
  (∀ (ci : Nat) (q : vw_C), ciOf (g.1 a) = some ci → vwCl[ci]? = some q → t_OB a (D.1 ci) q.2.2 (D.2 ci) H (g.2.1 a)) ∧
  ((50 ≤ g.1 a ∧ g.1 a ≤ 99) → H[a]? = some (vp_cell cI (g.2.2.1 a, .inl (g.2.2.2.1 a)))) ∧
  (g.1 a = 40 → H[a]? = some (vp_cell cZ (g.2.2.1 a, .inl (g.2.2.2.1 a)))) ∧
  ((g.1 a = 41 ∨ g.1 a = 42 ∨ g.1 a = 44) → H[a]? = some (vp_cell cS (g.2.2.1 a, .inr (.inr (.inr (.inr (g.2.2.2.2 a))))))) ∧
  (g.1 a = 43 → H[a]? = some (vp_cell cR (g.2.2.1 a, .inr (.inr (.inr (.inr (g.2.2.2.2 a))))))) ∧
  (g.1 a ≠ 0 → N0.1 ≤ a ∧ a < H.size)
def TH (D : va_G) (cI cZ cS cR : ClassId) (N0 : NT) (g : GS) (H : Heap) : Prop := ∀ a : Nat, TC D cI cZ cS cR N0 g H a
/-- a cell that the heap and the ghost both leave as it was -/
theorem TC.kept {D : va_G} {cI cZ cS cR : ClassId} {N0 : NT} {g g' : GS} {H H1 : Heap} {a : Nat} (h : TC D cI cZ cS cR N0 g H a) (hq : H1[a]? = H[a]?) (hz : H.size ≤ H1.size) (e1 : g'.1 a = g.1 a) (e2 : g'.2.1 a = g.2.1 a) (e3 : g'.2.2.1 a = g.2.2.1 a) (e4 : g'.2.2.2.1 a = g.2.2.2.1 a) (e5 : g'.2.2.2.2 a = g.2.2.2.2 a) : TC D cI cZ cS cR N0 g' H1 a := by
  obtain ⟨h1, h2, h3, h4, h5, h6⟩ := h
  refine ⟨fun ci q hc hq' => ?_, ?_, ?_, ?_, ?_, ?_⟩
  · rw [e1] at hc
    rw [e2]
    exact (h1 ci q hc hq').kept hq
  · rw [e1, e3, e4, hq]; exact h2
  · rw [e1, e3, e4, hq]; exact h3
  · rw [e1, e3, e5, hq]; exact h4
  · rw [e1, e3, e5, hq]; exact h5
  · rw [e1]; exact fun h => ⟨(h6 h).1, Nat.lt_of_lt_of_le (h6 h).2 hz⟩
def Tz (p : Program) (s : State) (m : MethodId) (meth : Method) (c : Code) (args : Array Value) (cc : ByteArray) (nL : Nat) (own : String) (D : va_G) (cI cZ cS cR : ClassId) (N0 : NT) : Prop :=
  p.tables.exec = Jvm.exec ∧ c.code = cc ∧ c.maxLocals = nL ∧ s.vm.findClass own = some m.cls ∧ (∀ w ∈ tb, w.before args s = true) ∧ va_K D vwCl (ty4 cI cZ cS cR) s ∧ N0.1 ≤ s.heap.size ∧ Nb N0 s ∧ meth.locks = false
/-- what moves: the ghost tells the heap; nothing below N0 has changed since the method's begin -/
def Tv (D : va_G) (cI cZ cS cR : ClassId) (N0 : NT) (H0 H : Heap) (locs : List Loc) (g : GS) : Prop := TH D cI cZ cS cR N0 g H ∧ va_S (fun q => N0.1 ≤ q) H0 H locs
def tP (D : va_G) (cI cZ cS cR : ClassId) (N0 : NT) (av : List Value) (g : GS) : Array Value → State → Prop := fun v U => v = av.toArray ∧ N0.1 ≤ U.heap.size ∧ TH D cI cZ cS cR N0 g U.heap ∧ va_K D vwCl (ty4 cI cZ cS cR) U ∧ Nb N0 U
def tQ (D : va_G) (cI cZ cS cR : ClassId) (N0 : NT) (post : Option Value → GS → Prop) : Array Value → State → Outcome → State → Prop := fun _ st oc t => (∃ (v : Option Value) (g : GS), oc = .returned v ∧ post v g ∧ TH D cI cZ cS cR N0 g t.heap) ∧ va_F (fun q => N0.1 ≤ q) st t
def Ty (l : Launch) (D : va_G) (cI cZ cS cR : ClassId) (N0 : NT) (y : MethodName) (b : ByteArray) (n : Nat) (r : Option FieldType) (d mc ms : Nat) (av : List Value) (g : GS) (post : Option Value → GS → Prop) : Prop :=
  Met l y (Cond.code y b n r :: tb) (rmx d mc ms) (tP D cI cZ cS cR N0 av g) (tQ D cI cZ cS cR N0 post) mc ms (fun q => N0.1 ≤ q)
theorem t_enter {l : Launch} {D : va_G} {cI cZ cS cR : ClassId} {N0 : NT} {y : MethodName} {b : ByteArray} {n : Nat} {r : Option FieldType} {d mc ms : Nat} {av : List Value} {g : GS} {post : Option Value → GS → Prop} (hy : plainName y.cls = true) (hn : (lg_sl av).length ≤ n)
    (body : ∀ (p : Program) (e : Env) (s : State) (m : MethodId) (args : Array Value) (below : List Frame) (meth : Method) (c : Code) (ls : Array Slot) (H : Heap) (locs : List Loc), Tz p s m meth c args b n y.cls D cI cZ cS cR N0 → meth.sig.returnType = r → meth.name = y.name → lv_has ls n (lv_args 0 av) → Tv D cI cZ cS cR N0 s.heap H locs g →
      W p l e (rmx d mc ms) s m args below meth c H locs 0 0 (MQ below (tQ D cI cZ cS cR N0 post) args s mc ms (fun q => N0.1 ≤ q)) (F0 m 0 ls [])) : Ty l D cI cZ cS cR N0 y b n r d mc ms av g post := by
  refine Met.ofW (cc := b) (maxL := n) (ret := r) hy rfl ?_
  intro p e s m args below meth c s₁ B hml hv
  obtain ⟨rfl, hN, hT, hK, hNb⟩ := hv
  have hts := atoms_spec (ws := Cond.code y b n r :: tb) B.pre
  have hl := lv_entry av (n := n) hn
  rw [lg_entry_eq]
  generalize (lg_sl av ++ List.replicate (n - (lg_sl av).length) Slot.unset).toArray = ls at hl ⊢
  exact body p e s m _ below meth c ls s.heap [] ⟨B.exec, B.bytes, hml, findClass_of_methodNamed B.named, fun w hw => hts w (List.mem_cons_of_mem _ hw), hK, hN, hNb, B.notSynchronized⟩ B.returns (name_of_methodNamed B.named B.method).1 hl ⟨hT, va_S.rf⟩
section TS
variable {p : Program} {l : Launch} {e : Env} {R : Room} {s : State} {m : MethodId} {args : Array Value} {below : List Frame} {meth : Method} {c : Code} {H : Heap} {locs : List Loc} {cells slots : Nat} {Q : State → Prop}
variable {cc : ByteArray} {pc nL : Nat} {ls : Array Slot} {rest : List Value} {own : String} {D : va_G} {cI cZ cS cR : ClassId} {N0 : NT} {a : Nat} {g : GS}
theorem t_get (hB : Tz p s m meth c args cc nL own D cI cZ cS cR N0) (hT : Tv D cI cZ cS cR N0 s.heap H locs g) {ci N index : Nat} {C : String} {T : u_T} {v : Value} (hr : ciOf (g.1 a) = some ci) (hc : vwCl[ci]? = some (C, T, N)) (k : Nat) (hk : k < N) (hl : Cond.fieldLink own index (T k).1 (T k).2.1 (T k).2.2.1 ∈ tb) (hv : g.2.1 a k = v) (hdg : decode cc pc = .ok (.getfield index, 3))
    (kk : W p l e R s m args below meth c H locs cells slots Q (F0 m (pc + 3) ls (v :: rest))) : W p l e R s m args below meth c H locs cells slots Q (F0 m pc ls (.ref a :: rest)) := by
  obtain ⟨cell, q1, q2, q3, q4⟩ := (hT.1 a).1 ci _ hr hc
  obtain ⟨hS, hfc, kC, hkC, hkind⟩ := hB.2.2.2.2.2.1.1 ci _ hc
  obtain ⟨cf, kf, fi, f, hi, hsl⟩ := hS k hk
  refine W.getf hB.1 hB.2.1 hB.2.2.2.1 (hB.2.2.2.2.1 _ hl) hi (u_facts hfc hkC (u_lays hB.2.2.2.2.1 (cl_in ci _ hc) hk) hi).1 q1 (by rw [q3]; exact fun h => by cases h) (v := v) ?_ rfl rfl hdg kk
  rw [hsl, q4 k hk, hv]
theorem t_put0 (hB : Tz p s m meth c args cc nL own D cI cZ cS cR N0) (hT : Tv D cI cZ cS cR N0 s.heap H locs g) {ci N index : Nat} {C : String} {T : u_T} {v : Value} (hr : ciOf (g.1 a) = some ci) (h0 : g.1 a ≠ 0) (hc : vwCl[ci]? = some (C, T, N)) (k : Nat) (hk : k < N) (hl : Cond.fieldLink own index (T k).1 (T k).2.1 (T k).2.2.1 ∈ tb) (hfin : (T k).2.2.2 = false ∨ (meth.name = "<init>" ∧ (T k).1 = own)) (hn : narrow (clty ci k) v = v) (hfit : fits (clty ci k) v = true) (hdg : decode cc pc = .ok (.putfield index, 3))
    (kk : ∀ (H1 : Heap) (locs1 : List Loc), Tv D cI cZ cS cR N0 s.heap H1 locs1 (sF g a k v) → W p l e R s m args below meth c H1 locs1 cells slots Q (F0 m (pc + 3) ls rest)) : W p l e R s m args below meth c H locs cells slots Q (F0 m pc ls (v :: .ref a :: rest)) := by
  have hNa := ((hT.1 a).2.2.2.2.2 h0).1
  have fin : ∀ (H1 : Heap) (locs1 : List Loc), t_OB a (D.1 ci) N (D.2 ci) H1 (updV (g.2.1 a) k v) → H1.size = H.size → (∀ q : Nat, q ≠ a → H1[q]? = H[q]?) → va_S (fun q => N0.1 ≤ q) s.heap H1 locs1 → W p l e R s m args below meth c H1 locs1 cells slots Q (F0 m (pc + 3) ls rest) := fun H1 locs1 hO hz ho hS1 => kk H1 locs1 ⟨fun x => by
    by_cases hx : x = a
    · subst hx
      obtain ⟨g1, g2, g3, g4, g5, g6⟩ := hT.1 x
      refine ⟨fun ci' q' hc' hq' => ?_, fun h => ?_, fun h => ?_, fun h => ?_, fun h => ?_, fun h => ⟨(g6 h).1, by rw [hz]; exact (g6 h).2⟩⟩
      · have e1 : ci' = ci := Option.some.inj (hc'.symm.trans hr)
        subst e1
        have e2 : q' = (C, T, N) := Option.some.inj (hq'.symm.trans hc)
        subst e2
        refine t_OB.to hO (fun j _ => ?_)
        show updV (g.2.1 x) k v j = if x = x ∧ j = k then v else g.2.1 x j
        by_cases hj : j = k
        · subst hj; simp [updV]
        · simp [updV, hj]
      · exfalso
        have h' : 50 ≤ g.1 x ∧ g.1 x ≤ 99 := h
        unfold ciOf at hr
        rw [if_neg (by omega), if_neg (by omega), if_neg (by omega), if_neg (by omega), if_neg (by omega)] at hr
        cases hr
      · exfalso
        have h' : g.1 x = 40 := h
        unfold ciOf at hr
        rw [if_neg (by omega), if_neg (by omega), if_neg (by omega), if_neg (by omega), if_neg (by omega)] at hr
        cases hr
      · exfalso
        have h' : g.1 x = 41 ∨ g.1 x = 42 ∨ g.1 x = 44 := h
        unfold ciOf at hr
        rw [if_neg (by omega), if_neg (by omega), if_neg (by omega), if_neg (by omega), if_neg (by omega)] at hr
        cases hr
      · exfalso
        have h' : g.1 x = 43 := h
        unfold ciOf at hr
        rw [if_neg (by omega), if_neg (by omega), if_neg (by omega), if_neg (by omega), if_neg (by omega)] at hr
        cases hr
    · exact (hT.1 x).kept (ho x hx) (Nat.le_of_eq hz.symm) rfl (by funext j; show (if x = a ∧ j = k then v else g.2.1 x j) = _; rw [if_neg (fun q => hx q.1)]) rfl rfl rfl, hS1⟩
  obtain ⟨cell, q1, q2, q3, q4⟩ := (hT.1 a).1 ci _ hr hc
  have hap := va_apart (own := own) hB.2.2.2.2.1 (cl_in ci _ hc) (clty ci) (cl_ty ci _ hc) (cl_nm ci _ hc) hB.2.2.2.2.2.1 hc
  obtain ⟨hS, hfc, kC, hkC, hkind⟩ := hB.2.2.2.2.2.1.1 ci _ hc
  obtain ⟨cf, kf, fi, f, hi, hsl⟩ := hS k hk
  have hlay := hB.2.2.2.2.1 _ (cl_in ci _ hc _ (u_in_lay hk))
  have hst := (u_facts hfc hkC (u_lays hB.2.2.2.2.1 (cl_in ci _ hc) hk) hi).1
  have hd := cl_ty ci _ hc k hk
  by_cases hf : (T k).2.2.2 = true
  · obtain ⟨hin2, hdecl⟩ : meth.name = "<init>" ∧ (T k).1 = own := by
      rcases hfin with h | h
      · rw [hf] at h; cases h
      · exact h
    have hlay : (Cond.laysFinal C (T k).1 (T k).2.1 (T k).2.2.1).before args s = true := by
      have h := hlay
      unfold u_lay at h
      rw [if_pos hf] at h
      exact h
    have hcf : m.cls = cf := by
      obtain ⟨_, _, c', _, _, _, -, -, hf', -, -, -, hown2, -⟩ := Cond.laysFinal_spec hlay
      have e1 : c' = cf := by have := hi.symm.trans hf'; simp at this; exact this.1.symm
      rw [hdecl] at hown2
      rw [← e1]; exact Option.some.inj (hB.2.2.2.1.symm.trans hown2)
    have h6 := u_fits hfc hkC hkind (Or.inr hlay) hi hd hn hfit
    refine W.putFinK hB.1 hB.2.1 hB.2.2.2.1 (hB.2.2.2.2.1 _ hl) hi hst hcf hin2 (by rw [q2]; exact h6) q1 q3 (by rw [hsl]; exact k2_hasslot (q4 k hk)) rfl rfl hdg fun H' e1 e2 e3 => ?_
    rw [hsl] at e1 ⊢
    exact fin H' _ ⟨_, e1, q2, q3, t_set q4 hap hk v⟩ e2 e3 (hT.2.put e2 e3 hNa)
  · have hf : (T k).2.2.2 = false := by simpa using hf
    have hlay : (Cond.lays C (T k).1 (T k).2.1 (T k).2.2.1).before args s = true := by
      have h := hlay
      unfold u_lay at h
      rw [if_neg (by rw [hf]; decide)] at h
      exact h
    have h6 := u_store hfc hkC hkind hlay hi hd hn hfit
    refine W.putK hB.1 hB.2.1 (f := f) ⟨hB.2.2.2.1, hB.2.2.2.2.1 _ hl, ⟨_, _, _, hi⟩, hst⟩ (by rw [q2]; exact h6) q1 q3 (by rw [hsl]; exact k2_hasslot (q4 k hk)) rfl rfl hdg fun H' e1 e2 e3 => ?_
    rw [hsl] at e1 ⊢
    exact fin H' _ ⟨_, e1, q2, q3, t_set q4 hap hk v⟩ e2 e3 (hT.2.put e2 e3 hNa)
/-- arrays of int, boolean -/
theorem t_iald (hB : Tz p s m meth c args cc nL own D cI cZ cS cR N0) (hT : Tv D cI cZ cS cR N0 s.heap H locs g) {n : Nat} {i v : Int32} (hr : 50 ≤ g.1 a ∧ g.1 a ≤ 99) (hn : g.2.2.1 a = n) (hin : vp_in i n) (hv : g.2.2.2.1 a i.toNatClampNeg = v) (hdg : decode cc pc = .ok (.iaload, 1))
    (kk : W p l e R s m args below meth c H locs cells slots Q (F0 m (pc + 1) ls (.int v :: rest))) : W p l e R s m args below meth c H locs cells slots Q (F0 m pc ls (.int i :: .ref a :: rest)) := by
  subst hn
  subst hv
  have hP : va_P D vwCl [(a, .inl (cI, g.2.2.1 a, .inl (g.2.2.2.1 a)))] H := fun k q hq => by
    have hz : k < 1 := (List.getElem?_eq_some_iff.mp hq).1
    rw [show k = 0 by omega] at hq
    cases hq
    exact (hT.1 a).2.1 hr
  exact va_iald hB.1 hB.2.1 hB.2.2.2.2.2.1 hP 0 0 rfl rfl hin hdg kk
theorem t_zald (hB : Tz p s m meth c args cc nL own D cI cZ cS cR N0) (hT : Tv D cI cZ cS cR N0 s.heap H locs g) {n : Nat} {i v : Int32} (hr : g.1 a = 40) (hn : g.2.2.1 a = n) (hin : vp_in i n) (hv : g.2.2.2.1 a i.toNatClampNeg = v) (hdg : decode cc pc = .ok (.baload, 1))
    (kk : W p l e R s m args below meth c H locs cells slots Q (F0 m (pc + 1) ls (.int v :: rest))) : W p l e R s m args below meth c H locs cells slots Q (F0 m pc ls (.int i :: .ref a :: rest)) := by
  subst hn
  subst hv
  have hP : va_P D vwCl [(a, .inl (cZ, g.2.2.1 a, .inl (g.2.2.2.1 a)))] H := fun k q hq => by
    have hz : k < 1 := (List.getElem?_eq_some_iff.mp hq).1
    rw [show k = 0 by omega] at hq
    cases hq
    exact (hT.1 a).2.2.1 hr
  exact va_zald hB.1 hB.2.1 hB.2.2.2.2.2.1 hP 0 1 rfl rfl hin hdg kk
/-- the heap behind a store into an array of ints -/
theorem t_ast {H1 : Heap} (hT : TH D cI cZ cS cR N0 g H) {i : Nat} {x : Int32} (hr : (50 ≤ g.1 a ∧ g.1 a ≤ 99) ∨ g.1 a = 40) (he : ∀ cA : ClassId, H[a]? = some (vp_cell cA (g.2.2.1 a, .inl (g.2.2.2.1 a))) → H1[a]? = some (vp_cell cA (g.2.2.1 a, .inl (upd (g.2.2.2.1 a) i x)))) (hz : H1.size = H.size) (ho : ∀ q : Nat, q ≠ a → H1[q]? = H[q]?) : TH D cI cZ cS cR N0 (sC g a i x) H1 := fun y => by
  by_cases hy : y = a
  · subst hy
    obtain ⟨g1, g2, g3, g4, g5, g6⟩ := hT y
    have hu : (fun j => if y = y ∧ j = i then x else g.2.2.2.1 y j) = upd (g.2.2.2.1 y) i x := by
      funext j
      by_cases hj : j = i
      · subst hj; simp [upd]
      · simp [upd, hj]
    refine ⟨fun ci q hc _ => ?_, fun h => ?_, fun h => ?_, fun h => ?_, fun h => ?_, fun h => ⟨(g6 h).1, by rw [hz]; exact (g6 h).2⟩⟩
    · exfalso
      have hc' : ciOf (g.1 y) = some ci := hc
      unfold ciOf at hc'
      rw [if_neg (by omega), if_neg (by omega), if_neg (by omega), if_neg (by omega), if_neg (by omega)] at hc'
      cases hc'
    · show H1[y]? = some (vp_cell cI (g.2.2.1 y, .inl (fun j => if y = y ∧ j = i then x else g.2.2.2.1 y j)))
      rw [hu]
      exact he cI (g2 h)
    · show H1[y]? = some (vp_cell cZ (g.2.2.1 y, .inl (fun j => if y = y ∧ j = i then x else g.2.2.2.1 y j)))
      rw [hu]
      exact he cZ (g3 h)
    · exfalso
      have h' : g.1 y = 41 ∨ g.1 y = 42 ∨ g.1 y = 44 := h
      omega
    · exfalso
      have h' : g.1 y = 43 := h
      omega
  · exact (hT y).kept (ho y hy) (Nat.le_of_eq hz.symm) rfl rfl rfl (by funext j; show (if y = a ∧ j = i then x else g.2.2.2.1 y j) = _; rw [if_neg (fun q => hy q.1)]) rfl
theorem t_iast (hB : Tz p s m meth c args cc nL own D cI cZ cS cR N0) (hT : Tv D cI cZ cS cR N0 s.heap H locs g) {n : Nat} {i x : Int32} (hr : 50 ≤ g.1 a ∧ g.1 a ≤ 99) (hn : g.2.2.1 a = n) (hin : vp_in i n) (hdg : decode cc pc = .ok (.iastore, 1))
    (kk : ∀ (H1 : Heap) (locs1 : List Loc), Tv D cI cZ cS cR N0 s.heap H1 locs1 (sC g a i.toNatClampNeg x) → W p l e R s m args below meth c H1 locs1 cells slots Q (F0 m (pc + 1) ls rest)) : W p l e R s m args below meth c H locs cells slots Q (F0 m pc ls (.int x :: .int i :: .ref a :: rest)) := by
  subst hn
  have hc := (hT.1 a).2.1 hr
  have hNa := ((hT.1 a).2.2.2.2.2 (by omega)).1
  refine W.iast hB.1 hB.2.1 hc ((hB.2.2.2.2.2.1.2 0 _ rfl).1 (g.2.2.1 a) (fun j => .int (g.2.2.2.1 a j))) (fun q => by cases q) (by show ¬ (i < 0 ∨ (arrV _ _ _).slots.size ≤ _); rw [arrV_size]; exact hin) rfl rfl hdg fun H1 e z oq => ?_
  refine kk H1 _ ⟨t_ast hT.1 (Or.inl hr) (fun cA hA => ?_) z oq, hT.2.put z oq hNa⟩
  have ec : cA = cI := by
    have := hA.symm.trans hc
    rw [vp_cell_i, vp_cell_i] at this
    exact congrArg Cell.cls (Option.some.inj this)
  subst ec
  rw [e]
  rw [vp_cell_i, vp_cell_i, arrV_store]
  congr 2
  funext q
  by_cases hq : q = i.toNatClampNeg
  · subst hq
    simp [updV, upd]
  · simp [updV, upd, hq]
theorem t_zast (hB : Tz p s m meth c args cc nL own D cI cZ cS cR N0) (hT : Tv D cI cZ cS cR N0 s.heap H locs g) {n : Nat} {i x : Int32} (hr : g.1 a = 40) (hn : g.2.2.1 a = n) (hin : vp_in i n) (hdg : decode cc pc = .ok (.bastore, 1))
    (kk : ∀ (H1 : Heap) (locs1 : List Loc), Tv D cI cZ cS cR N0 s.heap H1 locs1 (sC g a i.toNatClampNeg (vp_nar .boolean x)) → W p l e R s m args below meth c H1 locs1 cells slots Q (F0 m (pc + 1) ls rest)) : W p l e R s m args below meth c H locs cells slots Q (F0 m pc ls (.int x :: .int i :: .ref a :: rest)) := by
  subst hn
  have hc := (hT.1 a).2.2.1 hr
  have hNa := ((hT.1 a).2.2.2.2.2 (by omega)).1
  have hP : va_P D vwCl [(a, .inl (cZ, g.2.2.1 a, .inl (g.2.2.2.1 a)))] H := fun k q hq => by
    have hz : k < 1 := (List.getElem?_eq_some_iff.mp hq).1
    rw [show k = 0 by omega] at hq
    cases hq
    exact hc
  refine W.zast hB.1 hB.2.1 (hP 0 _ rfl) ((hB.2.2.2.2.2.1.2 1 _ rfl).1 (g.2.2.1 a) (fun j => .int (g.2.2.2.1 a j))) (fun q => by cases q) (by show ¬ (i < 0 ∨ (arrV _ _ _).slots.size ≤ _); rw [arrV_size]; exact hin) rfl rfl hdg fun H1 e z oq => ?_
  refine kk H1 _ ⟨t_ast hT.1 (Or.inr hr) (fun cA hA => ?_) z oq, hT.2.put z oq hNa⟩
  have ec : cA = cZ := by
    have := hA.symm.trans hc
    rw [vp_cell_i, vp_cell_i] at this
    exact congrArg Cell.cls (Option.some.inj this)
  subst ec
  rw [e]
  rw [vp_cell_i, vp_cell_i, arrV_store]
  congr 2
  funext q
  by_cases hq : q = i.toNatClampNeg
  · subst hq
    simp [updV, upd, vp_nar]
    try rfl
  · simp [updV, upd, hq]
/-- a reference out of Service[] -/
theorem t_aald (hB : Tz p s m meth c args cc nL own D cI cZ cS cR N0) (hT : Tv D cI cZ cS cR N0 s.heap H locs g) {n q : Nat} {i : Int32} (hr : g.1 a = 41 ∨ g.1 a = 42 ∨ g.1 a = 44) (hn : g.2.2.1 a = n) (hin : vp_in i n) (hv : g.2.2.2.2 a i.toNatClampNeg = some q) (hdg : decode cc pc = .ok (.aaload, 1))
    (kk : W p l e R s m args below meth c H locs cells slots Q (F0 m (pc + 1) ls (.ref q :: rest))) : W p l e R s m args below meth c H locs cells slots Q (F0 m pc ls (.int i :: .ref a :: rest)) := by
  subst hn
  have hP : va_P D vwCl [(a, .inl (cS, g.2.2.1 a, .inr (.inr (.inr (.inr (g.2.2.2.2 a))))))] H := fun k q hq => by
    have hz : k < 1 := (List.getElem?_eq_some_iff.mp hq).1
    rw [show k = 0 by omega] at hq
    cases hq
    exact (hT.1 a).2.2.2.1 hr
  refine va_aldq (C := "TwiceOnce$Service") hB.1 hB.2.1 hB.2.2.2.2.2.1 hP 0 2 rfl rfl hin hdg ?_
  rw [hv]
  exact kk
theorem t_alen (hB : Tz p s m meth c args cc nL own D cI cZ cS cR N0) (hT : Tv D cI cZ cS cR N0 s.heap H locs g) {n : Nat} {v : Int32} (hr : 50 ≤ g.1 a ∧ g.1 a ≤ 99) (hn : g.2.2.1 a = n) (hv : Int32.ofNat n = v) (hdg : decode cc pc = .ok (.arraylength, 1))
    (kk : W p l e R s m args below meth c H locs cells slots Q (F0 m (pc + 1) ls (.int v :: rest))) : W p l e R s m args below meth c H locs cells slots Q (F0 m pc ls (.ref a :: rest)) := by
  subst hn
  have hP : va_P D vwCl [(a, .inl (cI, g.2.2.1 a, .inl (g.2.2.2.1 a)))] H := fun k q hq => by
    have hz : k < 1 := (List.getElem?_eq_some_iff.mp hq).1
    rw [show k = 0 by omega] at hq
    cases hq
    exact (hT.1 a).2.1 hr
  exact va_alen hB.1 hB.2.1 hB.2.2.2.2.2.1 hP 0 0 rfl rfl hv hdg kk
/-- a call of ours: the whole ghost goes in, another comes back -/
theorem t_back {mc ms : Nat} {st0 : List Value} {post : Option Value → GS → Prop} {av : Array Value} (hT : Tv D cI cZ cS cR N0 s.heap H locs g)
    (hr : va_Run p l e R s m args below meth c H locs cells slots mc ms (F0 m pc ls st0) rest (tQ D cI cZ cS cR N0 post av) (fun q => N0.1 ≤ q))
    (kk : ∀ (v : Option Value) (g' : GS) (H1 : Heap) (locs1 : List Loc), post v g' → Tv D cI cZ cS cR N0 s.heap H1 locs1 g' → W p l e R s m args below meth c H1 locs1 (cells + mc) (slots + ms) Q (F0 m (pc + 3) ls (v.toList ++ rest))) : W p l e R s m args below meth c H locs cells slots Q (F0 m pc ls st0) := by
  intro T hT' X
  obtain ⟨v, st₀, t, T', L, h0, X', hL, e1, e2, ⟨⟨v', g', hv, hp, hP1⟩, hz, hk⟩, st⟩ := hr T hT' X
  cases hv
  rw [h0] at hz hk
  obtain ⟨t2, a1, b1⟩ := kk v g' t.heap (locs ++ L) hp ⟨hP1, Nat.le_trans hT.2.1 hz, fun q h1 h2 => (hk q (Nat.lt_of_lt_of_le h1 hT.2.1) h2).trans (hT.2.2.1 q h1 h2), fun q hq => by
    rcases List.mem_append.mp hq with h | h
    · exact hT.2.2.2 q h
    · exact hL q h⟩ T' e1 X'
  exact ⟨t2, st t2 a1, b1⟩
theorem t_pre {av : List Value} (hB : Tz p s m meth c args cc nL own D cI cZ cS cR N0) (hT : Tv D cI cZ cS cR N0 s.heap H locs g) : PreS s H (tP D cI cZ cS cR N0 av g) av :=
  ⟨fun a U g' mk q => by
    obtain ⟨q0, q1, q2, q3, q4⟩ := q
    exact ⟨q0, q1, q2, va_K.moved (u := U) (U := U.calling g' mk a) (Vm.Alike.refl U.vm) q3, q4.calling⟩,
   fun U hU hW => ⟨rfl, by rw [hU]; exact Nat.le_trans hB.2.2.2.2.2.2.1 hT.2.1, by rw [hU]; exact hT.1, va_K.moved hW.alike hB.2.2.2.2.2.1, hB.2.2.2.2.2.2.2.1.go hT.2 (fun _ h => h) hU hW⟩⟩
theorem t_cb {y : MethodName} {b : ByteArray} {n' d mc ms n index : Nat} {r : Option FieldType} (hB : Tz p s m meth c args cc nL own D cI cZ cS cR N0) (hc : Cond.code y b n' r ∈ tb) (hini : Cond.initialized y.cls ∈ tb) (hl : Cond.methodLink own index y ∈ tb) (hd : y.cls ≠ "java/lang/invoke/MethodHandle" ∧ y.cls ≠ "java/lang/invoke/VarHandle" ∧ (parseMethodDescriptor y.desc).map (fun d => d.parameters.length) = some n) (hR : d + 1 + 1 ≤ R.frames ∧ 8 + (n' + 11) + 64 * (d + 1) ≤ R.locals) : CallB R s args own index y b n' r (Cond.code y b n' r :: tb) (rmx d mc ms) mc ms n :=
  callB_of n hB.2.2.2.2.1 (gd0 hc) rfl rfl rfl (hB.2.2.2.2.1 _ hini) (hB.2.2.2.2.1 _ hl) hd hR
theorem t_recv (hB : Tz p s m meth c args cc nL own D cI cZ cS cR N0) (hT : Tv D cI cZ cS cR N0 s.heap H locs g) {ci : Nat} {q : vw_C} (hr : ciOf (g.1 a) = some ci) (hc : vwCl[ci]? = some q) : ∃ cell : Cell, H[a]? = some cell ∧ cell.vm.isStatics = false ∧ s.vm.findClass q.1 = some cell.cls := by
  obtain ⟨cell, g1, g2, g3, -⟩ := (hT.1 a).1 ci _ hr hc
  exact ⟨cell, g1, by rw [g3]; rfl, by rw [g2]; exact (hB.2.2.2.2.2.1.1 ci q hc).2.1⟩
theorem t_callV {y : MethodName} {b : ByteArray} {n' d mc ms n index ci : Nat} {r : Option FieldType} {As : List Value} {post : Option Value → GS → Prop} {C : String} {T : u_T} {N : Nat} (hB : Tz p s m meth c args cc nL own D cI cZ cS cR N0) (hT : Tv D cI cZ cS cR N0 s.heap H locs g) (hsz : ls.size = nL)
    (hM : Ty l D cI cZ cS cR N0 y b n' r d mc ms (.ref a :: As) g post) (hr : ciOf (g.1 a) = some ci) (hcl : vwCl[ci]? = some (C, T, N)) (hc : Cond.code y b n' r ∈ tb) (hini : Cond.initialized y.cls ∈ tb) (hl : Cond.methodLink own index y ∈ tb) (hi : Cond.instanceMethod y ∈ tb) (hsel : Cond.selects C y y ∈ tb) (hd : y.cls ≠ "java/lang/invoke/MethodHandle" ∧ y.cls ≠ "java/lang/invoke/VarHandle" ∧ (parseMethodDescriptor y.desc).map (fun d => d.parameters.length) = some n) (hR : d + 1 + 1 ≤ R.frames ∧ 8 + (n' + 11) + 64 * (d + 1) ≤ R.locals) (hn : As.length = n) (hW : (rest.map fun v => v.category).sum ≤ 8) (hf : cells + mc ≤ R.cells ∧ slots + ms ≤ R.slots) (hdg : decode cc pc = .ok (.invokevirtual index, 3))
    (kk : ∀ (v : Option Value) (g' : GS) (H1 : Heap) (locs1 : List Loc), post v g' → Tv D cI cZ cS cR N0 s.heap H1 locs1 g' → W p l e R s m args below meth c H1 locs1 (cells + mc) (slots + ms) Q (F0 m (pc + 3) ls (v.toList ++ rest))) : W p l e R s m args below meth c H locs cells slots Q (F0 m pc ls (As.reverse ++ .ref a :: rest)) := by
  have hp := t_pre (av := .ref a :: As) hB hT
  exact t_back hT (va_runV (As := As) (rest := rest) (nL := nL) ⟨hB.1, hB.2.1, hB.2.2.1, hB.2.2.2.1, hB.2.2.2.2.1⟩ hM ⟨t_cb hB hc hini hl hd hR, hB.2.2.2.2.1 _ hi, hB.2.2.2.2.1 _ hsel⟩ ⟨hp.1, t_recv hB hT hr hcl, hp.2⟩ rfl hn hsz rfl (lv_room hW) hdg hf) kk
theorem t_callS {y : MethodName} {b : ByteArray} {n' d mc ms n index : Nat} {r : Option FieldType} {As : List Value} {post : Option Value → GS → Prop} (hB : Tz p s m meth c args cc nL own D cI cZ cS cR N0) (hT : Tv D cI cZ cS cR N0 s.heap H locs g) (hsz : ls.size = nL)
    (hM : Ty l D cI cZ cS cR N0 y b n' r d mc ms As g post) (hc : Cond.code y b n' r ∈ tb) (hini : Cond.initialized y.cls ∈ tb) (hl : Cond.methodLink own index y ∈ tb) (hst : Cond.static y ∈ tb) (hd : y.cls ≠ "java/lang/invoke/MethodHandle" ∧ y.cls ≠ "java/lang/invoke/VarHandle" ∧ (parseMethodDescriptor y.desc).map (fun d => d.parameters.length) = some n) (hR : d + 1 + 1 ≤ R.frames ∧ 8 + (n' + 11) + 64 * (d + 1) ≤ R.locals) (hn : As.length = n) (hW : (rest.map fun v => v.category).sum ≤ 8) (hf : cells + mc ≤ R.cells ∧ slots + ms ≤ R.slots) (hdg : decode cc pc = .ok (.invokestatic index, 3))
    (kk : ∀ (v : Option Value) (g' : GS) (H1 : Heap) (locs1 : List Loc), post v g' → Tv D cI cZ cS cR N0 s.heap H1 locs1 g' → W p l e R s m args below meth c H1 locs1 (cells + mc) (slots + ms) Q (F0 m (pc + 3) ls (v.toList ++ rest))) : W p l e R s m args below meth c H locs cells slots Q (F0 m pc ls (As.reverse ++ rest)) :=
  t_back hT (va_runS (As := As) (rest := rest) (nL := nL) ⟨hB.1, hB.2.1, hB.2.2.1, hB.2.2.2.1, hB.2.2.2.2.1⟩ hM ⟨t_cb hB hc hini hl hd hR, hB.2.2.2.2.1 _ hst⟩ (t_pre hB hT) rfl hn hsz rfl (lv_room hW) hdg hf) kk
theorem t_end {v : Option Value} {post : Option Value → GS → Prop} (hT : Tv D cI cZ cS cR N0 s.heap H locs g) (hp : post v g) : ∀ t : State, t.heap = H → s.WarmedH t.vm → tQ D cI cZ cS cR N0 post args s (.returned v) t := fun t ht _ => ⟨⟨v, g, rfl, hp, by rw [ht]; exact hT.1⟩, hT.2.F ht⟩
theorem t_iret {v : Int32} {post : Option Value → GS → Prop} {mc ms : Nat} (hB : Tz p s m meth c args cc nL own D cI cZ cS cR N0) (hr : meth.sig.returnType = some .int) (hT : Tv D cI cZ cS cR N0 s.heap H locs g) (h1 : cells ≤ mc) (h2 : slots ≤ ms) (hdg : decode cc pc = .ok (.ireturn, 1)) (hp : post (some (.int v)) g) :
    W p l e R s m args below meth c H locs cells slots (MQ below (tQ D cI cZ cS cR N0 post) args s mc ms (fun q => N0.1 ≤ q)) (F0 m pc ls [.int v]) :=
  W.widen h1 h2 (W.iret hB.1 hB.2.1 hr (t_end hT hp) hT.2.2.2 hdg hB.2.2.2.2.2.2.2.2)
theorem t_zret {v : Int32} {ty : FieldType} {post : Option Value → GS → Prop} {mc ms : Nat} (hB : Tz p s m meth c args cc nL own D cI cZ cS cR N0) (hr : meth.sig.returnType = some ty) (hn : narrow ty (.int v) = .int v) (hT : Tv D cI cZ cS cR N0 s.heap H locs g) (h1 : cells ≤ mc) (h2 : slots ≤ ms) (hdg : decode cc pc = .ok (.ireturn, 1)) (hp : post (some (.int v)) g) :
    W p l e R s m args below meth c H locs cells slots (MQ below (tQ D cI cZ cS cR N0 post) args s mc ms (fun q => N0.1 ≤ q)) (F0 m pc ls [.int v]) :=
  W.widen h1 h2 (W.zret hB.1 hB.2.1 hr hn (t_end hT hp) hT.2.2.2 hdg hB.2.2.2.2.2.2.2.2)
theorem t_vret {post : Option Value → GS → Prop} {mc ms : Nat} (hB : Tz p s m meth c args cc nL own D cI cZ cS cR N0) (hr : meth.sig.returnType = none) (hT : Tv D cI cZ cS cR N0 s.heap H locs g) (h1 : cells ≤ mc) (h2 : slots ≤ ms) (hdg : decode cc pc = .ok (.return_, 1)) (hp : post none g) :
    W p l e R s m args below meth c H locs cells slots (MQ below (tQ D cI cZ cS cR N0 post) args s mc ms (fun q => N0.1 ≤ q)) (F0 m pc ls []) :=
  W.widen h1 h2 (W.vret hB.1 hB.2.1 hr (t_end hT hp) hT.2.2.2 hdg hB.2.2.2.2.2.2.2.2)
end TS
