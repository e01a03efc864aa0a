/-! multianewarray of two dimensions: of the cells made nothing is kept but that they are new -/
def mn_oc (cA : ClassId) (N h : Nat) : Nat → Cell
  | 0 => { cls := cA, slots := Array.replicate N .null, vm := .none }
  | i + 1 => (mn_oc cA N h i).setSlot i (.ref (h + 1 + i))
def mn_ro (co : ClassId) (M : Nat) (dv : Value) : Cell := { cls := co, slots := Array.replicate M dv, vm := .none }
def mn_st (S : State) (cA co : ClassId) (N M : Nat) (dv : Value) : Nat → State
  | 0 => S.pushCell (mn_oc cA N S.heap.size 0)
  | i + 1 => ((mn_st S cA co N M dv i).pushCell (mn_ro co M dv)).setCell S.heap.size (mn_oc cA N S.heap.size (i + 1))
theorem mn_ocf (cA : ClassId) (N h : Nat) : ∀ i, (mn_oc cA N h i).cls = cA ∧ (mn_oc cA N h i).vm = .none ∧ (mn_oc cA N h i).slots.size = N
  | 0 => ⟨rfl, rfl, by simp [mn_oc]⟩
  | i + 1 => by
    obtain ⟨x, y, z⟩ := mn_ocf cA N h i
    exact ⟨by simp [mn_oc, Cell.setSlot, x], by simp [mn_oc, Cell.setSlot, y], by simp [mn_oc, Cell.setSlot, z]⟩
theorem mn_sf (S : State) (cA co : ClassId) (N M : Nat) (dv : Value) : ∀ i, (mn_st S cA co N M dv i).heap.size = S.heap.size + 1 + i ∧ (mn_st S cA co N M dv i).heap[S.heap.size]? = some (mn_oc cA N S.heap.size i) ∧ (mn_st S cA co N M dv i).vm = S.vm ∧ (mn_st S cA co N M dv i).slotsUsed = S.slotsUsed + N + i * M ∧ ∀ a : Nat, a < S.heap.size → (mn_st S cA co N M dv i).heap[a]? = S.heap[a]?
  | 0 => ⟨by simp [mn_st], by simp [mn_st], rfl, by simp [mn_st, mn_oc], fun a ha => State.heap_pushCell_of_lt _ _ ha⟩
  | i + 1 => by
    obtain ⟨f1, f2, f3, f4, f5⟩ := mn_sf S cA co N M dv i
    have hlt : S.heap.size < (mn_st S cA co N M dv i).heap.size := by omega
    have hc : ((mn_st S cA co N M dv i).pushCell (mn_ro co M dv)).heap[S.heap.size]? = some (mn_oc cA N S.heap.size i) := by rw [State.heap_pushCell_of_lt (h := hlt)]; exact f2
    refine ⟨?_, State.heap_setCell_self hc, by simp [mn_st, f3], ?_, fun a ha => ?_⟩
    · simp [mn_st, State.setCell, f1]; omega
    · simp [mn_st, f4, mn_ro, Nat.succ_mul]; omega
    · show (((mn_st S cA co N M dv i).pushCell (mn_ro co M dv)).setCell S.heap.size _).heap[a]? = _
      have hla : a < (mn_st S cA co N M dv i).heap.size := by omega
      rw [State.heap_setCell_other (Nat.ne_of_gt ha), State.heap_pushCell_of_lt (h := hla)]
      exact f5 a ha
theorem mn_rows (S : State) (cA co : ClassId) (N M : Nat) (dv : Value) : ∀ i j, j < i → (mn_st S cA co N M dv i).heap[S.heap.size + 1 + j]? = some (mn_ro co M dv)
  | 0, j, h => absurd h (Nat.not_lt_zero _)
  | i + 1, j, h => by
    obtain ⟨f1, f2, f3, f4, f5⟩ := mn_sf S cA co N M dv i
    show (((mn_st S cA co N M dv i).pushCell (mn_ro co M dv)).setCell S.heap.size _).heap[S.heap.size + 1 + j]? = _
    have hne : S.heap.size ≠ S.heap.size + 1 + j := by omega
    rw [State.heap_setCell_other hne]
    by_cases hj : j < i
    · have hlt : S.heap.size + 1 + j < (mn_st S cA co N M dv i).heap.size := by omega
      rw [State.heap_pushCell_of_lt (h := hlt)]
      exact mn_rows S cA co N M dv i j hj
    · have hji : j = i := by omega
      subst hji
      rw [← f1]
      exact State.heap_pushCell_size _ _
theorem mn_ocv (cA : ClassId) (N h : Nat) : ∀ i, mn_oc cA N h i = arrV cA N (fun j => if j < i then .ref (h + 1 + j) else .null)
  | 0 => by
    show ({ cls := cA, slots := Array.replicate N .null, vm := .none } : Cell) = _
    rw [arrV_new]
    congr 1
  | i + 1 => by
    show (mn_oc cA N h i).setSlot i (.ref (h + 1 + i)) = _
    rw [mn_ocv cA N h i, arrV_store]
    congr 1
    funext j
    by_cases hj : j = i
    · subst hj; simp [updV]
    · by_cases hl : j < i
      · rw [if_pos (by omega)]; simp [updV, hj, hl]
      · rw [if_neg (by omega)]; simp [updV, hj, hl]
theorem mn_top (S : State) (f : JFrame) (cA co : ClassId) (N M : Nat) (dv : Value) : ∀ i, mn_st (S.setTop f) cA co N M dv i = (mn_st S cA co N M dv i).setTop f
  | 0 => rfl
  | i + 1 => by simp only [mn_st, mn_top S f cA co N M dv i, State.heap_setTop, State.pushCell_setTop, State.setCell_setTop]
theorem mn_stand {p : Program} {l : Launch} {e : Env} {R : Room} {s : State} {m : MethodId} {args : Array Value} {below : List Frame} {meth : Method} {c : Code} {S : State} {locs : List Loc} {cells slots : Nat} (X : Stand p l e R s m args below meth c S locs cells slots) (cA co : ClassId) (N M : Nat) (dv : Value) : ∀ i, Stand p l e R s m args below meth c (mn_st S cA co N M dv i) (locs ++ (List.range i).map fun j => ⟨S.heap.size, j⟩) (cells + 1 + i) (slots + N + i * M)
  | 0 => by
    have h := X.pushed (mn_oc cA N S.heap.size 0)
    rw [(mn_ocf cA N S.heap.size 0).2.2] at h
    simpa [mn_st] using h
  | i + 1 => by
    have Y := mn_stand X cA co N M dv i
    obtain ⟨f1, f2, f3, f4, f5⟩ := mn_sf S cA co N M dv i
    have hlt : S.heap.size < (mn_st S cA co N M dv i).heap.size := by omega
    have hc : ((mn_st S cA co N M dv i).pushCell (mn_ro co M dv)).heap[S.heap.size]? = some (mn_oc cA N S.heap.size i) := by rw [State.heap_pushCell_of_lt (h := hlt)]; exact f2
    have h := (Y.pushed (mn_ro co M dv)).stored hc i (.ref (S.heap.size + 1 + i))
    have e1 : (mn_ro co M dv).slots.size = M := by simp [mn_ro]
    rw [e1] at h
    have e2 : (locs ++ (List.range (i + 1)).map fun j => (⟨S.heap.size, j⟩ : Loc)) = (locs ++ (List.range i).map fun j => (⟨S.heap.size, j⟩ : Loc)) ++ [⟨S.heap.size, i⟩] := by simp [List.range_succ, List.append_assoc]
    have e3 : slots + N + (i + 1) * M = slots + N + i * M + M := by rw [Nat.succ_mul]; omega
    rw [e2, e3]
    exact h
section MN
variable {E : CtlPost} {e : Env} {d : Bool} {acts : List Action} {s : State}
theorem mn_new {c comp : ClassId} {k : Class} {type : FieldType} {len : Nat} {init : Value} {Q : Addr → Pre} (hk : s.vm.classes[c]? = some k) (hkind : k.kind = .array comp type) (hlimit : ¬ len > e.platform.arrayLengthLimit) (hheap : ¬ len * componentBytes type > e.platform.maxHeapBytes) (hfit : fits type init = true) (hdef : init.isDefault = true) (h1 : s.heap.size < e.platform.maxCells) (h2 : s.slotsUsed + len ≤ e.platform.maxSlots)
    (hq : Q s.heap.size d acts (s.pushCell { cls := c, slots := Array.replicate len init, vm := .none })) : wp (Jvm.newArray c len init) Q E e d acts s := by
  have hfits : ∀ i v, (Array.replicate len init)[i]? = some v → s.fitsSlot c .none i v = true := by
    intro i v hv
    rw [Array.getElem?_replicate] at hv
    split at hv
    · cases hv
      simp [State.fitsSlot, State.slotType?, hk, hkind, hfit]
    · cases hv
  have hda : allocActs (Array.replicate len init) s.heap.size acts = acts := by
    have hall : ((Array.replicate len init).all (·.isDefault)) = true := by
      rw [Array.all_replicate]
      split <;> simp [hdef]
    unfold allocActs
    rw [if_pos hall]
  simp only [Jvm.newArray, Jvm.arrayFits, wp_bind', W.ask, W.ite, hlimit, if_false, wp_pure', W.theClass, hk, hkind, hheap, W.alloc, W.stop, Option.some.injEq, exists_eq_left', Array.size_replicate, hda]
  rw [if_neg (by omega)]
  exact ⟨h1, h2, hfits, hq⟩
end MN
section MN2
variable {p : Program} {l : Launch} {e : Env} {R : Room} {s : State} {m : MethodId} {args : Array Value} {below : List Frame} {meth : Method} {c : Code} {H : Heap} {locs : List Loc} {cells slots : Nat} {Q : State → Prop}
variable {cc : ByteArray} {pc nL : Nat} {ls : Array Slot} {rest : List Value} {own : String} {D : va_G} {cI cZ cS : ClassId} {A : Nat → Prop} {N0 : NT} {a : Nat} {ws : va_W}
set_option maxHeartbeats 4000000 in
theorem mn_step (hexec : p.tables.exec = Jvm.exec) (hb : c.code = cc) {index : Nat} {ty : FieldType} (hown : s.vm.findClass own = some m.cls) (hclink : (Cond.classLink own index ("[" ++ (FieldType.array ty).toString)).before args s = true) (hover : (Cond.arrayOver (.array ty)).before #[] s = true) (harr : (Cond.arrayClass ty).before args s = true)
    {n k : Int32} (hn : ¬ n < 0) (hk : ¬ k < 0) (hb1 : n.toNatClampNeg * 4 ≤ 536870912) (hb2 : k.toNatClampNeg * componentBytes ty ≤ 536870912) (hb3 : k.toNatClampNeg ≤ 536870912) (hdf : fits ty (defaultValue ty) = true) (hdd : (defaultValue ty).isDefault = true)
    (hcells : cells + (1 + n.toNatClampNeg) ≤ R.cells) (hslots : slots + (n.toNatClampNeg + n.toNatClampNeg * k.toNatClampNeg) ≤ R.slots) (hdg : decode cc pc = .ok (.multianewarray index 2, 4))
    (kk : ∀ (H1 : Heap) (cA co : ClassId), H1.size = H.size + 1 + n.toNatClampNeg → (∀ q : Nat, q < H.size → H1[q]? = H[q]?) → H1[H.size]? = some (mn_oc cA n.toNatClampNeg H.size n.toNatClampNeg) → (∀ j : Nat, j < n.toNatClampNeg → H1[H.size + 1 + j]? = some (mn_ro co k.toNatClampNeg (defaultValue ty))) → s.vm.findClass ("[" ++ (FieldType.array ty).toString) = some cA → s.vm.findClass (FieldType.array ty).toString = some co → W p l e R s m args below meth c H1 (locs ++ (List.range n.toNatClampNeg).map fun j => ⟨H.size, j⟩) (cells + 1 + n.toNatClampNeg) (slots + n.toNatClampNeg + n.toNatClampNeg * k.toNatClampNeg) Q (F0 m (pc + 4) ls (.ref H.size :: rest))) :
    W p l e R s m args below meth c H locs cells slots Q (F0 m pc ls (.int k :: .int n :: rest)) := by
  intro T hT X
  subst hT; subst hb
  have hpl : e.platform.magicAccessors = ({} : Platform).magicAccessors := by rw [X.admits.platform]
  obtain ⟨comp, cA, kA, hcomp, -, hkA, hkindA, hnameA⟩ := arrayOverA_spec hover
  obtain ⟨comp', kC, co, hcomp', hkC, hkindC⟩ := Cond.arrayClass_spec harr
  have ecomp : comp' = comp := Option.some.inj (hcomp'.symm.trans hcomp)
  subst ecomp
  obtain ⟨c0, hfc0, hcl⟩ := Cond.classLink_spec hown hclink e.platform hpl
  cases hnameA.symm.trans hfc0
  obtain ⟨hg₁, hwarm₁, hready₁⟩ := State.classEntry (e := e) X.warmed hcl
  generalize T.vm.noted m.cls index (.cls cA) = vm₁ at hg₁ hwarm₁ hready₁
  have hal : s.vm.Alike vm₁ := hwarm₁.alike
  obtain ⟨kA₁, hkA₁, heA⟩ := hal.2.2 _ _ hkA
  obtain ⟨kC₁, hkC₁, heC⟩ := hal.2.2 _ _ hkC
  have hkindA₁ : kA₁.kind = .array comp' (.array ty) := by rw [heA]; exact hkindA
  have hkindC₁ : kC₁.kind = .array co ty := by rw [heC]; exact hkindC
  have X₁ := X.noted hwarm₁
  obtain ⟨hr1, hr2⟩ := X.roomAbove hcells hslots
  have hl1 : ¬ n.toNatClampNeg > e.platform.arrayLengthLimit := by rw [Launch.admits_arrayLengthLimit X.admits]; omega
  have hh1 : ¬ n.toNatClampNeg * componentBytes (.array ty) > e.platform.maxHeapBytes := by
    rw [Launch.admits_maxHeapBytes X.admits]; show ¬ n.toNatClampNeg * 4 > 536870912; omega
  have hl2 : ¬ k.toNatClampNeg > e.platform.arrayLengthLimit := by rw [Launch.admits_arrayLengthLimit X.admits]; omega
  have hh2 : ¬ k.toNatClampNeg * componentBytes ty > e.platform.maxHeapBytes := by rw [Launch.admits_maxHeapBytes X.admits]; omega
  have XF := mn_stand X₁ cA comp' n.toNatClampNeg k.toNatClampNeg (defaultValue ty) n.toNatClampNeg
  obtain ⟨g1, g2, g3, g4, g5⟩ := mn_sf (T.setVm vm₁) cA comp' n.toNatClampNeg k.toNatClampNeg (defaultValue ty) n.toNatClampNeg
  obtain ⟨t, a1, b1⟩ := kk (mn_st (T.setVm vm₁) cA comp' n.toNatClampNeg k.toNatClampNeg (defaultValue ty) n.toNatClampNeg).heap cA comp' g1 g5 g2 (mn_rows (T.setVm vm₁) cA comp' n.toNatClampNeg k.toNatClampNeg (defaultValue ty) n.toNatClampNeg) hnameA hcomp _ rfl XF
  refine ⟨t, ?_, b1⟩
  have href : ∀ v : Value, v = .null ∨ (∃ a, v = .ref a) → fits (.array ty) v = true := fun v hv => by rcases hv with rfl | ⟨a, rfl⟩ <;> rfl
  have hfind : ([k].find? (· < 0)) = none := by simp [hk]
  jvm_step X.here [hexec, hdg]
  simp only [multianewarray.sem, wp_bind', W.resolveClassAt_links (State.method?_setTop (F0 m pc ls (.int k :: .int n :: rest)) X.here.top) hg₁]
  rw [W.popN, if_neg (by decide)]
  refine ⟨F0 m pc ls (.int k :: .int n :: rest), State.topJava?_setTop' (s := T.setVm vm₁) _ X.here.top, [.int n, .int k], rest, rfl, rfl, ?_⟩
  simp only [List.mapM_cons, List.mapM_nil, wp_bind', wp_pure']
  have eS : ((T.setTop (F0 m pc ls (.int k :: .int n :: rest))).setVm vm₁).setTop { F0 m pc ls (.int k :: .int n :: rest) with stack := rest } = (T.setVm vm₁).setTop (F0 m pc ls rest) := by
    show ((T.setVm vm₁).setTop _).setTop _ = _
    rw [State.setTop_setTop]
  rw [eS, multianewarray.make]
  simp only [wp_bind', W.ite, hn, if_false, wp_pure', W.theClass, State.vm_setTop, State.vm_setVm, hkA₁, hkindA₁, Option.some.injEq, exists_eq_left']
  refine mn_new (s := (T.setVm vm₁).setTop (F0 m pc ls rest)) (k := kA₁) (comp := comp') (type := .array ty) hkA₁ hkindA₁ hl1 hh1 (href _ (Or.inl rfl)) rfl (by show T.heap.size < _; omega) (by show T.slotsUsed + _ ≤ _; have := Nat.zero_le (n.toNatClampNeg * k.toNatClampNeg); omega) ?_
  simp only [hfind]
  rw [ite_self, wp_bind', Std.Legacy.Range.forIn_eq_forIn_range']
  have hsz : ([:n.toNatClampNeg] : Std.Legacy.Range).size = n.toNatClampNeg := by simp [Std.Legacy.Range.size]
  rw [hsz]
  show wp (forIn (List.range' 0 n.toNatClampNeg 1) PUnit.unit _) _ _ e _ _ _
  refine wp_forIn_inv (fun rst S' => ∃ i, i ≤ n.toNatClampNeg ∧ rst = List.range' i (n.toNatClampNeg - i) ∧ S' = (mn_st (T.setVm vm₁) cA comp' n.toNatClampNeg k.toNatClampNeg (defaultValue ty) i).setTop (F0 m pc ls rest)) _ _ ⟨0, Nat.zero_le _, rfl, rfl⟩ ?_ ?_
  · rintro x rst S' d' acts' Q' ⟨i, hi, hl, rfl⟩ hnext
    have hlt : i < n.toNatClampNeg := by
      rcases Nat.lt_or_ge i n.toNatClampNeg with h | h
      · exact h
      · rw [show n.toNatClampNeg - i = 0 from by omega] at hl; simp at hl
    obtain ⟨rfl, hrst⟩ : x = i ∧ rst = List.range' (i + 1) (n.toNatClampNeg - (i + 1)) := by
      rw [show n.toNatClampNeg - i = (n.toNatClampNeg - (i + 1)) + 1 from by omega, List.range'_succ] at hl
      exact ⟨(List.cons.inj hl).1, (List.cons.inj hl).2⟩
    obtain ⟨f1, f2, f3, f4, f5⟩ := mn_sf (T.setVm vm₁) cA comp' n.toNatClampNeg k.toNatClampNeg (defaultValue ty) x
    obtain ⟨o1, o2, o3⟩ := mn_ocf cA n.toNatClampNeg (T.setVm vm₁).heap.size x
    have hmul : x * k.toNatClampNeg + k.toNatClampNeg ≤ n.toNatClampNeg * k.toNatClampNeg := by
      have := Nat.mul_le_mul_right k.toNatClampNeg (show x + 1 ≤ n.toNatClampNeg from hlt)
      rw [Nat.succ_mul] at this; exact this
    have f1' : (mn_st (T.setVm vm₁) cA comp' n.toNatClampNeg k.toNatClampNeg (defaultValue ty) x).heap.size = T.heap.size + 1 + x := f1
    have f4' : (mn_st (T.setVm vm₁) cA comp' n.toNatClampNeg k.toNatClampNeg (defaultValue ty) x).slotsUsed = T.slotsUsed + n.toNatClampNeg + x * k.toNatClampNeg := f4
    have hlt0 : (T.setVm vm₁).heap.size < (mn_st (T.setVm vm₁) cA comp' n.toNatClampNeg k.toNatClampNeg (defaultValue ty) x).heap.size := by rw [f1]; omega
    simp only [wp_bind']
    rw [multianewarray.make]
    simp only [wp_bind', W.ite, hk, if_false, wp_pure', W.theClass, State.vm_setTop, f3, State.vm_setVm, hkC₁, hkindC₁, Option.some.injEq, exists_eq_left']
    refine mn_new (k := kC₁) (comp := co) (type := ty) (by show (mn_st _ _ _ _ _ _ _).vm.classes[_]? = _; rw [f3]; exact hkC₁) hkindC₁ hl2 hh2 hdf hdd (by show (mn_st _ _ _ _ _ _ _).heap.size < _; omega) (by show (mn_st _ _ _ _ _ _ _).slotsUsed + _ ≤ _; omega) ?_
    simp only [wp_bind', W.writeLoc, wp_pure']
    refine ⟨mn_oc cA n.toNatClampNeg (T.setVm vm₁).heap.size x, ?_, by rw [o2]; simp, by rw [o3]; exact hlt, ?_, hnext _ _ _ ⟨x + 1, hlt, hrst, ?_⟩⟩
    · show ((mn_st (T.setVm vm₁) cA comp' n.toNatClampNeg k.toNatClampNeg (defaultValue ty) x).pushCell _).heap[(T.setVm vm₁).heap.size]? = _
      rw [State.heap_pushCell_of_lt (h := hlt0)]
      exact f2
    · rw [o1, o2]
      simp [State.fitsSlot, State.slotType?, f3, hkA₁, hkindA₁, href _ (Or.inr ⟨_, rfl⟩)]
    · simp only [State.pushCell_setTop, State.setCell_setTop, State.heap_setTop]
      rw [f1]
      rfl
  · rintro S' d' acts' ⟨i, hi, hl, rfl⟩
    have hiN : i = n.toNatClampNeg := by
      rcases Nat.lt_or_ge i n.toNatClampNeg with h | h
      · rw [show n.toNatClampNeg - i = (n.toNatClampNeg - (i + 1)) + 1 from by omega, List.range'_succ] at hl; cases hl
      · omega
    subst hiN
    simp only [wp_pure', wp_bind', W.mark, W.pushRef, State.topJava?_setTop' _ XF.here.top, Option.some.injEq, exists_eq_left', State.setTop_setTop, State.heap_setTop]
    intro acts
    simp [jvm, XF.here.top]
    exact a1
theorem x_N (hB : Bx p s m meth c args cc nL own D cI cZ cS A N0) : N0.1 ≤ s.heap.size := hB.2.2.2.2.2.2.2.1 _ (hB.2.2.2.2.2.2.1 _ (Nat.le_refl _))
end MN2
