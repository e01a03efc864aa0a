/-! what the fields and the ints of arrays are, by role; each field by itself -/
def vI (lo hi : Int) (v : Value) : Prop := ∃ x : Int32, v = .int x ∧ lo ≤ x.toInt ∧ x.toInt ≤ hi
def vA (v : Value) : Prop := ∃ x : Int32, v = .int x
def vR (g : GS) (r : Nat) (v : Value) : Prop := ∃ q : Nat, v = .ref q ∧ g.1 q = r
def vL (g : GS) (r n : Nat) (v : Value) : Prop := ∃ q : Nat, v = .ref q ∧ g.1 q = r ∧ g.2.2.1 q = n
/-- what a field holds: 0 anything, 1 an int between two, 2 an int, 3 an object of a role, 4 an array of a role and a length -/
abbrev FS : Type := Nat × Int × Int × Nat × Nat
abbrev ft : FS := (0, 0, 0, 0, 0)
def fsl (r : Nat) : List FS := match r with
  | 1 => [(4, 0, 0, 61, 6), (4, 0, 0, 62, 6), (4, 0, 0, 63, 6), (1, 0, 6, 0, 0)]
  | 2 => [(3, 0, 0, 6, 0), (3, 0, 0, 6, 0), (3, 0, 0, 6, 0), (4, 0, 0, 50, 6), (4, 0, 0, 50, 6), (4, 0, 0, 50, 6), (2, 0, 0, 0, 0), (4, 0, 0, 43, 25), (4, 0, 0, 52, 5), (4, 0, 0, 50, 4)]
  | 3 => [(4, 0, 0, 68, 8), (4, 0, 0, 69, 8), (4, 0, 0, 70, 8), (1, 0, 8, 0, 0)]
  | 4 => [(3, 0, 0, 3, 0), (4, 0, 0, 50, 4), (2, 0, 0, 0, 0), (2, 0, 0, 0, 0), (2, 0, 0, 0, 0), (1, 0, 16, 0, 0), (4, 0, 0, 50, 16), (4, 0, 0, 50, 16), (4, 0, 0, 50, 16), (4, 0, 0, 50, 16), (2, 0, 0, 0, 0), (2, 0, 0, 0, 0), (4, 0, 0, 50, 8), (4, 0, 0, 50, 8), (1, 0, 1, 0, 0)]
  | 5 => [(4, 0, 0, 67, 100), (1, 0, 100, 0, 0), (2, 0, 0, 0, 0), (2, 0, 0, 0, 0)]
  | 6 => [(4, 0, 0, 41, 6), (1, 0, 6, 0, 0), (2, 0, 0, 0, 0), (4, 0, 0, 50, 512), (2, 0, 0, 0, 0), (2, 0, 0, 0, 0), (2, 0, 0, 0, 0), (1, 0, 1, 0, 0)]
  | 7 => [(3, 0, 0, 5, 0), (3, 0, 0, 19, 0), (3, 0, 0, 1, 0), (3, 0, 0, 9, 0), (3, 0, 0, 2, 0), (4, 0, 0, 60, 4), (1, 0, 1, 0, 0)]
  | 8 => [(1, 0, 6, 0, 0), (4, 0, 0, 88, 6), (4, 0, 0, 71, 48), (4, 0, 0, 72, 48), (4, 0, 0, 73, 48), (4, 0, 0, 74, 6), (4, 0, 0, 75, 6), (4, 0, 0, 56, 48), (4, 0, 0, 56, 12), (4, 0, 0, 54, 12), (4, 0, 0, 50, 192), (4, 0, 0, 50, 192), (4, 0, 0, 58, 192), (4, 0, 0, 50, 192), (4, 0, 0, 50, 2), (4, 0, 0, 50, 12), (4, 0, 0, 50, 12), (4, 0, 0, 50, 96), (4, 0, 0, 50, 96), (4, 0, 0, 50, 96), (4, 0, 0, 40, 12), (1, 0, 1, 0, 0), (2, 0, 0, 0, 0), (4, 0, 0, 50, 40), (1, 0, 20, 0, 0), (4, 0, 0, 76, 20), (4, 0, 0, 77, 20), (4, 0, 0, 78, 20), (4, 0, 0, 79, 100), (1, 0, 100, 0, 0), (1, 0, 6, 0, 0), (4, 0, 0, 80, 6), (4, 0, 0, 81, 6), (4, 0, 0, 82, 6), (1, 0, 1, 0, 0), (4, 0, 0, 83, 4), (1, 0, 100, 0, 0), (1, 0, 1, 0, 0), (1, 0, 8, 0, 0), (4, 0, 0, 84, 8), (4, 0, 0, 85, 8), (4, 0, 0, 86, 8), (4, 0, 0, 87, 24), (4, 0, 0, 51, 7), (4, 0, 0, 56, 7), (4, 0, 0, 50, 7), (4, 0, 0, 55, 7), (4, 0, 0, 58, 7), (4, 0, 0, 40, 7), (1, 0, 6, 0, 0), (2, 0, 0, 0, 0), (1, (-2), 999, 0, 0), (1, 0, 1200, 0, 0), (4, 0, 0, 56, 1200), (4, 0, 0, 50, 48), (4, 0, 0, 50, 48), (4, 0, 0, 50, 48), (4, 0, 0, 50, 30), (4, 0, 0, 50, 1200), (4, 0, 0, 50, 6), (1, 0, 1200, 0, 0), (4, 0, 0, 52, 5), (4, 0, 0, 50, 624), (4, 0, 0, 50, 24000), (4, 0, 0, 50, 1000), (4, 0, 0, 50, 6), (4, 0, 0, 50, 6)]
  | 9 => [(4, 0, 0, 64, 20), (4, 0, 0, 65, 20), (4, 0, 0, 66, 20), (1, 0, 20, 0, 0)]
  | 10 => [(3, 0, 0, 3, 0), (4, 0, 0, 50, 4), (2, 0, 0, 0, 0), (2, 0, 0, 0, 0), (2, 0, 0, 0, 0), (1, 0, 16, 0, 0), (4, 0, 0, 50, 16), (4, 0, 0, 50, 16), (4, 0, 0, 50, 16), (4, 0, 0, 50, 16), (2, 0, 0, 0, 0), (2, 0, 0, 0, 0), (4, 0, 0, 50, 8), (4, 0, 0, 50, 8), (1, 0, 1, 0, 0)]
  | 19 => [(4, 0, 0, 42, 6), (1, 0, 6, 0, 0), (2, 0, 0, 0, 0), (4, 0, 0, 50, 512), (2, 0, 0, 0, 0), (2, 0, 0, 0, 0), (2, 0, 0, 0, 0), (1, 0, 1, 0, 0)]
  | _ => []
def fsp (r k : Nat) : FS := (fsl r).getD k ft
abbrev okR (x : Nat) : Prop := x ≠ 0 ∧ (x < 11 ∨ 18 < x) ∧ x ≠ 44
def fsm (g : GS) (v : Value) (x : FS) : Prop := match x.1 with
  | 1 => vI x.2.1 x.2.2.1 v
  | 2 => vA v
  | 3 => okR x.2.2.2.1 ∧ vR g x.2.2.2.1 v
  | 4 => okR x.2.2.2.1 ∧ vL g x.2.2.2.1 x.2.2.2.2 v
  | _ => True
def Fok (g : GS) (r k : Nat) (v : Value) : Prop := fsm g v (fsp r k)
def Cok (r : Nat) (x : Int32) : Prop := match r with
  | 51 => 0 ≤ x.toInt ∧ x.toInt ≤ 5
  | 52 => 0 ≤ x.toInt ∧ x.toInt ≤ 3
  | 53 => 0 ≤ x.toInt ∧ x.toInt ≤ 8
  | 54 => 0 ≤ x.toInt ∧ x.toInt ≤ 16
  | 55 => 0 ≤ x.toInt ∧ x.toInt ≤ 9
  | 56 => 0 ≤ x.toInt ∧ x.toInt ≤ 999
  | 57 => 0 ≤ x.toInt ∧ x.toInt ≤ 1001
  | 58 => (-2) ≤ x.toInt ∧ x.toInt ≤ 999
  | 59 => 0 ≤ x.toInt ∧ x.toInt ≤ 127
  | 61 => 0 ≤ x.toInt ∧ x.toInt ≤ 5
  | 64 => 0 ≤ x.toInt ∧ x.toInt ≤ 5
  | 67 => 0 ≤ x.toInt ∧ x.toInt ≤ 255
  | 69 => 0 ≤ x.toInt ∧ x.toInt ≤ 5
  | 72 => 0 ≤ x.toInt ∧ x.toInt ≤ 5
  | 73 => 0 ≤ x.toInt ∧ x.toInt ≤ 1001
  | 76 => 0 ≤ x.toInt ∧ x.toInt ≤ 5
  | 77 => 0 ≤ x.toInt ∧ x.toInt ≤ 999
  | 79 => 0 ≤ x.toInt ∧ x.toInt ≤ 255
  | 80 => 0 ≤ x.toInt ∧ x.toInt ≤ 5
  | 81 => 0 ≤ x.toInt ∧ x.toInt ≤ 999
  | 85 => 0 ≤ x.toInt ∧ x.toInt ≤ 5
  | 86 => 0 ≤ x.toInt ∧ x.toInt ≤ 1001
  | 87 => 0 ≤ x.toInt ∧ x.toInt ≤ 127
  | 88 => 0 ≤ x.toInt ∧ x.toInt ≤ 8
  | _ => True
def Qok (g : GS) (r : Nat) (v : Option Nat) : Prop := match r with
  | 41 => ∃ q : Nat, v = some q ∧ g.1 q = 4
  | 42 => ∃ q : Nat, v = some q ∧ g.1 q = 10
  | 43 => ∃ q : Nat, v = some q ∧ g.1 q = 50 ∧ g.2.2.1 q = 325
  | _ => True
/-- the invariant -/
def Inv (g : GS) : Prop := (∀ a k, Fok g (g.1 a) k (g.2.1 a k)) ∧ (∀ a i, i < g.2.2.1 a → Cok (g.1 a) (g.2.2.2.1 a i)) ∧ (∀ a i, i < g.2.2.1 a → Qok g (g.1 a) (g.2.2.2.2 a i))
/-- a frame's list: roles and numbers of what may change -/
def mdf (L : List (Nat × Nat)) (r k : Nat) : Bool := L.any (fun x => x.1 == r && x.2 == k)
theorem mdf_le {L L' : List (Nat × Nat)} (h : L'.all (fun x => mdf L x.1 x.2) = true) {r k : Nat} (hf : mdf L r k = false) : mdf L' r k = false := by
  rw [Bool.eq_false_iff]
  intro ht
  obtain ⟨x, hx, e⟩ := List.any_eq_true.mp ht
  have h1 := List.all_eq_true.mp h x hx
  rw [Bool.and_eq_true, beq_iff_eq, beq_iff_eq] at e
  rw [e.1, e.2, hf] at h1
  cases h1
/-- roles and lengths stay -/
def Ex (g g' : GS) : Prop := ∀ a, g.1 a ≠ 0 → g'.1 a = g.1 a ∧ g'.2.2.1 a = g.2.2.1 a
/-- fields that md doesn't name, by role and number, stay; under 99 the elements of an array -/
def Sm (md : Nat → Nat → Bool) (g g' : GS) : Prop := (∀ a k, g.1 a ≠ 0 → md (g.1 a) k = false → g'.2.1 a k = g.2.1 a k) ∧ (∀ a, g.1 a ≠ 0 → md (g.1 a) 99 = false → g'.2.2.2.1 a = g.2.2.2.1 a ∧ g'.2.2.2.2 a = g.2.2.2.2 a)
/-- roles and lengths stay but at h -/
def Exx (h : Nat) (g g' : GS) : Prop := ∀ a, a ≠ h → g.1 a ≠ 0 → g'.1 a = g.1 a ∧ g'.2.2.1 a = g.2.2.1 a
theorem Ex.rf {g : GS} : Ex g g := fun _ _ => ⟨rfl, rfl⟩
theorem Ex.tr {g g' g'' : GS} (h : Ex g g') (h' : Ex g' g'') : Ex g g'' := fun a ha => by
  obtain ⟨e1, e2⟩ := h a ha
  obtain ⟨e3, e4⟩ := h' a (by rw [e1]; exact ha)
  exact ⟨e3.trans e1, e4.trans e2⟩
theorem Sm.rf {md : Nat → Nat → Bool} {g : GS} : Sm md g g := ⟨fun _ _ _ _ => rfl, fun _ _ _ => ⟨rfl, rfl⟩⟩
theorem Sm.tr {md : Nat → Nat → Bool} {g g' g'' : GS} (hx : Ex g g') (h : Sm md g g') (h' : Sm md g' g'') : Sm md g g'' := ⟨fun a k ha hm => by
  have e := (hx a ha).1
  exact (h'.1 a k (by rw [e]; exact ha) (by rw [e]; exact hm)).trans (h.1 a k ha hm), fun a ha hm => by
  have e := (hx a ha).1
  obtain ⟨x1, x2⟩ := h'.2 a (by rw [e]; exact ha) (by rw [e]; exact hm)
  obtain ⟨y1, y2⟩ := h.2 a ha hm
  exact ⟨x1.trans y1, x2.trans y2⟩⟩
theorem Sm.mo {md md' : Nat → Nat → Bool} {g g' : GS} (h : Sm md g g') (hm : ∀ r k, md' r k = false → md r k = false) : Sm md' g g' := ⟨fun a k ha hk => h.1 a k ha (hm _ _ hk), fun a ha hk => h.2 a ha (hm _ _ hk)⟩
theorem Inv.sF {g : GS} {a k : Nat} {v : Value} (h : Inv g) (hv : Fok g (g.1 a) k v) : Inv (sF g a k v) := by
  refine ⟨fun x j => ?_, h.2.1, h.2.2⟩
  show Fok g (g.1 x) j (if x = a ∧ j = k then v else g.2.1 x j)
  by_cases hx : x = a ∧ j = k
  · rw [if_pos hx, hx.1, hx.2]; exact hv
  · rw [if_neg hx]; exact h.1 x j
theorem Inv.sC {g : GS} {a i : Nat} {v : Int32} (h : Inv g) (hv : Cok (g.1 a) v) : Inv (sC g a i v) := by
  refine ⟨h.1, fun x j hj => ?_, h.2.2⟩
  show Cok (g.1 x) (if x = a ∧ j = i then v else g.2.2.2.1 x j)
  by_cases hx : x = a ∧ j = i
  · rw [if_pos hx, hx.1]; exact hv
  · rw [if_neg hx]; exact h.2.1 x j hj
theorem sF_eq {g : GS} {a k : Nat} {v : Value} : (sF g a k v).2.1 a k = v := by
  show (if a = a ∧ k = k then v else g.2.1 a k) = v
  rw [if_pos ⟨rfl, rfl⟩]
theorem sF_k {g : GS} {a k b j : Nat} {v w : Value} (h : g.2.1 b j = w) (n : j ≠ k) : (sF g a k v).2.1 b j = w := by
  show (if b = a ∧ j = k then v else g.2.1 b j) = w
  rw [if_neg (fun q => n q.2)]; exact h
theorem sF_a {g : GS} {a k b j : Nat} {v w : Value} (h : g.2.1 b j = w) (n : b ≠ a) : (sF g a k v).2.1 b j = w := by
  show (if b = a ∧ j = k then v else g.2.1 b j) = w
  rw [if_neg (fun q => n q.1)]; exact h
theorem Sm_sF {md : Nat → Nat → Bool} {g : GS} {a k : Nat} {v : Value} (h : md (g.1 a) k = true) : Sm md g (sF g a k v) := ⟨fun x j _ hm => by
  show (if x = a ∧ j = k then v else g.2.1 x j) = g.2.1 x j
  by_cases hx : x = a ∧ j = k
  · rw [hx.1, hx.2, h] at hm; cases hm
  · rw [if_neg hx], fun _ _ _ => ⟨rfl, rfl⟩⟩
theorem Sm_sC {md : Nat → Nat → Bool} {g : GS} {a i : Nat} {v : Int32} (h : md (g.1 a) 99 = true) : Sm md g (sC g a i v) := ⟨fun _ _ _ _ => rfl, fun x _ hm => by
  by_cases hx : x = a
  · rw [hx, h] at hm; cases hm
  · refine ⟨?_, rfl⟩
    funext j
    show (if x = a ∧ j = i then v else g.2.2.2.1 x j) = _
    rw [if_neg (fun q => hx q.1)]⟩
theorem Sm_sQ {md : Nat → Nat → Bool} {g : GS} {a i : Nat} {v : Option Nat} (h : md (g.1 a) 99 = true) : Sm md g (sQ g a i v) := ⟨fun _ _ _ _ => rfl, fun x _ hm => by
  by_cases hx : x = a
  · rw [hx, h] at hm; cases hm
  · refine ⟨rfl, ?_⟩
    funext j
    show (if x = a ∧ j = i then v else g.2.2.2.2 x j) = _
    rw [if_neg (fun q => hx q.1)]⟩
theorem sC_eq {g : GS} {a i : Nat} {v : Int32} : (sC g a i v).2.2.2.1 a i = v := by
  show (if a = a ∧ i = i then v else _) = v
  rw [if_pos ⟨rfl, rfl⟩]
theorem sC_i {g : GS} {a i b j : Nat} {v w : Int32} (h : g.2.2.2.1 b j = w) (n : j ≠ i) : (sC g a i v).2.2.2.1 b j = w := by
  show (if b = a ∧ j = i then v else g.2.2.2.1 b j) = w
  rw [if_neg (fun q => n q.2)]; exact h
theorem i_nc {x y : Int32} (h : x.toInt ≠ y.toInt) (hx : 0 ≤ x.toInt) (hy : 0 ≤ y.toInt) : x.toNatClampNeg ≠ y.toNatClampNeg := by
  show x.toInt.toNat ≠ y.toInt.toNat
  omega
theorem sC_a {g : GS} {a i b j : Nat} {v w : Int32} (h : g.2.2.2.1 b j = w) (n : b ≠ a) : (sC g a i v).2.2.2.1 b j = w := by
  show (if b = a ∧ j = i then v else g.2.2.2.1 b j) = w
  rw [if_neg (fun q => n q.1)]; exact h
theorem sQ_eq {g : GS} {a i : Nat} {v : Option Nat} : (sQ g a i v).2.2.2.2 a i = v := by
  show (if a = a ∧ i = i then v else _) = v
  rw [if_pos ⟨rfl, rfl⟩]
theorem sQ_i {g : GS} {a i b j : Nat} {v w : Option Nat} (h : g.2.2.2.2 b j = w) (n : j ≠ i) : (sQ g a i v).2.2.2.2 b j = w := by
  show (if b = a ∧ j = i then v else g.2.2.2.2 b j) = w
  rw [if_neg (fun q => n q.2)]; exact h
theorem Inv.sQ {g : GS} {a i : Nat} {v : Option Nat} (h : Inv g) (hv : Qok g (g.1 a) v) : Inv (sQ g a i v) := by
  refine ⟨h.1, h.2.1, fun x j hj => ?_⟩
  show Qok g (g.1 x) (if x = a ∧ j = i then v else g.2.2.2.2 x j)
  by_cases hx : x = a ∧ j = i
  · rw [if_pos hx, hx.1]; exact hv
  · rw [if_neg hx]; exact h.2.2 x j hj
theorem ne0 {g : GS} {a q r : Nat} (h : g.1 a = r) (h0 : g.1 q = 0) (n : r ≠ 0) : a ≠ q := fun e => n (by rw [← h, e]; exact h0)
theorem Ex.z0 {g g' : GS} {q : Nat} (h : Ex g g') (h0 : g'.1 q = 0) : g.1 q = 0 := by
  by_cases hz : g.1 q = 0
  · exact hz
  · exact absurd ((h q hz).1.symm.trans h0) hz
theorem Ex.pr0 {g g' : GS} {a r : Nat} (h : Ex g g') (h0 : g.1 a = 0) : Ex g (sR g' a r) := fun x hx => by
  refine ⟨?_, (h x hx).2⟩
  show (if x = a then r else g'.1 x) = g.1 x
  rw [if_neg (fun q => hx (by rw [q]; exact h0))]; exact (h x hx).1
theorem sR_r {g : GS} {a r q x : Nat} (h : g.1 q = x) (n : q ≠ a) : (sR g a r).1 q = x := (if_neg n).trans h
theorem Sm.c {md : Nat → Nat → Bool} {g g' : GS} {a r i : Nat} {w : Int32} (h : Sm md g g') (hr : g.1 a = r) (h0 : r ≠ 0) (hm : md r 99 = false) (hv : g.2.2.2.1 a i = w) : g'.2.2.2.1 a i = w := by
  rw [(h.2 a (by rw [hr]; exact h0) (by rw [hr]; exact hm)).1]; exact hv
theorem ro_ne {g : GS} {a b r r' : Nat} (h : g.1 a = r) (h' : g.1 b = r') (n : r ≠ r') : a ≠ b := fun q => n (by rw [← h, ← h', q])
/-! ints as integers -/
theorem i_lt {x y : Int32} {a b : Int} (h : x < y) (hx : x.toInt = a) (hy : y.toInt = b) : a < b := by rw [← hx, ← hy]; exact Int32.lt_iff_toInt_lt.mp h
theorem i_le {x y : Int32} {a b : Int} (h : x ≤ y) (hx : x.toInt = a) (hy : y.toInt = b) : a ≤ b := by rw [← hx, ← hy]; exact Int32.le_iff_toInt_le.mp h
theorem i_nlt {x y : Int32} {a b : Int} (h : ¬ x < y) (hx : x.toInt = a) (hy : y.toInt = b) : b ≤ a := by rw [← hx, ← hy]; exact Int32.le_iff_toInt_le.mp (Int32.not_lt.mp h)
theorem i_nle {x y : Int32} {a b : Int} (h : ¬ x ≤ y) (hx : x.toInt = a) (hy : y.toInt = b) : b < a := by rw [← hx, ← hy]; exact Int32.lt_iff_toInt_lt.mp (Int32.not_le.mp h)
theorem i_eq {x y : Int32} {a b : Int} (h : x = y) (hx : x.toInt = a) (hy : y.toInt = b) : a = b := by rw [← hx, ← hy, h]
theorem i_ne {x y : Int32} {a b : Int} (h : ¬ x = y) (hx : x.toInt = a) (hy : y.toInt = b) : ¬ a = b := fun q => h (Int32.toInt_inj.mp (by rw [hx, hy, q]))
theorem i_rng (x : Int32) : -2147483648 ≤ x.toInt ∧ x.toInt < 2147483648 := ⟨by have := Int32.le_toInt x; omega, by have := Int32.toInt_lt x; omega⟩
theorem i_bm {z : Int} (h1 : -2147483648 ≤ z) (h2 : z < 2147483648) : z.bmod 4294967296 = z := by
  rw [Int.bmod_eq_of_le (by omega) (by omega)]
theorem i_add {x y z : Int32} {a b : Int} (e : z = x + y) (hx : x.toInt = a) (hy : y.toInt = b) (h1 : -2147483648 ≤ a + b) (h2 : a + b < 2147483648) : z.toInt = a + b := by
  rw [e, Int32.toInt_add, hx, hy]
  exact i_bm h1 h2
theorem i_sub {x y z : Int32} {a b : Int} (e : z = x - y) (hx : x.toInt = a) (hy : y.toInt = b) (h1 : -2147483648 ≤ a - b) (h2 : a - b < 2147483648) : z.toInt = a - b := by
  rw [e, Int32.toInt_sub, hx, hy]
  exact i_bm h1 h2
theorem i_mul {x y z : Int32} {a b : Int} (e : z = x * y) (hx : x.toInt = a) (hy : y.toInt = b) (h1 : -2147483648 ≤ a * b) (h2 : a * b < 2147483648) : z.toInt = a * b := by
  rw [e, Int32.toInt_mul, hx, hy]
  exact i_bm h1 h2
theorem i_in {x : Int32} {n : Nat} {a : Int} (hx : x.toInt = a) (h1 : 0 ≤ a) (h2 : a < n) : vp_in x n := vp_in_iff.mpr ⟨by rw [hx]; exact h1, by rw [hx]; exact h2⟩
theorem i_cl {x : Int32} {n : Nat} (h : vp_in x n) : x.toNatClampNeg < n := Nat.not_le.mp fun q => h (Or.inr q)
theorem Inv.f {g : GS} {a r : Nat} (h : Inv g) (hr : g.1 a = r) (k : Nat) : Fok g r k (g.2.1 a k) := by rw [← hr]; exact h.1 a k
theorem Inv.c {g : GS} {a r i n : Nat} (h : Inv g) (hr : g.1 a = r) (hn : g.2.2.1 a = n) (hi : i < n) : Cok r (g.2.2.2.1 a i) := by rw [← hr]; exact h.2.1 a i (by rw [hn]; exact hi)
theorem Inv.q {g : GS} {a r i n : Nat} (h : Inv g) (hr : g.1 a = r) (hn : g.2.2.1 a = n) (hi : i < n) : Qok g r (g.2.2.2.2 a i) := by rw [← hr]; exact h.2.2 a i (by rw [hn]; exact hi)
theorem fk {g : GS} {a r k : Nat} {v : Value} (h : g.1 a = r) (p : Fok g r k v) : Fok g (g.1 a) k v := by rw [h]; exact p
theorem ck {g : GS} {a r : Nat} {x : Int32} (h : g.1 a = r) (p : Cok r x) : Cok (g.1 a) x := by rw [h]; exact p
theorem ro_ci {g : GS} {a r ci : Nat} (h : g.1 a = r) (hc : ciOf r = some ci) : ciOf (g.1 a) = some ci := by rw [h]; exact hc
theorem ro_in {g : GS} {a r : Nat} (h : g.1 a = r) (h1 : 50 ≤ r ∧ r ≤ 99) : 50 ≤ g.1 a ∧ g.1 a ≤ 99 := by rw [h]; exact h1
theorem ro_n0 {g : GS} {a r : Nat} (h : g.1 a = r) (h1 : r ≠ 0) : g.1 a ≠ 0 := by rw [h]; exact h1
theorem Ex.r {g g' : GS} {a r : Nat} (h : Ex g g') (hr : g.1 a = r) (h0 : r ≠ 0) : g'.1 a = r := ((h a (by rw [hr]; exact h0)).1).trans hr
theorem Ex.n {g g' : GS} {a r n : Nat} (h : Ex g g') (hr : g.1 a = r) (h0 : r ≠ 0) (hn : g.2.2.1 a = n) : g'.2.2.1 a = n := ((h a (by rw [hr]; exact h0)).2).trans hn
theorem Sm.v {md : Nat → Nat → Bool} {g g' : GS} {a k r : Nat} {v : Value} (h : Sm md g g') (hr : g.1 a = r) (h0 : r ≠ 0) (hm : md r k = false) (hv : g.2.1 a k = v) : g'.2.1 a k = v := (h.1 a k (by rw [hr]; exact h0) (by rw [hr]; exact hm)).trans hv
theorem i_max {x y z : Int32} {a b : Int} (e : z = if x < y then y else x) (hx : x.toInt = a) (hy : y.toInt = b) : a ≤ z.toInt ∧ b ≤ z.toInt ∧ (z.toInt = a ∨ z.toInt = b) := by
  by_cases h : x < y
  · rw [if_pos h] at e
    have := i_lt h hx hy
    rw [e, hy]
    omega
  · rw [if_neg h] at e
    have := i_nlt h hx hy
    rw [e, hx]
    omega
theorem i_min {x y z : Int32} {a b : Int} (e : z = if y < x then y else x) (hx : x.toInt = a) (hy : y.toInt = b) : z.toInt ≤ a ∧ z.toInt ≤ b ∧ (z.toInt = a ∨ z.toInt = b) := by
  by_cases h : y < x
  · rw [if_pos h] at e
    have := i_lt h hy hx
    rw [e, hy]
    omega
  · rw [if_neg h] at e
    have := i_nlt h hy hx
    rw [e, hx]
    omega
section TM
variable {p : Program} {l : Launch} {e : Env} {R : Room} {s : State} {m : MethodId} {args : Array Value} {below : List Frame} {meth : Method} {c : Code} {H : Heap} {locs : List Loc} {cells slots : Nat} {Q : State → Prop}
variable {cc : ByteArray} {pc nL : Nat} {ls : Array Slot} {rest : List Value} {own : String} {D : va_G} {cI cZ cS cR : ClassId} {N0 : NT}
theorem t_max {x y : Int32} {v : Int32} {index : Nat} (hB : Tz p s m meth c args cc nL own D cI cZ cS cR N0) (hl : Cond.methodLink own index Lib.Math.max.name ∈ tb) (hst : Cond.static Lib.Math.max.name ∈ tb) (hini : Cond.initialized "java/lang/Math" ∈ tb) (hc : Cond.code Lib.Math.max.name Lib.Math.max.code 2 (some .int) ∈ tb) (hsz : ls.size = nL) (hfr : 1 ≤ R.frames) (hlo : (rest.map fun v => v.category).sum + 13 ≤ R.locals) (h1 : cells ≤ R.cells) (h2 : slots ≤ R.slots) (hv : (if x < y then y else x) = v) (hdg : decode cc pc = .ok (.invokestatic index, 3))
    (kk : W p l e R s m args below meth c H locs cells slots Q (F0 m (pc + 3) ls (.int v :: rest))) : W p l e R s m args below meth c H locs cells slots Q (F0 m pc ls (.int y :: .int x :: rest)) := by
  subst hv
  exact va_mmax hB.1 hB.2.1 (by rw [hB.2.2.1, hsz]) hB.2.2.2.1 (hB.2.2.2.2.1 _ hl) (hB.2.2.2.2.1 _ hst) (hB.2.2.2.2.1 _ hini) (hB.2.2.2.2.1 _ hc) hfr hlo h1 h2 hdg kk
theorem t_min {x y : Int32} {v : Int32} {index : Nat} (hB : Tz p s m meth c args cc nL own D cI cZ cS cR N0) (hl : Cond.methodLink own index Lib.Math.min.name ∈ tb) (hst : Cond.static Lib.Math.min.name ∈ tb) (hini : Cond.initialized "java/lang/Math" ∈ tb) (hc : Cond.code Lib.Math.min.name Lib.Math.min.code 2 (some .int) ∈ tb) (hsz : ls.size = nL) (hfr : 1 ≤ R.frames) (hlo : (rest.map fun v => v.category).sum + 13 ≤ R.locals) (h1 : cells ≤ R.cells) (h2 : slots ≤ R.slots) (hv : (if y < x then y else x) = v) (hdg : decode cc pc = .ok (.invokestatic index, 3))
    (kk : W p l e R s m args below meth c H locs cells slots Q (F0 m (pc + 3) ls (.int v :: rest))) : W p l e R s m args below meth c H locs cells slots Q (F0 m pc ls (.int y :: .int x :: rest)) := by
  subst hv
  exact va_mmin hB.1 hB.2.1 (by rw [hB.2.2.1, hsz]) hB.2.2.2.1 (hB.2.2.2.2.1 _ hl) (hB.2.2.2.2.1 _ hst) (hB.2.2.2.2.1 _ hini) (hB.2.2.2.2.1 _ hc) hfr hlo h1 h2 hdg kk
end TM
theorem z0 : (0 : Int32).toInt = 0 := by decide
theorem z1 : (1 : Int32).toInt = 1 := by decide
theorem z4 : (4 : Int32).toInt = 4 := by decide
theorem z8 : (8 : Int32).toInt = 8 := by decide
theorem sw_out {x M : Int32} {lo hi : Int} (h : x < 0 ∨ M < x) (hl : (0 : Int32).toInt = lo := by decide) (hh : M.toInt = hi := by decide) : x.toInt < lo ∨ hi < x.toInt := by
  rcases h with h | h
  · exact Or.inl (by rw [← hl]; exact Int32.lt_iff_toInt_lt.mp h)
  · exact Or.inr (by rw [← hh]; exact Int32.lt_iff_toInt_lt.mp h)
theorem sw_in {x M : Int32} {n : Nat} (hM : M.toInt + 1 = n) (h : ¬ (x < 0 ∨ M < x)) : ∃ j : Nat, j < n ∧ x = nI j := by
  have h1 : ¬ x < 0 := fun q => h (Or.inl q)
  have h2 : x ≤ M := Int32.not_lt.mp (fun q => h (Or.inr q))
  obtain ⟨j, hj, rfl⟩ := nI_of h1
  rw [Int32.le_iff_toInt_le, nI_toInt hj] at h2
  exact ⟨j, by omega, rfl⟩
theorem i_rem {x y z : Int32} {a b : Int} (e : z = x - x / y * y) (hx : x.toInt = a) (hy : y.toInt = b) (h1 : 0 ≤ a) (h2 : 0 < b) : 0 ≤ z.toInt ∧ z.toInt < b := by
  obtain ⟨n, hn, rfl⟩ := nI_of (x := x) (fun q => by have := i_lt q hx z0; omega)
  obtain ⟨k, hk, rfl⟩ := nI_of (x := y) (fun q => by have := i_lt q hy z0; omega)
  rw [nI_toInt hk] at hy
  have h0 : 0 < k := by omega
  rw [pk_rem hn h0 hk] at e
  have hm := Nat.mod_lt n h0
  rw [e]
  generalize n % k = w at hm ⊢
  rw [nI_toInt (by omega)]
  omega
theorem i_div {x y z : Int32} {a b : Int} (e : z = x / y) (hx : x.toInt = a) (hy : y.toInt = b) (h1 : 0 ≤ a) (h2 : 0 < b) : 0 ≤ z.toInt ∧ z.toInt ≤ a := by
  obtain ⟨n, hn, rfl⟩ := nI_of (x := x) (fun q => by have := i_lt q hx z0; omega)
  obtain ⟨k, hk, rfl⟩ := nI_of (x := y) (fun q => by have := i_lt q hy z0; omega)
  rw [nI_toInt hk] at hy
  rw [nI_toInt hn] at hx
  have h0 : 0 < k := by omega
  rw [pk_div hn h0 hk] at e
  have hm := Nat.div_le_self n k
  rw [e]
  generalize n / k = w at hm ⊢
  rw [nI_toInt (by omega)]
  omega
theorem i_and {x m z : Int32} (k : Nat) {b : Int} (e : z = x &&& m) (hm : m.toBitVec.toNat = 2 ^ k - 1) (hb : (2 ^ k : Nat) = b + 1) (hk : 2 ^ k ≤ 2147483648) : 0 ≤ z.toInt ∧ z.toInt ≤ b := by
  obtain ⟨j, hj, e'⟩ := pk_andE x k hm
  rw [e, e', nI_toInt (by omega)]
  omega
theorem f_1_0 {g : GS} {a : Nat} (h : Inv g) (hr : g.1 a = 1) : vL g 61 6 (g.2.1 a 0) := (h.f hr 0).2
theorem q_1_0 {g : GS} {v : Value} (p : vL g 61 6 v) : Fok g 1 0 v := ⟨by decide, p⟩
theorem p_1_0 {g : GS} {a : Nat} {v : Value} (hr : g.1 a = 1) (p : vL g 61 6 v) : Fok g (g.1 a) 0 v := fk hr ⟨by decide, p⟩
theorem f_1_1 {g : GS} {a : Nat} (h : Inv g) (hr : g.1 a = 1) : vL g 62 6 (g.2.1 a 1) := (h.f hr 1).2
theorem q_1_1 {g : GS} {v : Value} (p : vL g 62 6 v) : Fok g 1 1 v := ⟨by decide, p⟩
theorem p_1_1 {g : GS} {a : Nat} {v : Value} (hr : g.1 a = 1) (p : vL g 62 6 v) : Fok g (g.1 a) 1 v := fk hr ⟨by decide, p⟩
theorem f_1_2 {g : GS} {a : Nat} (h : Inv g) (hr : g.1 a = 1) : vL g 63 6 (g.2.1 a 2) := (h.f hr 2).2
theorem q_1_2 {g : GS} {v : Value} (p : vL g 63 6 v) : Fok g 1 2 v := ⟨by decide, p⟩
theorem p_1_2 {g : GS} {a : Nat} {v : Value} (hr : g.1 a = 1) (p : vL g 63 6 v) : Fok g (g.1 a) 2 v := fk hr ⟨by decide, p⟩
theorem f_1_3 {g : GS} {a : Nat} (h : Inv g) (hr : g.1 a = 1) : vI 0 6 (g.2.1 a 3) := (h.f hr 3)
theorem q_1_3 {g : GS} {v : Value} (p : vI 0 6 v) : Fok g 1 3 v := p
theorem p_1_3 {g : GS} {a : Nat} {v : Value} (hr : g.1 a = 1) (p : vI 0 6 v) : Fok g (g.1 a) 3 v := fk hr p
theorem f_2_0 {g : GS} {a : Nat} (h : Inv g) (hr : g.1 a = 2) : vR g 6 (g.2.1 a 0) := (h.f hr 0).2
theorem q_2_0 {g : GS} {v : Value} (p : vR g 6 v) : Fok g 2 0 v := ⟨by decide, p⟩
theorem p_2_0 {g : GS} {a : Nat} {v : Value} (hr : g.1 a = 2) (p : vR g 6 v) : Fok g (g.1 a) 0 v := fk hr ⟨by decide, p⟩
theorem f_2_1 {g : GS} {a : Nat} (h : Inv g) (hr : g.1 a = 2) : vR g 6 (g.2.1 a 1) := (h.f hr 1).2
theorem q_2_1 {g : GS} {v : Value} (p : vR g 6 v) : Fok g 2 1 v := ⟨by decide, p⟩
theorem p_2_1 {g : GS} {a : Nat} {v : Value} (hr : g.1 a = 2) (p : vR g 6 v) : Fok g (g.1 a) 1 v := fk hr ⟨by decide, p⟩
theorem f_2_2 {g : GS} {a : Nat} (h : Inv g) (hr : g.1 a = 2) : vR g 6 (g.2.1 a 2) := (h.f hr 2).2
theorem q_2_2 {g : GS} {v : Value} (p : vR g 6 v) : Fok g 2 2 v := ⟨by decide, p⟩
theorem p_2_2 {g : GS} {a : Nat} {v : Value} (hr : g.1 a = 2) (p : vR g 6 v) : Fok g (g.1 a) 2 v := fk hr ⟨by decide, p⟩
theorem f_2_3 {g : GS} {a : Nat} (h : Inv g) (hr : g.1 a = 2) : vL g 50 6 (g.2.1 a 3) := (h.f hr 3).2
theorem q_2_3 {g : GS} {v : Value} (p : vL g 50 6 v) : Fok g 2 3 v := ⟨by decide, p⟩
theorem p_2_3 {g : GS} {a : Nat} {v : Value} (hr : g.1 a = 2) (p : vL g 50 6 v) : Fok g (g.1 a) 3 v := fk hr ⟨by decide, p⟩
theorem f_2_4 {g : GS} {a : Nat} (h : Inv g) (hr : g.1 a = 2) : vL g 50 6 (g.2.1 a 4) := (h.f hr 4).2
theorem q_2_4 {g : GS} {v : Value} (p : vL g 50 6 v) : Fok g 2 4 v := ⟨by decide, p⟩
theorem p_2_4 {g : GS} {a : Nat} {v : Value} (hr : g.1 a = 2) (p : vL g 50 6 v) : Fok g (g.1 a) 4 v := fk hr ⟨by decide, p⟩
theorem f_2_5 {g : GS} {a : Nat} (h : Inv g) (hr : g.1 a = 2) : vL g 50 6 (g.2.1 a 5) := (h.f hr 5).2
theorem q_2_5 {g : GS} {v : Value} (p : vL g 50 6 v) : Fok g 2 5 v := ⟨by decide, p⟩
theorem p_2_5 {g : GS} {a : Nat} {v : Value} (hr : g.1 a = 2) (p : vL g 50 6 v) : Fok g (g.1 a) 5 v := fk hr ⟨by decide, p⟩
theorem f_2_6 {g : GS} {a : Nat} (h : Inv g) (hr : g.1 a = 2) : vA (g.2.1 a 6) := (h.f hr 6)
theorem q_2_6 {g : GS} {v : Value} (p : vA v) : Fok g 2 6 v := p
theorem p_2_6 {g : GS} {a : Nat} {v : Value} (hr : g.1 a = 2) (p : vA v) : Fok g (g.1 a) 6 v := fk hr p
theorem f_2_7 {g : GS} {a : Nat} (h : Inv g) (hr : g.1 a = 2) : vL g 43 25 (g.2.1 a 7) := (h.f hr 7).2
theorem q_2_7 {g : GS} {v : Value} (p : vL g 43 25 v) : Fok g 2 7 v := ⟨by decide, p⟩
theorem p_2_7 {g : GS} {a : Nat} {v : Value} (hr : g.1 a = 2) (p : vL g 43 25 v) : Fok g (g.1 a) 7 v := fk hr ⟨by decide, p⟩
theorem f_2_8 {g : GS} {a : Nat} (h : Inv g) (hr : g.1 a = 2) : vL g 52 5 (g.2.1 a 8) := (h.f hr 8).2
theorem q_2_8 {g : GS} {v : Value} (p : vL g 52 5 v) : Fok g 2 8 v := ⟨by decide, p⟩
theorem p_2_8 {g : GS} {a : Nat} {v : Value} (hr : g.1 a = 2) (p : vL g 52 5 v) : Fok g (g.1 a) 8 v := fk hr ⟨by decide, p⟩
theorem f_2_9 {g : GS} {a : Nat} (h : Inv g) (hr : g.1 a = 2) : vL g 50 4 (g.2.1 a 9) := (h.f hr 9).2
theorem q_2_9 {g : GS} {v : Value} (p : vL g 50 4 v) : Fok g 2 9 v := ⟨by decide, p⟩
theorem p_2_9 {g : GS} {a : Nat} {v : Value} (hr : g.1 a = 2) (p : vL g 50 4 v) : Fok g (g.1 a) 9 v := fk hr ⟨by decide, p⟩
theorem f_3_0 {g : GS} {a : Nat} (h : Inv g) (hr : g.1 a = 3) : vL g 68 8 (g.2.1 a 0) := (h.f hr 0).2
theorem q_3_0 {g : GS} {v : Value} (p : vL g 68 8 v) : Fok g 3 0 v := ⟨by decide, p⟩
theorem p_3_0 {g : GS} {a : Nat} {v : Value} (hr : g.1 a = 3) (p : vL g 68 8 v) : Fok g (g.1 a) 0 v := fk hr ⟨by decide, p⟩
theorem f_3_1 {g : GS} {a : Nat} (h : Inv g) (hr : g.1 a = 3) : vL g 69 8 (g.2.1 a 1) := (h.f hr 1).2
theorem q_3_1 {g : GS} {v : Value} (p : vL g 69 8 v) : Fok g 3 1 v := ⟨by decide, p⟩
theorem p_3_1 {g : GS} {a : Nat} {v : Value} (hr : g.1 a = 3) (p : vL g 69 8 v) : Fok g (g.1 a) 1 v := fk hr ⟨by decide, p⟩
theorem f_3_2 {g : GS} {a : Nat} (h : Inv g) (hr : g.1 a = 3) : vL g 70 8 (g.2.1 a 2) := (h.f hr 2).2
theorem q_3_2 {g : GS} {v : Value} (p : vL g 70 8 v) : Fok g 3 2 v := ⟨by decide, p⟩
theorem p_3_2 {g : GS} {a : Nat} {v : Value} (hr : g.1 a = 3) (p : vL g 70 8 v) : Fok g (g.1 a) 2 v := fk hr ⟨by decide, p⟩
theorem f_3_3 {g : GS} {a : Nat} (h : Inv g) (hr : g.1 a = 3) : vI 0 8 (g.2.1 a 3) := (h.f hr 3)
theorem q_3_3 {g : GS} {v : Value} (p : vI 0 8 v) : Fok g 3 3 v := p
theorem p_3_3 {g : GS} {a : Nat} {v : Value} (hr : g.1 a = 3) (p : vI 0 8 v) : Fok g (g.1 a) 3 v := fk hr p
theorem f_4_0 {g : GS} {a : Nat} (h : Inv g) (hr : g.1 a = 4) : vR g 3 (g.2.1 a 0) := (h.f hr 0).2
theorem q_4_0 {g : GS} {v : Value} (p : vR g 3 v) : Fok g 4 0 v := ⟨by decide, p⟩
theorem p_4_0 {g : GS} {a : Nat} {v : Value} (hr : g.1 a = 4) (p : vR g 3 v) : Fok g (g.1 a) 0 v := fk hr ⟨by decide, p⟩
theorem f_4_1 {g : GS} {a : Nat} (h : Inv g) (hr : g.1 a = 4) : vL g 50 4 (g.2.1 a 1) := (h.f hr 1).2
theorem q_4_1 {g : GS} {v : Value} (p : vL g 50 4 v) : Fok g 4 1 v := ⟨by decide, p⟩
theorem p_4_1 {g : GS} {a : Nat} {v : Value} (hr : g.1 a = 4) (p : vL g 50 4 v) : Fok g (g.1 a) 1 v := fk hr ⟨by decide, p⟩
theorem f_4_2 {g : GS} {a : Nat} (h : Inv g) (hr : g.1 a = 4) : vA (g.2.1 a 2) := (h.f hr 2)
theorem q_4_2 {g : GS} {v : Value} (p : vA v) : Fok g 4 2 v := p
theorem p_4_2 {g : GS} {a : Nat} {v : Value} (hr : g.1 a = 4) (p : vA v) : Fok g (g.1 a) 2 v := fk hr p
theorem f_4_3 {g : GS} {a : Nat} (h : Inv g) (hr : g.1 a = 4) : vA (g.2.1 a 3) := (h.f hr 3)
theorem q_4_3 {g : GS} {v : Value} (p : vA v) : Fok g 4 3 v := p
theorem p_4_3 {g : GS} {a : Nat} {v : Value} (hr : g.1 a = 4) (p : vA v) : Fok g (g.1 a) 3 v := fk hr p
theorem f_4_4 {g : GS} {a : Nat} (h : Inv g) (hr : g.1 a = 4) : vA (g.2.1 a 4) := (h.f hr 4)
theorem q_4_4 {g : GS} {v : Value} (p : vA v) : Fok g 4 4 v := p
theorem p_4_4 {g : GS} {a : Nat} {v : Value} (hr : g.1 a = 4) (p : vA v) : Fok g (g.1 a) 4 v := fk hr p
theorem f_4_5 {g : GS} {a : Nat} (h : Inv g) (hr : g.1 a = 4) : vI 0 16 (g.2.1 a 5) := (h.f hr 5)
theorem q_4_5 {g : GS} {v : Value} (p : vI 0 16 v) : Fok g 4 5 v := p
theorem p_4_5 {g : GS} {a : Nat} {v : Value} (hr : g.1 a = 4) (p : vI 0 16 v) : Fok g (g.1 a) 5 v := fk hr p
theorem f_4_6 {g : GS} {a : Nat} (h : Inv g) (hr : g.1 a = 4) : vL g 50 16 (g.2.1 a 6) := (h.f hr 6).2
theorem q_4_6 {g : GS} {v : Value} (p : vL g 50 16 v) : Fok g 4 6 v := ⟨by decide, p⟩
theorem p_4_6 {g : GS} {a : Nat} {v : Value} (hr : g.1 a = 4) (p : vL g 50 16 v) : Fok g (g.1 a) 6 v := fk hr ⟨by decide, p⟩
theorem f_4_7 {g : GS} {a : Nat} (h : Inv g) (hr : g.1 a = 4) : vL g 50 16 (g.2.1 a 7) := (h.f hr 7).2
theorem q_4_7 {g : GS} {v : Value} (p : vL g 50 16 v) : Fok g 4 7 v := ⟨by decide, p⟩
theorem p_4_7 {g : GS} {a : Nat} {v : Value} (hr : g.1 a = 4) (p : vL g 50 16 v) : Fok g (g.1 a) 7 v := fk hr ⟨by decide, p⟩
theorem f_4_8 {g : GS} {a : Nat} (h : Inv g) (hr : g.1 a = 4) : vL g 50 16 (g.2.1 a 8) := (h.f hr 8).2
theorem q_4_8 {g : GS} {v : Value} (p : vL g 50 16 v) : Fok g 4 8 v := ⟨by decide, p⟩
theorem p_4_8 {g : GS} {a : Nat} {v : Value} (hr : g.1 a = 4) (p : vL g 50 16 v) : Fok g (g.1 a) 8 v := fk hr ⟨by decide, p⟩
theorem f_4_9 {g : GS} {a : Nat} (h : Inv g) (hr : g.1 a = 4) : vL g 50 16 (g.2.1 a 9) := (h.f hr 9).2
theorem q_4_9 {g : GS} {v : Value} (p : vL g 50 16 v) : Fok g 4 9 v := ⟨by decide, p⟩
theorem p_4_9 {g : GS} {a : Nat} {v : Value} (hr : g.1 a = 4) (p : vL g 50 16 v) : Fok g (g.1 a) 9 v := fk hr ⟨by decide, p⟩
theorem f_4_10 {g : GS} {a : Nat} (h : Inv g) (hr : g.1 a = 4) : vA (g.2.1 a 10) := (h.f hr 10)
theorem q_4_10 {g : GS} {v : Value} (p : vA v) : Fok g 4 10 v := p
theorem p_4_10 {g : GS} {a : Nat} {v : Value} (hr : g.1 a = 4) (p : vA v) : Fok g (g.1 a) 10 v := fk hr p
theorem f_4_11 {g : GS} {a : Nat} (h : Inv g) (hr : g.1 a = 4) : vA (g.2.1 a 11) := (h.f hr 11)
theorem q_4_11 {g : GS} {v : Value} (p : vA v) : Fok g 4 11 v := p
theorem p_4_11 {g : GS} {a : Nat} {v : Value} (hr : g.1 a = 4) (p : vA v) : Fok g (g.1 a) 11 v := fk hr p
theorem f_4_12 {g : GS} {a : Nat} (h : Inv g) (hr : g.1 a = 4) : vL g 50 8 (g.2.1 a 12) := (h.f hr 12).2
theorem q_4_12 {g : GS} {v : Value} (p : vL g 50 8 v) : Fok g 4 12 v := ⟨by decide, p⟩
theorem p_4_12 {g : GS} {a : Nat} {v : Value} (hr : g.1 a = 4) (p : vL g 50 8 v) : Fok g (g.1 a) 12 v := fk hr ⟨by decide, p⟩
theorem f_4_13 {g : GS} {a : Nat} (h : Inv g) (hr : g.1 a = 4) : vL g 50 8 (g.2.1 a 13) := (h.f hr 13).2
theorem q_4_13 {g : GS} {v : Value} (p : vL g 50 8 v) : Fok g 4 13 v := ⟨by decide, p⟩
theorem p_4_13 {g : GS} {a : Nat} {v : Value} (hr : g.1 a = 4) (p : vL g 50 8 v) : Fok g (g.1 a) 13 v := fk hr ⟨by decide, p⟩
theorem f_4_14 {g : GS} {a : Nat} (h : Inv g) (hr : g.1 a = 4) : vI 0 1 (g.2.1 a 14) := (h.f hr 14)
theorem q_4_14 {g : GS} {v : Value} (p : vI 0 1 v) : Fok g 4 14 v := p
theorem p_4_14 {g : GS} {a : Nat} {v : Value} (hr : g.1 a = 4) (p : vI 0 1 v) : Fok g (g.1 a) 14 v := fk hr p
theorem f_5_0 {g : GS} {a : Nat} (h : Inv g) (hr : g.1 a = 5) : vL g 67 100 (g.2.1 a 0) := (h.f hr 0).2
theorem q_5_0 {g : GS} {v : Value} (p : vL g 67 100 v) : Fok g 5 0 v := ⟨by decide, p⟩
theorem p_5_0 {g : GS} {a : Nat} {v : Value} (hr : g.1 a = 5) (p : vL g 67 100 v) : Fok g (g.1 a) 0 v := fk hr ⟨by decide, p⟩
theorem f_5_1 {g : GS} {a : Nat} (h : Inv g) (hr : g.1 a = 5) : vI 0 100 (g.2.1 a 1) := (h.f hr 1)
theorem q_5_1 {g : GS} {v : Value} (p : vI 0 100 v) : Fok g 5 1 v := p
theorem p_5_1 {g : GS} {a : Nat} {v : Value} (hr : g.1 a = 5) (p : vI 0 100 v) : Fok g (g.1 a) 1 v := fk hr p
theorem f_5_2 {g : GS} {a : Nat} (h : Inv g) (hr : g.1 a = 5) : vA (g.2.1 a 2) := (h.f hr 2)
theorem q_5_2 {g : GS} {v : Value} (p : vA v) : Fok g 5 2 v := p
theorem p_5_2 {g : GS} {a : Nat} {v : Value} (hr : g.1 a = 5) (p : vA v) : Fok g (g.1 a) 2 v := fk hr p
theorem f_5_3 {g : GS} {a : Nat} (h : Inv g) (hr : g.1 a = 5) : vA (g.2.1 a 3) := (h.f hr 3)
theorem q_5_3 {g : GS} {v : Value} (p : vA v) : Fok g 5 3 v := p
theorem p_5_3 {g : GS} {a : Nat} {v : Value} (hr : g.1 a = 5) (p : vA v) : Fok g (g.1 a) 3 v := fk hr p
theorem f_6_0 {g : GS} {a : Nat} (h : Inv g) (hr : g.1 a = 6) : vL g 41 6 (g.2.1 a 0) := (h.f hr 0).2
theorem q_6_0 {g : GS} {v : Value} (p : vL g 41 6 v) : Fok g 6 0 v := ⟨by decide, p⟩
theorem p_6_0 {g : GS} {a : Nat} {v : Value} (hr : g.1 a = 6) (p : vL g 41 6 v) : Fok g (g.1 a) 0 v := fk hr ⟨by decide, p⟩
theorem f_6_1 {g : GS} {a : Nat} (h : Inv g) (hr : g.1 a = 6) : vI 0 6 (g.2.1 a 1) := (h.f hr 1)
theorem q_6_1 {g : GS} {v : Value} (p : vI 0 6 v) : Fok g 6 1 v := p
theorem p_6_1 {g : GS} {a : Nat} {v : Value} (hr : g.1 a = 6) (p : vI 0 6 v) : Fok g (g.1 a) 1 v := fk hr p
theorem f_6_2 {g : GS} {a : Nat} (h : Inv g) (hr : g.1 a = 6) : vA (g.2.1 a 2) := (h.f hr 2)
theorem q_6_2 {g : GS} {v : Value} (p : vA v) : Fok g 6 2 v := p
theorem p_6_2 {g : GS} {a : Nat} {v : Value} (hr : g.1 a = 6) (p : vA v) : Fok g (g.1 a) 2 v := fk hr p
theorem f_6_3 {g : GS} {a : Nat} (h : Inv g) (hr : g.1 a = 6) : vL g 50 512 (g.2.1 a 3) := (h.f hr 3).2
theorem q_6_3 {g : GS} {v : Value} (p : vL g 50 512 v) : Fok g 6 3 v := ⟨by decide, p⟩
theorem p_6_3 {g : GS} {a : Nat} {v : Value} (hr : g.1 a = 6) (p : vL g 50 512 v) : Fok g (g.1 a) 3 v := fk hr ⟨by decide, p⟩
theorem f_6_4 {g : GS} {a : Nat} (h : Inv g) (hr : g.1 a = 6) : vA (g.2.1 a 4) := (h.f hr 4)
theorem q_6_4 {g : GS} {v : Value} (p : vA v) : Fok g 6 4 v := p
theorem p_6_4 {g : GS} {a : Nat} {v : Value} (hr : g.1 a = 6) (p : vA v) : Fok g (g.1 a) 4 v := fk hr p
theorem f_6_5 {g : GS} {a : Nat} (h : Inv g) (hr : g.1 a = 6) : vA (g.2.1 a 5) := (h.f hr 5)
theorem q_6_5 {g : GS} {v : Value} (p : vA v) : Fok g 6 5 v := p
theorem p_6_5 {g : GS} {a : Nat} {v : Value} (hr : g.1 a = 6) (p : vA v) : Fok g (g.1 a) 5 v := fk hr p
theorem f_6_6 {g : GS} {a : Nat} (h : Inv g) (hr : g.1 a = 6) : vA (g.2.1 a 6) := (h.f hr 6)
theorem q_6_6 {g : GS} {v : Value} (p : vA v) : Fok g 6 6 v := p
theorem p_6_6 {g : GS} {a : Nat} {v : Value} (hr : g.1 a = 6) (p : vA v) : Fok g (g.1 a) 6 v := fk hr p
theorem f_6_7 {g : GS} {a : Nat} (h : Inv g) (hr : g.1 a = 6) : vI 0 1 (g.2.1 a 7) := (h.f hr 7)
theorem q_6_7 {g : GS} {v : Value} (p : vI 0 1 v) : Fok g 6 7 v := p
theorem p_6_7 {g : GS} {a : Nat} {v : Value} (hr : g.1 a = 6) (p : vI 0 1 v) : Fok g (g.1 a) 7 v := fk hr p
theorem f_7_0 {g : GS} {a : Nat} (h : Inv g) (hr : g.1 a = 7) : vR g 5 (g.2.1 a 0) := (h.f hr 0).2
theorem q_7_0 {g : GS} {v : Value} (p : vR g 5 v) : Fok g 7 0 v := ⟨by decide, p⟩
theorem p_7_0 {g : GS} {a : Nat} {v : Value} (hr : g.1 a = 7) (p : vR g 5 v) : Fok g (g.1 a) 0 v := fk hr ⟨by decide, p⟩
theorem f_7_1 {g : GS} {a : Nat} (h : Inv g) (hr : g.1 a = 7) : vR g 19 (g.2.1 a 1) := (h.f hr 1).2
theorem q_7_1 {g : GS} {v : Value} (p : vR g 19 v) : Fok g 7 1 v := ⟨by decide, p⟩
theorem p_7_1 {g : GS} {a : Nat} {v : Value} (hr : g.1 a = 7) (p : vR g 19 v) : Fok g (g.1 a) 1 v := fk hr ⟨by decide, p⟩
theorem f_7_2 {g : GS} {a : Nat} (h : Inv g) (hr : g.1 a = 7) : vR g 1 (g.2.1 a 2) := (h.f hr 2).2
theorem q_7_2 {g : GS} {v : Value} (p : vR g 1 v) : Fok g 7 2 v := ⟨by decide, p⟩
theorem p_7_2 {g : GS} {a : Nat} {v : Value} (hr : g.1 a = 7) (p : vR g 1 v) : Fok g (g.1 a) 2 v := fk hr ⟨by decide, p⟩
theorem f_7_3 {g : GS} {a : Nat} (h : Inv g) (hr : g.1 a = 7) : vR g 9 (g.2.1 a 3) := (h.f hr 3).2
theorem q_7_3 {g : GS} {v : Value} (p : vR g 9 v) : Fok g 7 3 v := ⟨by decide, p⟩
theorem p_7_3 {g : GS} {a : Nat} {v : Value} (hr : g.1 a = 7) (p : vR g 9 v) : Fok g (g.1 a) 3 v := fk hr ⟨by decide, p⟩
theorem f_7_4 {g : GS} {a : Nat} (h : Inv g) (hr : g.1 a = 7) : vR g 2 (g.2.1 a 4) := (h.f hr 4).2
theorem q_7_4 {g : GS} {v : Value} (p : vR g 2 v) : Fok g 7 4 v := ⟨by decide, p⟩
theorem p_7_4 {g : GS} {a : Nat} {v : Value} (hr : g.1 a = 7) (p : vR g 2 v) : Fok g (g.1 a) 4 v := fk hr ⟨by decide, p⟩
theorem f_7_5 {g : GS} {a : Nat} (h : Inv g) (hr : g.1 a = 7) : vL g 60 4 (g.2.1 a 5) := (h.f hr 5).2
theorem q_7_5 {g : GS} {v : Value} (p : vL g 60 4 v) : Fok g 7 5 v := ⟨by decide, p⟩
theorem p_7_5 {g : GS} {a : Nat} {v : Value} (hr : g.1 a = 7) (p : vL g 60 4 v) : Fok g (g.1 a) 5 v := fk hr ⟨by decide, p⟩
theorem f_7_6 {g : GS} {a : Nat} (h : Inv g) (hr : g.1 a = 7) : vI 0 1 (g.2.1 a 6) := (h.f hr 6)
theorem q_7_6 {g : GS} {v : Value} (p : vI 0 1 v) : Fok g 7 6 v := p
theorem p_7_6 {g : GS} {a : Nat} {v : Value} (hr : g.1 a = 7) (p : vI 0 1 v) : Fok g (g.1 a) 6 v := fk hr p
theorem f_8_0 {g : GS} {a : Nat} (h : Inv g) (hr : g.1 a = 8) : vI 0 6 (g.2.1 a 0) := (h.f hr 0)
theorem q_8_0 {g : GS} {v : Value} (p : vI 0 6 v) : Fok g 8 0 v := p
theorem p_8_0 {g : GS} {a : Nat} {v : Value} (hr : g.1 a = 8) (p : vI 0 6 v) : Fok g (g.1 a) 0 v := fk hr p
theorem f_8_1 {g : GS} {a : Nat} (h : Inv g) (hr : g.1 a = 8) : vL g 88 6 (g.2.1 a 1) := (h.f hr 1).2
theorem q_8_1 {g : GS} {v : Value} (p : vL g 88 6 v) : Fok g 8 1 v := ⟨by decide, p⟩
theorem p_8_1 {g : GS} {a : Nat} {v : Value} (hr : g.1 a = 8) (p : vL g 88 6 v) : Fok g (g.1 a) 1 v := fk hr ⟨by decide, p⟩
theorem f_8_2 {g : GS} {a : Nat} (h : Inv g) (hr : g.1 a = 8) : vL g 71 48 (g.2.1 a 2) := (h.f hr 2).2
theorem q_8_2 {g : GS} {v : Value} (p : vL g 71 48 v) : Fok g 8 2 v := ⟨by decide, p⟩
theorem p_8_2 {g : GS} {a : Nat} {v : Value} (hr : g.1 a = 8) (p : vL g 71 48 v) : Fok g (g.1 a) 2 v := fk hr ⟨by decide, p⟩
theorem f_8_3 {g : GS} {a : Nat} (h : Inv g) (hr : g.1 a = 8) : vL g 72 48 (g.2.1 a 3) := (h.f hr 3).2
theorem q_8_3 {g : GS} {v : Value} (p : vL g 72 48 v) : Fok g 8 3 v := ⟨by decide, p⟩
theorem p_8_3 {g : GS} {a : Nat} {v : Value} (hr : g.1 a = 8) (p : vL g 72 48 v) : Fok g (g.1 a) 3 v := fk hr ⟨by decide, p⟩
theorem f_8_4 {g : GS} {a : Nat} (h : Inv g) (hr : g.1 a = 8) : vL g 73 48 (g.2.1 a 4) := (h.f hr 4).2
theorem q_8_4 {g : GS} {v : Value} (p : vL g 73 48 v) : Fok g 8 4 v := ⟨by decide, p⟩
theorem p_8_4 {g : GS} {a : Nat} {v : Value} (hr : g.1 a = 8) (p : vL g 73 48 v) : Fok g (g.1 a) 4 v := fk hr ⟨by decide, p⟩
theorem f_8_5 {g : GS} {a : Nat} (h : Inv g) (hr : g.1 a = 8) : vL g 74 6 (g.2.1 a 5) := (h.f hr 5).2
theorem q_8_5 {g : GS} {v : Value} (p : vL g 74 6 v) : Fok g 8 5 v := ⟨by decide, p⟩
theorem p_8_5 {g : GS} {a : Nat} {v : Value} (hr : g.1 a = 8) (p : vL g 74 6 v) : Fok g (g.1 a) 5 v := fk hr ⟨by decide, p⟩
theorem f_8_6 {g : GS} {a : Nat} (h : Inv g) (hr : g.1 a = 8) : vL g 75 6 (g.2.1 a 6) := (h.f hr 6).2
theorem q_8_6 {g : GS} {v : Value} (p : vL g 75 6 v) : Fok g 8 6 v := ⟨by decide, p⟩
theorem p_8_6 {g : GS} {a : Nat} {v : Value} (hr : g.1 a = 8) (p : vL g 75 6 v) : Fok g (g.1 a) 6 v := fk hr ⟨by decide, p⟩
theorem f_8_7 {g : GS} {a : Nat} (h : Inv g) (hr : g.1 a = 8) : vL g 56 48 (g.2.1 a 7) := (h.f hr 7).2
theorem q_8_7 {g : GS} {v : Value} (p : vL g 56 48 v) : Fok g 8 7 v := ⟨by decide, p⟩
theorem p_8_7 {g : GS} {a : Nat} {v : Value} (hr : g.1 a = 8) (p : vL g 56 48 v) : Fok g (g.1 a) 7 v := fk hr ⟨by decide, p⟩
theorem f_8_8 {g : GS} {a : Nat} (h : Inv g) (hr : g.1 a = 8) : vL g 56 12 (g.2.1 a 8) := (h.f hr 8).2
theorem q_8_8 {g : GS} {v : Value} (p : vL g 56 12 v) : Fok g 8 8 v := ⟨by decide, p⟩
theorem p_8_8 {g : GS} {a : Nat} {v : Value} (hr : g.1 a = 8) (p : vL g 56 12 v) : Fok g (g.1 a) 8 v := fk hr ⟨by decide, p⟩
theorem f_8_9 {g : GS} {a : Nat} (h : Inv g) (hr : g.1 a = 8) : vL g 54 12 (g.2.1 a 9) := (h.f hr 9).2
theorem q_8_9 {g : GS} {v : Value} (p : vL g 54 12 v) : Fok g 8 9 v := ⟨by decide, p⟩
theorem p_8_9 {g : GS} {a : Nat} {v : Value} (hr : g.1 a = 8) (p : vL g 54 12 v) : Fok g (g.1 a) 9 v := fk hr ⟨by decide, p⟩
theorem f_8_10 {g : GS} {a : Nat} (h : Inv g) (hr : g.1 a = 8) : vL g 50 192 (g.2.1 a 10) := (h.f hr 10).2
theorem q_8_10 {g : GS} {v : Value} (p : vL g 50 192 v) : Fok g 8 10 v := ⟨by decide, p⟩
theorem p_8_10 {g : GS} {a : Nat} {v : Value} (hr : g.1 a = 8) (p : vL g 50 192 v) : Fok g (g.1 a) 10 v := fk hr ⟨by decide, p⟩
theorem f_8_11 {g : GS} {a : Nat} (h : Inv g) (hr : g.1 a = 8) : vL g 50 192 (g.2.1 a 11) := (h.f hr 11).2
theorem q_8_11 {g : GS} {v : Value} (p : vL g 50 192 v) : Fok g 8 11 v := ⟨by decide, p⟩
theorem p_8_11 {g : GS} {a : Nat} {v : Value} (hr : g.1 a = 8) (p : vL g 50 192 v) : Fok g (g.1 a) 11 v := fk hr ⟨by decide, p⟩
theorem f_8_12 {g : GS} {a : Nat} (h : Inv g) (hr : g.1 a = 8) : vL g 58 192 (g.2.1 a 12) := (h.f hr 12).2
theorem q_8_12 {g : GS} {v : Value} (p : vL g 58 192 v) : Fok g 8 12 v := ⟨by decide, p⟩
theorem p_8_12 {g : GS} {a : Nat} {v : Value} (hr : g.1 a = 8) (p : vL g 58 192 v) : Fok g (g.1 a) 12 v := fk hr ⟨by decide, p⟩
theorem f_8_13 {g : GS} {a : Nat} (h : Inv g) (hr : g.1 a = 8) : vL g 50 192 (g.2.1 a 13) := (h.f hr 13).2
theorem q_8_13 {g : GS} {v : Value} (p : vL g 50 192 v) : Fok g 8 13 v := ⟨by decide, p⟩
theorem p_8_13 {g : GS} {a : Nat} {v : Value} (hr : g.1 a = 8) (p : vL g 50 192 v) : Fok g (g.1 a) 13 v := fk hr ⟨by decide, p⟩
theorem f_8_14 {g : GS} {a : Nat} (h : Inv g) (hr : g.1 a = 8) : vL g 50 2 (g.2.1 a 14) := (h.f hr 14).2
theorem q_8_14 {g : GS} {v : Value} (p : vL g 50 2 v) : Fok g 8 14 v := ⟨by decide, p⟩
theorem p_8_14 {g : GS} {a : Nat} {v : Value} (hr : g.1 a = 8) (p : vL g 50 2 v) : Fok g (g.1 a) 14 v := fk hr ⟨by decide, p⟩
theorem f_8_15 {g : GS} {a : Nat} (h : Inv g) (hr : g.1 a = 8) : vL g 50 12 (g.2.1 a 15) := (h.f hr 15).2
theorem q_8_15 {g : GS} {v : Value} (p : vL g 50 12 v) : Fok g 8 15 v := ⟨by decide, p⟩
theorem p_8_15 {g : GS} {a : Nat} {v : Value} (hr : g.1 a = 8) (p : vL g 50 12 v) : Fok g (g.1 a) 15 v := fk hr ⟨by decide, p⟩
theorem f_8_16 {g : GS} {a : Nat} (h : Inv g) (hr : g.1 a = 8) : vL g 50 12 (g.2.1 a 16) := (h.f hr 16).2
theorem q_8_16 {g : GS} {v : Value} (p : vL g 50 12 v) : Fok g 8 16 v := ⟨by decide, p⟩
theorem p_8_16 {g : GS} {a : Nat} {v : Value} (hr : g.1 a = 8) (p : vL g 50 12 v) : Fok g (g.1 a) 16 v := fk hr ⟨by decide, p⟩
theorem f_8_17 {g : GS} {a : Nat} (h : Inv g) (hr : g.1 a = 8) : vL g 50 96 (g.2.1 a 17) := (h.f hr 17).2
theorem q_8_17 {g : GS} {v : Value} (p : vL g 50 96 v) : Fok g 8 17 v := ⟨by decide, p⟩
theorem p_8_17 {g : GS} {a : Nat} {v : Value} (hr : g.1 a = 8) (p : vL g 50 96 v) : Fok g (g.1 a) 17 v := fk hr ⟨by decide, p⟩
theorem f_8_18 {g : GS} {a : Nat} (h : Inv g) (hr : g.1 a = 8) : vL g 50 96 (g.2.1 a 18) := (h.f hr 18).2
theorem q_8_18 {g : GS} {v : Value} (p : vL g 50 96 v) : Fok g 8 18 v := ⟨by decide, p⟩
theorem p_8_18 {g : GS} {a : Nat} {v : Value} (hr : g.1 a = 8) (p : vL g 50 96 v) : Fok g (g.1 a) 18 v := fk hr ⟨by decide, p⟩
theorem f_8_19 {g : GS} {a : Nat} (h : Inv g) (hr : g.1 a = 8) : vL g 50 96 (g.2.1 a 19) := (h.f hr 19).2
theorem q_8_19 {g : GS} {v : Value} (p : vL g 50 96 v) : Fok g 8 19 v := ⟨by decide, p⟩
theorem p_8_19 {g : GS} {a : Nat} {v : Value} (hr : g.1 a = 8) (p : vL g 50 96 v) : Fok g (g.1 a) 19 v := fk hr ⟨by decide, p⟩
theorem f_8_20 {g : GS} {a : Nat} (h : Inv g) (hr : g.1 a = 8) : vL g 40 12 (g.2.1 a 20) := (h.f hr 20).2
theorem q_8_20 {g : GS} {v : Value} (p : vL g 40 12 v) : Fok g 8 20 v := ⟨by decide, p⟩
theorem p_8_20 {g : GS} {a : Nat} {v : Value} (hr : g.1 a = 8) (p : vL g 40 12 v) : Fok g (g.1 a) 20 v := fk hr ⟨by decide, p⟩
theorem f_8_21 {g : GS} {a : Nat} (h : Inv g) (hr : g.1 a = 8) : vI 0 1 (g.2.1 a 21) := (h.f hr 21)
theorem q_8_21 {g : GS} {v : Value} (p : vI 0 1 v) : Fok g 8 21 v := p
theorem p_8_21 {g : GS} {a : Nat} {v : Value} (hr : g.1 a = 8) (p : vI 0 1 v) : Fok g (g.1 a) 21 v := fk hr p
theorem f_8_22 {g : GS} {a : Nat} (h : Inv g) (hr : g.1 a = 8) : vA (g.2.1 a 22) := (h.f hr 22)
theorem q_8_22 {g : GS} {v : Value} (p : vA v) : Fok g 8 22 v := p
theorem p_8_22 {g : GS} {a : Nat} {v : Value} (hr : g.1 a = 8) (p : vA v) : Fok g (g.1 a) 22 v := fk hr p
theorem f_8_23 {g : GS} {a : Nat} (h : Inv g) (hr : g.1 a = 8) : vL g 50 40 (g.2.1 a 23) := (h.f hr 23).2
theorem q_8_23 {g : GS} {v : Value} (p : vL g 50 40 v) : Fok g 8 23 v := ⟨by decide, p⟩
theorem p_8_23 {g : GS} {a : Nat} {v : Value} (hr : g.1 a = 8) (p : vL g 50 40 v) : Fok g (g.1 a) 23 v := fk hr ⟨by decide, p⟩
theorem f_8_24 {g : GS} {a : Nat} (h : Inv g) (hr : g.1 a = 8) : vI 0 20 (g.2.1 a 24) := (h.f hr 24)
theorem q_8_24 {g : GS} {v : Value} (p : vI 0 20 v) : Fok g 8 24 v := p
theorem p_8_24 {g : GS} {a : Nat} {v : Value} (hr : g.1 a = 8) (p : vI 0 20 v) : Fok g (g.1 a) 24 v := fk hr p
theorem f_8_25 {g : GS} {a : Nat} (h : Inv g) (hr : g.1 a = 8) : vL g 76 20 (g.2.1 a 25) := (h.f hr 25).2
theorem q_8_25 {g : GS} {v : Value} (p : vL g 76 20 v) : Fok g 8 25 v := ⟨by decide, p⟩
theorem p_8_25 {g : GS} {a : Nat} {v : Value} (hr : g.1 a = 8) (p : vL g 76 20 v) : Fok g (g.1 a) 25 v := fk hr ⟨by decide, p⟩
theorem f_8_26 {g : GS} {a : Nat} (h : Inv g) (hr : g.1 a = 8) : vL g 77 20 (g.2.1 a 26) := (h.f hr 26).2
theorem q_8_26 {g : GS} {v : Value} (p : vL g 77 20 v) : Fok g 8 26 v := ⟨by decide, p⟩
theorem p_8_26 {g : GS} {a : Nat} {v : Value} (hr : g.1 a = 8) (p : vL g 77 20 v) : Fok g (g.1 a) 26 v := fk hr ⟨by decide, p⟩
theorem f_8_27 {g : GS} {a : Nat} (h : Inv g) (hr : g.1 a = 8) : vL g 78 20 (g.2.1 a 27) := (h.f hr 27).2
theorem q_8_27 {g : GS} {v : Value} (p : vL g 78 20 v) : Fok g 8 27 v := ⟨by decide, p⟩
theorem p_8_27 {g : GS} {a : Nat} {v : Value} (hr : g.1 a = 8) (p : vL g 78 20 v) : Fok g (g.1 a) 27 v := fk hr ⟨by decide, p⟩
theorem f_8_28 {g : GS} {a : Nat} (h : Inv g) (hr : g.1 a = 8) : vL g 79 100 (g.2.1 a 28) := (h.f hr 28).2
theorem q_8_28 {g : GS} {v : Value} (p : vL g 79 100 v) : Fok g 8 28 v := ⟨by decide, p⟩
theorem p_8_28 {g : GS} {a : Nat} {v : Value} (hr : g.1 a = 8) (p : vL g 79 100 v) : Fok g (g.1 a) 28 v := fk hr ⟨by decide, p⟩
theorem f_8_29 {g : GS} {a : Nat} (h : Inv g) (hr : g.1 a = 8) : vI 0 100 (g.2.1 a 29) := (h.f hr 29)
theorem q_8_29 {g : GS} {v : Value} (p : vI 0 100 v) : Fok g 8 29 v := p
theorem p_8_29 {g : GS} {a : Nat} {v : Value} (hr : g.1 a = 8) (p : vI 0 100 v) : Fok g (g.1 a) 29 v := fk hr p
theorem f_8_30 {g : GS} {a : Nat} (h : Inv g) (hr : g.1 a = 8) : vI 0 6 (g.2.1 a 30) := (h.f hr 30)
theorem q_8_30 {g : GS} {v : Value} (p : vI 0 6 v) : Fok g 8 30 v := p
theorem p_8_30 {g : GS} {a : Nat} {v : Value} (hr : g.1 a = 8) (p : vI 0 6 v) : Fok g (g.1 a) 30 v := fk hr p
theorem f_8_31 {g : GS} {a : Nat} (h : Inv g) (hr : g.1 a = 8) : vL g 80 6 (g.2.1 a 31) := (h.f hr 31).2
theorem q_8_31 {g : GS} {v : Value} (p : vL g 80 6 v) : Fok g 8 31 v := ⟨by decide, p⟩
theorem p_8_31 {g : GS} {a : Nat} {v : Value} (hr : g.1 a = 8) (p : vL g 80 6 v) : Fok g (g.1 a) 31 v := fk hr ⟨by decide, p⟩
theorem f_8_32 {g : GS} {a : Nat} (h : Inv g) (hr : g.1 a = 8) : vL g 81 6 (g.2.1 a 32) := (h.f hr 32).2
theorem q_8_32 {g : GS} {v : Value} (p : vL g 81 6 v) : Fok g 8 32 v := ⟨by decide, p⟩
theorem p_8_32 {g : GS} {a : Nat} {v : Value} (hr : g.1 a = 8) (p : vL g 81 6 v) : Fok g (g.1 a) 32 v := fk hr ⟨by decide, p⟩
theorem f_8_33 {g : GS} {a : Nat} (h : Inv g) (hr : g.1 a = 8) : vL g 82 6 (g.2.1 a 33) := (h.f hr 33).2
theorem q_8_33 {g : GS} {v : Value} (p : vL g 82 6 v) : Fok g 8 33 v := ⟨by decide, p⟩
theorem p_8_33 {g : GS} {a : Nat} {v : Value} (hr : g.1 a = 8) (p : vL g 82 6 v) : Fok g (g.1 a) 33 v := fk hr ⟨by decide, p⟩
theorem f_8_34 {g : GS} {a : Nat} (h : Inv g) (hr : g.1 a = 8) : vI 0 1 (g.2.1 a 34) := (h.f hr 34)
theorem q_8_34 {g : GS} {v : Value} (p : vI 0 1 v) : Fok g 8 34 v := p
theorem p_8_34 {g : GS} {a : Nat} {v : Value} (hr : g.1 a = 8) (p : vI 0 1 v) : Fok g (g.1 a) 34 v := fk hr p
theorem f_8_35 {g : GS} {a : Nat} (h : Inv g) (hr : g.1 a = 8) : vL g 83 4 (g.2.1 a 35) := (h.f hr 35).2
theorem q_8_35 {g : GS} {v : Value} (p : vL g 83 4 v) : Fok g 8 35 v := ⟨by decide, p⟩
theorem p_8_35 {g : GS} {a : Nat} {v : Value} (hr : g.1 a = 8) (p : vL g 83 4 v) : Fok g (g.1 a) 35 v := fk hr ⟨by decide, p⟩
theorem f_8_36 {g : GS} {a : Nat} (h : Inv g) (hr : g.1 a = 8) : vI 0 100 (g.2.1 a 36) := (h.f hr 36)
theorem q_8_36 {g : GS} {v : Value} (p : vI 0 100 v) : Fok g 8 36 v := p
theorem p_8_36 {g : GS} {a : Nat} {v : Value} (hr : g.1 a = 8) (p : vI 0 100 v) : Fok g (g.1 a) 36 v := fk hr p
theorem f_8_37 {g : GS} {a : Nat} (h : Inv g) (hr : g.1 a = 8) : vI 0 1 (g.2.1 a 37) := (h.f hr 37)
theorem q_8_37 {g : GS} {v : Value} (p : vI 0 1 v) : Fok g 8 37 v := p
theorem p_8_37 {g : GS} {a : Nat} {v : Value} (hr : g.1 a = 8) (p : vI 0 1 v) : Fok g (g.1 a) 37 v := fk hr p
theorem f_8_38 {g : GS} {a : Nat} (h : Inv g) (hr : g.1 a = 8) : vI 0 8 (g.2.1 a 38) := (h.f hr 38)
theorem q_8_38 {g : GS} {v : Value} (p : vI 0 8 v) : Fok g 8 38 v := p
theorem p_8_38 {g : GS} {a : Nat} {v : Value} (hr : g.1 a = 8) (p : vI 0 8 v) : Fok g (g.1 a) 38 v := fk hr p
theorem f_8_39 {g : GS} {a : Nat} (h : Inv g) (hr : g.1 a = 8) : vL g 84 8 (g.2.1 a 39) := (h.f hr 39).2
theorem q_8_39 {g : GS} {v : Value} (p : vL g 84 8 v) : Fok g 8 39 v := ⟨by decide, p⟩
theorem p_8_39 {g : GS} {a : Nat} {v : Value} (hr : g.1 a = 8) (p : vL g 84 8 v) : Fok g (g.1 a) 39 v := fk hr ⟨by decide, p⟩
theorem f_8_40 {g : GS} {a : Nat} (h : Inv g) (hr : g.1 a = 8) : vL g 85 8 (g.2.1 a 40) := (h.f hr 40).2
theorem q_8_40 {g : GS} {v : Value} (p : vL g 85 8 v) : Fok g 8 40 v := ⟨by decide, p⟩
theorem p_8_40 {g : GS} {a : Nat} {v : Value} (hr : g.1 a = 8) (p : vL g 85 8 v) : Fok g (g.1 a) 40 v := fk hr ⟨by decide, p⟩
theorem f_8_41 {g : GS} {a : Nat} (h : Inv g) (hr : g.1 a = 8) : vL g 86 8 (g.2.1 a 41) := (h.f hr 41).2
theorem q_8_41 {g : GS} {v : Value} (p : vL g 86 8 v) : Fok g 8 41 v := ⟨by decide, p⟩
theorem p_8_41 {g : GS} {a : Nat} {v : Value} (hr : g.1 a = 8) (p : vL g 86 8 v) : Fok g (g.1 a) 41 v := fk hr ⟨by decide, p⟩
theorem f_8_42 {g : GS} {a : Nat} (h : Inv g) (hr : g.1 a = 8) : vL g 87 24 (g.2.1 a 42) := (h.f hr 42).2
theorem q_8_42 {g : GS} {v : Value} (p : vL g 87 24 v) : Fok g 8 42 v := ⟨by decide, p⟩
theorem p_8_42 {g : GS} {a : Nat} {v : Value} (hr : g.1 a = 8) (p : vL g 87 24 v) : Fok g (g.1 a) 42 v := fk hr ⟨by decide, p⟩
theorem f_8_43 {g : GS} {a : Nat} (h : Inv g) (hr : g.1 a = 8) : vL g 51 7 (g.2.1 a 43) := (h.f hr 43).2
theorem q_8_43 {g : GS} {v : Value} (p : vL g 51 7 v) : Fok g 8 43 v := ⟨by decide, p⟩
theorem p_8_43 {g : GS} {a : Nat} {v : Value} (hr : g.1 a = 8) (p : vL g 51 7 v) : Fok g (g.1 a) 43 v := fk hr ⟨by decide, p⟩
theorem f_8_44 {g : GS} {a : Nat} (h : Inv g) (hr : g.1 a = 8) : vL g 56 7 (g.2.1 a 44) := (h.f hr 44).2
theorem q_8_44 {g : GS} {v : Value} (p : vL g 56 7 v) : Fok g 8 44 v := ⟨by decide, p⟩
theorem p_8_44 {g : GS} {a : Nat} {v : Value} (hr : g.1 a = 8) (p : vL g 56 7 v) : Fok g (g.1 a) 44 v := fk hr ⟨by decide, p⟩
theorem f_8_45 {g : GS} {a : Nat} (h : Inv g) (hr : g.1 a = 8) : vL g 50 7 (g.2.1 a 45) := (h.f hr 45).2
theorem q_8_45 {g : GS} {v : Value} (p : vL g 50 7 v) : Fok g 8 45 v := ⟨by decide, p⟩
theorem p_8_45 {g : GS} {a : Nat} {v : Value} (hr : g.1 a = 8) (p : vL g 50 7 v) : Fok g (g.1 a) 45 v := fk hr ⟨by decide, p⟩
theorem f_8_46 {g : GS} {a : Nat} (h : Inv g) (hr : g.1 a = 8) : vL g 55 7 (g.2.1 a 46) := (h.f hr 46).2
theorem q_8_46 {g : GS} {v : Value} (p : vL g 55 7 v) : Fok g 8 46 v := ⟨by decide, p⟩
theorem p_8_46 {g : GS} {a : Nat} {v : Value} (hr : g.1 a = 8) (p : vL g 55 7 v) : Fok g (g.1 a) 46 v := fk hr ⟨by decide, p⟩
theorem f_8_47 {g : GS} {a : Nat} (h : Inv g) (hr : g.1 a = 8) : vL g 58 7 (g.2.1 a 47) := (h.f hr 47).2
theorem q_8_47 {g : GS} {v : Value} (p : vL g 58 7 v) : Fok g 8 47 v := ⟨by decide, p⟩
theorem p_8_47 {g : GS} {a : Nat} {v : Value} (hr : g.1 a = 8) (p : vL g 58 7 v) : Fok g (g.1 a) 47 v := fk hr ⟨by decide, p⟩
theorem f_8_48 {g : GS} {a : Nat} (h : Inv g) (hr : g.1 a = 8) : vL g 40 7 (g.2.1 a 48) := (h.f hr 48).2
theorem q_8_48 {g : GS} {v : Value} (p : vL g 40 7 v) : Fok g 8 48 v := ⟨by decide, p⟩
theorem p_8_48 {g : GS} {a : Nat} {v : Value} (hr : g.1 a = 8) (p : vL g 40 7 v) : Fok g (g.1 a) 48 v := fk hr ⟨by decide, p⟩
theorem f_8_49 {g : GS} {a : Nat} (h : Inv g) (hr : g.1 a = 8) : vI 0 6 (g.2.1 a 49) := (h.f hr 49)
theorem q_8_49 {g : GS} {v : Value} (p : vI 0 6 v) : Fok g 8 49 v := p
theorem p_8_49 {g : GS} {a : Nat} {v : Value} (hr : g.1 a = 8) (p : vI 0 6 v) : Fok g (g.1 a) 49 v := fk hr p
theorem f_8_50 {g : GS} {a : Nat} (h : Inv g) (hr : g.1 a = 8) : vA (g.2.1 a 50) := (h.f hr 50)
theorem q_8_50 {g : GS} {v : Value} (p : vA v) : Fok g 8 50 v := p
theorem p_8_50 {g : GS} {a : Nat} {v : Value} (hr : g.1 a = 8) (p : vA v) : Fok g (g.1 a) 50 v := fk hr p
theorem f_8_51 {g : GS} {a : Nat} (h : Inv g) (hr : g.1 a = 8) : vI (-2) 999 (g.2.1 a 51) := (h.f hr 51)
theorem q_8_51 {g : GS} {v : Value} (p : vI (-2) 999 v) : Fok g 8 51 v := p
theorem p_8_51 {g : GS} {a : Nat} {v : Value} (hr : g.1 a = 8) (p : vI (-2) 999 v) : Fok g (g.1 a) 51 v := fk hr p
theorem f_8_52 {g : GS} {a : Nat} (h : Inv g) (hr : g.1 a = 8) : vI 0 1200 (g.2.1 a 52) := (h.f hr 52)
theorem q_8_52 {g : GS} {v : Value} (p : vI 0 1200 v) : Fok g 8 52 v := p
theorem p_8_52 {g : GS} {a : Nat} {v : Value} (hr : g.1 a = 8) (p : vI 0 1200 v) : Fok g (g.1 a) 52 v := fk hr p
theorem f_8_53 {g : GS} {a : Nat} (h : Inv g) (hr : g.1 a = 8) : vL g 56 1200 (g.2.1 a 53) := (h.f hr 53).2
theorem q_8_53 {g : GS} {v : Value} (p : vL g 56 1200 v) : Fok g 8 53 v := ⟨by decide, p⟩
theorem p_8_53 {g : GS} {a : Nat} {v : Value} (hr : g.1 a = 8) (p : vL g 56 1200 v) : Fok g (g.1 a) 53 v := fk hr ⟨by decide, p⟩
theorem f_8_54 {g : GS} {a : Nat} (h : Inv g) (hr : g.1 a = 8) : vL g 50 48 (g.2.1 a 54) := (h.f hr 54).2
theorem q_8_54 {g : GS} {v : Value} (p : vL g 50 48 v) : Fok g 8 54 v := ⟨by decide, p⟩
theorem p_8_54 {g : GS} {a : Nat} {v : Value} (hr : g.1 a = 8) (p : vL g 50 48 v) : Fok g (g.1 a) 54 v := fk hr ⟨by decide, p⟩
theorem f_8_55 {g : GS} {a : Nat} (h : Inv g) (hr : g.1 a = 8) : vL g 50 48 (g.2.1 a 55) := (h.f hr 55).2
theorem q_8_55 {g : GS} {v : Value} (p : vL g 50 48 v) : Fok g 8 55 v := ⟨by decide, p⟩
theorem p_8_55 {g : GS} {a : Nat} {v : Value} (hr : g.1 a = 8) (p : vL g 50 48 v) : Fok g (g.1 a) 55 v := fk hr ⟨by decide, p⟩
theorem f_8_56 {g : GS} {a : Nat} (h : Inv g) (hr : g.1 a = 8) : vL g 50 48 (g.2.1 a 56) := (h.f hr 56).2
theorem q_8_56 {g : GS} {v : Value} (p : vL g 50 48 v) : Fok g 8 56 v := ⟨by decide, p⟩
theorem p_8_56 {g : GS} {a : Nat} {v : Value} (hr : g.1 a = 8) (p : vL g 50 48 v) : Fok g (g.1 a) 56 v := fk hr ⟨by decide, p⟩
theorem f_8_57 {g : GS} {a : Nat} (h : Inv g) (hr : g.1 a = 8) : vL g 50 30 (g.2.1 a 57) := (h.f hr 57).2
theorem q_8_57 {g : GS} {v : Value} (p : vL g 50 30 v) : Fok g 8 57 v := ⟨by decide, p⟩
theorem p_8_57 {g : GS} {a : Nat} {v : Value} (hr : g.1 a = 8) (p : vL g 50 30 v) : Fok g (g.1 a) 57 v := fk hr ⟨by decide, p⟩
theorem f_8_58 {g : GS} {a : Nat} (h : Inv g) (hr : g.1 a = 8) : vL g 50 1200 (g.2.1 a 58) := (h.f hr 58).2
theorem q_8_58 {g : GS} {v : Value} (p : vL g 50 1200 v) : Fok g 8 58 v := ⟨by decide, p⟩
theorem p_8_58 {g : GS} {a : Nat} {v : Value} (hr : g.1 a = 8) (p : vL g 50 1200 v) : Fok g (g.1 a) 58 v := fk hr ⟨by decide, p⟩
theorem f_8_59 {g : GS} {a : Nat} (h : Inv g) (hr : g.1 a = 8) : vL g 50 6 (g.2.1 a 59) := (h.f hr 59).2
theorem q_8_59 {g : GS} {v : Value} (p : vL g 50 6 v) : Fok g 8 59 v := ⟨by decide, p⟩
theorem p_8_59 {g : GS} {a : Nat} {v : Value} (hr : g.1 a = 8) (p : vL g 50 6 v) : Fok g (g.1 a) 59 v := fk hr ⟨by decide, p⟩
theorem f_8_60 {g : GS} {a : Nat} (h : Inv g) (hr : g.1 a = 8) : vI 0 1200 (g.2.1 a 60) := (h.f hr 60)
theorem q_8_60 {g : GS} {v : Value} (p : vI 0 1200 v) : Fok g 8 60 v := p
theorem p_8_60 {g : GS} {a : Nat} {v : Value} (hr : g.1 a = 8) (p : vI 0 1200 v) : Fok g (g.1 a) 60 v := fk hr p
theorem f_8_61 {g : GS} {a : Nat} (h : Inv g) (hr : g.1 a = 8) : vL g 52 5 (g.2.1 a 61) := (h.f hr 61).2
theorem q_8_61 {g : GS} {v : Value} (p : vL g 52 5 v) : Fok g 8 61 v := ⟨by decide, p⟩
theorem p_8_61 {g : GS} {a : Nat} {v : Value} (hr : g.1 a = 8) (p : vL g 52 5 v) : Fok g (g.1 a) 61 v := fk hr ⟨by decide, p⟩
theorem f_8_62 {g : GS} {a : Nat} (h : Inv g) (hr : g.1 a = 8) : vL g 50 624 (g.2.1 a 62) := (h.f hr 62).2
theorem q_8_62 {g : GS} {v : Value} (p : vL g 50 624 v) : Fok g 8 62 v := ⟨by decide, p⟩
theorem p_8_62 {g : GS} {a : Nat} {v : Value} (hr : g.1 a = 8) (p : vL g 50 624 v) : Fok g (g.1 a) 62 v := fk hr ⟨by decide, p⟩
theorem f_8_63 {g : GS} {a : Nat} (h : Inv g) (hr : g.1 a = 8) : vL g 50 24000 (g.2.1 a 63) := (h.f hr 63).2
theorem q_8_63 {g : GS} {v : Value} (p : vL g 50 24000 v) : Fok g 8 63 v := ⟨by decide, p⟩
theorem p_8_63 {g : GS} {a : Nat} {v : Value} (hr : g.1 a = 8) (p : vL g 50 24000 v) : Fok g (g.1 a) 63 v := fk hr ⟨by decide, p⟩
theorem f_8_64 {g : GS} {a : Nat} (h : Inv g) (hr : g.1 a = 8) : vL g 50 1000 (g.2.1 a 64) := (h.f hr 64).2
theorem q_8_64 {g : GS} {v : Value} (p : vL g 50 1000 v) : Fok g 8 64 v := ⟨by decide, p⟩
theorem p_8_64 {g : GS} {a : Nat} {v : Value} (hr : g.1 a = 8) (p : vL g 50 1000 v) : Fok g (g.1 a) 64 v := fk hr ⟨by decide, p⟩
theorem f_8_65 {g : GS} {a : Nat} (h : Inv g) (hr : g.1 a = 8) : vL g 50 6 (g.2.1 a 65) := (h.f hr 65).2
theorem q_8_65 {g : GS} {v : Value} (p : vL g 50 6 v) : Fok g 8 65 v := ⟨by decide, p⟩
theorem p_8_65 {g : GS} {a : Nat} {v : Value} (hr : g.1 a = 8) (p : vL g 50 6 v) : Fok g (g.1 a) 65 v := fk hr ⟨by decide, p⟩
theorem f_8_66 {g : GS} {a : Nat} (h : Inv g) (hr : g.1 a = 8) : vL g 50 6 (g.2.1 a 66) := (h.f hr 66).2
theorem q_8_66 {g : GS} {v : Value} (p : vL g 50 6 v) : Fok g 8 66 v := ⟨by decide, p⟩
theorem p_8_66 {g : GS} {a : Nat} {v : Value} (hr : g.1 a = 8) (p : vL g 50 6 v) : Fok g (g.1 a) 66 v := fk hr ⟨by decide, p⟩
theorem f_9_0 {g : GS} {a : Nat} (h : Inv g) (hr : g.1 a = 9) : vL g 64 20 (g.2.1 a 0) := (h.f hr 0).2
theorem q_9_0 {g : GS} {v : Value} (p : vL g 64 20 v) : Fok g 9 0 v := ⟨by decide, p⟩
theorem p_9_0 {g : GS} {a : Nat} {v : Value} (hr : g.1 a = 9) (p : vL g 64 20 v) : Fok g (g.1 a) 0 v := fk hr ⟨by decide, p⟩
theorem f_9_1 {g : GS} {a : Nat} (h : Inv g) (hr : g.1 a = 9) : vL g 65 20 (g.2.1 a 1) := (h.f hr 1).2
theorem q_9_1 {g : GS} {v : Value} (p : vL g 65 20 v) : Fok g 9 1 v := ⟨by decide, p⟩
theorem p_9_1 {g : GS} {a : Nat} {v : Value} (hr : g.1 a = 9) (p : vL g 65 20 v) : Fok g (g.1 a) 1 v := fk hr ⟨by decide, p⟩
theorem f_9_2 {g : GS} {a : Nat} (h : Inv g) (hr : g.1 a = 9) : vL g 66 20 (g.2.1 a 2) := (h.f hr 2).2
theorem q_9_2 {g : GS} {v : Value} (p : vL g 66 20 v) : Fok g 9 2 v := ⟨by decide, p⟩
theorem p_9_2 {g : GS} {a : Nat} {v : Value} (hr : g.1 a = 9) (p : vL g 66 20 v) : Fok g (g.1 a) 2 v := fk hr ⟨by decide, p⟩
theorem f_9_3 {g : GS} {a : Nat} (h : Inv g) (hr : g.1 a = 9) : vI 0 20 (g.2.1 a 3) := (h.f hr 3)
theorem q_9_3 {g : GS} {v : Value} (p : vI 0 20 v) : Fok g 9 3 v := p
theorem p_9_3 {g : GS} {a : Nat} {v : Value} (hr : g.1 a = 9) (p : vI 0 20 v) : Fok g (g.1 a) 3 v := fk hr p
theorem f_10_0 {g : GS} {a : Nat} (h : Inv g) (hr : g.1 a = 10) : vR g 3 (g.2.1 a 0) := (h.f hr 0).2
theorem q_10_0 {g : GS} {v : Value} (p : vR g 3 v) : Fok g 10 0 v := ⟨by decide, p⟩
theorem p_10_0 {g : GS} {a : Nat} {v : Value} (hr : g.1 a = 10) (p : vR g 3 v) : Fok g (g.1 a) 0 v := fk hr ⟨by decide, p⟩
theorem f_10_1 {g : GS} {a : Nat} (h : Inv g) (hr : g.1 a = 10) : vL g 50 4 (g.2.1 a 1) := (h.f hr 1).2
theorem q_10_1 {g : GS} {v : Value} (p : vL g 50 4 v) : Fok g 10 1 v := ⟨by decide, p⟩
theorem p_10_1 {g : GS} {a : Nat} {v : Value} (hr : g.1 a = 10) (p : vL g 50 4 v) : Fok g (g.1 a) 1 v := fk hr ⟨by decide, p⟩
theorem f_10_2 {g : GS} {a : Nat} (h : Inv g) (hr : g.1 a = 10) : vA (g.2.1 a 2) := (h.f hr 2)
theorem q_10_2 {g : GS} {v : Value} (p : vA v) : Fok g 10 2 v := p
theorem p_10_2 {g : GS} {a : Nat} {v : Value} (hr : g.1 a = 10) (p : vA v) : Fok g (g.1 a) 2 v := fk hr p
theorem f_10_3 {g : GS} {a : Nat} (h : Inv g) (hr : g.1 a = 10) : vA (g.2.1 a 3) := (h.f hr 3)
theorem q_10_3 {g : GS} {v : Value} (p : vA v) : Fok g 10 3 v := p
theorem p_10_3 {g : GS} {a : Nat} {v : Value} (hr : g.1 a = 10) (p : vA v) : Fok g (g.1 a) 3 v := fk hr p
theorem f_10_4 {g : GS} {a : Nat} (h : Inv g) (hr : g.1 a = 10) : vA (g.2.1 a 4) := (h.f hr 4)
theorem q_10_4 {g : GS} {v : Value} (p : vA v) : Fok g 10 4 v := p
theorem p_10_4 {g : GS} {a : Nat} {v : Value} (hr : g.1 a = 10) (p : vA v) : Fok g (g.1 a) 4 v := fk hr p
theorem f_10_5 {g : GS} {a : Nat} (h : Inv g) (hr : g.1 a = 10) : vI 0 16 (g.2.1 a 5) := (h.f hr 5)
theorem q_10_5 {g : GS} {v : Value} (p : vI 0 16 v) : Fok g 10 5 v := p
theorem p_10_5 {g : GS} {a : Nat} {v : Value} (hr : g.1 a = 10) (p : vI 0 16 v) : Fok g (g.1 a) 5 v := fk hr p
theorem f_10_6 {g : GS} {a : Nat} (h : Inv g) (hr : g.1 a = 10) : vL g 50 16 (g.2.1 a 6) := (h.f hr 6).2
theorem q_10_6 {g : GS} {v : Value} (p : vL g 50 16 v) : Fok g 10 6 v := ⟨by decide, p⟩
theorem p_10_6 {g : GS} {a : Nat} {v : Value} (hr : g.1 a = 10) (p : vL g 50 16 v) : Fok g (g.1 a) 6 v := fk hr ⟨by decide, p⟩
theorem f_10_7 {g : GS} {a : Nat} (h : Inv g) (hr : g.1 a = 10) : vL g 50 16 (g.2.1 a 7) := (h.f hr 7).2
theorem q_10_7 {g : GS} {v : Value} (p : vL g 50 16 v) : Fok g 10 7 v := ⟨by decide, p⟩
theorem p_10_7 {g : GS} {a : Nat} {v : Value} (hr : g.1 a = 10) (p : vL g 50 16 v) : Fok g (g.1 a) 7 v := fk hr ⟨by decide, p⟩
theorem f_10_8 {g : GS} {a : Nat} (h : Inv g) (hr : g.1 a = 10) : vL g 50 16 (g.2.1 a 8) := (h.f hr 8).2
theorem q_10_8 {g : GS} {v : Value} (p : vL g 50 16 v) : Fok g 10 8 v := ⟨by decide, p⟩
theorem p_10_8 {g : GS} {a : Nat} {v : Value} (hr : g.1 a = 10) (p : vL g 50 16 v) : Fok g (g.1 a) 8 v := fk hr ⟨by decide, p⟩
theorem f_10_9 {g : GS} {a : Nat} (h : Inv g) (hr : g.1 a = 10) : vL g 50 16 (g.2.1 a 9) := (h.f hr 9).2
theorem q_10_9 {g : GS} {v : Value} (p : vL g 50 16 v) : Fok g 10 9 v := ⟨by decide, p⟩
theorem p_10_9 {g : GS} {a : Nat} {v : Value} (hr : g.1 a = 10) (p : vL g 50 16 v) : Fok g (g.1 a) 9 v := fk hr ⟨by decide, p⟩
theorem f_10_10 {g : GS} {a : Nat} (h : Inv g) (hr : g.1 a = 10) : vA (g.2.1 a 10) := (h.f hr 10)
theorem q_10_10 {g : GS} {v : Value} (p : vA v) : Fok g 10 10 v := p
theorem p_10_10 {g : GS} {a : Nat} {v : Value} (hr : g.1 a = 10) (p : vA v) : Fok g (g.1 a) 10 v := fk hr p
theorem f_10_11 {g : GS} {a : Nat} (h : Inv g) (hr : g.1 a = 10) : vA (g.2.1 a 11) := (h.f hr 11)
theorem q_10_11 {g : GS} {v : Value} (p : vA v) : Fok g 10 11 v := p
theorem p_10_11 {g : GS} {a : Nat} {v : Value} (hr : g.1 a = 10) (p : vA v) : Fok g (g.1 a) 11 v := fk hr p
theorem f_10_12 {g : GS} {a : Nat} (h : Inv g) (hr : g.1 a = 10) : vL g 50 8 (g.2.1 a 12) := (h.f hr 12).2
theorem q_10_12 {g : GS} {v : Value} (p : vL g 50 8 v) : Fok g 10 12 v := ⟨by decide, p⟩
theorem p_10_12 {g : GS} {a : Nat} {v : Value} (hr : g.1 a = 10) (p : vL g 50 8 v) : Fok g (g.1 a) 12 v := fk hr ⟨by decide, p⟩
theorem f_10_13 {g : GS} {a : Nat} (h : Inv g) (hr : g.1 a = 10) : vL g 50 8 (g.2.1 a 13) := (h.f hr 13).2
theorem q_10_13 {g : GS} {v : Value} (p : vL g 50 8 v) : Fok g 10 13 v := ⟨by decide, p⟩
theorem p_10_13 {g : GS} {a : Nat} {v : Value} (hr : g.1 a = 10) (p : vL g 50 8 v) : Fok g (g.1 a) 13 v := fk hr ⟨by decide, p⟩
theorem f_10_14 {g : GS} {a : Nat} (h : Inv g) (hr : g.1 a = 10) : vI 0 1 (g.2.1 a 14) := (h.f hr 14)
theorem q_10_14 {g : GS} {v : Value} (p : vI 0 1 v) : Fok g 10 14 v := p
theorem p_10_14 {g : GS} {a : Nat} {v : Value} (hr : g.1 a = 10) (p : vI 0 1 v) : Fok g (g.1 a) 14 v := fk hr p
theorem f_19_0 {g : GS} {a : Nat} (h : Inv g) (hr : g.1 a = 19) : vL g 42 6 (g.2.1 a 0) := (h.f hr 0).2
theorem q_19_0 {g : GS} {v : Value} (p : vL g 42 6 v) : Fok g 19 0 v := ⟨by decide, p⟩
theorem p_19_0 {g : GS} {a : Nat} {v : Value} (hr : g.1 a = 19) (p : vL g 42 6 v) : Fok g (g.1 a) 0 v := fk hr ⟨by decide, p⟩
theorem f_19_1 {g : GS} {a : Nat} (h : Inv g) (hr : g.1 a = 19) : vI 0 6 (g.2.1 a 1) := (h.f hr 1)
theorem q_19_1 {g : GS} {v : Value} (p : vI 0 6 v) : Fok g 19 1 v := p
theorem p_19_1 {g : GS} {a : Nat} {v : Value} (hr : g.1 a = 19) (p : vI 0 6 v) : Fok g (g.1 a) 1 v := fk hr p
theorem f_19_2 {g : GS} {a : Nat} (h : Inv g) (hr : g.1 a = 19) : vA (g.2.1 a 2) := (h.f hr 2)
theorem q_19_2 {g : GS} {v : Value} (p : vA v) : Fok g 19 2 v := p
theorem p_19_2 {g : GS} {a : Nat} {v : Value} (hr : g.1 a = 19) (p : vA v) : Fok g (g.1 a) 2 v := fk hr p
theorem f_19_3 {g : GS} {a : Nat} (h : Inv g) (hr : g.1 a = 19) : vL g 50 512 (g.2.1 a 3) := (h.f hr 3).2
theorem q_19_3 {g : GS} {v : Value} (p : vL g 50 512 v) : Fok g 19 3 v := ⟨by decide, p⟩
theorem p_19_3 {g : GS} {a : Nat} {v : Value} (hr : g.1 a = 19) (p : vL g 50 512 v) : Fok g (g.1 a) 3 v := fk hr ⟨by decide, p⟩
theorem f_19_4 {g : GS} {a : Nat} (h : Inv g) (hr : g.1 a = 19) : vA (g.2.1 a 4) := (h.f hr 4)
theorem q_19_4 {g : GS} {v : Value} (p : vA v) : Fok g 19 4 v := p
theorem p_19_4 {g : GS} {a : Nat} {v : Value} (hr : g.1 a = 19) (p : vA v) : Fok g (g.1 a) 4 v := fk hr p
theorem f_19_5 {g : GS} {a : Nat} (h : Inv g) (hr : g.1 a = 19) : vA (g.2.1 a 5) := (h.f hr 5)
theorem q_19_5 {g : GS} {v : Value} (p : vA v) : Fok g 19 5 v := p
theorem p_19_5 {g : GS} {a : Nat} {v : Value} (hr : g.1 a = 19) (p : vA v) : Fok g (g.1 a) 5 v := fk hr p
theorem f_19_6 {g : GS} {a : Nat} (h : Inv g) (hr : g.1 a = 19) : vA (g.2.1 a 6) := (h.f hr 6)
theorem q_19_6 {g : GS} {v : Value} (p : vA v) : Fok g 19 6 v := p
theorem p_19_6 {g : GS} {a : Nat} {v : Value} (hr : g.1 a = 19) (p : vA v) : Fok g (g.1 a) 6 v := fk hr p
theorem f_19_7 {g : GS} {a : Nat} (h : Inv g) (hr : g.1 a = 19) : vI 0 1 (g.2.1 a 7) := (h.f hr 7)
theorem q_19_7 {g : GS} {v : Value} (p : vI 0 1 v) : Fok g 19 7 v := p
theorem p_19_7 {g : GS} {a : Nat} {v : Value} (hr : g.1 a = 19) (p : vI 0 1 v) : Fok g (g.1 a) 7 v := fk hr p
