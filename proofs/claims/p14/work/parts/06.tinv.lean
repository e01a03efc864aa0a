/-! what the fields and the ints of arrays are, by role; each field by itself -/
def vI (lo hi : Int) (v : Value) : Prop := ∃ x : Int32, v = .int x ∧ lo ≤ x.toInt ∧ x.toInt ≤ hi
def vA (v : Value) : Prop := ∃ x : Int32, v = .int x
def vR (g : GS) (r : Nat) (v : Value) : Prop := ∃ q : Nat, v = .ref q ∧ g.1 q = r
def vL (g : GS) (r n : Nat) (v : Value) : Prop := ∃ q : Nat, v = .ref q ∧ g.1 q = r ∧ g.2.2.1 q = n
def Fok (g : GS) (fr : Int32) (r k : Nat) (v : Value) : Prop := match r with
  | 1 => (match k with | 0 => vL g 21 6 v | 1 => vL g 20 6 v | 2 => vL g 20 6 v | 3 => vI 0 6 v | _ => True)
  | 9 => (match k with | 0 => vL g 21 20 v | 1 => vL g 20 20 v | 2 => vL g 20 20 v | 3 => vI 0 20 v | _ => True)
  | 2 => (match k with | 0 => vR g 6 v | 1 => vR g 6 v | 2 => vR g 6 v | 3 => vL g 20 6 v | 4 => vL g 20 6 v | 5 => vL g 20 6 v | 6 => vA v | 7 => vL g 43 25 v | 8 => vL g 22 5 v | 9 => vL g 20 4 v | _ => True)
  | 3 => (match k with | 0 => vL g 20 8 v | 1 => vL g 21 8 v | 2 => vL g 20 8 v | 3 => vI 0 8 v | _ => True)
  | 4 => (match k with | 0 => vR g 3 v | 1 => vL g 20 4 v | 2 => vA v | 3 => vA v | 4 => vA v | 5 => vI 0 16 v | 6 => vL g 20 16 v | 7 => vL g 20 16 v | 8 => vL g 20 16 v | 9 => vL g 20 16 v | 10 => vA v | 11 => vA v | 12 => vL g 20 8 v | 13 => vL g 20 8 v | 14 => vI 0 1 v | _ => True)
  | 5 => (match k with | 0 => vL g 20 100 v | 1 => vI 0 100 v | 2 => vA v | 3 => vA v | _ => True)
  | 6 => (match k with | 0 => vL g 41 6 v | 1 => vI 0 6 v | 2 => vA v | 3 => vL g 20 512 v | 4 => vA v | 5 => vA v | 6 => vA v | 7 => vI 0 1 v | _ => True)
  | 7 => (match k with | 0 => vR g 5 v | 1 => vR g 6 v | 2 => vR g 1 v | 3 => vR g 9 v | 4 => vR g 2 v | 5 => vL g 20 4 v | 6 => v = .int fr | _ => True)
  | _ => True
def Cok (r : Nat) (x : Int32) : Prop := match r with
  | 21 => 0 ≤ x.toInt ∧ x.toInt ≤ 5
  | 22 => 0 ≤ x.toInt ∧ x.toInt ≤ 3
  | _ => True
def Qok (g : GS) (r : Nat) (v : Option Nat) : Prop := match r with
  | 41 => ∃ q : Nat, v = some q ∧ g.1 q = 4
  | 43 => ∃ q : Nat, v = some q ∧ g.1 q = 20 ∧ g.2.2.1 q = 325
  | _ => True
/-- the invariant; fr: what the object remembers of free -/
def Inv (fr : Int32) (g : GS) : Prop := (∀ a k, Fok g fr (g.1 a) k (g.2.1 a k)) ∧ (∀ a i, i < g.2.2.1 a → Cok (g.1 a) (g.2.2.2.1 a i)) ∧ (∀ a i, i < g.2.2.1 a → Qok g (g.1 a) (g.2.2.2.2 a i))
/-- roles and lengths stay -/
def Ex (g g' : GS) : Prop := ∀ a, g.1 a ≠ 0 → g'.1 a = g.1 a ∧ g'.2.2.1 a = g.2.2.1 a
/-- fields that md doesn't name, by role and number, stay -/
def Sm (md : Nat → Nat → Bool) (g g' : GS) : Prop := ∀ a k, g.1 a ≠ 0 → md (g.1 a) k = false → g'.2.1 a k = g.2.1 a k
theorem Ex.rf {g : GS} : Ex g g := fun _ _ => ⟨rfl, rfl⟩
theorem Ex.tr {g g' g'' : GS} (h : Ex g g') (h' : Ex g' g'') : Ex g g'' := fun a ha => by
  obtain ⟨e1, e2⟩ := h a ha
  obtain ⟨e3, e4⟩ := h' a (by rw [e1]; exact ha)
  exact ⟨e3.trans e1, e4.trans e2⟩
theorem Sm.rf {md : Nat → Nat → Bool} {g : GS} : Sm md g g := fun _ _ _ _ => rfl
theorem Sm.tr {md : Nat → Nat → Bool} {g g' g'' : GS} (hx : Ex g g') (h : Sm md g g') (h' : Sm md g' g'') : Sm md g g'' := fun a k ha hm => by
  have e := (hx a ha).1
  exact (h' a k (by rw [e]; exact ha) (by rw [e]; exact hm)).trans (h a k ha hm)
theorem Sm.mo {md md' : Nat → Nat → Bool} {g g' : GS} (h : Sm md g g') (hm : ∀ r k, md' r k = false → md r k = false) : Sm md' g g' := fun a k ha hk => h a k ha (hm _ _ hk)
theorem Inv.sF {fr : Int32} {g : GS} {a k : Nat} {v : Value} (h : Inv fr g) (hv : Fok g fr (g.1 a) k v) : Inv fr (sF g a k v) := by
  refine ⟨fun x j => ?_, h.2.1, h.2.2⟩
  show Fok g fr (g.1 x) j (if x = a ∧ j = k then v else g.2.1 x j)
  by_cases hx : x = a ∧ j = k
  · rw [if_pos hx, hx.1, hx.2]; exact hv
  · rw [if_neg hx]; exact h.1 x j
theorem Inv.sC {fr : Int32} {g : GS} {a i : Nat} {v : Int32} (h : Inv fr g) (hv : Cok (g.1 a) v) : Inv fr (sC g a i v) := by
  refine ⟨h.1, fun x j hj => ?_, h.2.2⟩
  show Cok (g.1 x) (if x = a ∧ j = i then v else g.2.2.2.1 x j)
  by_cases hx : x = a ∧ j = i
  · rw [if_pos hx, hx.1]; exact hv
  · rw [if_neg hx]; exact h.2.1 x j hj
theorem sF_eq {g : GS} {a k : Nat} {v : Value} : (sF g a k v).2.1 a k = v := by
  show (if a = a ∧ k = k then v else g.2.1 a k) = v
  rw [if_pos ⟨rfl, rfl⟩]
theorem sF_k {g : GS} {a k b j : Nat} {v w : Value} (h : g.2.1 b j = w) (n : j ≠ k) : (sF g a k v).2.1 b j = w := by
  show (if b = a ∧ j = k then v else g.2.1 b j) = w
  rw [if_neg (fun q => n q.2)]; exact h
theorem sF_a {g : GS} {a k b j : Nat} {v w : Value} (h : g.2.1 b j = w) (n : b ≠ a) : (sF g a k v).2.1 b j = w := by
  show (if b = a ∧ j = k then v else g.2.1 b j) = w
  rw [if_neg (fun q => n q.1)]; exact h
theorem Sm_sF {md : Nat → Nat → Bool} {g : GS} {a k : Nat} {v : Value} (h : md (g.1 a) k = true) : Sm md g (sF g a k v) := fun x j _ hm => by
  show (if x = a ∧ j = k then v else g.2.1 x j) = g.2.1 x j
  by_cases hx : x = a ∧ j = k
  · rw [hx.1, hx.2, h] at hm; cases hm
  · rw [if_neg hx]
theorem ro_ne {g : GS} {a b r r' : Nat} (h : g.1 a = r) (h' : g.1 b = r') (n : r ≠ r') : a ≠ b := fun q => n (by rw [← h, ← h', q])
/-! ints as integers -/
theorem i_lt {x y : Int32} {a b : Int} (h : x < y) (hx : x.toInt = a) (hy : y.toInt = b) : a < b := by rw [← hx, ← hy]; exact Int32.lt_iff_toInt_lt.mp h
theorem i_le {x y : Int32} {a b : Int} (h : x ≤ y) (hx : x.toInt = a) (hy : y.toInt = b) : a ≤ b := by rw [← hx, ← hy]; exact Int32.le_iff_toInt_le.mp h
theorem i_nlt {x y : Int32} {a b : Int} (h : ¬ x < y) (hx : x.toInt = a) (hy : y.toInt = b) : b ≤ a := by rw [← hx, ← hy]; exact Int32.le_iff_toInt_le.mp (Int32.not_lt.mp h)
theorem i_nle {x y : Int32} {a b : Int} (h : ¬ x ≤ y) (hx : x.toInt = a) (hy : y.toInt = b) : b < a := by rw [← hx, ← hy]; exact Int32.lt_iff_toInt_lt.mp (Int32.not_le.mp h)
theorem i_eq {x y : Int32} {a b : Int} (h : x = y) (hx : x.toInt = a) (hy : y.toInt = b) : a = b := by rw [← hx, ← hy, h]
theorem i_ne {x y : Int32} {a b : Int} (h : ¬ x = y) (hx : x.toInt = a) (hy : y.toInt = b) : ¬ a = b := fun q => h (Int32.toInt_inj.mp (by rw [hx, hy, q]))
theorem i_rng (x : Int32) : -2147483648 ≤ x.toInt ∧ x.toInt < 2147483648 := ⟨by have := Int32.le_toInt x; omega, by have := Int32.toInt_lt x; omega⟩
theorem i_bm {z : Int} (h1 : -2147483648 ≤ z) (h2 : z < 2147483648) : z.bmod 4294967296 = z := by
  rw [Int.bmod_eq_of_le (by omega) (by omega)]
theorem i_add {x y z : Int32} {a b : Int} (e : z = x + y) (hx : x.toInt = a) (hy : y.toInt = b) (h1 : -2147483648 ≤ a + b) (h2 : a + b < 2147483648) : z.toInt = a + b := by
  rw [e, Int32.toInt_add, hx, hy]
  exact i_bm h1 h2
theorem i_sub {x y z : Int32} {a b : Int} (e : z = x - y) (hx : x.toInt = a) (hy : y.toInt = b) (h1 : -2147483648 ≤ a - b) (h2 : a - b < 2147483648) : z.toInt = a - b := by
  rw [e, Int32.toInt_sub, hx, hy]
  exact i_bm h1 h2
theorem i_mul {x y z : Int32} {a b : Int} (e : z = x * y) (hx : x.toInt = a) (hy : y.toInt = b) (h1 : -2147483648 ≤ a * b) (h2 : a * b < 2147483648) : z.toInt = a * b := by
  rw [e, Int32.toInt_mul, hx, hy]
  exact i_bm h1 h2
theorem i_in {x : Int32} {n : Nat} {a : Int} (hx : x.toInt = a) (h1 : 0 ≤ a) (h2 : a < n) : vp_in x n := vp_in_iff.mpr ⟨by rw [hx]; exact h1, by rw [hx]; exact h2⟩
theorem i_cl {x : Int32} {n : Nat} (h : vp_in x n) : x.toNatClampNeg < n := Nat.not_le.mp fun q => h (Or.inr q)
theorem Inv.f {fr : Int32} {g : GS} {a r : Nat} (h : Inv fr g) (hr : g.1 a = r) (k : Nat) : Fok g fr r k (g.2.1 a k) := by rw [← hr]; exact h.1 a k
theorem Inv.c {fr : Int32} {g : GS} {a r i n : Nat} (h : Inv fr g) (hr : g.1 a = r) (hn : g.2.2.1 a = n) (hi : i < n) : Cok r (g.2.2.2.1 a i) := by rw [← hr]; exact h.2.1 a i (by rw [hn]; exact hi)
theorem Inv.q {fr : Int32} {g : GS} {a r i n : Nat} (h : Inv fr g) (hr : g.1 a = r) (hn : g.2.2.1 a = n) (hi : i < n) : Qok g r (g.2.2.2.2 a i) := by rw [← hr]; exact h.2.2 a i (by rw [hn]; exact hi)
theorem fk {fr : Int32} {g : GS} {a r k : Nat} {v : Value} (h : g.1 a = r) (p : Fok g fr r k v) : Fok g fr (g.1 a) k v := by rw [h]; exact p
theorem ck {g : GS} {a r : Nat} {x : Int32} (h : g.1 a = r) (p : Cok r x) : Cok (g.1 a) x := by rw [h]; exact p
theorem ro_ci {g : GS} {a r ci : Nat} (h : g.1 a = r) (hc : ciOf r = some ci) : ciOf (g.1 a) = some ci := by rw [h]; exact hc
theorem ro_in {g : GS} {a r : Nat} (h : g.1 a = r) (h1 : 20 ≤ r ∧ r ≤ 39) : 20 ≤ g.1 a ∧ g.1 a ≤ 39 := by rw [h]; exact h1
theorem ro_n0 {g : GS} {a r : Nat} (h : g.1 a = r) (h1 : r ≠ 0) : g.1 a ≠ 0 := by rw [h]; exact h1
theorem Ex.r {g g' : GS} {a r : Nat} (h : Ex g g') (hr : g.1 a = r) (h0 : r ≠ 0) : g'.1 a = r := ((h a (by rw [hr]; exact h0)).1).trans hr
theorem Ex.n {g g' : GS} {a r n : Nat} (h : Ex g g') (hr : g.1 a = r) (h0 : r ≠ 0) (hn : g.2.2.1 a = n) : g'.2.2.1 a = n := ((h a (by rw [hr]; exact h0)).2).trans hn
theorem Sm.v {md : Nat → Nat → Bool} {g g' : GS} {a k r : Nat} {v : Value} (h : Sm md g g') (hr : g.1 a = r) (h0 : r ≠ 0) (hm : md r k = false) (hv : g.2.1 a k = v) : g'.2.1 a k = v := (h a k (by rw [hr]; exact h0) (by rw [hr]; exact hm)).trans hv
theorem Sm_sC {md : Nat → Nat → Bool} {g : GS} {a i : Nat} {v : Int32} : Sm md g (sC g a i v) := fun _ _ _ _ => rfl
theorem i_max {x y z : Int32} {a b : Int} (e : z = if x < y then y else x) (hx : x.toInt = a) (hy : y.toInt = b) : a ≤ z.toInt ∧ b ≤ z.toInt ∧ (z.toInt = a ∨ z.toInt = b) := by
  by_cases h : x < y
  · rw [if_pos h] at e
    have := i_lt h hx hy
    rw [e, hy]
    omega
  · rw [if_neg h] at e
    have := i_nlt h hx hy
    rw [e, hx]
    omega
theorem i_min {x y z : Int32} {a b : Int} (e : z = if y < x then y else x) (hx : x.toInt = a) (hy : y.toInt = b) : z.toInt ≤ a ∧ z.toInt ≤ b ∧ (z.toInt = a ∨ z.toInt = b) := by
  by_cases h : y < x
  · rw [if_pos h] at e
    have := i_lt h hy hx
    rw [e, hy]
    omega
  · rw [if_neg h] at e
    have := i_nlt h hy hx
    rw [e, hx]
    omega
section TM
variable {p : Program} {l : Launch} {e : Env} {R : Room} {s : State} {m : MethodId} {args : Array Value} {below : List Frame} {meth : Method} {c : Code} {H : Heap} {locs : List Loc} {cells slots : Nat} {Q : State → Prop}
variable {cc : ByteArray} {pc nL : Nat} {ls : Array Slot} {rest : List Value} {own : String} {D : va_G} {cI cZ cS cR : ClassId} {N0 : NT}
theorem t_max {x y : Int32} {v : Int32} {index : Nat} (hB : Tz p s m meth c args cc nL own D cI cZ cS cR N0) (hl : Cond.methodLink own index Lib.Math.max.name ∈ tb) (hst : Cond.static Lib.Math.max.name ∈ tb) (hini : Cond.initialized "java/lang/Math" ∈ tb) (hc : Cond.code Lib.Math.max.name Lib.Math.max.code 2 (some .int) ∈ tb) (hsz : ls.size = nL) (hfr : 1 ≤ R.frames) (hlo : (rest.map fun v => v.category).sum + 13 ≤ R.locals) (h1 : cells ≤ R.cells) (h2 : slots ≤ R.slots) (hv : (if x < y then y else x) = v) (hdg : decode cc pc = .ok (.invokestatic index, 3))
    (kk : W p l e R s m args below meth c H locs cells slots Q (F0 m (pc + 3) ls (.int v :: rest))) : W p l e R s m args below meth c H locs cells slots Q (F0 m pc ls (.int y :: .int x :: rest)) := by
  subst hv
  exact va_mmax hB.1 hB.2.1 (by rw [hB.2.2.1, hsz]) hB.2.2.2.1 (hB.2.2.2.2.1 _ hl) (hB.2.2.2.2.1 _ hst) (hB.2.2.2.2.1 _ hini) (hB.2.2.2.2.1 _ hc) hfr hlo h1 h2 hdg kk
theorem t_min {x y : Int32} {v : Int32} {index : Nat} (hB : Tz p s m meth c args cc nL own D cI cZ cS cR N0) (hl : Cond.methodLink own index Lib.Math.min.name ∈ tb) (hst : Cond.static Lib.Math.min.name ∈ tb) (hini : Cond.initialized "java/lang/Math" ∈ tb) (hc : Cond.code Lib.Math.min.name Lib.Math.min.code 2 (some .int) ∈ tb) (hsz : ls.size = nL) (hfr : 1 ≤ R.frames) (hlo : (rest.map fun v => v.category).sum + 13 ≤ R.locals) (h1 : cells ≤ R.cells) (h2 : slots ≤ R.slots) (hv : (if y < x then y else x) = v) (hdg : decode cc pc = .ok (.invokestatic index, 3))
    (kk : W p l e R s m args below meth c H locs cells slots Q (F0 m (pc + 3) ls (.int v :: rest))) : W p l e R s m args below meth c H locs cells slots Q (F0 m pc ls (.int y :: .int x :: rest)) := by
  subst hv
  exact va_mmin hB.1 hB.2.1 (by rw [hB.2.2.1, hsz]) hB.2.2.2.1 (hB.2.2.2.2.1 _ hl) (hB.2.2.2.2.1 _ hst) (hB.2.2.2.2.1 _ hini) (hB.2.2.2.2.1 _ hc) hfr hlo h1 h2 hdg kk
end TM
theorem z0 : (0 : Int32).toInt = 0 := by decide
theorem z1 : (1 : Int32).toInt = 1 := by decide
theorem z4 : (4 : Int32).toInt = 4 := by decide
theorem z8 : (8 : Int32).toInt = 8 := by decide
theorem sw_out {x M : Int32} {lo hi : Int} (h : x < 0 ∨ M < x) (hl : (0 : Int32).toInt = lo := by decide) (hh : M.toInt = hi := by decide) : x.toInt < lo ∨ hi < x.toInt := by
  rcases h with h | h
  · exact Or.inl (by rw [← hl]; exact Int32.lt_iff_toInt_lt.mp h)
  · exact Or.inr (by rw [← hh]; exact Int32.lt_iff_toInt_lt.mp h)
theorem sw_in {x M : Int32} {n : Nat} (hM : M.toInt + 1 = n) (h : ¬ (x < 0 ∨ M < x)) : ∃ j : Nat, j < n ∧ x = nI j := by
  have h1 : ¬ x < 0 := fun q => h (Or.inl q)
  have h2 : x ≤ M := Int32.not_lt.mp (fun q => h (Or.inr q))
  obtain ⟨j, hj, rfl⟩ := nI_of h1
  rw [Int32.le_iff_toInt_le, nI_toInt hj] at h2
  exact ⟨j, by omega, rfl⟩
theorem i_rem {x y z : Int32} {a b : Int} (e : z = x - x / y * y) (hx : x.toInt = a) (hy : y.toInt = b) (h1 : 0 ≤ a) (h2 : 0 < b) : 0 ≤ z.toInt ∧ z.toInt < b := by
  obtain ⟨n, hn, rfl⟩ := nI_of (x := x) (fun q => by have := i_lt q hx z0; omega)
  obtain ⟨k, hk, rfl⟩ := nI_of (x := y) (fun q => by have := i_lt q hy z0; omega)
  rw [nI_toInt hk] at hy
  have h0 : 0 < k := by omega
  rw [pk_rem hn h0 hk] at e
  have hm := Nat.mod_lt n h0
  rw [e]
  generalize n % k = w at hm ⊢
  rw [nI_toInt (by omega)]
  omega
theorem i_div {x y z : Int32} {a b : Int} (e : z = x / y) (hx : x.toInt = a) (hy : y.toInt = b) (h1 : 0 ≤ a) (h2 : 0 < b) : 0 ≤ z.toInt ∧ z.toInt ≤ a := by
  obtain ⟨n, hn, rfl⟩ := nI_of (x := x) (fun q => by have := i_lt q hx z0; omega)
  obtain ⟨k, hk, rfl⟩ := nI_of (x := y) (fun q => by have := i_lt q hy z0; omega)
  rw [nI_toInt hk] at hy
  rw [nI_toInt hn] at hx
  have h0 : 0 < k := by omega
  rw [pk_div hn h0 hk] at e
  have hm := Nat.div_le_self n k
  rw [e]
  generalize n / k = w at hm ⊢
  rw [nI_toInt (by omega)]
  omega
theorem i_and {x m z : Int32} (k : Nat) {b : Int} (e : z = x &&& m) (hm : m.toBitVec.toNat = 2 ^ k - 1) (hb : (2 ^ k : Nat) = b + 1) (hk : 2 ^ k ≤ 2147483648) : 0 ≤ z.toInt ∧ z.toInt ≤ b := by
  obtain ⟨j, hj, e'⟩ := pk_andE x k hm
  rw [e, e', nI_toInt (by omega)]
  omega
section TN
variable {p : Program} {l : Launch} {e : Env} {R : Room} {s : State} {m : MethodId} {args : Array Value} {below : List Frame} {meth : Method} {c : Code} {H : Heap} {locs : List Loc} {cells slots : Nat} {Q : State → Prop}
variable {cc : ByteArray} {pc nL : Nat} {ls : Array Slot} {rest : List Value} {own : String} {D : va_G} {cI cZ cS cR : ClassId} {N0 : NT} {a : Nat} {g : GS}
theorem TH.z {D : va_G} {cI cZ cS cR : ClassId} {N0 : NT} {g : GS} {H : Heap} (h : TH D cI cZ cS cR N0 g H) : g.1 H.size = 0 := by
  by_cases h0 : g.1 H.size = 0
  · exact h0
  · exact absurd ((h H.size).2.2.2.2.2 h0).2 (Nat.lt_irrefl _)
/-- a new int[] of role r -/
theorem t_newi (hB : Tz p s m meth c args cc nL own D cI cZ cS cR N0) (hT : Tv D cI cZ cS cR N0 s.heap H locs g) (r : Nat) (hr : 20 ≤ r ∧ r ≤ 39) (harr : Cond.arrayClass .int ∈ tb) {n : Int32} {N' : Nat} (hn : ¬ n < 0) (hN : n.toNatClampNeg = N') (hb : N' * 4 ≤ 536870912) (hcells : cells + 1 ≤ R.cells) (hslots : slots + N' ≤ R.slots) (hdg : decode cc pc = .ok (.newarray .int, 2))
    (kk : ∀ (q : Nat) (H1 : Heap), g.1 q = 0 → Tv D cI cZ cS cR N0 s.heap H1 locs (sA g q r N') → W p l e R s m args below meth c H1 locs (cells + 1) (slots + N') Q (F0 m (pc + 2) ls (.ref q :: rest))) : W p l e R s m args below meth c H locs cells slots Q (F0 m pc ls (.int n :: rest)) := by
  refine va_newaK (atype := .int) hB.1 hB.2.1 (hB.2.2.2.2.1 _ harr) rfl hdg rfl hn hN hb hcells hslots rfl fun H1 cA' e1 z1 o1 hAr hNm => ?_
  have hc : cA' = cI := by
    have h1 : s.vm.findClass ("[" ++ FieldType.int.toString) = some cI := (hB.2.2.2.2.2.1.2 0 _ rfl).2
    exact Option.some.inj (hNm.symm.trans h1)
  subst hc
  have h0 := hT.1.z
  refine kk H.size H1 h0 ⟨fun x => ?_, ⟨Nat.le_trans hT.2.1 (by omega), fun x h1 h2 => (o1 x (Nat.lt_of_lt_of_le h1 hT.2.1)).trans (hT.2.2.1 x h1 h2), hT.2.2.2⟩⟩
  by_cases hx : x = H.size
  · subst hx
    have er : (sA g H.size r N').1 H.size = r := if_pos rfl
    refine ⟨fun ci q hc' _ => ?_, fun _ => ?_, fun h => ?_, fun h => ?_, fun h => ?_, fun _ => ⟨Nat.le_trans hB.2.2.2.2.2.2.1 hT.2.1, by omega⟩⟩
    · exfalso
      rw [er] at hc'
      unfold ciOf at hc'
      rw [if_neg (by omega), if_neg (by omega), if_neg (by omega)] at hc'
      cases hc'
    · show H1[H.size]? = some (vp_cell _ ((if H.size = H.size then N' else _), .inl (fun j => if H.size = H.size then 0 else _)))
      rw [e1, if_pos rfl, vp_cell_i]
      congr 2
      funext j
      rw [if_pos rfl]
      rfl
    · exfalso; rw [er] at h; omega
    · exfalso; rw [er] at h; omega
    · exfalso; rw [er] at h; omega
  · have hx' : ∀ {α : Type} (u v : α), (if x = H.size then u else v) = v := fun u v => if_neg hx
    by_cases hl : x < H.size
    · exact (hT.1 x).kept (o1 x hl) (by omega) (hx' _ _) rfl (hx' _ _) (by funext j; exact hx' _ _) (by funext j; exact hx' _ _)
    · have g0 : g.1 x = 0 := by
        by_cases h0' : g.1 x = 0
        · exact h0'
        · exact absurd ((hT.1 x).2.2.2.2.2 h0').2 hl
      have er : (sA g H.size r N').1 x = 0 := (hx' _ _).trans g0
      refine ⟨fun ci q hc' _ => ?_, fun h => ?_, fun h => ?_, fun h => ?_, fun h => ?_, fun h => absurd er h⟩
      · exfalso; rw [er] at hc'; simp [ciOf] at hc'
      · exfalso; rw [er] at h; omega
      · exfalso; rw [er] at h; omega
      · exfalso; rw [er] at h; omega
      · exfalso; rw [er] at h; omega
theorem Inv.sA {fr : Int32} {g : GS} {a r n : Nat} (h : Inv fr g) (h0 : g.1 a = 0) (hF : ∀ g' k v, Fok g' fr r k v) (hC : Cok r 0) (hQ : ∀ g', Qok g' r none) (hcl : ∀ b k v, Fok g fr (g.1 b) k v → Fok (sA g a r n) fr (g.1 b) k v) (hql : ∀ b v, Qok g (g.1 b) v → Qok (sA g a r n) (g.1 b) v) : Inv fr (sA g a r n) := by
  refine ⟨fun x k => ?_, fun x i hi => ?_, fun x i hi => ?_⟩
  · show Fok _ fr (if x = a then r else g.1 x) k (g.2.1 x k)
    by_cases hx : x = a
    · rw [if_pos hx]; exact hF _ k _
    · rw [if_neg hx]; exact hcl x k _ (h.1 x k)
  · show Cok (if x = a then r else g.1 x) (if x = a then 0 else g.2.2.2.1 x i)
    by_cases hx : x = a
    · rw [if_pos hx, if_pos hx]; exact hC
    · rw [if_neg hx, if_neg hx]
      exact h.2.1 x i (by have hi' : i < (if x = a then n else g.2.2.1 x) := hi; rw [if_neg hx] at hi'; exact hi')
  · show Qok _ (if x = a then r else g.1 x) (if x = a then none else g.2.2.2.2 x i)
    by_cases hx : x = a
    · rw [if_pos hx, if_pos hx]; exact hQ _
    · rw [if_neg hx, if_neg hx]
      exact hql x _ (h.2.2 x i (by have hi' : i < (if x = a then n else g.2.2.1 x) := hi; rw [if_neg hx] at hi'; exact hi'))
end TN
