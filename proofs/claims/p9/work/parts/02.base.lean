/-! the words that every method of this claim has: the good ones of the tables -/
def tb : List Cond := lw_tbl.filter goodWord
theorem mt {w : Cond} (i : Nat) (h : lw_tbl[i]? = some w) (g : goodWord w = true) : w ∈ tb := List.mem_filter.mpr ⟨List.mem_of_getElem? h, g⟩
theorem tb_sub : ∀ w ∈ tb, w ∈ lw_tbl := fun _ h => (List.mem_filter.mp h).1
theorem tb_good {w : Cond} (h : w ∈ tb) : goodWord w = true := (List.mem_filter.mp h).2
theorem gd {y y' : MethodName} {b b' : ByteArray} {n n' : Nat} {r r' : Option FieldType} (h : Cond.code y' b' n' r' ∈ tb) : GoodIn (Cond.code y b n r :: tb) (Cond.code y' b' n' r' :: tb) := fun w hw => by
  rcases List.mem_cons.mp hw with rfl | hw
  · exact ⟨List.mem_cons_of_mem _ h, good_of_word (tb_good h)⟩
  · exact ⟨List.mem_cons_of_mem _ hw, good_of_word (tb_good hw)⟩
theorem gd0 {y' : MethodName} {b' : ByteArray} {n' : Nat} {r' : Option FieldType} (h : Cond.code y' b' n' r' ∈ tb) : GoodIn tb (Cond.code y' b' n' r' :: tb) := fun w hw => by
  rcases List.mem_cons.mp hw with rfl | hw
  · exact ⟨h, good_of_word (tb_good h)⟩
  · exact ⟨hw, good_of_word (tb_good hw)⟩
theorem ly_X0 : ∀ k, k < 4 → u_lay RX0 TX0 k ∈ tb := by
  intro k hk
  match k, hk with
  | 0, _ => exact mt 257 (by decide +kernel) rfl
  | 1, _ => exact mt 259 (by decide +kernel) rfl
  | 2, _ => exact mt 261 (by decide +kernel) rfl
  | 3, _ => exact mt 263 (by decide +kernel) rfl
  | k + 4, hk => exact absurd hk (by omega)
theorem ly_X1 : ∀ k, k < 10 → u_lay RX1 TX1 k ∈ tb := by
  intro k hk
  match k, hk with
  | 0, _ => exact mt 287 (by decide +kernel) rfl
  | 1, _ => exact mt 289 (by decide +kernel) rfl
  | 2, _ => exact mt 291 (by decide +kernel) rfl
  | 3, _ => exact mt 293 (by decide +kernel) rfl
  | 4, _ => exact mt 295 (by decide +kernel) rfl
  | 5, _ => exact mt 297 (by decide +kernel) rfl
  | 6, _ => exact mt 299 (by decide +kernel) rfl
  | 7, _ => exact mt 301 (by decide +kernel) rfl
  | 8, _ => exact mt 303 (by decide +kernel) rfl
  | 9, _ => exact mt 305 (by decide +kernel) rfl
  | k + 10, hk => exact absurd hk (by omega)
theorem ly_X2 : ∀ k, k < 4 → u_lay RX2 TX2 k ∈ tb := by
  intro k hk
  match k, hk with
  | 0, _ => exact mt 134 (by decide +kernel) rfl
  | 1, _ => exact mt 136 (by decide +kernel) rfl
  | 2, _ => exact mt 138 (by decide +kernel) rfl
  | 3, _ => exact mt 140 (by decide +kernel) rfl
  | k + 4, hk => exact absurd hk (by omega)
theorem ly_X3 : ∀ k, k < 15 → u_lay RX3 TX3 k ∈ tb := by
  intro k hk
  match k, hk with
  | 0, _ => exact mt 168 (by decide +kernel) rfl
  | 1, _ => exact mt 170 (by decide +kernel) rfl
  | 2, _ => exact mt 172 (by decide +kernel) rfl
  | 3, _ => exact mt 174 (by decide +kernel) rfl
  | 4, _ => exact mt 176 (by decide +kernel) rfl
  | 5, _ => exact mt 178 (by decide +kernel) rfl
  | 6, _ => exact mt 180 (by decide +kernel) rfl
  | 7, _ => exact mt 182 (by decide +kernel) rfl
  | 8, _ => exact mt 184 (by decide +kernel) rfl
  | 9, _ => exact mt 186 (by decide +kernel) rfl
  | 10, _ => exact mt 188 (by decide +kernel) rfl
  | 11, _ => exact mt 190 (by decide +kernel) rfl
  | 12, _ => exact mt 192 (by decide +kernel) rfl
  | 13, _ => exact mt 194 (by decide +kernel) rfl
  | 14, _ => exact mt 196 (by decide +kernel) rfl
  | k + 15, hk => exact absurd hk (by omega)
theorem ly_X4 : ∀ k, k < 4 → u_lay RX4 TX4 k ∈ tb := by
  intro k hk
  match k, hk with
  | 0, _ => exact mt 92 (by decide +kernel) rfl
  | 1, _ => exact mt 94 (by decide +kernel) rfl
  | 2, _ => exact mt 96 (by decide +kernel) rfl
  | 3, _ => exact mt 98 (by decide +kernel) rfl
  | k + 4, hk => exact absurd hk (by omega)
theorem ly_X5 : ∀ k, k < 8 → u_lay RX5 TX5 k ∈ tb := by
  intro k hk
  match k, hk with
  | 0, _ => exact mt 217 (by decide +kernel) rfl
  | 1, _ => exact mt 219 (by decide +kernel) rfl
  | 2, _ => exact mt 221 (by decide +kernel) rfl
  | 3, _ => exact mt 223 (by decide +kernel) rfl
  | 4, _ => exact mt 225 (by decide +kernel) rfl
  | 5, _ => exact mt 227 (by decide +kernel) rfl
  | 6, _ => exact mt 229 (by decide +kernel) rfl
  | 7, _ => exact mt 231 (by decide +kernel) rfl
  | k + 8, hk => exact absurd hk (by omega)
theorem ly_X6 : ∀ k, k < 7 → u_lay RX6 TX6 k ∈ tb := by
  intro k hk
  match k, hk with
  | 0, _ => exact mt 315 (by decide +kernel) rfl
  | 1, _ => exact mt 317 (by decide +kernel) rfl
  | 2, _ => exact mt 319 (by decide +kernel) rfl
  | 3, _ => exact mt 321 (by decide +kernel) rfl
  | 4, _ => exact mt 323 (by decide +kernel) rfl
  | 5, _ => exact mt 325 (by decide +kernel) rfl
  | 6, _ => exact mt 327 (by decide +kernel) rfl
  | k + 7, hk => exact absurd hk (by omega)
theorem ly_X7 : ∀ k, k < 67 → u_lay RX7 TX7 k ∈ tb := by
  intro k hk
  match k, hk with
  | 0, _ => exact mt 812 (by decide +kernel) rfl
  | 1, _ => exact mt 814 (by decide +kernel) rfl
  | 2, _ => exact mt 816 (by decide +kernel) rfl
  | 3, _ => exact mt 818 (by decide +kernel) rfl
  | 4, _ => exact mt 820 (by decide +kernel) rfl
  | 5, _ => exact mt 822 (by decide +kernel) rfl
  | 6, _ => exact mt 824 (by decide +kernel) rfl
  | 7, _ => exact mt 826 (by decide +kernel) rfl
  | 8, _ => exact mt 828 (by decide +kernel) rfl
  | 9, _ => exact mt 830 (by decide +kernel) rfl
  | 10, _ => exact mt 832 (by decide +kernel) rfl
  | 11, _ => exact mt 834 (by decide +kernel) rfl
  | 12, _ => exact mt 836 (by decide +kernel) rfl
  | 13, _ => exact mt 838 (by decide +kernel) rfl
  | 14, _ => exact mt 840 (by decide +kernel) rfl
  | 15, _ => exact mt 842 (by decide +kernel) rfl
  | 16, _ => exact mt 844 (by decide +kernel) rfl
  | 17, _ => exact mt 846 (by decide +kernel) rfl
  | 18, _ => exact mt 848 (by decide +kernel) rfl
  | 19, _ => exact mt 850 (by decide +kernel) rfl
  | 20, _ => exact mt 852 (by decide +kernel) rfl
  | 21, _ => exact mt 854 (by decide +kernel) rfl
  | 22, _ => exact mt 856 (by decide +kernel) rfl
  | 23, _ => exact mt 858 (by decide +kernel) rfl
  | 24, _ => exact mt 860 (by decide +kernel) rfl
  | 25, _ => exact mt 862 (by decide +kernel) rfl
  | 26, _ => exact mt 864 (by decide +kernel) rfl
  | 27, _ => exact mt 866 (by decide +kernel) rfl
  | 28, _ => exact mt 868 (by decide +kernel) rfl
  | 29, _ => exact mt 870 (by decide +kernel) rfl
  | 30, _ => exact mt 872 (by decide +kernel) rfl
  | 31, _ => exact mt 874 (by decide +kernel) rfl
  | 32, _ => exact mt 876 (by decide +kernel) rfl
  | 33, _ => exact mt 878 (by decide +kernel) rfl
  | 34, _ => exact mt 880 (by decide +kernel) rfl
  | 35, _ => exact mt 882 (by decide +kernel) rfl
  | 36, _ => exact mt 884 (by decide +kernel) rfl
  | 37, _ => exact mt 886 (by decide +kernel) rfl
  | 38, _ => exact mt 888 (by decide +kernel) rfl
  | 39, _ => exact mt 890 (by decide +kernel) rfl
  | 40, _ => exact mt 892 (by decide +kernel) rfl
  | 41, _ => exact mt 894 (by decide +kernel) rfl
  | 42, _ => exact mt 896 (by decide +kernel) rfl
  | 43, _ => exact mt 898 (by decide +kernel) rfl
  | 44, _ => exact mt 900 (by decide +kernel) rfl
  | 45, _ => exact mt 902 (by decide +kernel) rfl
  | 46, _ => exact mt 904 (by decide +kernel) rfl
  | 47, _ => exact mt 906 (by decide +kernel) rfl
  | 48, _ => exact mt 908 (by decide +kernel) rfl
  | 49, _ => exact mt 910 (by decide +kernel) rfl
  | 50, _ => exact mt 912 (by decide +kernel) rfl
  | 51, _ => exact mt 914 (by decide +kernel) rfl
  | 52, _ => exact mt 916 (by decide +kernel) rfl
  | 53, _ => exact mt 918 (by decide +kernel) rfl
  | 54, _ => exact mt 920 (by decide +kernel) rfl
  | 55, _ => exact mt 922 (by decide +kernel) rfl
  | 56, _ => exact mt 924 (by decide +kernel) rfl
  | 57, _ => exact mt 926 (by decide +kernel) rfl
  | 58, _ => exact mt 928 (by decide +kernel) rfl
  | 59, _ => exact mt 930 (by decide +kernel) rfl
  | 60, _ => exact mt 932 (by decide +kernel) rfl
  | 61, _ => exact mt 934 (by decide +kernel) rfl
  | 62, _ => exact mt 936 (by decide +kernel) rfl
  | 63, _ => exact mt 938 (by decide +kernel) rfl
  | 64, _ => exact mt 940 (by decide +kernel) rfl
  | 65, _ => exact mt 942 (by decide +kernel) rfl
  | 66, _ => exact mt 944 (by decide +kernel) rfl
  | k + 67, hk => exact absurd hk (by omega)
theorem cl_in : ∀ (ci : Nat) (q : vw_C), vwCl[ci]? = some q → ∀ w ∈ u_ws q.1 q.2.1 q.2.2, w ∈ tb := by
  intro ci q hq w hw
  obtain ⟨k, hk, rfl⟩ := List.mem_map.mp hw
  have hk := List.mem_range.mp hk
  match ci, hq with
  | 0, hq => cases hq; exact ly_X0 k hk
  | 1, hq => cases hq; exact ly_X1 k hk
  | 2, hq => cases hq; exact ly_X2 k hk
  | 3, hq => cases hq; exact ly_X3 k hk
  | 4, hq => cases hq; exact ly_X4 k hk
  | 5, hq => cases hq; exact ly_X5 k hk
  | 6, hq => cases hq; exact ly_X6 k hk
  | 7, hq => cases hq; exact ly_X7 k hk
  | ci + 8, hq => simp [vwCl] at hq
def clty : Nat → Nat → FieldType := fun ci => match ci with
  | 0 => tyX0
  | 1 => tyX1
  | 2 => tyX2
  | 3 => tyX3
  | 4 => tyX4
  | 5 => tyX5
  | 6 => tyX6
  | _ => tyX7
theorem cl_ty : ∀ (ci : Nat) (q : vw_C), vwCl[ci]? = some q → ∀ k, k < q.2.2 → parseFieldDescriptor (q.2.1 k).2.2.1 = some (clty ci k) := by
  intro ci q hq
  match ci, hq with
  | 0, hq => cases hq; exact tyX0_ok
  | 1, hq => cases hq; exact tyX1_ok
  | 2, hq => cases hq; exact tyX2_ok
  | 3, hq => cases hq; exact tyX3_ok
  | 4, hq => cases hq; exact tyX4_ok
  | 5, hq => cases hq; exact tyX5_ok
  | 6, hq => cases hq; exact tyX6_ok
  | 7, hq => cases hq; exact tyX7_ok
  | ci + 8, hq => simp [vwCl] at hq
theorem cl_nm : ∀ (ci : Nat) (q : vw_C), vwCl[ci]? = some q → ∀ a, a < q.2.2 → ∀ b, b < q.2.2 → a ≠ b → (q.2.1 a).2.1 ≠ (q.2.1 b).2.1 := by
  intro ci q hq
  match ci, hq with
  | 0, hq => cases hq; exact nmX0
  | 1, hq => cases hq; exact nmX1
  | 2, hq => cases hq; exact nmX2
  | 3, hq => cases hq; exact nmX3
  | 4, hq => cases hq; exact nmX4
  | 5, hq => cases hq; exact nmX5
  | 6, hq => cases hq; exact nmX6
  | 7, hq => cases hq; exact nmX7
  | ci + 8, hq => simp [vwCl] at hq
/-- from where on the heap is ours; the table of words; the text of words, its bytes -/
abbrev NT : Type := Nat × Nat × Nat × Nat
/-! array classes of every world: int[], boolean[], Service[] -/
abbrev ty3 (cI cZ cS : ClassId) : List (ClassId × FieldType) := [(cI, .int), (cZ, .boolean), (cS, .object "TwiceOnce$Service")]
/-! words that no list of good words holds, and what lies in the heap from the start -/
def tabW : Nat → Value := fun j => .int (([0, 4, 8, 12, 16, 20, 24, 27, 30] : List Int32).getD j 0)
def strW : List Int32 := [115, 101, 116, 32, 97, 100, 100, 32, 109, 97, 120, 32, 110, 101, 119, 32, 103, 101, 116, 32, 97, 115, 107, 32, 100, 111, 32, 105, 102, 32]
def Tx (N0 : NT) (U : State) : Prop := va_Z "TwiceOnce$Tape" "WORD_BEGINS" "[I" (.ref N0.2.1) (fun q => N0.1 ≤ q) U U.heap ∧ va_T .int N0.2.1 9 tabW (fun q => N0.1 ≤ q) U U.heap ∧ vk_R "TwiceOnce$Tape" 62 "set add max new get ask do if " N0.2.2.1 U ∧
  va_O "java/lang/String" N0.2.2.1 (fun q => N0.1 ≤ q) U U.heap ∧ va_OF "java/lang/String" "coder" "B" (.int 0) N0.2.2.1 (fun q => N0.1 ≤ q) U U.heap ∧ va_OF "java/lang/String" "value" "[B" (.ref N0.2.2.2) N0.2.2.1 (fun q => N0.1 ≤ q) U U.heap ∧ va_T .byte N0.2.2.2 30 (fun j => .int (strW.getD j 0)) (fun q => N0.1 ≤ q) U U.heap ∧
  va_Z "java/lang/String" "COMPACT_STRINGS" "Z" (.int 1) (fun q => N0.1 ≤ q) U U.heap ∧ va_Zq "jdk/internal/util/Preconditions" "SIOOBE_FORMATTER" "Ljava/util/function/BiFunction;" (fun q => N0.1 ≤ q) U U.heap
def Nb (N0 : NT) (U : State) : Prop :=
  va_Nw (.methodLinkNest RX6 11 yX4_init RX6) U ∧ va_Nw (.methodLinkNest RX5 41 yX3_init RX6) U ∧ va_Nw (.methodLinkNest RX3 11 yX2_init RX6) U ∧ va_Nw (.methodLinkNest RX6 37 yX1_init RX6) U ∧ va_Nw (.methodLinkNest RX4 29 yX2_init RX6) U ∧ va_AO "TwiceOnce$Service" U ∧ (Cond.arrayOver (.array .int)).before #[] U = true ∧ Tx N0 U ∧ va_Nw (.methodLinkNest RX4 76 yX6_within RX6) U
theorem Tx.go {N0 : NT} {s U : State} {A : Nat → Prop} {H : Heap} {locs : List Loc} (h : Tx N0 s) (hS : va_S A s.heap H locs) (hA : ∀ q, A q → N0.1 ≤ q) (hU : U.heap = H) (hW : s.WarmedH U.vm) : Tx N0 U := by
  obtain ⟨h1, h2, h3, h4, h5, h6, h7, h8, h9⟩ := h
  have hk : ∀ a : Nat, a < s.heap.size → ¬ (fun q => N0.1 ≤ q) a → U.heap[a]? = s.heap[a]? := fun a ha hn => by rw [hU]; exact hS.2.1 a ha (fun q => hn (hA a q))
  exact ⟨va_Z.moved hW.alike (h1.kept hk), va_T.moved hW.alike (h2.kept hk), vk_R.warm hW h3, va_O.moved hW.alike (h4.kept hk), va_OF.moved hW.alike (h5.kept hk), va_OF.moved hW.alike (h6.kept hk), va_T.moved hW.alike (h7.kept hk), va_Z.moved hW.alike (h8.kept hk), va_Zq.moved hW.alike (h9.kept hk)⟩
theorem aoa_moved {u U : State} {t : FieldType} (hvm : u.vm.Alike U.vm) (h : (Cond.arrayOver (.array t)).before #[] u = true) : (Cond.arrayOver (.array t)).before #[] U = true := by
  obtain ⟨comp, c, k, h1, h2, h3, h4, h5⟩ := arrayOverA_spec h
  obtain ⟨k', hk', he⟩ := hvm.2.2 _ _ h3
  have hkind : k'.kind = .array comp (.array t) := by rw [he]; exact h4
  have f1 : U.vm.findClass (FieldType.array t).toString = some comp := by rw [hvm.findClass]; exact h1
  have f2 : U.vm.findClass ("[" ++ (FieldType.array t).toString) = some c := by rw [hvm.findClass]; exact h5
  unfold Cond.before
  simp only [Cond.holds, Cond.value, f1, Option.bind_some, beq_iff_eq]
  rw [Option.bind_eq_some_iff]
  refine ⟨c, (hvm.findIdx?_eq _ (fun _ => rfl)).trans h2, ?_⟩
  simp [hk', hkind, f2]
theorem Nb.go {N0 : NT} {s U : State} {A : Nat → Prop} {H : Heap} {locs : List Loc} (h : Nb N0 s) (hS : va_S A s.heap H locs) (hA : ∀ q, A q → N0.1 ≤ q) (hU : U.heap = H) (hW : s.WarmedH U.vm) : Nb N0 U := by
  obtain ⟨h1, h2, h3, h4, h5, h6, h7, h8, h9⟩ := h
  exact ⟨h1.warmM hW, h2.warmM hW, h3.warmM hW, h4.warmM hW, h5.warmM hW, h6.moved hW.alike, aoa_moved hW.alike h7, h8.go hS hA hU hW, h9.warmM hW⟩
theorem Nb.calling {N0 : NT} {U : State} {g : JFrame} {mk : MethodId} {a : Array Value} (h : Nb N0 U) : Nb N0 (U.calling g mk a) :=
  Nb.go (A := fun _ => False) (H := U.heap) (locs := []) h ⟨Nat.le_refl _, fun _ _ _ => rfl, fun _ h => by cases h⟩ (fun _ h => h.elim) rfl (State.WarmedH.refl U)
/-! what stays in a walk; what moves -/
def Bx (p : Program) (s : State) (m : MethodId) (meth : Method) (c : Code) (args : Array Value) (cc : ByteArray) (nL : Nat) (own : String) (D : va_G) (cI cZ cS : ClassId) (A : Nat → Prop) (N0 : NT) : Prop :=
  p.tables.exec = Jvm.exec ∧ c.code = cc ∧ c.maxLocals = nL ∧ s.vm.findClass own = some m.cls ∧ (∀ w ∈ tb, w.before args s = true) ∧ va_K D vwCl (ty3 cI cZ cS) s ∧ (∀ q, s.heap.size ≤ q → A q) ∧ (∀ q, A q → N0.1 ≤ q) ∧ Nb N0 s ∧ meth.locks = false
def Vx (D : va_G) (A : Nat → Prop) (H0 H : Heap) (locs : List Loc) (ws : va_W) : Prop := va_P D vwCl ws H ∧ va_D A ws ∧ va_S A H0 H locs
/-- a contract's start: the cells ws, all behind N0; its end: an answer and cells w that the post names -/
def xP (D : va_G) (cI cZ cS : ClassId) (N0 : NT) (av : List Value) (ws : va_W) (sz : Nat) : Array Value → State → Prop := va_Pc av (fun U => U.heap.size = sz ∧ N0.1 ≤ sz ∧ va_P D vwCl ws U.heap ∧ va_K D vwCl (ty3 cI cZ cS) U ∧ va_D (fun q => N0.1 ≤ q) ws ∧ Nb N0 U)
def xQ (D : va_G) (ws : va_W) (sz : Nat) (post : Option Value → va_W → Prop) : Array Value → State → Outcome → State → Prop := fun _ st oc t => (∃ (v : Option Value) (w : va_W), oc = .returned v ∧ post v w ∧ va_P D vwCl w t.heap ∧ va_D (va_A ws sz) w) ∧ va_F (va_A ws sz) st t
abbrev rmx (d mc ms : Nat) : Room := { frames := d + 1, cells := mc, slots := ms, locals := 64 * (d + 1) }
def Mx (l : Launch) (D : va_G) (cI cZ cS : ClassId) (N0 : NT) (y : MethodName) (b : ByteArray) (n : Nat) (r : Option FieldType) (d mc ms : Nat) (av : List Value) (ws : va_W) (post : Option Value → va_W → Prop) : Prop :=
  ∀ sz : Nat, Met l y (Cond.code y b n r :: tb) (rmx d mc ms) (xP D cI cZ cS N0 av ws sz) (xQ D ws sz post) mc ms (va_A ws sz)
theorem x_enter {l : Launch} {D : va_G} {cI cZ cS : ClassId} {N0 : NT} {y : MethodName} {b : ByteArray} {n : Nat} {r : Option FieldType} {d mc ms : Nat} {av : List Value} {ws : va_W} {post : Option Value → va_W → Prop} (hy : plainName y.cls = true) (hn : (lg_sl av).length ≤ n)
    (body : ∀ (p : Program) (e : Env) (s : State) (m : MethodId) (args : Array Value) (below : List Frame) (meth : Method) (c : Code) (A : Nat → Prop) (ls : Array Slot) (H : Heap) (locs : List Loc), Bx p s m meth c args b n y.cls D cI cZ cS A N0 → meth.sig.returnType = r → meth.name = y.name → lv_has ls n (lv_args 0 av) → Vx D A s.heap H locs ws → A = va_A ws s.heap.size →
      W p l e (rmx d mc ms) s m args below meth c H locs 0 0 (MQ below (xQ D ws s.heap.size post) args s mc ms A) (F0 m 0 ls [])) : Mx l D cI cZ cS N0 y b n r d mc ms av ws post := by
  intro sz
  refine Met.ofW (cc := b) (maxL := n) (ret := r) hy rfl ?_
  intro p e s m args below meth c s₁ B hml hv
  obtain ⟨rfl, hsz, hN, hP, hK, hD0, hNb⟩ := hv
  have hts := atoms_spec (ws := Cond.code y b n r :: tb) B.pre
  subst hsz
  have hl := lv_entry av (n := n) hn
  rw [lg_entry_eq]
  generalize (lg_sl av ++ List.replicate (n - (lg_sl av).length) Slot.unset).toArray = ls at hl ⊢
  have hAN : ∀ q, va_A ws s.heap.size q → N0.1 ≤ q := fun q h => by
    rcases h with ⟨k, e, hk⟩ | h
    · exact hD0.2 k _ hk
    · exact Nat.le_trans hN h
  exact body p e s m _ below meth c (va_A ws s.heap.size) ls s.heap [] ⟨B.exec, B.bytes, hml, findClass_of_methodNamed B.named, fun w hw => hts w (List.mem_cons_of_mem _ hw), hK, fun q h => Or.inr h, hAN, hNb, B.notSynchronized⟩ B.returns (name_of_methodNamed B.named B.method).1 hl ⟨hP, hD0.self, va_S.rf⟩ rfl
section XS
variable {p : Program} {l : Launch} {e : Env} {R : Room} {s : State} {m : MethodId} {args : Array Value} {below : List Frame} {meth : Method} {c : Code} {H : Heap} {locs : List Loc} {cells slots : Nat} {Q : State → Prop}
variable {cc : ByteArray} {pc nL : Nat} {ls : Array Slot} {rest : List Value} {own : String} {D : va_G} {cI cZ cS : ClassId} {A : Nat → Prop} {N0 : NT} {a : Nat} {ws : va_W}
theorem x_ev {x y : Int32} (h : x = y) (k : W p l e R s m args below meth c H locs cells slots Q (F0 m pc ls (.int y :: rest))) : W p l e R s m args below meth c H locs cells slots Q (F0 m pc ls (.int x :: rest)) := by rw [h]; exact k
theorem x_get (hB : Bx p s m meth c args cc nL own D cI cZ cS A N0) (hV : Vx D A s.heap H locs ws) (q0 : Nat) {ci N index : Nat} {C : String} {T : u_T} {fs : List Value} {v : Value} (he : ws[q0]? = some (a, .inr (ci, fs))) (hc : vwCl[ci]? = some (C, T, N)) (k : Nat) (hk : k < N) (hl : Cond.fieldLink own index (T k).1 (T k).2.1 (T k).2.2.1 ∈ tb) (hv : fs[k]? = some v) (hdg : decode cc pc = .ok (.getfield index, 3))
    (kk : W p l e R s m args below meth c H locs cells slots Q (F0 m (pc + 3) ls (v :: rest))) : W p l e R s m args below meth c H locs cells slots Q (F0 m pc ls (.ref a :: rest)) :=
  va_get hB.1 hB.2.1 hB.2.2.2.2.1 (cl_in ci _ hc) hB.2.2.2.1 hB.2.2.2.2.2.1 hV.1 q0 he hc k hk (hB.2.2.2.2.1 _ hl) (fun _ h => h) hv hdg kk
theorem x_put (hB : Bx p s m meth c args cc nL own D cI cZ cS A N0) (hV : Vx D A s.heap H locs ws) (q0 : Nat) {ci N index : Nat} {C : String} {T : u_T} {fs : List Value} {v : Value} (he : ws[q0]? = some (a, .inr (ci, fs))) (hc : vwCl[ci]? = some (C, T, N)) (k : Nat) (hk : k < N) (hl : Cond.fieldLink own index (T k).1 (T k).2.1 (T k).2.2.1 ∈ tb) (hfin : (T k).2.2.2 = false) (hn : narrow (clty ci k) v = v) (hfit : fits (clty ci k) v = true) (hlt : k < fs.length) (hdg : decode cc pc = .ok (.putfield index, 3))
    (kk : ∀ (H1 : Heap) (locs1 : List Loc), Vx D A s.heap H1 locs1 (ws.set q0 (a, .inr (ci, fs.set k v))) → W p l e R s m args below meth c H1 locs1 cells slots Q (F0 m (pc + 3) ls rest)) : W p l e R s m args below meth c H locs cells slots Q (F0 m pc ls (v :: .ref a :: rest)) :=
  va_put hB.1 hB.2.1 hB.2.2.2.2.1 (cl_in ci _ hc) (clty ci) (cl_ty ci _ hc) (cl_nm ci _ hc) hB.2.2.2.1 hB.2.2.2.2.2.1 hV.1 hV.2.1 hV.2.2 q0 he hc k hk (hB.2.2.2.2.1 _ hl) (fun _ h => h) hfin (cl_ty ci _ hc k hk) hn hfit hlt hdg (fun H1 l1 h1 h2 h3 => kk H1 l1 ⟨h1, h2, h3⟩)
theorem x_putF (hB : Bx p s m meth c args cc nL own D cI cZ cS A N0) (hV : Vx D A s.heap H locs ws) (hin : meth.name = "<init>") (q0 : Nat) {ci N index : Nat} {C : String} {T : u_T} {fs : List Value} {v : Value} (he : ws[q0]? = some (a, .inr (ci, fs))) (hc : vwCl[ci]? = some (C, T, N)) (k : Nat) (hk : k < N) (hl : Cond.fieldLink own index (T k).1 (T k).2.1 (T k).2.2.1 ∈ tb) (hfin : (T k).2.2.2 = true) (hdecl : (T k).1 = own) (hn : narrow (clty ci k) v = v) (hfit : fits (clty ci k) v = true) (hlt : k < fs.length) (hdg : decode cc pc = .ok (.putfield index, 3))
    (kk : ∀ (H1 : Heap) (locs1 : List Loc), Vx D A s.heap H1 locs1 (ws.set q0 (a, .inr (ci, fs.set k v))) → W p l e R s m args below meth c H1 locs1 cells slots Q (F0 m (pc + 3) ls rest)) : W p l e R s m args below meth c H locs cells slots Q (F0 m pc ls (v :: .ref a :: rest)) :=
  va_putF hB.1 hB.2.1 hB.2.2.2.2.1 (cl_in ci _ hc) (clty ci) (cl_ty ci _ hc) (cl_nm ci _ hc) hB.2.2.2.1 hB.2.2.2.2.2.1 hV.1 hV.2.1 hV.2.2 q0 he hc k hk (hB.2.2.2.2.1 _ hl) (fun _ h => h) hfin hin hdecl (cl_ty ci _ hc k hk) hn hfit hlt hdg (fun H1 l1 h1 h2 h3 => kk H1 l1 ⟨h1, h2, h3⟩)
theorem x_iald (hB : Bx p s m meth c args cc nL own D cI cZ cS A N0) (hV : Vx D A s.heap H locs ws) (q0 : Nat) {n : Nat} {f : Nat → Int32} {i v : Int32} (ha : ws[q0]? = some (a, .inl (cI, n, .inl f))) (hin : vp_in i n) (hv : f i.toNatClampNeg = v) (hdg : decode cc pc = .ok (.iaload, 1))
    (kk : W p l e R s m args below meth c H locs cells slots Q (F0 m (pc + 1) ls (.int v :: rest))) : W p l e R s m args below meth c H locs cells slots Q (F0 m pc ls (.int i :: .ref a :: rest)) := by
  subst hv
  exact va_iald hB.1 hB.2.1 hB.2.2.2.2.2.1 hV.1 q0 0 ha rfl hin hdg kk
theorem x_zald (hB : Bx p s m meth c args cc nL own D cI cZ cS A N0) (hV : Vx D A s.heap H locs ws) (q0 : Nat) {n : Nat} {f : Nat → Int32} {i v : Int32} (ha : ws[q0]? = some (a, .inl (cZ, n, .inl f))) (hin : vp_in i n) (hv : f i.toNatClampNeg = v) (hdg : decode cc pc = .ok (.baload, 1))
    (kk : W p l e R s m args below meth c H locs cells slots Q (F0 m (pc + 1) ls (.int v :: rest))) : W p l e R s m args below meth c H locs cells slots Q (F0 m pc ls (.int i :: .ref a :: rest)) := by
  subst hv
  exact va_zald hB.1 hB.2.1 hB.2.2.2.2.2.1 hV.1 q0 1 ha rfl hin hdg kk
theorem x_iast (hB : Bx p s m meth c args cc nL own D cI cZ cS A N0) (hV : Vx D A s.heap H locs ws) (q0 : Nat) {n : Nat} {f g : Nat → Int32} {i x : Int32} (ha : ws[q0]? = some (a, .inl (cI, n, .inl f))) (hin : vp_in i n) (hg : upd f i.toNatClampNeg x = g) (hdg : decode cc pc = .ok (.iastore, 1))
    (kk : ∀ (H1 : Heap) (locs1 : List Loc), Vx D A s.heap H1 locs1 (ws.set q0 (a, .inl (cI, n, .inl g))) → W p l e R s m args below meth c H1 locs1 cells slots Q (F0 m (pc + 1) ls rest)) : W p l e R s m args below meth c H locs cells slots Q (F0 m pc ls (.int x :: .int i :: .ref a :: rest)) := by
  subst hg
  exact va_iast hB.1 hB.2.1 hB.2.2.2.2.2.1 hV.1 hV.2.1 hV.2.2 q0 0 ha rfl hin hdg (fun H1 l1 h1 h2 h3 => kk H1 l1 ⟨h1, h2, h3⟩)
theorem x_zast (hB : Bx p s m meth c args cc nL own D cI cZ cS A N0) (hV : Vx D A s.heap H locs ws) (q0 : Nat) {n : Nat} {f g : Nat → Int32} {i x : Int32} (ha : ws[q0]? = some (a, .inl (cZ, n, .inl f))) (hin : vp_in i n) (hg : upd f i.toNatClampNeg (vp_nar .boolean x) = g) (hdg : decode cc pc = .ok (.bastore, 1))
    (kk : ∀ (H1 : Heap) (locs1 : List Loc), Vx D A s.heap H1 locs1 (ws.set q0 (a, .inl (cZ, n, .inl g))) → W p l e R s m args below meth c H1 locs1 cells slots Q (F0 m (pc + 1) ls rest)) : W p l e R s m args below meth c H locs cells slots Q (F0 m pc ls (.int x :: .int i :: .ref a :: rest)) := by
  subst hg
  exact va_zast hB.1 hB.2.1 hB.2.2.2.2.2.1 hV.1 hV.2.1 hV.2.2 q0 1 ha rfl hin hdg (fun H1 l1 h1 h2 h3 => kk H1 l1 ⟨h1, h2, h3⟩)
theorem x_alen (hB : Bx p s m meth c args cc nL own D cI cZ cS A N0) (hV : Vx D A s.heap H locs ws) (q0 : Nat) {x : vp_A} {v : Int32} (ha : ws[q0]? = some (a, .inl (cI, x))) (hv : Int32.ofNat x.1 = v) (hdg : decode cc pc = .ok (.arraylength, 1))
    (kk : W p l e R s m args below meth c H locs cells slots Q (F0 m (pc + 1) ls (.int v :: rest))) : W p l e R s m args below meth c H locs cells slots Q (F0 m pc ls (.ref a :: rest)) :=
  va_alen hB.1 hB.2.1 hB.2.2.2.2.2.1 hV.1 q0 0 ha rfl hv hdg kk
/-- a new array of int or boolean: its class is the world's own -/
theorem x_newa (hB : Bx p s m meth c args cc nL own D cI cZ cS A N0) (hV : Vx D A s.heap H locs ws) {atype : ArrayType} {cA : ClassId} {ty : FieldType} (t0 : Nat) (ht : (ty3 cI cZ cS)[t0]? = some (cA, ty)) (hty : newarray.typeOf atype = ty) (hra : ∀ U c, va_RA U c ty = (U.vm.findClass ("[" ++ ty.toString) = some c)) (hd : defaultValue ty = .int 0) (harr : Cond.arrayClass ty ∈ tb) {n : Int32} {N' : Nat} (hn : ¬ n < 0) (hN : n.toNatClampNeg = N') (hb : N' * componentBytes ty ≤ 536870912) (hcells : cells + 1 ≤ R.cells) (hslots : slots + N' ≤ R.slots) (hdg : decode cc pc = .ok (.newarray atype, 2))
    (kk : ∀ (q : Nat) (H1 : Heap), Vx D A s.heap H1 locs (ws ++ [(q, .inl (cA, N', .inl (fun _ => 0)))]) → W p l e R s m args below meth c H1 locs (cells + 1) (slots + N') Q (F0 m (pc + 2) ls (.ref q :: rest))) : W p l e R s m args below meth c H locs cells slots Q (F0 m pc ls (.int n :: rest)) := by
  subst hty
  refine va_newaK hB.1 hB.2.1 (hB.2.2.2.2.1 _ harr) rfl hdg rfl hn hN hb hcells hslots rfl fun H1 cA' e1 z1 o1 hAr hNm => ?_
  have hc : cA' = cA := by
    have h1 := (hB.2.2.2.2.2.1.2 t0 _ ht).2
    rw [hra] at h1
    exact Option.some.inj (hNm.symm.trans h1)
  subst hc
  have hk : ∀ (k : Nat) (x : Nat × va_E), ws[k]? = some x → H1[x.1]? = H[x.1]? := fun k x hx => o1 x.1 ((hV.1 k x hx).lt)
  refine kk H.size H1 ⟨(hV.1.kept hk).app (fun k x hx => ?_), hV.2.1.push hV.1 rfl (hB.2.2.2.2.2.2.1 _ hV.2.2.1), ⟨Nat.le_trans hV.2.2.1 (by omega), fun x h1 h2 => (o1 x (Nat.lt_of_lt_of_le h1 hV.2.2.1)).trans (hV.2.2.2.1 x h1 h2), hV.2.2.2.2⟩⟩
  have hz : k < 1 := (List.getElem?_eq_some_iff.mp hx).1
  rw [show k = 0 by omega] at hx
  cases hx
  show H1[H.size]? = some (vp_cell _ _)
  rw [e1, hd]
  rfl
theorem x_newi (hB : Bx p s m meth c args cc nL own D cI cZ cS A N0) (hV : Vx D A s.heap H locs ws) (harr : Cond.arrayClass .int ∈ tb) {n : Int32} {N' : Nat} (hn : ¬ n < 0) (hN : n.toNatClampNeg = N') (hb : N' * 4 ≤ 536870912) (hcells : cells + 1 ≤ R.cells) (hslots : slots + N' ≤ R.slots) (hdg : decode cc pc = .ok (.newarray .int, 2))
    (kk : ∀ (q : Nat) (H1 : Heap), Vx D A s.heap H1 locs (ws ++ [(q, .inl (cI, N', .inl (fun _ => 0)))]) → W p l e R s m args below meth c H1 locs (cells + 1) (slots + N') Q (F0 m (pc + 2) ls (.ref q :: rest))) : W p l e R s m args below meth c H locs cells slots Q (F0 m pc ls (.int n :: rest)) :=
  x_newa (ty := .int) hB hV 0 rfl rfl (fun _ _ => rfl) rfl harr hn hN hb hcells hslots hdg kk
theorem x_newz (hB : Bx p s m meth c args cc nL own D cI cZ cS A N0) (hV : Vx D A s.heap H locs ws) (harr : Cond.arrayClass .boolean ∈ tb) {n : Int32} {N' : Nat} (hn : ¬ n < 0) (hN : n.toNatClampNeg = N') (hb : N' * 1 ≤ 536870912) (hcells : cells + 1 ≤ R.cells) (hslots : slots + N' ≤ R.slots) (hdg : decode cc pc = .ok (.newarray .boolean, 2))
    (kk : ∀ (q : Nat) (H1 : Heap), Vx D A s.heap H1 locs (ws ++ [(q, .inl (cZ, N', .inl (fun _ => 0)))]) → W p l e R s m args below meth c H1 locs (cells + 1) (slots + N') Q (F0 m (pc + 2) ls (.ref q :: rest))) : W p l e R s m args below meth c H locs cells slots Q (F0 m pc ls (.int n :: rest)) :=
  x_newa (ty := .boolean) hB hV 1 rfl rfl (fun _ _ => rfl) rfl harr hn hN hb hcells hslots hdg kk
theorem x_newq (hB : Bx p s m meth c args cc nL own D cI cZ cS A N0) (hV : Vx D A s.heap H locs ws) {index : Nat} (hcl : Cond.classLink own index "TwiceOnce$Service" ∈ tb) {n : Int32} {N' : Nat} (hn : ¬ n < 0) (hN : n.toNatClampNeg = N') (hb : N' * 4 ≤ 536870912) (hcells : cells + 1 ≤ R.cells) (hslots : slots + N' ≤ R.slots) (hdg : decode cc pc = .ok (.anewarray index, 3))
    (kk : ∀ (q : Nat) (H1 : Heap), Vx D A s.heap H1 locs (ws ++ [(q, .inl (cS, N', .inr (.inr (.inr (.inr (fun _ => none))))))]) → W p l e R s m args below meth c H1 locs (cells + 1) (slots + N') Q (F0 m (pc + 3) ls (.ref q :: rest))) : W p l e R s m args below meth c H locs cells slots Q (F0 m pc ls (.int n :: rest)) := by
  refine va_newq hB.1 hB.2.1 hB.2.2.2.1 (hB.2.2.2.2.1 _ hcl) hB.2.2.2.2.2.2.2.2.1.2.2.2.2.2.1 hB.2.2.2.2.2.1 hV.1 hV.2.1 hV.2.2 hB.2.2.2.2.2.2.1 hn hN hb hcells hslots hdg (fun q cA H1 h0 h1 h2 h3 => ?_)
  have e : cA = cS := by
    obtain ⟨-, -, -, -, -, h4⟩ := (h0.2 3 _ rfl).2
    obtain ⟨-, -, -, -, -, h5⟩ := (hB.2.2.2.2.2.1.2 2 _ rfl).2
    exact Option.some.inj (h4.symm.trans h5)
  subst e
  exact kk q H1 ⟨h1, h2, h3⟩
theorem x_astq (hB : Bx p s m meth c args cc nL own D cI cZ cS A N0) (hV : Vx D A s.heap H locs ws) (q0 qk : Nat) {n v : Nat} {vs : List Value} {f : Nat → Option Nat} (ha : ws[q0]? = some (a, .inl (cS, n, .inr (.inr (.inr (.inr f)))))) (hv : ws[qk]? = some (v, .inr (3, vs))) {i : Int32} (hin : vp_in i n) (hdg : decode cc pc = .ok (.aastore, 1))
    (kk : ∀ (H1 : Heap) (locs1 : List Loc) (g : Nat → Option Nat), Vx D A s.heap H1 locs1 (ws.set q0 (a, .inl (cS, n, .inr (.inr (.inr (.inr g)))))) → W p l e R s m args below meth c H1 locs1 cells slots Q (F0 m (pc + 1) ls rest)) : W p l e R s m args below meth c H locs cells slots Q (F0 m pc ls (.ref v :: .int i :: .ref a :: rest)) :=
  va_astq (r := (RX3, TX3, 15)) hB.1 hB.2.1 hB.2.2.2.2.2.1 hV.1 hV.2.1 hV.2.2 q0 2 qk 3 ha rfl hv rfl hin hdg (fun H1 l1 h1 h2 h3 => kk H1 l1 _ ⟨h1, h2, h3⟩)
theorem x_new (hB : Bx p s m meth c args cc nL own D cI cZ cS A N0) (hV : Vx D A s.heap H locs ws) {ci N index : Nat} {C : String} {T : u_T} {fs : List Value} (hc : vwCl[ci]? = some (C, T, N)) (hcl : Cond.classLink own index C ∈ tb) (hi : Cond.instantiable C N ∈ tb) (hini : Cond.initialized C ∈ tb) (hfs : ∀ j, j < N → defaultValue (clty ci j) = vp_V fs j) (hcells : cells + 1 ≤ R.cells) (hslots : slots + N ≤ R.slots) (hdg : decode cc pc = .ok (.new index, 3))
    (kk : ∀ (q : Nat) (H1 : Heap), Vx D A s.heap H1 locs (ws ++ [(q, .inr (ci, fs))]) → W p l e R s m args below meth c H1 locs (cells + 1) (slots + N) Q (F0 m (pc + 3) ls (.ref q :: rest))) : W p l e R s m args below meth c H locs cells slots Q (F0 m pc ls rest) :=
  va_new hB.1 hB.2.1 hB.2.2.2.2.1 (cl_in ci _ hc) (clty ci) (cl_ty ci _ hc) hB.2.2.2.1 (hB.2.2.2.2.1 _ hcl) (hB.2.2.2.2.1 _ hi) (hB.2.2.2.2.1 _ hini) hB.2.2.2.2.2.1 hV.1 hV.2.1 hV.2.2 hB.2.2.2.2.2.2.1 hc hfs hcells hslots hdg (fun q H1 h1 h2 h3 => kk q H1 ⟨h1, h2, h3⟩)
theorem x_oinit (hB : Bx p s m meth c args cc nL own D cI cZ cS A N0) {idx : Nat} (hl : Cond.methodLink own idx Lib.objectInit ∈ tb) (hi : Cond.instanceMethod Lib.objectInit ∈ tb) (hc : Cond.code Lib.objectInit ⟨#[0xb1]⟩ 1 none ∈ tb) (hsz : ls.size = nL) (hd : decode cc pc = .ok (.invokespecial idx, 3)) (hframes : 1 ≤ R.frames) (hlocals : (rest.map fun v => v.category).sum + 12 ≤ R.locals)
    (kk : W p l e R s m args below meth c H locs cells slots Q (F0 m (pc + 3) ls rest)) : W p l e R s m args below meth c H locs cells slots Q (F0 m pc ls (.ref a :: rest)) :=
  W.objInit hB.1 hB.2.1 hB.2.2.2.1 (hB.2.2.2.2.1 _ hl) (hB.2.2.2.2.1 _ hi) (hB.2.2.2.2.1 _ hc) rfl (by rw [hB.2.2.1]; exact hsz) rfl hd hframes (by show 2 * 0 + _ + 12 ≤ _; omega) kk
/-- the cells of places isC go into the call; what comes back stands behind the rest -/
theorem x_back {y : MethodName} {b : ByteArray} {n' : Nat} {r : Option FieldType} {mc ms : Nat} {st0 : List Value} {wc wr : va_W} {post : Option Value → va_W → Prop} {av : Array Value} (hB : Bx p s m meth c args cc nL own D cI cZ cS A N0) (hV : Vx D A s.heap H locs ws) (isC isR : List Nat) (hC : isC.map (fun i => ws[i]?) = wc.map some) (hR : isR.map (fun i => ws[i]?) = wr.map some) (hnd : va_nd isR = true) (hdis : ∀ i ∈ isR, i ∉ isC)
    (hr : va_Run p l e R s m args below meth c H locs cells slots mc ms (F0 m pc ls st0) rest (xQ D wc H.size post av) (va_A wc H.size))
    (kk : ∀ (v : Option Value) (w : va_W) (H1 : Heap) (locs1 : List Loc), post v w → Vx D A s.heap H1 locs1 (wr ++ w) → W p l e R s m args below meth c H1 locs1 (cells + mc) (slots + ms) Q (F0 m (pc + 3) ls (v.toList ++ rest))) : W p l e R s m args below meth c H locs cells slots Q (F0 m pc ls st0) := by
  have hFc := va_free (wc := wc) hV.2.1 hV.2.2 hB.2.2.2.2.2.2.1 isC hC
  intro T hT X
  obtain ⟨v, st₀, t, T', L, h0, X', hL, e1, e2, ⟨⟨v', w, hv, hp, hP1, hD1⟩, hz, hk⟩, st⟩ := hr T hT X
  cases hv
  rw [h0] at hz hk
  have hk' : ∀ q : Nat, q < H.size → ¬ va_A wc H.size q → t.heap[q]? = H[q]? := hk
  obtain ⟨hP, hD⟩ := va_join (w1 := w) hV.1 hV.2.1 isC isR hC hR hnd hdis hk' hFc hP1 hD1
  obtain ⟨t2, a1, b1⟩ := kk v w t.heap (locs ++ L) hp ⟨hP, hD, Nat.le_trans hV.2.2.1 hz, fun q h1 h2 => (hk' q (Nat.lt_of_lt_of_le h1 hV.2.2.1) (fun z => h2 (hFc q z))).trans (hV.2.2.2.1 q h1 h2), fun q hq => by
    rcases List.mem_append.mp hq with h | h
    · exact hV.2.2.2.2 q h
    · exact hFc _ (hL q h)⟩ T' e1 X'
  exact ⟨t2, st t2 a1, b1⟩
theorem x_pre {av : List Value} {wc : va_W} (hB : Bx p s m meth c args cc nL own D cI cZ cS A N0) (hV : Vx D A s.heap H locs ws) (hN : N0.1 ≤ s.heap.size) (isC : List Nat) (hC : isC.map (fun i => ws[i]?) = wc.map some) (hC2 : isC.filterMap (fun i => ws[i]?) = wc) (hndC : va_nd isC = true) : PreS s H (xP D cI cZ cS N0 av wc H.size) av :=
  ⟨fun a U g mk q => by
    obtain ⟨q0, q1, q2, q3, q4, q5, q6⟩ := q
    exact ⟨q0, q1, q2, q3, va_K.moved (u := U) (U := U.calling g mk a) (Vm.Alike.refl U.vm) q4, q5, q6.calling⟩,
   fun U hU hW => ⟨rfl, by rw [hU], Nat.le_trans hN hV.2.2.1, by rw [hU]; exact hV.1.sub isC hC2, va_K.moved hW.alike hB.2.2.2.2.2.1, (hV.2.1.sub isC hndC hC).weaken (fun _ _ _ h => hB.2.2.2.2.2.2.2.1 _ h), hB.2.2.2.2.2.2.2.2.1.go hV.2.2 hB.2.2.2.2.2.2.2.1 hU hW⟩⟩
end XS

