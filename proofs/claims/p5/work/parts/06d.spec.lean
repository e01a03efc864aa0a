/-! the tape's text: a byte at each place, -1 behind the end; what is read there -/
def txb (c : Nat → Int32) (n i : Int) : Int := if 0 ≤ i ∧ i < n then (c i.toNat).toInt else -1
theorem tb_1 {f ct : Nat → Int32} {n x : Int32} {z : Int} (h0 : 0 ≤ n.toInt) (h1 : n.toInt < z) (hc : f = ct) (e : f n.toNatClampNeg = x) : x.toInt = txb ct z n.toInt := by
  unfold txb
  rw [if_pos ⟨h0, h1⟩, ← e, hc]
  rfl
theorem tb_0 {ct : Nat → Int32} {n : Int32} {z : Int} (h : n.toInt < 0 ∨ z ≤ n.toInt) : (-1 : Int32).toInt = txb ct z n.toInt := by
  unfold txb
  rw [if_neg (by omega)]
  decide
theorem tb_eq {c c' : Nat → Int32} {n : Int} (h : ∀ i : Nat, (i : Int) < n → c i = c' i) : txb c n = txb c' n := by
  funext i
  unfold txb
  by_cases hi : 0 ≤ i ∧ i < n
  · rw [if_pos hi, if_pos hi, h i.toNat (by omega)]
  · rw [if_neg hi, if_neg hi]
theorem tb_lt {c : Nat → Int32} {n i : Int} (h : txb c n i ≠ -1) : 0 ≤ i ∧ i < n := by
  unfold txb at h
  by_cases q : 0 ≤ i ∧ i < n
  · exact q
  · rw [if_neg q] at h
    exact absurd rfl h
def wp4 (x y z v a b c d : Int) : Int := if a = x then (if b = y then (if c = z then (if d = v then 4 else 3) else 2) else 1) else 0
def wp3 (x y z a b c : Int) : Int := if a = x then (if b = y then (if c = z then 3 else 2) else 1) else 0
theorem wp4_0 {x y z v a b c d : Int} (h : a ≠ x) : wp4 x y z v a b c d = 0 := by
  unfold wp4
  rw [if_neg h]
theorem wp4_1 {x y z v a b c d : Int} (h : a = x) (h1 : b ≠ y) : wp4 x y z v a b c d = 1 := by
  unfold wp4
  rw [if_pos h, if_neg h1]
theorem wp4_2 {x y z v a b c d : Int} (h : a = x) (h1 : b = y) (h2 : c ≠ z) : wp4 x y z v a b c d = 2 := by
  unfold wp4
  rw [if_pos h, if_pos h1, if_neg h2]
theorem wp4_3 {x y z v a b c d : Int} (h : a = x) (h1 : b = y) (h2 : c = z) (h3 : d ≠ v) : wp4 x y z v a b c d = 3 := by
  unfold wp4
  rw [if_pos h, if_pos h1, if_pos h2, if_neg h3]
theorem wp4_4 {x y z v a b c d : Int} (h : a = x) (h1 : b = y) (h2 : c = z) (h3 : d = v) : wp4 x y z v a b c d = 4 := by
  unfold wp4
  rw [if_pos h, if_pos h1, if_pos h2, if_pos h3]
theorem wp3_0 {x y z a b c : Int} (h : a ≠ x) : wp3 x y z a b c = 0 := by
  unfold wp3
  rw [if_neg h]
theorem wp3_1 {x y z a b c : Int} (h : a = x) (h1 : b ≠ y) : wp3 x y z a b c = 1 := by
  unfold wp3
  rw [if_pos h, if_neg h1]
theorem wp3_2 {x y z a b c : Int} (h : a = x) (h1 : b = y) (h2 : c ≠ z) : wp3 x y z a b c = 2 := by
  unfold wp3
  rw [if_pos h, if_pos h1, if_neg h2]
theorem wp3_3 {x y z a b c : Int} (h : a = x) (h1 : b = y) (h2 : c = z) : wp3 x y z a b c = 3 := by
  unfold wp3
  rw [if_pos h, if_pos h1, if_pos h2]
theorem wp4_r {x y z v a b c d : Int} : 0 ≤ wp4 x y z v a b c d := by
  unfold wp4
  (repeat' split) <;> omega
theorem wp3_r {x y z a b c : Int} : 0 ≤ wp3 x y z a b c := by
  unfold wp3
  (repeat' split) <;> omega
theorem wp4_g {x y z v a b c d : Int} (h : a = x) : 1 ≤ wp4 x y z v a b c d := by
  unfold wp4
  rw [if_pos h]
  (repeat' split) <;> omega
theorem wp4_g2 {x y z v a b c d : Int} (h : a = x) (h1 : b = y) : 2 ≤ wp4 x y z v a b c d := by
  unfold wp4
  rw [if_pos h, if_pos h1]
  (repeat' split) <;> omega
def qj (T : Int → Int) (p : Int) : Nat → Int
  | 0 => wp4 115 101 116 32 (T p) (T (p + 1)) (T (p + 2)) (T (p + 3))
  | 1 => wp4 97 100 100 32 (T p) (T (p + 1)) (T (p + 2)) (T (p + 3))
  | 2 => wp4 109 97 120 32 (T p) (T (p + 1)) (T (p + 2)) (T (p + 3))
  | 3 => wp4 110 101 119 32 (T p) (T (p + 1)) (T (p + 2)) (T (p + 3))
  | 4 => wp4 103 101 116 32 (T p) (T (p + 1)) (T (p + 2)) (T (p + 3))
  | 5 => wp4 97 115 107 32 (T p) (T (p + 1)) (T (p + 2)) (T (p + 3))
  | 6 => wp3 100 111 32 (T p) (T (p + 1)) (T (p + 2))
  | 7 => wp3 105 102 32 (T p) (T (p + 1)) (T (p + 2))
  | _ => 0
def fw (T : Int → Int) (p : Int) : Nat → Int
  | 0 => 0
  | k + 1 => max (fw T p k) (qj T p k)
def wsel (a b : Int) : Nat := if a = 97 ∧ b = 115 then 5 else if a = 115 then 0 else if a = 97 then 1 else if a = 109 then 2 else if a = 110 then 3 else if a = 103 then 4 else if a = 100 then 6 else if a = 105 then 7 else 8
def wl (w : Nat) : Int := if w ≤ 5 then 4 else 3
def wdr (T : Int → Int) (p : Int) : Int := if wsel (T p) (T (p + 1)) ≠ 8 ∧ qj T p (wsel (T p) (T (p + 1))) = wl (wsel (T p) (T (p + 1))) then (wsel (T p) (T (p + 1)) : Nat) else -1
def wdp (T : Int → Int) (p : Int) : Int := p + qj T p (wsel (T p) (T (p + 1)))
theorem wd_c {T : Int → Int} {p : Int} {w : Nat} (hs : wsel (T p) (T (p + 1)) = w) (h8 : w ≠ 8) (hq : qj T p w = wl w) : wdr T p = w ∧ wdp T p = p + wl w := by
  unfold wdr wdp
  rw [hs, if_pos ⟨h8, hq⟩, hq]
  exact ⟨rfl, rfl⟩
theorem wd_f {T : Int → Int} {p : Int} {w : Nat} (hs : wsel (T p) (T (p + 1)) = w) (hq : w = 8 ∨ qj T p w ≠ wl w) : wdr T p = -1 ∧ wdp T p = p + qj T p w := by
  unfold wdr wdp
  rw [hs, if_neg (fun h => hq.elim h.1 (fun x => x h.2))]
  exact ⟨rfl, rfl⟩
theorem ws_5 {a b : Int} (h : a = 97) (h1 : b = 115) : wsel a b = 5 := by
  unfold wsel
  rw [if_pos ⟨h, h1⟩]
theorem ws_0 {a b : Int} (h : a = 115) : wsel a b = 0 := by
  unfold wsel
  rw [if_neg (by omega), if_pos (by omega)]
theorem ws_1 {a b : Int} (h : a = 97) (h1 : b ≠ 115) : wsel a b = 1 := by
  unfold wsel
  rw [if_neg (by omega), if_neg (by omega), if_pos (by omega)]
theorem ws_2 {a b : Int} (h : a = 109) : wsel a b = 2 := by
  unfold wsel
  rw [if_neg (by omega), if_neg (by omega), if_neg (by omega), if_pos (by omega)]
theorem ws_3 {a b : Int} (h : a = 110) : wsel a b = 3 := by
  unfold wsel
  rw [if_neg (by omega), if_neg (by omega), if_neg (by omega), if_neg (by omega), if_pos (by omega)]
theorem ws_4 {a b : Int} (h : a = 103) : wsel a b = 4 := by
  unfold wsel
  rw [if_neg (by omega), if_neg (by omega), if_neg (by omega), if_neg (by omega), if_neg (by omega), if_pos (by omega)]
theorem ws_6 {a b : Int} (h : a = 100) : wsel a b = 6 := by
  unfold wsel
  rw [if_neg (by omega), if_neg (by omega), if_neg (by omega), if_neg (by omega), if_neg (by omega), if_neg (by omega), if_pos (by omega)]
theorem ws_7 {a b : Int} (h : a = 105) : wsel a b = 7 := by
  unfold wsel
  rw [if_neg (by omega), if_neg (by omega), if_neg (by omega), if_neg (by omega), if_neg (by omega), if_neg (by omega), if_neg (by omega), if_pos (by omega)]
theorem ws_8 {a b : Int} (h0 : a ≠ 115) (h1 : a ≠ 97) (h2 : a ≠ 109) (h3 : a ≠ 110) (h4 : a ≠ 103) (h6 : a ≠ 100) (h7 : a ≠ 105) : wsel a b = 8 := by
  unfold wsel
  rw [if_neg (by omega), if_neg (by omega), if_neg (by omega), if_neg (by omega), if_neg (by omega), if_neg (by omega), if_neg (by omega), if_neg (by omega)]
theorem wo_0 {T : Int → Int} {p : Int} (h : T p = 115 ∧ T (p + 1) = 101 ∧ T (p + 2) = 116 ∧ T (p + 3) = 32) : wdr T p = 0 ∧ wdp T p = p + 4 := wd_c (w := 0) (ws_0 h.1) (by decide) (wp4_4 h.1 h.2.1 h.2.2.1 h.2.2.2)
theorem wo_1 {T : Int → Int} {p : Int} (h : T p = 97 ∧ T (p + 1) = 100 ∧ T (p + 2) = 100 ∧ T (p + 3) = 32) : wdr T p = 1 ∧ wdp T p = p + 4 := wd_c (w := 1) (ws_1 h.1 (by omega)) (by decide) (wp4_4 h.1 h.2.1 h.2.2.1 h.2.2.2)
theorem wo_2 {T : Int → Int} {p : Int} (h : T p = 109 ∧ T (p + 1) = 97 ∧ T (p + 2) = 120 ∧ T (p + 3) = 32) : wdr T p = 2 ∧ wdp T p = p + 4 := wd_c (w := 2) (ws_2 h.1) (by decide) (wp4_4 h.1 h.2.1 h.2.2.1 h.2.2.2)
theorem wo_3 {T : Int → Int} {p : Int} (h : T p = 110 ∧ T (p + 1) = 101 ∧ T (p + 2) = 119 ∧ T (p + 3) = 32) : wdr T p = 3 ∧ wdp T p = p + 4 := wd_c (w := 3) (ws_3 h.1) (by decide) (wp4_4 h.1 h.2.1 h.2.2.1 h.2.2.2)
theorem wo_4 {T : Int → Int} {p : Int} (h : T p = 103 ∧ T (p + 1) = 101 ∧ T (p + 2) = 116 ∧ T (p + 3) = 32) : wdr T p = 4 ∧ wdp T p = p + 4 := wd_c (w := 4) (ws_4 h.1) (by decide) (wp4_4 h.1 h.2.1 h.2.2.1 h.2.2.2)
theorem wo_5 {T : Int → Int} {p : Int} (h : T p = 97 ∧ T (p + 1) = 115 ∧ T (p + 2) = 107 ∧ T (p + 3) = 32) : wdr T p = 5 ∧ wdp T p = p + 4 := wd_c (w := 5) (ws_5 h.1 h.2.1) (by decide) (wp4_4 h.1 h.2.1 h.2.2.1 h.2.2.2)
theorem wo_6 {T : Int → Int} {p : Int} (h : T p = 100 ∧ T (p + 1) = 111 ∧ T (p + 2) = 32) : wdr T p = 6 ∧ wdp T p = p + 3 := wd_c (w := 6) (ws_6 h.1) (by decide) (wp3_3 h.1 h.2.1 h.2.2)
theorem wo_7 {T : Int → Int} {p : Int} (h : T p = 105 ∧ T (p + 1) = 102 ∧ T (p + 2) = 32) : wdr T p = 7 ∧ wdp T p = p + 3 := wd_c (w := 7) (ws_7 h.1) (by decide) (wp3_3 h.1 h.2.1 h.2.2)
theorem fw8 {T : Int → Int} {p : Int} : fw T p 8 = max (max (max (max (max (max (max (max 0 (qj T p 0)) (qj T p 1)) (qj T p 2)) (qj T p 3)) (qj T p 4)) (qj T p 5)) (qj T p 6)) (qj T p 7) := rfl
theorem wd_none {T : Int → Int} {p : Int} (h0 : qj T p 0 ≠ 4) (h1 : qj T p 1 ≠ 4) (h2 : qj T p 2 ≠ 4) (h3 : qj T p 3 ≠ 4) (h4 : qj T p 4 ≠ 4) (h5 : qj T p 5 ≠ 4) (h6 : qj T p 6 ≠ 3) (h7 : qj T p 7 ≠ 3) : wdr T p = -1 ∧ wdp T p = p + fw T p 8 := by
  rw [fw8]
  by_cases c0 : T p = 115
  · have hs := ws_0 (b := T (p + 1)) c0
    have e1 : qj T p 1 = 0 := wp4_0 (by omega)
    have e2 : qj T p 2 = 0 := wp4_0 (by omega)
    have e3 : qj T p 3 = 0 := wp4_0 (by omega)
    have e4 : qj T p 4 = 0 := wp4_0 (by omega)
    have e5 : qj T p 5 = 0 := wp4_0 (by omega)
    have e6 : qj T p 6 = 0 := wp3_0 (by omega)
    have e7 : qj T p 7 = 0 := wp3_0 (by omega)
    have g0 : 0 ≤ qj T p 0 := wp4_r
    have hf := wd_f hs (Or.inr h0)
    exact ⟨hf.1, by rw [hf.2]; omega⟩
  by_cases c1 : T p = 97
  · by_cases c5 : T (p + 1) = 115
    · have hs := ws_5 c1 c5
      have e0 : qj T p 0 = 0 := wp4_0 (by omega)
      have e2 : qj T p 2 = 0 := wp4_0 (by omega)
      have e3 : qj T p 3 = 0 := wp4_0 (by omega)
      have e4 : qj T p 4 = 0 := wp4_0 (by omega)
      have e6 : qj T p 6 = 0 := wp3_0 (by omega)
      have e7 : qj T p 7 = 0 := wp3_0 (by omega)
      have e1 : qj T p 1 = 1 := wp4_1 c1 (by omega)
      have g5 : 2 ≤ qj T p 5 := wp4_g2 c1 c5
      have hf := wd_f hs (Or.inr h5)
      exact ⟨hf.1, by rw [hf.2]; omega⟩
    · have hs := ws_1 c1 c5
      have e0 : qj T p 0 = 0 := wp4_0 (by omega)
      have e2 : qj T p 2 = 0 := wp4_0 (by omega)
      have e3 : qj T p 3 = 0 := wp4_0 (by omega)
      have e4 : qj T p 4 = 0 := wp4_0 (by omega)
      have e6 : qj T p 6 = 0 := wp3_0 (by omega)
      have e7 : qj T p 7 = 0 := wp3_0 (by omega)
      have e5 : qj T p 5 = 1 := wp4_1 c1 c5
      have g1 : 1 ≤ qj T p 1 := wp4_g c1
      have hf := wd_f hs (Or.inr h1)
      exact ⟨hf.1, by rw [hf.2]; omega⟩
  by_cases c2 : T p = 109
  · have hs := ws_2 (b := T (p + 1)) c2
    have e0 : qj T p 0 = 0 := wp4_0 (by omega)
    have e1 : qj T p 1 = 0 := wp4_0 (by omega)
    have e3 : qj T p 3 = 0 := wp4_0 (by omega)
    have e4 : qj T p 4 = 0 := wp4_0 (by omega)
    have e5 : qj T p 5 = 0 := wp4_0 (by omega)
    have e6 : qj T p 6 = 0 := wp3_0 (by omega)
    have e7 : qj T p 7 = 0 := wp3_0 (by omega)
    have g2 : 0 ≤ qj T p 2 := wp4_r
    have hf := wd_f hs (Or.inr h2)
    exact ⟨hf.1, by rw [hf.2]; omega⟩
  by_cases c3 : T p = 110
  · have hs := ws_3 (b := T (p + 1)) c3
    have e0 : qj T p 0 = 0 := wp4_0 (by omega)
    have e1 : qj T p 1 = 0 := wp4_0 (by omega)
    have e2 : qj T p 2 = 0 := wp4_0 (by omega)
    have e4 : qj T p 4 = 0 := wp4_0 (by omega)
    have e5 : qj T p 5 = 0 := wp4_0 (by omega)
    have e6 : qj T p 6 = 0 := wp3_0 (by omega)
    have e7 : qj T p 7 = 0 := wp3_0 (by omega)
    have g3 : 0 ≤ qj T p 3 := wp4_r
    have hf := wd_f hs (Or.inr h3)
    exact ⟨hf.1, by rw [hf.2]; omega⟩
  by_cases c4 : T p = 103
  · have hs := ws_4 (b := T (p + 1)) c4
    have e0 : qj T p 0 = 0 := wp4_0 (by omega)
    have e1 : qj T p 1 = 0 := wp4_0 (by omega)
    have e2 : qj T p 2 = 0 := wp4_0 (by omega)
    have e3 : qj T p 3 = 0 := wp4_0 (by omega)
    have e5 : qj T p 5 = 0 := wp4_0 (by omega)
    have e6 : qj T p 6 = 0 := wp3_0 (by omega)
    have e7 : qj T p 7 = 0 := wp3_0 (by omega)
    have g4 : 0 ≤ qj T p 4 := wp4_r
    have hf := wd_f hs (Or.inr h4)
    exact ⟨hf.1, by rw [hf.2]; omega⟩
  by_cases c6 : T p = 100
  · have hs := ws_6 (b := T (p + 1)) c6
    have e0 : qj T p 0 = 0 := wp4_0 (by omega)
    have e1 : qj T p 1 = 0 := wp4_0 (by omega)
    have e2 : qj T p 2 = 0 := wp4_0 (by omega)
    have e3 : qj T p 3 = 0 := wp4_0 (by omega)
    have e4 : qj T p 4 = 0 := wp4_0 (by omega)
    have e5 : qj T p 5 = 0 := wp4_0 (by omega)
    have e7 : qj T p 7 = 0 := wp3_0 (by omega)
    have g6 : 0 ≤ qj T p 6 := wp3_r
    have hf := wd_f hs (Or.inr h6)
    exact ⟨hf.1, by rw [hf.2]; omega⟩
  by_cases c7 : T p = 105
  · have hs := ws_7 (b := T (p + 1)) c7
    have e0 : qj T p 0 = 0 := wp4_0 (by omega)
    have e1 : qj T p 1 = 0 := wp4_0 (by omega)
    have e2 : qj T p 2 = 0 := wp4_0 (by omega)
    have e3 : qj T p 3 = 0 := wp4_0 (by omega)
    have e4 : qj T p 4 = 0 := wp4_0 (by omega)
    have e5 : qj T p 5 = 0 := wp4_0 (by omega)
    have e6 : qj T p 6 = 0 := wp3_0 (by omega)
    have g7 : 0 ≤ qj T p 7 := wp3_r
    have hf := wd_f hs (Or.inr h7)
    exact ⟨hf.1, by rw [hf.2]; omega⟩
  have hs := ws_8 (b := T (p + 1)) c0 c1 c2 c3 c4 c6 c7
  have e0 : qj T p 0 = 0 := wp4_0 (by omega)
  have e1 : qj T p 1 = 0 := wp4_0 (by omega)
  have e2 : qj T p 2 = 0 := wp4_0 (by omega)
  have e3 : qj T p 3 = 0 := wp4_0 (by omega)
  have e4 : qj T p 4 = 0 := wp4_0 (by omega)
  have e5 : qj T p 5 = 0 := wp4_0 (by omega)
  have e6 : qj T p 6 = 0 := wp3_0 (by omega)
  have e7 : qj T p 7 = 0 := wp3_0 (by omega)
  have e8 : qj T p 8 = 0 := rfl
  have hf := wd_f hs (Or.inl rfl)
  exact ⟨hf.1, by rw [hf.2]; omega⟩
def vlv (T : Int → Int) (p : Int) : Int := if T p = 120 then 1000 else if T p = 114 then 1001 else if 48 ≤ T p ∧ T p ≤ 57 then (if 48 ≤ T (p + 1) ∧ T (p + 1) ≤ 57 then (if 48 ≤ T (p + 2) ∧ T (p + 2) ≤ 57 then 100 * T p + 10 * T (p + 1) + T (p + 2) - 5328 else 10 * T p + T (p + 1) - 528) else T p - 48) else -1
def vlp (T : Int → Int) (p : Int) : Int := if T p = 120 then p + 1 else if T p = 114 then p + 1 else if 48 ≤ T p ∧ T p ≤ 57 then (if 48 ≤ T (p + 1) ∧ T (p + 1) ≤ 57 then (if 48 ≤ T (p + 2) ∧ T (p + 2) ≤ 57 then p + 3 else p + 2) else p + 1) else p
theorem vl_x {T : Int → Int} {p q : Int} (h : T p = 120) (e : q = p + 1) : vlv T p = 1000 ∧ vlp T p = q := by
  unfold vlv vlp
  constructor <;> (repeat' split) <;> omega
theorem vl_r {T : Int → Int} {p q : Int} (h : T p = 114) (e : q = p + 1) : vlv T p = 1001 ∧ vlp T p = q := by
  unfold vlv vlp
  constructor <;> (repeat' split) <;> omega
theorem vl_0 {T : Int → Int} {p q : Int} (hx : T p ≠ 120) (hr : T p ≠ 114) (h0 : T p < 48 ∨ 57 < T p) (e : q = p) : vlv T p = -1 ∧ vlp T p = q := by
  unfold vlv vlp
  constructor <;> (repeat' split) <;> omega
theorem vl_1 {T : Int → Int} {p q v : Int} (h0 : 48 ≤ T p ∧ T p ≤ 57) (e : q = p + 1) (h1 : T q < 48 ∨ 57 < T q) (ev : v = T p - 48) : vlv T p = v ∧ vlp T p = q := by
  subst e
  subst ev
  unfold vlv vlp
  constructor <;> (repeat' split) <;> omega
theorem vl_2 {T : Int → Int} {p q q2 v : Int} (h0 : 48 ≤ T p ∧ T p ≤ 57) (e : q = p + 1) (h1 : 48 ≤ T q ∧ T q ≤ 57) (e2 : q2 = q + 1) (h2 : T q2 < 48 ∨ 57 < T q2) (ev : v = 10 * T p + T q - 528) : vlv T p = v ∧ vlp T p = q2 := by
  subst e
  subst e2
  subst ev
  rw [show p + 1 + 1 = p + 2 by omega] at h2 ⊢
  unfold vlv vlp
  constructor <;> (repeat' split) <;> omega
theorem vl_3 {T : Int → Int} {p q q2 q3 v : Int} (h0 : 48 ≤ T p ∧ T p ≤ 57) (e : q = p + 1) (h1 : 48 ≤ T q ∧ T q ≤ 57) (e2 : q2 = q + 1) (h2 : 48 ≤ T q2 ∧ T q2 ≤ 57) (e3 : q3 = q2 + 1) (ev : v = 100 * T p + 10 * T q + T q2 - 5328) : vlv T p = v ∧ vlp T p = q3 := by
  subst e
  subst e2
  subst e3
  subst ev
  rw [show p + 1 + 1 = p + 2 by omega] at h2 ⊢
  rw [show p + 2 + 1 = p + 3 by omega]
  unfold vlv vlp
  constructor <;> (repeat' split) <;> omega
def acm (w : Int) : Int := if w = 5 then 5 else 3
theorem em_5 {w m : Int} (e : w = 5) (h : m = 5) : m = acm w := by
  unfold acm
  rw [if_pos e, h]
theorem em_3 {w m : Int} (e : w ≠ 5) (h : m = 3) : m = acm w := by
  unfold acm
  rw [if_neg e, h]
def ac (T : Int → Int) (p : Int) : Bool × Int := if wdr T p = -1 then (false, wdp T p) else if wdr T p = 6 then (decide (vlv T (wdp T p) ≠ -1), vlp T (wdp T p)) else if 48 ≤ T (wdp T p) ∧ T (wdp T p) ≤ 48 + acm (wdr T p) then (if wdr T p = 3 ∨ wdr T p = 4 then (true, wdp T p + 1) else if T (wdp T p + 1) = 32 then (decide (vlv T (wdp T p + 2) ≠ -1), vlp T (wdp T p + 2)) else (false, wdp T p + 1)) else (false, wdp T p)
theorem ac_n {T : Int → Int} {p q : Int} (h : wdr T p = -1) (e : q = wdp T p) : ac T p = (false, q) := by
  unfold ac
  rw [if_pos h, e]
theorem ac_6n {T : Int → Int} {p q q' : Int} (h : wdr T p = 6) (e : q = wdp T p) (hv : vlv T q = -1) (hp : vlp T q = q') : ac T p = (false, q') := by
  subst e
  unfold ac
  rw [if_neg (by omega), if_pos h, hp, hv]
  rfl
theorem ac_6s {T : Int → Int} {p q q' v : Int} (h : wdr T p = 6) (e : q = wdp T p) (hv : vlv T q = v) (h0 : 0 ≤ v) (hp : vlp T q = q') : ac T p = (true, q') := by
  subst e
  unfold ac
  rw [if_neg (by omega), if_pos h, hp, hv, decide_eq_true (by omega)]
theorem ac_d {T : Int → Int} {p q w m : Int} (h : wdr T p = w) (hn : w ≠ -1) (h6 : w ≠ 6) (e : q = wdp T p) (em : m = acm w) (hd : T q < 48 ∨ 48 + m < T q) : ac T p = (false, q) := by
  subst e
  subst em
  subst h
  unfold ac
  rw [if_neg hn, if_neg h6, if_neg (by omega)]
theorem ac_34 {T : Int → Int} {p q q2 w m : Int} (h : wdr T p = w) (hw : w = 3 ∨ w = 4) (e : q = wdp T p) (em : m = acm w) (hd : 48 ≤ T q ∧ T q ≤ 48 + m) (e2 : q2 = q + 1) : ac T p = (true, q2) := by
  subst e
  subst em
  subst h
  subst e2
  unfold ac
  rw [if_neg (by omega), if_neg (by omega), if_pos hd, if_pos hw]
theorem ac_s {T : Int → Int} {p q q2 w m : Int} (h : wdr T p = w) (hn : w ≠ -1) (h6 : w ≠ 6) (hw : ¬ (w = 3 ∨ w = 4)) (e : q = wdp T p) (em : m = acm w) (hd : 48 ≤ T q ∧ T q ≤ 48 + m) (e2 : q2 = q + 1) (hs : T q2 ≠ 32) : ac T p = (false, q2) := by
  subst e
  subst em
  subst h
  subst e2
  unfold ac
  rw [if_neg hn, if_neg h6, if_pos hd, if_neg hw, if_neg hs]
theorem ac_vn {T : Int → Int} {p q q2 q3 q' w m : Int} (h : wdr T p = w) (hn : w ≠ -1) (h6 : w ≠ 6) (hw : ¬ (w = 3 ∨ w = 4)) (e : q = wdp T p) (em : m = acm w) (hd : 48 ≤ T q ∧ T q ≤ 48 + m) (e2 : q2 = q + 1) (hs : T q2 = 32) (e3 : q3 = q2 + 1) (hv : vlv T q3 = -1) (hp : vlp T q3 = q') : ac T p = (false, q') := by
  subst e
  subst em
  subst h
  subst e2
  subst e3
  rw [show wdp T p + 1 + 1 = wdp T p + 2 by omega] at hv hp
  unfold ac
  rw [if_neg hn, if_neg h6, if_pos hd, if_neg hw, if_pos hs, hp, hv]
  rfl
theorem ac_vs {T : Int → Int} {p q q2 q3 q' w m v : Int} (h : wdr T p = w) (hn : w ≠ -1) (h6 : w ≠ 6) (hw : ¬ (w = 3 ∨ w = 4)) (e : q = wdp T p) (em : m = acm w) (hd : 48 ≤ T q ∧ T q ≤ 48 + m) (e2 : q2 = q + 1) (hs : T q2 = 32) (e3 : q3 = q2 + 1) (hv : vlv T q3 = v) (h0 : 0 ≤ v) (hp : vlp T q3 = q') : ac T p = (true, q') := by
  subst e
  subst em
  subst h
  subst e2
  subst e3
  rw [show wdp T p + 1 + 1 = wdp T p + 2 by omega] at hv hp
  unfold ac
  rw [if_neg hn, if_neg h6, if_pos hd, if_neg hw, if_pos hs, hp, hv, decide_eq_true (by omega)]
/-- the acts from p on, at most k of them: the place, whether it went well, how many came -/
def rde (T : Int → Int) : Nat → Int → Int → Int × Bool × Int
  | 0, p, n => (p, false, n)
  | k + 1, p, n => if (ac T p).1 = true then (if k = 0 ∨ T (ac T p).2 ≠ 59 then ((ac T p).2, true, n + 1) else rde T k ((ac T p).2 + 1) (n + 1)) else ((ac T p).2, false, n + 1)
theorem rd_k {i : Int} (h : 0 ≤ i ∧ i < 8) : (8 - i).toNat = (7 - i).toNat + 1 := by omega
theorem rd_f {T : Int → Int} {i p q n : Int} (hi : 0 ≤ i ∧ i < 8) (h : ac T p = (false, q)) : rde T (8 - i).toNat p n = (q, false, n + 1) := by
  rw [rd_k hi]
  show (if (ac T p).1 = true then _ else ((ac T p).2, false, n + 1)) = _
  rw [h, if_neg (fun x => Bool.noConfusion x)]
theorem rd_e {T : Int → Int} {i p q n : Int} (hi : 0 ≤ i ∧ i < 8) (h : ac T p = (true, q)) (h7 : i = 7 ∨ T q ≠ 59) : rde T (8 - i).toNat p n = (q, true, n + 1) := by
  rw [rd_k hi]
  show (if (ac T p).1 = true then (if (7 - i).toNat = 0 ∨ T (ac T p).2 ≠ 59 then ((ac T p).2, true, n + 1) else _) else _) = _
  rw [h, if_pos rfl, if_pos]
  exact h7.imp (fun q => by omega) (fun q => q)
theorem rd_s {T : Int → Int} {i j p q q2 n n2 : Int} (hi : 0 ≤ i ∧ i < 8) (h : ac T p = (true, q)) (h7 : i ≠ 7) (h9 : T q = 59) (e2 : q2 = q + 1) (ej : j = i + 1) (en : n2 = n + 1) : rde T (8 - i).toNat p n = rde T (8 - j).toNat q2 n2 := by
  subst e2
  subst ej
  subst en
  rw [rd_k hi]
  show (if (ac T p).1 = true then (if (7 - i).toNat = 0 ∨ T (ac T p).2 ≠ 59 then _ else rde T (7 - i).toNat ((ac T p).2 + 1) (n + 1)) else _) = _
  rw [h, if_pos rfl, if_neg, show (8 - (i + 1)).toNat = (7 - i).toNat by omega]
  intro x
  rcases x with x | x
  · omega
  · exact x h9
theorem rd_0 {T : Int → Int} {p : Int} : rde T 8 p 0 = rde T (8 - (0 : Int32).toInt).toNat p (0 : Int32).toInt := by
  rw [z0]
  rfl
theorem rd_00 {T : Int → Int} : rde T 8 (0 : Int32).toInt 0 = rde T 8 0 0 := by rw [z0]
theorem fw_st {T : Int → Int} {p f f' a : Int} {k : Nat} (h : f = fw T p k) (hq : qj T p k = a) (hz : f' = max f a) : f' = fw T p (k + 1) := by
  rw [hz, h, ← hq]
  rfl
def pgk (T : Int → Int) (z : Int) : Bool := (rde T 8 0 0).2.1 && decide ((rde T 8 0 0).1 = z)
def pgf (T : Int → Int) : Int := (rde T 8 0 0).1
def pgn (T : Int → Int) : Int := (rde T 8 0 0).2.2
theorem pg_f {T : Int → Int} {q n : Int} (h : rde T 8 0 0 = (q, false, n)) (z : Int) : pgk T z = false ∧ pgf T = q ∧ pgn T = n := by
  unfold pgk pgf pgn
  rw [h]
  exact ⟨rfl, rfl, rfl⟩
theorem pg_t {T : Int → Int} {q n z : Int} (h : rde T 8 0 0 = (q, true, n)) (e : q = z) : pgk T z = true ∧ pgf T = q ∧ pgn T = n := by
  unfold pgk pgf pgn
  rw [h]
  exact ⟨(Bool.true_and _).trans (decide_eq_true e), rfl, rfl⟩
theorem pg_n {T : Int → Int} {q n z : Int} (h : rde T 8 0 0 = (q, true, n)) (e : q ≠ z) : pgk T z = false ∧ pgf T = q ∧ pgn T = n := by
  unfold pgk pgf pgn
  rw [h]
  exact ⟨(Bool.true_and _).trans (decide_eq_false e), rfl, rfl⟩
theorem Sm.cf {md : Nat → Nat → Bool} {g g' : GS} {a r : Nat} (h : Sm md g g') (hr : g.1 a = r) (h0 : r ≠ 0) (hm : md r 99 = false) : g'.2.2.2.1 a = g.2.2.2.1 a := (h.2 a (by rw [hr]; exact h0) (by rw [hr]; exact hm)).1
theorem sC_f {g : GS} {x a j : Nat} {v : Int32} {ct : Nat → Int32} (h : g.2.2.2.1 x = ct) (n : x ≠ a) : (sC g a j v).2.2.2.1 x = ct := funext fun i => by
  show (if x = a ∧ i = j then v else g.2.2.2.1 x i) = ct i
  rw [if_neg (fun q => n q.1), h]
theorem i_nt {x y : Int32} (h : x.toInt = y.toInt) : x.toNatClampNeg = y.toNatClampNeg := congrArg Int.toNat h
theorem i_inj {x y : Int32} (h : x.toInt = y.toInt) : x = y := Int32.toInt_inj.mp h
/-! the bytes that feed writes -/
def bC (w : Int64) (y : Int32) : Int32 := ((w.toUInt64 >>> (y.toInt64.toUInt64 &&& Int64.toUInt64 63)).toInt64 &&& 255).toInt32
def bM (w : Int64) (y : Int32) : Int32 := ((w >>> (y.toInt64 &&& 63)) &&& 255).toInt32
theorem b_bv (w : BitVec 64) (k : Nat) (hk : k ≤ 56) : (w >>> k) &&& 255#64 = (w.sshiftRight k) &&& 255#64 := by
  apply BitVec.eq_of_getLsbD_eq
  intro i hi
  rw [BitVec.getLsbD_and, BitVec.getLsbD_and, BitVec.getLsbD_ushiftRight, BitVec.getLsbD_sshiftRight]
  by_cases h8 : i < 8
  · rw [if_pos (by omega : k + i < 64), decide_eq_false (by omega : ¬ 64 ≤ i)]
    rfl
  · have h : (255#64).getLsbD i = false := by
      rw [BitVec.getLsbD_ofNat, Nat.testBit_lt_two_pow (Nat.lt_of_lt_of_le (by decide : 255 < 2 ^ 8) (Nat.pow_le_pow_right (by decide) (by omega)))]
      exact Bool.and_false _
    rw [h, Bool.and_false, Bool.and_false]
theorem b_eq8 (w : Int64) (y : Int32) (k : Nat) (u : UInt64) (v : Int64) (hk : k ≤ 56) (hu : (y.toInt64.toUInt64 &&& Int64.toUInt64 63) = u) (hv : (y.toInt64 &&& 63) = v) (hu' : (u.toBitVec % 64#64).toNat = k) (hv' : (v.toBitVec.smod 64#64).toNat = k) : bM w y = bC w y := by
  unfold bM bC
  rw [hu, hv]
  refine congrArg Int64.toInt32 (Int64.toBitVec_inj.mp ?_)
  show (w.toBitVec.sshiftRight (v.toBitVec.smod 64#64).toNat) &&& 255#64 = (w.toBitVec >>> (u.toBitVec % 64#64).toNat) &&& 255#64
  rw [hu', hv']
  exact (b_bv _ _ hk).symm
theorem b_eq {w : Int64} {y : Int32} {i : Int} (h0 : 0 ≤ i) (h7 : i ≤ 7) (hy : y.toInt = 8 * i) : bM w y = bC w y := by
  rcases (show i = 0 ∨ i = 1 ∨ i = 2 ∨ i = 3 ∨ i = 4 ∨ i = 5 ∨ i = 6 ∨ i = 7 by omega) with rfl | rfl | rfl | rfl | rfl | rfl | rfl | rfl
  · have e : y = 0 := i_inj (hy.trans (by decide))
    subst e
    exact b_eq8 w 0 0 0 0 (by decide) (by decide +kernel) (by decide +kernel) (by decide +kernel) (by decide +kernel)
  · have e : y = 8 := i_inj (hy.trans (by decide))
    subst e
    exact b_eq8 w 8 8 8 8 (by decide) (by decide +kernel) (by decide +kernel) (by decide +kernel) (by decide +kernel)
  · have e : y = 16 := i_inj (hy.trans (by decide))
    subst e
    exact b_eq8 w 16 16 16 16 (by decide) (by decide +kernel) (by decide +kernel) (by decide +kernel) (by decide +kernel)
  · have e : y = 24 := i_inj (hy.trans (by decide))
    subst e
    exact b_eq8 w 24 24 24 24 (by decide) (by decide +kernel) (by decide +kernel) (by decide +kernel) (by decide +kernel)
  · have e : y = 32 := i_inj (hy.trans (by decide))
    subst e
    exact b_eq8 w 32 32 32 32 (by decide) (by decide +kernel) (by decide +kernel) (by decide +kernel) (by decide +kernel)
  · have e : y = 40 := i_inj (hy.trans (by decide))
    subst e
    exact b_eq8 w 40 40 40 40 (by decide) (by decide +kernel) (by decide +kernel) (by decide +kernel) (by decide +kernel)
  · have e : y = 48 := i_inj (hy.trans (by decide))
    subst e
    exact b_eq8 w 48 48 48 48 (by decide) (by decide +kernel) (by decide +kernel) (by decide +kernel) (by decide +kernel)
  · have e : y = 56 := i_inj (hy.trans (by decide))
    subst e
    exact b_eq8 w 56 56 56 56 (by decide) (by decide +kernel) (by decide +kernel) (by decide +kernel) (by decide +kernel)
theorem b_rng (w : Int64) (y : Int32) : 0 ≤ (bC w y).toInt ∧ (bC w y).toInt ≤ 255 := by
  unfold bC
  generalize (w.toUInt64 >>> (y.toInt64.toUInt64 &&& Int64.toUInt64 63)).toInt64 = x
  have h : (x &&& 255).toInt32.toBitVec = (x.toBitVec &&& 255#64).setWidth 32 := BitVec.signExtend_eq_setWidth_of_le _ (by decide)
  have h2 : (x &&& 255).toInt32.toBitVec.toNat ≤ 255 := by
    rw [h, BitVec.toNat_setWidth]
    refine Nat.le_trans (Nat.mod_le _ _) ?_
    rw [BitVec.toNat_and]
    exact Nat.and_le_right
  show 0 ≤ (x &&& 255).toInt32.toBitVec.toInt ∧ (x &&& 255).toInt32.toBitVec.toInt ≤ 255
  rw [BitVec.toInt_eq_toNat_of_lt (by omega)]
  omega
def bt (w : Int64) (i : Int) : Int32 := bC w (Int32.ofInt (8 * i))
theorem bt_c {w : Int64} {y : Int32} {i : Int} (hy : y.toInt = 8 * i) : bC w y = bt w i := by
  unfold bt
  rw [← hy, Int32.ofInt_toInt]
/-- feed's writing: k bytes of n are behind the first z -/
def FD (g : GS) (a : Nat) (c0 : Nat → Int32) (w : Int64) (z n k : Int) : Prop := ∀ j : Nat, g.2.2.2.1 a j = if z ≤ j ∧ (j : Int) < z + k then bt w (n - 1 - (j - z)) else c0 j
theorem FD.zero {g : GS} {a : Nat} {c0 : Nat → Int32} {w : Int64} {z n k : Int} (e : g.2.2.2.1 a = c0) (hk : k ≤ 0) : FD g a c0 w z n k := fun j => by
  rw [if_neg (by omega), e]
theorem FD.st {g : GS} {a j : Nat} {c0 : Nat → Int32} {w : Int64} {z n k k' : Int} {v : Int32} (h : FD g a c0 w z n k) (hk : 0 ≤ k) (ej : (j : Int) = z + k) (ev : v = bt w (n - 1 - k)) (ek : k' = k + 1) : FD (sC g a j v) a c0 w z n k' := fun x => by
  subst ek
  show (if a = a ∧ x = j then v else g.2.2.2.1 a x) = _
  by_cases hx : x = j
  · rw [if_pos ⟨rfl, hx⟩, if_pos (by omega), ev]
    congr 1
    omega
  · rw [if_neg (fun q => hx q.2), h x]
    by_cases hq : z ≤ x ∧ (x : Int) < z + k
    · rw [if_pos hq, if_pos (by omega)]
    · rw [if_neg hq, if_neg (by omega)]
theorem FD.tC {g : GS} {a b j : Nat} {c0 : Nat → Int32} {w : Int64} {z n k : Int} {v : Int32} (h : FD g a c0 w z n k) (ne : a ≠ b) : FD (sC g b j v) a c0 w z n k := fun x => by
  show (if a = b ∧ x = j then v else g.2.2.2.1 a x) = _
  rw [if_neg (fun q => ne q.1)]
  exact h x
theorem FD.sm {md : Nat → Nat → Bool} {g g' : GS} {a r : Nat} {c0 : Nat → Int32} {w : Int64} {z n k : Int} (h : FD g a c0 w z n k) (m : Sm md g g') (e1 : g.1 a = r) (z1 : r ≠ 0) (q1 : md r 99 = false) : FD g' a c0 w z n k := fun x => by
  rw [(m.2 a (by rw [e1]; exact z1) (by rw [e1]; exact q1)).1]
  exact h x
theorem FD.cast {g : GS} {a : Nat} {c0 : Nat → Int32} {w : Int64} {z n k k' : Int} (h : FD g a c0 w z n k) (e : k' = k) : FD g a c0 w z n k' := by rw [e]; exact h
def fdR (n z : Int) : Int := if 1 ≤ n ∧ n ≤ 8 then (if z + n ≤ 100 then z + n else -4) else -2
def fdK (n z : Int) : Int := if 1 ≤ n ∧ n ≤ 8 then (if z + n ≤ 100 then n else 0) else 0
/-- the tapes are the same -/
def TE (g : GS) (ba ta : Nat) (z : Int) : Prop := ∀ i : Nat, (i : Int) < z → g.2.2.2.1 ba i = g.2.2.2.1 ta i
theorem TE.sm {md : Nat → Nat → Bool} {g g' : GS} {na pa r1 r2 : Nat} {z : Int} (h : TE g na pa z) (m : Sm md g g') (e1 : g.1 na = r1) (z1 : r1 ≠ 0) (q1 : md r1 99 = false) (e2 : g.1 pa = r2) (z2 : r2 ≠ 0) (q2 : md r2 99 = false) : TE g' na pa z := fun i hi => by
  rw [(m.2 na (by rw [e1]; exact z1) (by rw [e1]; exact q1)).1, (m.2 pa (by rw [e2]; exact z2) (by rw [e2]; exact q2)).1]
  exact h i hi
theorem TE.cast {g : GS} {na pa : Nat} {z z' : Int} (h : TE g na pa z) (e : z' ≤ z) : TE g na pa z' := fun i hi => h i (by omega)
theorem TE.fd {g : GS} {ba ta : Nat} {c c' : Nat → Int32} {w : Int64} {z n k z' : Int} (h : ∀ i : Nat, (i : Int) < z → c i = c' i) (f : FD g ba c w z n k) (f' : FD g ta c' w z n k) (e : z' = z + k) : TE g ba ta z' := fun i hi => by
  rw [f i, f' i]
  by_cases hq : z ≤ i ∧ (i : Int) < z + k
  · rw [if_pos hq, if_pos hq]
  · rw [if_neg hq, if_neg hq, h i (by omega)]
/-! what the calls answer, by what is kept -/
def svR (T : Int → Int) (z s : Int) : Int := if s ≤ 5 then (if pgk T z = true then s else -10 - pgf T) else -4
def svS (T : Int → Int) (z s : Int) : Int := if s ≤ 5 then (if pgk T z = true then s + 1 else s) else s
def svZ (z s : Int) : Int := if s ≤ 5 then 0 else z
def chR (T : Int → Int) (z s n : Int) : Int := if 0 ≤ n ∧ n < s then (if pgk T z = true then pgn T else -10 - pgf T) else -1
def chZ (z s n : Int) : Int := if 0 ≤ n ∧ n < s then 0 else z
def roR (s q n k j : Int) : Int := if 0 ≤ n ∧ n < s then (if (0 ≤ k ∧ k ≤ 999) ∧ 0 ≤ j ∧ j ≤ 99 then (if q ≤ 5 then q + 1 else -4) else -2) else -1
def roQ (s q n k j : Int) : Int := if 0 ≤ n ∧ n < s then (if (0 ≤ k ∧ k ≤ 999) ∧ 0 ≤ j ∧ j ≤ 99 then (if q ≤ 5 then q + 1 else q) else q) else q
def caL (s q n k j x : Int) : Int := if 0 ≤ n ∧ n < s then (if (0 ≤ k ∧ k ≤ 999) ∧ (0 ≤ j ∧ j ≤ 99) ∧ 0 ≤ x ∧ x ≤ 99 then (if q ≤ 19 then q + 1 else q) else q) else q
theorem k_true {T : Int → Int} {z : Int} {a b : Int} (h : pgk T z = true) : (if pgk T z = true then a else b) = a := if_pos h
theorem k_false {T : Int → Int} {z : Int} {a b : Int} (h : pgk T z = false) : (if pgk T z = true then a else b) = b := if_neg (by rw [h]; decide)
/-! a row's first elements -/
def EA (g : GS) (a : Nat) (c0 : Nat → Int32) (n : Int) : Prop := ∀ i : Nat, (i : Int) < n → g.2.2.2.1 a i = c0 i
theorem EA.tC {g : GS} {a b' i' : Nat} {c0 : Nat → Int32} {n : Int} {w : Int32} (h : EA g a c0 n) (ne : a ≠ b') : EA (sC g b' i' w) a c0 n := fun i hi => by
  show (if a = b' ∧ i = i' then w else g.2.2.2.1 a i) = _
  rw [if_neg (fun q => ne q.1)]
  exact h i hi
theorem EA.sm {md : Nat → Nat → Bool} {g g' : GS} {a r : Nat} {c0 : Nat → Int32} {n : Int} (h : EA g a c0 n) (m : Sm md g g') (e1 : g.1 a = r) (z1 : r ≠ 0) (q1 : md r 99 = false) : EA g' a c0 n := fun i hi => by
  rw [(m.2 a (by rw [e1]; exact z1) (by rw [e1]; exact q1)).1]
  exact h i hi
theorem EA.cast {g : GS} {a : Nat} {c0 : Nat → Int32} {n n' : Int} (h : EA g a c0 n) (e : n' ≤ n) : EA g a c0 n' := fun i hi => h i (by omega)
theorem EA.st {g : GS} {a : Nat} {c0 : Nat → Int32} {n : Int} {x v : Int32} (h : EA g a c0 n) (h0 : 0 ≤ x.toInt) (ex : x.toInt = n) (ev : v = c0 x.toNatClampNeg) : EA (sC g a x.toNatClampNeg v) a c0 (n + 1) := fun i hi => by
  have e0 : (x.toNatClampNeg : Int) = x.toInt := Int.toNat_of_nonneg h0
  show (if a = a ∧ i = x.toNatClampNeg then v else g.2.2.2.1 a i) = _
  by_cases hx : i = x.toNatClampNeg
  · rw [if_pos ⟨rfl, hx⟩, ev, hx]
  · rw [if_neg (fun q => hx q.2)]
    exact h i (by omega)
def UP (g : GS) (a : Nat) (c0 : Nat → Int32) (b : Bool) (j : Nat) (v : Int32) : Prop := ∀ i, g.2.2.2.1 a i = if b = true ∧ i = j then v else c0 i
theorem UP.zero {g : GS} {a j : Nat} {c0 : Nat → Int32} {v : Int32} (e : g.2.2.2.1 a = c0) : UP g a c0 false j v := fun i => by
  rw [if_neg (fun q => Bool.noConfusion q.1), e]
theorem UP.st {g : GS} {a j j' : Nat} {c0 : Nat → Int32} {v : Int32} (h : UP g a c0 false j v) (ej : j' = j) : UP (sC g a j' v) a c0 true j v := fun x => by
  subst ej
  show (if a = a ∧ x = j' then v else g.2.2.2.1 a x) = _
  by_cases hx : x = j'
  · rw [if_pos ⟨rfl, hx⟩, if_pos ⟨rfl, hx⟩]
  · rw [if_neg (fun q => hx q.2), h x, if_neg (fun q => Bool.noConfusion q.1), if_neg (fun q => hx q.2)]
theorem UP.tC {g : GS} {a b' i' j : Nat} {c0 : Nat → Int32} {b : Bool} {v w : Int32} (h : UP g a c0 b j v) (n : a ≠ b') : UP (sC g b' i' w) a c0 b j v := fun i => by
  show (if a = b' ∧ i = i' then w else g.2.2.2.1 a i) = _
  rw [if_neg (fun q => n q.1)]
  exact h i
theorem UP.sm {md : Nat → Nat → Bool} {g g' : GS} {a j r : Nat} {c0 : Nat → Int32} {b : Bool} {v : Int32} (h : UP g a c0 b j v) (m : Sm md g g') (e1 : g.1 a = r) (z1 : r ≠ 0) (q1 : md r 99 = false) : UP g' a c0 b j v := fun i => by
  rw [(m.2 a (by rw [e1]; exact z1) (by rw [e1]; exact q1)).1]
  exact h i
theorem UP.tr {g g' : GS} {a j : Nat} {c : Nat → Int32} {b : Bool} {v v0 : Int32} (h : UP g a c false j v0) (h' : UP g' a (g.2.2.2.1 a) b j v) : UP g' a c b j v := fun i => by
  have e := h i
  rw [if_neg (fun q => Bool.noConfusion q.1)] at e
  rw [h' i, e]
theorem UP.val {g : GS} {a j : Nat} {c : Nat → Int32} {v v' : Int32} (h : UP g a c false j v) : UP g a c false j v' := fun i => by
  rw [h i, if_neg (fun q => Bool.noConfusion q.1), if_neg (fun q => Bool.noConfusion q.1)]
/-! holds, mends: a field of the services of now beside a row of the model -/
def HO (k : Nat) (d : Int32) (g : GS) (sa ha : Nat) (sv : Int) : Prop := (∀ i : Nat, i < 6 → ∃ (q : Nat) (x : Int32), g.2.2.2.2 sa i = some q ∧ g.1 q = 10 ∧ g.2.1 q k = .int x ∧ ((i : Int) < sv → g.2.2.2.1 ha i = x) ∧ (sv ≤ i → x = d)) ∧ (∀ i j q : Nat, i < 6 → j < 6 → g.2.2.2.2 sa i = some q → g.2.2.2.2 sa j = some q → i = j)
theorem HO.go {k : Nat} {d : Int32} {g g' : GS} {sa ha : Nat} {sv : Int} (h : HO k d g sa ha sv) (x : Ex g g') (s : g'.2.2.2.2 sa = g.2.2.2.2 sa) (f : ∀ q, g.1 q = 10 → g'.2.1 q k = g.2.1 q k) (c : ∀ i : Nat, i < 6 → g'.2.2.2.1 ha i = g.2.2.2.1 ha i) : HO k d g' sa ha sv := by
  refine ⟨fun i hi => ?_, fun i j q hi hj h1 h2 => h.2 i j q hi hj (by rw [← s]; exact h1) (by rw [← s]; exact h2)⟩
  obtain ⟨q, y, e1, e2, e3, e4, e5⟩ := h.1 i hi
  exact ⟨q, y, by rw [s]; exact e1, x.r e2 (by decide), (f q e2).trans e3, fun hs => (c i hi).trans (e4 hs), e5⟩
theorem HO.mono {k rm : Nat} {d : Int32} {md : Nat → Nat → Bool} {g g' : GS} {sa ha : Nat} {sv : Int} (h : HO k d g sa ha sv) (m : Sm md g g') (x : Ex g g') (rs : g.1 sa = 42) (rh : g.1 ha = rm) (z : rm ≠ 0) (q1 : md 42 99 = false) (q2 : md rm 99 = false) (q3 : md 10 k = false) : HO k d g' sa ha sv :=
  h.go x (m.2 sa (by rw [rs]; decide) (by rw [rs]; exact q1)).2 (fun q hq => m.1 q k (by rw [hq]; decide) (by rw [hq]; exact q3)) (fun i _ => congrFun (m.2 ha (by rw [rh]; exact z) (by rw [rh]; exact q2)).1 i)
/-- a service's field is changed, or not -/
def HC (k : Nat) (g g' : GS) (sa n : Nat) (ok : Bool) (r rb : Int32) (f a : Int32 → Int32) : Prop := (ok = false ∧ r = rb ∧ ∀ q, g'.2.1 q k = g.2.1 q k) ∨ (ok = true ∧ ∃ (q : Nat) (x : Int32), g.2.2.2.2 sa n = some q ∧ g.2.1 q k = .int x ∧ r = a x ∧ g'.2.1 q k = .int (f x) ∧ ∀ q', q' ≠ q → g'.2.1 q' k = g.2.1 q' k)
theorem HO.step {k n : Nat} {d : Int32} {g g2 g3 : GS} {sa ha : Nat} {sv : Int} {ok : Bool} {r r' rb : Int32} {f a : Int32 → Int32} (h : HO k d g sa ha sv) (hn : ok = true → n < 6 ∧ (n : Int) < sv) (hc : HC k g g2 sa n ok r rb f a) (x12 : Ex g g2) (s12 : g2.2.2.2.2 sa = g.2.2.2.2 sa) (c12 : g2.2.2.2.1 ha = g.2.2.2.1 ha) (x23 : Ex g2 g3) (s23 : g3.2.2.2.2 sa = g2.2.2.2.2 sa) (f23 : ∀ q, g2.1 q = 10 → g3.2.1 q k = g2.2.1 q k) (hm : UP g3 ha (g2.2.2.2.1 ha) ok n (f (g2.2.2.2.1 ha n))) (hr : r' = if ok = true then a (g2.2.2.2.1 ha n) else rb) : r = r' ∧ HO k d g3 sa ha sv := by
  rcases hc with ⟨o1, o2, o3⟩ | ⟨o1, q, x, e1, e2, e3, e4, e5⟩
  · subst o1
    rw [if_neg (fun q => Bool.noConfusion q)] at hr
    refine ⟨o2.trans hr.symm, h.go (x12.tr x23) (s23.trans s12) (fun q hq => (f23 q (x12.r hq (by decide))).trans (o3 q)) (fun i _ => ?_)⟩
    rw [hm i, if_neg (fun q => Bool.noConfusion q.1), c12]
  · subst o1
    obtain ⟨h6, hs⟩ := hn rfl
    obtain ⟨q', x', d1, d2, d3, d4, d5⟩ := h.1 n h6
    have eq : q' = q := Option.some.inj (d1.symm.trans e1)
    subst eq
    have ex : x' = x := Value.int.inj (d3.symm.trans e2)
    subst ex
    have cn : g2.2.2.2.1 ha n = x' := by rw [c12]; exact d4 hs
    rw [if_pos rfl, cn] at hr
    rw [cn] at hm
    refine ⟨e3.trans hr.symm, fun i hi => ?_, fun i j q hi hj h1 h2 => h.2 i j q hi hj (by rw [← s12, ← s23]; exact h1) (by rw [← s12, ← s23]; exact h2)⟩
    obtain ⟨qi, xi, i1, i2, i3, i4, i5⟩ := h.1 i hi
    by_cases hin : i = n
    · subst hin
      have eq2 : qi = q' := Option.some.inj (i1.symm.trans d1)
      subst eq2
      refine ⟨qi, f x', by rw [s23, s12]; exact i1, (x12.tr x23).r i2 (by decide), (f23 qi (x12.r i2 (by decide))).trans e4, fun _ => ?_, fun hx => absurd hx (by omega)⟩
      rw [hm i, if_pos ⟨rfl, rfl⟩]
    · have hq : qi ≠ q' := fun e => hin (h.2 i n qi hi h6 i1 (by rw [e]; exact d1))
      refine ⟨qi, xi, by rw [s23, s12]; exact i1, (x12.tr x23).r i2 (by decide), ((f23 qi (x12.r i2 (by decide))).trans (e5 qi hq)).trans i3, fun hx => ?_, i5⟩
      rw [hm i, if_neg (fun q => hin q.2), c12]
      exact i4 hx
theorem HO.svc {k n : Nat} {d : Int32} {g g' : GS} {sa ha : Nat} {sv sv' : Int} {b : Bool} (h : HO k d g sa ha sv) (x : Ex g g') (s : g'.2.2.2.2 sa = g.2.2.2.2 sa) (f : ∀ q, g.1 q = 10 → g'.2.1 q k = g.2.1 q k) (hm : UP g' ha (g.2.2.2.1 ha) b n d) (hn : (n : Int) = sv) (hs : sv' = if b = true then sv + 1 else sv) : HO k d g' sa ha sv' := by
  refine ⟨fun i hi => ?_, fun i j q hi hj h1 h2 => h.2 i j q hi hj (by rw [← s]; exact h1) (by rw [← s]; exact h2)⟩
  obtain ⟨q, y, e1, e2, e3, e4, e5⟩ := h.1 i hi
  refine ⟨q, y, by rw [s]; exact e1, x.r e2 (by decide), (f q e2).trans e3, fun hx => ?_, fun hx => e5 ?_⟩
  · rw [hm i]
    by_cases hb : b = true ∧ i = n
    · rw [if_pos hb]
      exact (e5 (by omega)).symm
    · rw [if_neg hb]
      refine e4 ?_
      by_cases hb1 : b = true
      · rw [if_pos hb1] at hs
        have : i ≠ n := fun q => hb ⟨hb1, q⟩
        omega
      · rw [if_neg hb1] at hs
        omega
  · by_cases hb1 : b = true
    · rw [if_pos hb1] at hs
      omega
    · rw [if_neg hb1] at hs
      omega
theorem six_inj {f : Nat → Option Nat} {q0 q1 q2 q3 q4 q5 : Nat} (e0 : f 0 = some q0) (e1 : f 1 = some q1) (e2 : f 2 = some q2) (e3 : f 3 = some q3) (e4 : f 4 = some q4) (e5 : f 5 = some q5) (d01 : q0 ≠ q1) (d02 : q0 ≠ q2) (d03 : q0 ≠ q3) (d04 : q0 ≠ q4) (d05 : q0 ≠ q5) (d12 : q1 ≠ q2) (d13 : q1 ≠ q3) (d14 : q1 ≠ q4) (d15 : q1 ≠ q5) (d23 : q2 ≠ q3) (d24 : q2 ≠ q4) (d25 : q2 ≠ q5) (d34 : q3 ≠ q4) (d35 : q3 ≠ q5) (d45 : q4 ≠ q5) : ∀ i j q : Nat, i < 6 → j < 6 → f i = some q → f j = some q → i = j := by
  intro i j q hi hj h1 h2
  have a1 : i = 0 ∨ i = 1 ∨ i = 2 ∨ i = 3 ∨ i = 4 ∨ i = 5 := by omega
  have a2 : j = 0 ∨ j = 1 ∨ j = 2 ∨ j = 3 ∨ j = 4 ∨ j = 5 := by omega
  rcases a1 with rfl | rfl | rfl | rfl | rfl | rfl <;> rcases a2 with rfl | rfl | rfl | rfl | rfl | rfl <;> first | rfl | (exfalso; simp only [e0, e1, e2, e3, e4, e5, Option.some.injEq] at h1 h2; omega)
def HS (g : GS) (h : Nat) : Prop := ∃ sa : Nat, g.2.1 h 0 = .ref sa ∧ g.1 sa = 42 ∧ g.2.2.1 sa = 6 ∧ (∀ i : Nat, i < 6 → ∃ q : Nat, g.2.2.2.2 sa i = some q ∧ g.1 q = 10 ∧ g.2.1 q 3 = .int 0 ∧ g.2.1 q 4 = .int 10) ∧ (∀ i j q : Nat, i < 6 → j < 6 → g.2.2.2.2 sa i = some q → g.2.2.2.2 sa j = some q → i = j)
theorem HS.mono {md : Nat → Nat → Bool} {g g' : GS} {h : Nat} (w : HS g h) (m : Sm md g g') (x : Ex g g') (rh : g.1 h = 19) (q1 : md 19 0 = false) (q2 : md 42 99 = false) (q3 : md 10 3 = false) (q4 : md 10 4 = false) : HS g' h := by
  obtain ⟨sa, e1, e2, e3, e4, e5⟩ := w
  have s := (m.2 sa (by rw [e2]; decide) (by rw [e2]; exact q2)).2
  refine ⟨sa, m.v rh (by decide) q1 e1, x.r e2 (by decide), x.n e2 (by decide) e3, fun i hi => ?_, fun i j q hi hj h1 h2 => e5 i j q hi hj (by rw [← s]; exact h1) (by rw [← s]; exact h2)⟩
  obtain ⟨q, d1, d2, d3, d4⟩ := e4 i hi
  exact ⟨q, by rw [s]; exact d1, x.r d2 (by decide), m.v d2 (by decide) q3 d3, m.v d2 (by decide) q4 d4⟩
theorem HS.monx {md : Nat → Nat → Bool} {g g' : GS} {h a r : Nat} (w : HS g h) (m : Sm md g g') (x : Exx a g g') (ra : g.1 a = r) (hr : 10 ≠ r ∧ 42 ≠ r ∧ 19 ≠ r) (rh : g.1 h = 19) (q1 : md 19 0 = false) (q2 : md 42 99 = false) (q3 : md 10 3 = false) (q4 : md 10 4 = false) : HS g' h := by
  obtain ⟨sa, e1, e2, e3, e4, e5⟩ := w
  have s := (m.2 sa (by rw [e2]; decide) (by rw [e2]; exact q2)).2
  have xs := x sa (ro_ne e2 ra hr.2.1) (by rw [e2]; decide)
  refine ⟨sa, m.v rh (by decide) q1 e1, xs.1.trans e2, xs.2.trans e3, fun i hi => ?_, fun i j q hi hj h1 h2 => e5 i j q hi hj (by rw [← s]; exact h1) (by rw [← s]; exact h2)⟩
  obtain ⟨q, d1, d2, d3, d4⟩ := e4 i hi
  exact ⟨q, by rw [s]; exact d1, (x q (ro_ne d2 ra hr.1) (by rw [d2]; decide)).1.trans d2, m.v d2 (by decide) q3 d3, m.v d2 (by decide) q4 d4⟩
theorem HS.pr {g : GS} {h a : Nat} (w : HS g h) (ra : g.1 a = 17) : HS (sR g a 7) h := by
  obtain ⟨sa, e1, e2, e3, e4, e5⟩ := w
  refine ⟨sa, e1, sR_r e2 (ro_ne e2 ra (by decide)), e3, fun i hi => ?_, e5⟩
  obtain ⟨q, d1, d2, d3, d4⟩ := e4 i hi
  exact ⟨q, d1, sR_r d2 (ro_ne d2 ra (by decide)), d3, d4⟩
def HX (g : GS) (h : Nat) : Prop := ∃ nw : Nat, g.2.1 h 1 = .ref nw ∧ HS g nw
def hoB (s n t : Int) : Bool := decide ((0 ≤ n ∧ n < s) ∧ 0 ≤ t ∧ t ≤ 99)
def hoE (s n : Int) : Int32 := if 0 ≤ n ∧ n < s then -2 else -1
theorem hoB_f {s n t : Int} (h : ¬ ((0 ≤ n ∧ n < s) ∧ 0 ≤ t ∧ t ≤ 99)) : hoB s n t = false := decide_eq_false h
theorem hoB_t {s n t : Int} (h : (0 ≤ n ∧ n < s) ∧ 0 ≤ t ∧ t ≤ 99) : hoB s n t = true := decide_eq_true h
theorem hoE_1 {s n : Int} (h : ¬ (0 ≤ n ∧ n < s)) : (-1 : Int32) = hoE s n := by
  unfold hoE
  rw [if_neg h]
theorem hoE_2 {s n : Int} (h : 0 ≤ n ∧ n < s) : (-2 : Int32) = hoE s n := by
  unfold hoE
  rw [if_pos h]
theorem bb_f {b : Bool} {x y z : Int32} (h : b = false) (e : z = y) : z = if b = true then x else y := by
  rw [if_neg (by rw [h]; exact fun q => Bool.noConfusion q)]
  exact e
theorem bb_t {b : Bool} {x y z : Int32} (h : b = true) (e : z = x) : z = if b = true then x else y := by
  rw [if_pos h]
  exact e
theorem hoB_n {s n t : Int} {x : Int32} (hx : x.toInt = n) (h : hoB s n t = true) (hs : s ≤ 6) : x.toNatClampNeg < 6 ∧ ((x.toNatClampNeg : Nat) : Int) < s := by
  have := of_decide_eq_true h
  have e0 : (x.toNatClampNeg : Int) = x.toInt := Int.toNat_of_nonneg (by omega)
  omega
def svb (T : Int → Int) (z s : Int) : Bool := decide (s ≤ 5) && pgk T z
theorem svb_0 {T : Int → Int} {z s : Int} (h : 5 < s) : svb T z s = false := by
  unfold svb
  rw [decide_eq_false (by omega)]
  rfl
theorem svb_k {T : Int → Int} {z s : Int} {b : Bool} (h : s ≤ 5) (hk : pgk T z = b) : svb T z s = b := by
  unfold svb
  rw [decide_eq_true h, hk]
  exact Bool.true_and _
theorem svb_s {T : Int → Int} {z s : Int} : svS T z s = if svb T z s = true then s + 1 else s := by
  unfold svS svb
  by_cases h : s ≤ 5
  · rw [if_pos h, decide_eq_true h, Bool.true_and]
  · rw [if_neg h, decide_eq_false h, Bool.false_and, if_neg (fun q => Bool.noConfusion q)]
theorem HO.of {k : Nat} {d : Int32} {g : GS} {sa ha : Nat} (h : ∀ i : Nat, i < 6 → ∃ q : Nat, g.2.2.2.2 sa i = some q ∧ g.1 q = 10 ∧ g.2.1 q k = .int d) (h2 : ∀ i j q : Nat, i < 6 → j < 6 → g.2.2.2.2 sa i = some q → g.2.2.2.2 sa j = some q → i = j) : HO k d g sa ha (0 : Int32).toInt := by
  refine ⟨fun i hi => ?_, h2⟩
  obtain ⟨q, d1, d2, d3⟩ := h i hi
  exact ⟨q, d, d1, d2, d3, fun hx => absurd hx (by have e0 : (0 : Int32).toInt = 0 := (by decide); omega), fun _ => rfl⟩
/-! mends: bits -/
def meF (m is x : Int32) : Int32 := (x &&& ((1 <<< (m &&& 31)) ^^^ (-1))) ||| (is <<< (m &&& 31))
def meA (m x : Int32) : Int32 := (x >>> (m &&& 31)) &&& 1
theorem me_bv (x b : BitVec 32) : (x &&& (b ^^^ BitVec.allOnes 32)) ||| b = x ||| b := by
  apply BitVec.eq_of_getLsbD_eq
  intro i hi
  rw [BitVec.getLsbD_or, BitVec.getLsbD_or, BitVec.getLsbD_and, BitVec.getLsbD_xor, BitVec.getLsbD_allOnes, decide_eq_true hi]
  cases x.getLsbD i <;> cases b.getLsbD i <;> rfl
theorem me_1 (x b : Int32) : (x &&& (b ^^^ (-1))) ||| b = x ||| b := Int32.toBitVec_inj.mp (me_bv x.toBitVec b.toBitVec)
theorem me_s1 {m is x z : Int32} (hi : is.toInt = 1) (e : z = x ||| (1 <<< (m &&& 31))) : z = meF m is x := by
  have h1 : is = 1 := i_inj (hi.trans (by decide))
  subst h1
  unfold meF
  rw [me_1]
  exact e
theorem me_s0 {m is x z : Int32} (hi : is.toInt = 0) (h0 : 0 ≤ m.toInt) (h3 : m.toInt ≤ 3) (e : z = x &&& ((1 <<< (m &&& 31)) ^^^ (-1))) : z = meF m is x := by
  have h1 : is = 0 := i_inj (hi.trans (by decide))
  subst h1
  unfold meF
  have hz : (0 : Int32) <<< (m &&& 31) = 0 := by
    rcases (show m.toInt = 0 ∨ m.toInt = 1 ∨ m.toInt = 2 ∨ m.toInt = 3 by omega) with h | h | h | h
    · rw [show m = 0 from i_inj (h.trans (by decide))]; decide
    · rw [show m = 1 from i_inj (h.trans (by decide))]; decide
    · rw [show m = 2 from i_inj (h.trans (by decide))]; decide
    · rw [show m = 3 from i_inj (h.trans (by decide))]; decide
  rw [hz, Int32.or_zero]
  exact e
theorem me_a1 {m x : Int32} (h : (x >>> (m &&& 31)) &&& 1 = 1) : (1 : Int32) = meA m x := h.symm
theorem me_a0 {m x : Int32} (h : ¬ (x >>> (m &&& 31)) &&& 1 = 1) : (0 : Int32) = meA m x := by
  unfold meA
  have h2 := i_and 1 (b := 1) (rfl : (x >>> (m &&& 31)) &&& 1 = (x >>> (m &&& 31)) &&& 1) (by decide) (by decide) (by decide)
  generalize (x >>> (m &&& 31)) &&& 1 = y at h h2
  refine i_inj ?_
  have h1 : y.toInt ≠ 1 := fun q => h (i_inj (q.trans (by decide)))
  have e0 : (0 : Int32).toInt = 0 := by decide
  omega
def meB (s n m t : Int) : Bool := decide ((0 ≤ n ∧ n < s) ∧ (0 ≤ m ∧ m ≤ 3) ∧ 0 ≤ t ∧ t ≤ 1)
def meE (s n m : Int) : Int32 := if (0 ≤ n ∧ n < s) ∧ 0 ≤ m ∧ m ≤ 3 then -2 else -1
theorem meB_f {s n m t : Int} (h : ¬ ((0 ≤ n ∧ n < s) ∧ (0 ≤ m ∧ m ≤ 3) ∧ 0 ≤ t ∧ t ≤ 1)) : meB s n m t = false := decide_eq_false h
theorem meB_t {s n m t : Int} (h : (0 ≤ n ∧ n < s) ∧ (0 ≤ m ∧ m ≤ 3) ∧ 0 ≤ t ∧ t ≤ 1) : meB s n m t = true := decide_eq_true h
theorem meE_1 {s n m : Int} (h : ¬ ((0 ≤ n ∧ n < s) ∧ 0 ≤ m ∧ m ≤ 3)) : (-1 : Int32) = meE s n m := by
  unfold meE
  rw [if_neg h]
theorem meE_2 {s n m : Int} (h : (0 ≤ n ∧ n < s) ∧ 0 ≤ m ∧ m ≤ 3) : (-2 : Int32) = meE s n m := by
  unfold meE
  rw [if_pos h]
theorem meB_n {s n m t : Int} {x : Int32} (hx : x.toInt = n) (h : meB s n m t = true) (hs : s ≤ 6) : x.toNatClampNeg < 6 ∧ ((x.toNatClampNeg : Nat) : Int) < s := by
  have := of_decide_eq_true h
  have e0 : (x.toNatClampNeg : Int) = x.toInt := Int.toNat_of_nonneg (by omega)
  omega
