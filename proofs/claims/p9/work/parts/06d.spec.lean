/-! the tape's text: a byte at each place, -1 behind the end; what is read there -/
def txb (c : Nat → Int32) (n i : Int) : Int := if 0 ≤ i ∧ i < n then (c i.toNat).toInt else -1
theorem tb_1 {f ct : Nat → Int32} {n x : Int32} {z : Int} (h0 : 0 ≤ n.toInt) (h1 : n.toInt < z) (hc : f = ct) (e : f n.toNatClampNeg = x) : x.toInt = txb ct z n.toInt := by
  unfold txb
  rw [if_pos ⟨h0, h1⟩, ← e, hc]
  rfl
theorem tb_0 {ct : Nat → Int32} {n : Int32} {z : Int} (h : n.toInt < 0 ∨ z ≤ n.toInt) : (-1 : Int32).toInt = txb ct z n.toInt := by
  unfold txb
  rw [if_neg (by omega)]
  decide
theorem tb_eq {c c' : Nat → Int32} {n : Int} (h : ∀ i : Nat, (i : Int) < n → c i = c' i) : txb c n = txb c' n := by
  funext i
  unfold txb
  by_cases hi : 0 ≤ i ∧ i < n
  · rw [if_pos hi, if_pos hi, h i.toNat (by omega)]
  · rw [if_neg hi, if_neg hi]
theorem tb_lt {c : Nat → Int32} {n i : Int} (h : txb c n i ≠ -1) : 0 ≤ i ∧ i < n := by
  unfold txb at h
  by_cases q : 0 ≤ i ∧ i < n
  · exact q
  · rw [if_neg q] at h
    exact absurd rfl h
def wp4 (x y z v a b c d : Int) : Int := if a = x then (if b = y then (if c = z then (if d = v then 4 else 3) else 2) else 1) else 0
def wp3 (x y z a b c : Int) : Int := if a = x then (if b = y then (if c = z then 3 else 2) else 1) else 0
theorem wp4_0 {x y z v a b c d : Int} (h : a ≠ x) : wp4 x y z v a b c d = 0 := by
  unfold wp4
  rw [if_neg h]
theorem wp4_1 {x y z v a b c d : Int} (h : a = x) (h1 : b ≠ y) : wp4 x y z v a b c d = 1 := by
  unfold wp4
  rw [if_pos h, if_neg h1]
theorem wp4_2 {x y z v a b c d : Int} (h : a = x) (h1 : b = y) (h2 : c ≠ z) : wp4 x y z v a b c d = 2 := by
  unfold wp4
  rw [if_pos h, if_pos h1, if_neg h2]
theorem wp4_3 {x y z v a b c d : Int} (h : a = x) (h1 : b = y) (h2 : c = z) (h3 : d ≠ v) : wp4 x y z v a b c d = 3 := by
  unfold wp4
  rw [if_pos h, if_pos h1, if_pos h2, if_neg h3]
theorem wp4_4 {x y z v a b c d : Int} (h : a = x) (h1 : b = y) (h2 : c = z) (h3 : d = v) : wp4 x y z v a b c d = 4 := by
  unfold wp4
  rw [if_pos h, if_pos h1, if_pos h2, if_pos h3]
theorem wp3_0 {x y z a b c : Int} (h : a ≠ x) : wp3 x y z a b c = 0 := by
  unfold wp3
  rw [if_neg h]
theorem wp3_1 {x y z a b c : Int} (h : a = x) (h1 : b ≠ y) : wp3 x y z a b c = 1 := by
  unfold wp3
  rw [if_pos h, if_neg h1]
theorem wp3_2 {x y z a b c : Int} (h : a = x) (h1 : b = y) (h2 : c ≠ z) : wp3 x y z a b c = 2 := by
  unfold wp3
  rw [if_pos h, if_pos h1, if_neg h2]
theorem wp3_3 {x y z a b c : Int} (h : a = x) (h1 : b = y) (h2 : c = z) : wp3 x y z a b c = 3 := by
  unfold wp3
  rw [if_pos h, if_pos h1, if_pos h2]
theorem wp4_r {x y z v a b c d : Int} : 0 ≤ wp4 x y z v a b c d := by
  unfold wp4
  (repeat' split) <;> omega
theorem wp3_r {x y z a b c : Int} : 0 ≤ wp3 x y z a b c := by
  unfold wp3
  (repeat' split) <;> omega
theorem wp4_g {x y z v a b c d : Int} (h : a = x) : 1 ≤ wp4 x y z v a b c d := by
  unfold wp4
  rw [if_pos h]
  (repeat' split) <;> omega
theorem wp4_g2 {x y z v a b c d : Int} (h : a = x) (h1 : b = y) : 2 ≤ wp4 x y z v a b c d := by
  unfold wp4
  rw [if_pos h, if_pos h1]
  (repeat' split) <;> omega
def qj (T : Int → Int) (p : Int) : Nat → Int
  | 0 => wp4 115 101 116 32 (T p) (T (p + 1)) (T (p + 2)) (T (p + 3))
  | 1 => wp4 97 100 100 32 (T p) (T (p + 1)) (T (p + 2)) (T (p + 3))
  | 2 => wp4 109 97 120 32 (T p) (T (p + 1)) (T (p + 2)) (T (p + 3))
  | 3 => wp4 110 101 119 32 (T p) (T (p + 1)) (T (p + 2)) (T (p + 3))
  | 4 => wp4 103 101 116 32 (T p) (T (p + 1)) (T (p + 2)) (T (p + 3))
  | 5 => wp4 97 115 107 32 (T p) (T (p + 1)) (T (p + 2)) (T (p + 3))
  | 6 => wp3 100 111 32 (T p) (T (p + 1)) (T (p + 2))
  | 7 => wp3 105 102 32 (T p) (T (p + 1)) (T (p + 2))
  | _ => 0
def fw (T : Int → Int) (p : Int) : Nat → Int
  | 0 => 0
  | k + 1 => max (fw T p k) (qj T p k)
def wsel (a b : Int) : Nat := if a = 97 ∧ b = 115 then 5 else if a = 115 then 0 else if a = 97 then 1 else if a = 109 then 2 else if a = 110 then 3 else if a = 103 then 4 else if a = 100 then 6 else if a = 105 then 7 else 8
def wl (w : Nat) : Int := if w ≤ 5 then 4 else 3
def wdr (T : Int → Int) (p : Int) : Int := if wsel (T p) (T (p + 1)) ≠ 8 ∧ qj T p (wsel (T p) (T (p + 1))) = wl (wsel (T p) (T (p + 1))) then (wsel (T p) (T (p + 1)) : Nat) else -1
def wdp (T : Int → Int) (p : Int) : Int := p + qj T p (wsel (T p) (T (p + 1)))
theorem wd_c {T : Int → Int} {p : Int} {w : Nat} (hs : wsel (T p) (T (p + 1)) = w) (h8 : w ≠ 8) (hq : qj T p w = wl w) : wdr T p = w ∧ wdp T p = p + wl w := by
  unfold wdr wdp
  rw [hs, if_pos ⟨h8, hq⟩, hq]
  exact ⟨rfl, rfl⟩
theorem wd_f {T : Int → Int} {p : Int} {w : Nat} (hs : wsel (T p) (T (p + 1)) = w) (hq : w = 8 ∨ qj T p w ≠ wl w) : wdr T p = -1 ∧ wdp T p = p + qj T p w := by
  unfold wdr wdp
  rw [hs, if_neg (fun h => hq.elim h.1 (fun x => x h.2))]
  exact ⟨rfl, rfl⟩
theorem ws_5 {a b : Int} (h : a = 97) (h1 : b = 115) : wsel a b = 5 := by
  unfold wsel
  rw [if_pos ⟨h, h1⟩]
theorem ws_0 {a b : Int} (h : a = 115) : wsel a b = 0 := by
  unfold wsel
  rw [if_neg (by omega), if_pos (by omega)]
theorem ws_1 {a b : Int} (h : a = 97) (h1 : b ≠ 115) : wsel a b = 1 := by
  unfold wsel
  rw [if_neg (by omega), if_neg (by omega), if_pos (by omega)]
theorem ws_2 {a b : Int} (h : a = 109) : wsel a b = 2 := by
  unfold wsel
  rw [if_neg (by omega), if_neg (by omega), if_neg (by omega), if_pos (by omega)]
theorem ws_3 {a b : Int} (h : a = 110) : wsel a b = 3 := by
  unfold wsel
  rw [if_neg (by omega), if_neg (by omega), if_neg (by omega), if_neg (by omega), if_pos (by omega)]
theorem ws_4 {a b : Int} (h : a = 103) : wsel a b = 4 := by
  unfold wsel
  rw [if_neg (by omega), if_neg (by omega), if_neg (by omega), if_neg (by omega), if_neg (by omega), if_pos (by omega)]
theorem ws_6 {a b : Int} (h : a = 100) : wsel a b = 6 := by
  unfold wsel
  rw [if_neg (by omega), if_neg (by omega), if_neg (by omega), if_neg (by omega), if_neg (by omega), if_neg (by omega), if_pos (by omega)]
theorem ws_7 {a b : Int} (h : a = 105) : wsel a b = 7 := by
  unfold wsel
  rw [if_neg (by omega), if_neg (by omega), if_neg (by omega), if_neg (by omega), if_neg (by omega), if_neg (by omega), if_neg (by omega), if_pos (by omega)]
theorem ws_8 {a b : Int} (h0 : a ≠ 115) (h1 : a ≠ 97) (h2 : a ≠ 109) (h3 : a ≠ 110) (h4 : a ≠ 103) (h6 : a ≠ 100) (h7 : a ≠ 105) : wsel a b = 8 := by
  unfold wsel
  rw [if_neg (by omega), if_neg (by omega), if_neg (by omega), if_neg (by omega), if_neg (by omega), if_neg (by omega), if_neg (by omega), if_neg (by omega)]
theorem wo_0 {T : Int → Int} {p : Int} (h : T p = 115 ∧ T (p + 1) = 101 ∧ T (p + 2) = 116 ∧ T (p + 3) = 32) : wdr T p = 0 ∧ wdp T p = p + 4 := wd_c (w := 0) (ws_0 h.1) (by decide) (wp4_4 h.1 h.2.1 h.2.2.1 h.2.2.2)
theorem wo_1 {T : Int → Int} {p : Int} (h : T p = 97 ∧ T (p + 1) = 100 ∧ T (p + 2) = 100 ∧ T (p + 3) = 32) : wdr T p = 1 ∧ wdp T p = p + 4 := wd_c (w := 1) (ws_1 h.1 (by omega)) (by decide) (wp4_4 h.1 h.2.1 h.2.2.1 h.2.2.2)
theorem wo_2 {T : Int → Int} {p : Int} (h : T p = 109 ∧ T (p + 1) = 97 ∧ T (p + 2) = 120 ∧ T (p + 3) = 32) : wdr T p = 2 ∧ wdp T p = p + 4 := wd_c (w := 2) (ws_2 h.1) (by decide) (wp4_4 h.1 h.2.1 h.2.2.1 h.2.2.2)
theorem wo_3 {T : Int → Int} {p : Int} (h : T p = 110 ∧ T (p + 1) = 101 ∧ T (p + 2) = 119 ∧ T (p + 3) = 32) : wdr T p = 3 ∧ wdp T p = p + 4 := wd_c (w := 3) (ws_3 h.1) (by decide) (wp4_4 h.1 h.2.1 h.2.2.1 h.2.2.2)
theorem wo_4 {T : Int → Int} {p : Int} (h : T p = 103 ∧ T (p + 1) = 101 ∧ T (p + 2) = 116 ∧ T (p + 3) = 32) : wdr T p = 4 ∧ wdp T p = p + 4 := wd_c (w := 4) (ws_4 h.1) (by decide) (wp4_4 h.1 h.2.1 h.2.2.1 h.2.2.2)
theorem wo_5 {T : Int → Int} {p : Int} (h : T p = 97 ∧ T (p + 1) = 115 ∧ T (p + 2) = 107 ∧ T (p + 3) = 32) : wdr T p = 5 ∧ wdp T p = p + 4 := wd_c (w := 5) (ws_5 h.1 h.2.1) (by decide) (wp4_4 h.1 h.2.1 h.2.2.1 h.2.2.2)
theorem wo_6 {T : Int → Int} {p : Int} (h : T p = 100 ∧ T (p + 1) = 111 ∧ T (p + 2) = 32) : wdr T p = 6 ∧ wdp T p = p + 3 := wd_c (w := 6) (ws_6 h.1) (by decide) (wp3_3 h.1 h.2.1 h.2.2)
theorem wo_7 {T : Int → Int} {p : Int} (h : T p = 105 ∧ T (p + 1) = 102 ∧ T (p + 2) = 32) : wdr T p = 7 ∧ wdp T p = p + 3 := wd_c (w := 7) (ws_7 h.1) (by decide) (wp3_3 h.1 h.2.1 h.2.2)
theorem fw8 {T : Int → Int} {p : Int} : fw T p 8 = max (max (max (max (max (max (max (max 0 (qj T p 0)) (qj T p 1)) (qj T p 2)) (qj T p 3)) (qj T p 4)) (qj T p 5)) (qj T p 6)) (qj T p 7) := rfl
theorem wd_none {T : Int → Int} {p : Int} (h0 : qj T p 0 ≠ 4) (h1 : qj T p 1 ≠ 4) (h2 : qj T p 2 ≠ 4) (h3 : qj T p 3 ≠ 4) (h4 : qj T p 4 ≠ 4) (h5 : qj T p 5 ≠ 4) (h6 : qj T p 6 ≠ 3) (h7 : qj T p 7 ≠ 3) : wdr T p = -1 ∧ wdp T p = p + fw T p 8 := by
  rw [fw8]
  by_cases c0 : T p = 115
  · have hs := ws_0 (b := T (p + 1)) c0
    have e1 : qj T p 1 = 0 := wp4_0 (by omega)
    have e2 : qj T p 2 = 0 := wp4_0 (by omega)
    have e3 : qj T p 3 = 0 := wp4_0 (by omega)
    have e4 : qj T p 4 = 0 := wp4_0 (by omega)
    have e5 : qj T p 5 = 0 := wp4_0 (by omega)
    have e6 : qj T p 6 = 0 := wp3_0 (by omega)
    have e7 : qj T p 7 = 0 := wp3_0 (by omega)
    have g0 : 0 ≤ qj T p 0 := wp4_r
    have hf := wd_f hs (Or.inr h0)
    exact ⟨hf.1, by rw [hf.2]; omega⟩
  by_cases c1 : T p = 97
  · by_cases c5 : T (p + 1) = 115
    · have hs := ws_5 c1 c5
      have e0 : qj T p 0 = 0 := wp4_0 (by omega)
      have e2 : qj T p 2 = 0 := wp4_0 (by omega)
      have e3 : qj T p 3 = 0 := wp4_0 (by omega)
      have e4 : qj T p 4 = 0 := wp4_0 (by omega)
      have e6 : qj T p 6 = 0 := wp3_0 (by omega)
      have e7 : qj T p 7 = 0 := wp3_0 (by omega)
      have e1 : qj T p 1 = 1 := wp4_1 c1 (by omega)
      have g5 : 2 ≤ qj T p 5 := wp4_g2 c1 c5
      have hf := wd_f hs (Or.inr h5)
      exact ⟨hf.1, by rw [hf.2]; omega⟩
    · have hs := ws_1 c1 c5
      have e0 : qj T p 0 = 0 := wp4_0 (by omega)
      have e2 : qj T p 2 = 0 := wp4_0 (by omega)
      have e3 : qj T p 3 = 0 := wp4_0 (by omega)
      have e4 : qj T p 4 = 0 := wp4_0 (by omega)
      have e6 : qj T p 6 = 0 := wp3_0 (by omega)
      have e7 : qj T p 7 = 0 := wp3_0 (by omega)
      have e5 : qj T p 5 = 1 := wp4_1 c1 c5
      have g1 : 1 ≤ qj T p 1 := wp4_g c1
      have hf := wd_f hs (Or.inr h1)
      exact ⟨hf.1, by rw [hf.2]; omega⟩
  by_cases c2 : T p = 109
  · have hs := ws_2 (b := T (p + 1)) c2
    have e0 : qj T p 0 = 0 := wp4_0 (by omega)
    have e1 : qj T p 1 = 0 := wp4_0 (by omega)
    have e3 : qj T p 3 = 0 := wp4_0 (by omega)
    have e4 : qj T p 4 = 0 := wp4_0 (by omega)
    have e5 : qj T p 5 = 0 := wp4_0 (by omega)
    have e6 : qj T p 6 = 0 := wp3_0 (by omega)
    have e7 : qj T p 7 = 0 := wp3_0 (by omega)
    have g2 : 0 ≤ qj T p 2 := wp4_r
    have hf := wd_f hs (Or.inr h2)
    exact ⟨hf.1, by rw [hf.2]; omega⟩
  by_cases c3 : T p = 110
  · have hs := ws_3 (b := T (p + 1)) c3
    have e0 : qj T p 0 = 0 := wp4_0 (by omega)
    have e1 : qj T p 1 = 0 := wp4_0 (by omega)
    have e2 : qj T p 2 = 0 := wp4_0 (by omega)
    have e4 : qj T p 4 = 0 := wp4_0 (by omega)
    have e5 : qj T p 5 = 0 := wp4_0 (by omega)
    have e6 : qj T p 6 = 0 := wp3_0 (by omega)
    have e7 : qj T p 7 = 0 := wp3_0 (by omega)
    have g3 : 0 ≤ qj T p 3 := wp4_r
    have hf := wd_f hs (Or.inr h3)
    exact ⟨hf.1, by rw [hf.2]; omega⟩
  by_cases c4 : T p = 103
  · have hs := ws_4 (b := T (p + 1)) c4
    have e0 : qj T p 0 = 0 := wp4_0 (by omega)
    have e1 : qj T p 1 = 0 := wp4_0 (by omega)
    have e2 : qj T p 2 = 0 := wp4_0 (by omega)
    have e3 : qj T p 3 = 0 := wp4_0 (by omega)
    have e5 : qj T p 5 = 0 := wp4_0 (by omega)
    have e6 : qj T p 6 = 0 := wp3_0 (by omega)
    have e7 : qj T p 7 = 0 := wp3_0 (by omega)
    have g4 : 0 ≤ qj T p 4 := wp4_r
    have hf := wd_f hs (Or.inr h4)
    exact ⟨hf.1, by rw [hf.2]; omega⟩
  by_cases c6 : T p = 100
  · have hs := ws_6 (b := T (p + 1)) c6
    have e0 : qj T p 0 = 0 := wp4_0 (by omega)
    have e1 : qj T p 1 = 0 := wp4_0 (by omega)
    have e2 : qj T p 2 = 0 := wp4_0 (by omega)
    have e3 : qj T p 3 = 0 := wp4_0 (by omega)
    have e4 : qj T p 4 = 0 := wp4_0 (by omega)
    have e5 : qj T p 5 = 0 := wp4_0 (by omega)
    have e7 : qj T p 7 = 0 := wp3_0 (by omega)
    have g6 : 0 ≤ qj T p 6 := wp3_r
    have hf := wd_f hs (Or.inr h6)
    exact ⟨hf.1, by rw [hf.2]; omega⟩
  by_cases c7 : T p = 105
  · have hs := ws_7 (b := T (p + 1)) c7
    have e0 : qj T p 0 = 0 := wp4_0 (by omega)
    have e1 : qj T p 1 = 0 := wp4_0 (by omega)
    have e2 : qj T p 2 = 0 := wp4_0 (by omega)
    have e3 : qj T p 3 = 0 := wp4_0 (by omega)
    have e4 : qj T p 4 = 0 := wp4_0 (by omega)
    have e5 : qj T p 5 = 0 := wp4_0 (by omega)
    have e6 : qj T p 6 = 0 := wp3_0 (by omega)
    have g7 : 0 ≤ qj T p 7 := wp3_r
    have hf := wd_f hs (Or.inr h7)
    exact ⟨hf.1, by rw [hf.2]; omega⟩
  have hs := ws_8 (b := T (p + 1)) c0 c1 c2 c3 c4 c6 c7
  have e0 : qj T p 0 = 0 := wp4_0 (by omega)
  have e1 : qj T p 1 = 0 := wp4_0 (by omega)
  have e2 : qj T p 2 = 0 := wp4_0 (by omega)
  have e3 : qj T p 3 = 0 := wp4_0 (by omega)
  have e4 : qj T p 4 = 0 := wp4_0 (by omega)
  have e5 : qj T p 5 = 0 := wp4_0 (by omega)
  have e6 : qj T p 6 = 0 := wp3_0 (by omega)
  have e7 : qj T p 7 = 0 := wp3_0 (by omega)
  have e8 : qj T p 8 = 0 := rfl
  have hf := wd_f hs (Or.inl rfl)
  exact ⟨hf.1, by rw [hf.2]; omega⟩
def vlv (T : Int → Int) (p : Int) : Int := if T p = 120 then 1000 else if T p = 114 then 1001 else if 48 ≤ T p ∧ T p ≤ 57 then (if 48 ≤ T (p + 1) ∧ T (p + 1) ≤ 57 then (if 48 ≤ T (p + 2) ∧ T (p + 2) ≤ 57 then 100 * T p + 10 * T (p + 1) + T (p + 2) - 5328 else 10 * T p + T (p + 1) - 528) else T p - 48) else -1
def vlp (T : Int → Int) (p : Int) : Int := if T p = 120 then p + 1 else if T p = 114 then p + 1 else if 48 ≤ T p ∧ T p ≤ 57 then (if 48 ≤ T (p + 1) ∧ T (p + 1) ≤ 57 then (if 48 ≤ T (p + 2) ∧ T (p + 2) ≤ 57 then p + 3 else p + 2) else p + 1) else p
theorem vl_x {T : Int → Int} {p q : Int} (h : T p = 120) (e : q = p + 1) : vlv T p = 1000 ∧ vlp T p = q := by
  unfold vlv vlp
  constructor <;> (repeat' split) <;> omega
theorem vl_r {T : Int → Int} {p q : Int} (h : T p = 114) (e : q = p + 1) : vlv T p = 1001 ∧ vlp T p = q := by
  unfold vlv vlp
  constructor <;> (repeat' split) <;> omega
theorem vl_0 {T : Int → Int} {p q : Int} (hx : T p ≠ 120) (hr : T p ≠ 114) (h0 : T p < 48 ∨ 57 < T p) (e : q = p) : vlv T p = -1 ∧ vlp T p = q := by
  unfold vlv vlp
  constructor <;> (repeat' split) <;> omega
theorem vl_1 {T : Int → Int} {p q v : Int} (h0 : 48 ≤ T p ∧ T p ≤ 57) (e : q = p + 1) (h1 : T q < 48 ∨ 57 < T q) (ev : v = T p - 48) : vlv T p = v ∧ vlp T p = q := by
  subst e
  subst ev
  unfold vlv vlp
  constructor <;> (repeat' split) <;> omega
theorem vl_2 {T : Int → Int} {p q q2 v : Int} (h0 : 48 ≤ T p ∧ T p ≤ 57) (e : q = p + 1) (h1 : 48 ≤ T q ∧ T q ≤ 57) (e2 : q2 = q + 1) (h2 : T q2 < 48 ∨ 57 < T q2) (ev : v = 10 * T p + T q - 528) : vlv T p = v ∧ vlp T p = q2 := by
  subst e
  subst e2
  subst ev
  rw [show p + 1 + 1 = p + 2 by omega] at h2 ⊢
  unfold vlv vlp
  constructor <;> (repeat' split) <;> omega
theorem vl_3 {T : Int → Int} {p q q2 q3 v : Int} (h0 : 48 ≤ T p ∧ T p ≤ 57) (e : q = p + 1) (h1 : 48 ≤ T q ∧ T q ≤ 57) (e2 : q2 = q + 1) (h2 : 48 ≤ T q2 ∧ T q2 ≤ 57) (e3 : q3 = q2 + 1) (ev : v = 100 * T p + 10 * T q + T q2 - 5328) : vlv T p = v ∧ vlp T p = q3 := by
  subst e
  subst e2
  subst e3
  subst ev
  rw [show p + 1 + 1 = p + 2 by omega] at h2 ⊢
  rw [show p + 2 + 1 = p + 3 by omega]
  unfold vlv vlp
  constructor <;> (repeat' split) <;> omega
def acm (w : Int) : Int := if w = 5 then 5 else 3
theorem em_5 {w m : Int} (e : w = 5) (h : m = 5) : m = acm w := by
  unfold acm
  rw [if_pos e, h]
theorem em_3 {w m : Int} (e : w ≠ 5) (h : m = 3) : m = acm w := by
  unfold acm
  rw [if_neg e, h]
def ac (T : Int → Int) (p : Int) : Bool × Int := if wdr T p = -1 then (false, wdp T p) else if wdr T p = 6 then (decide (vlv T (wdp T p) ≠ -1), vlp T (wdp T p)) else if 48 ≤ T (wdp T p) ∧ T (wdp T p) ≤ 48 + acm (wdr T p) then (if wdr T p = 3 ∨ wdr T p = 4 then (true, wdp T p + 1) else if T (wdp T p + 1) = 32 then (decide (vlv T (wdp T p + 2) ≠ -1), vlp T (wdp T p + 2)) else (false, wdp T p + 1)) else (false, wdp T p)
theorem ac_n {T : Int → Int} {p q : Int} (h : wdr T p = -1) (e : q = wdp T p) : ac T p = (false, q) := by
  unfold ac
  rw [if_pos h, e]
theorem ac_6n {T : Int → Int} {p q q' : Int} (h : wdr T p = 6) (e : q = wdp T p) (hv : vlv T q = -1) (hp : vlp T q = q') : ac T p = (false, q') := by
  subst e
  unfold ac
  rw [if_neg (by omega), if_pos h, hp, hv]
  rfl
theorem ac_6s {T : Int → Int} {p q q' v : Int} (h : wdr T p = 6) (e : q = wdp T p) (hv : vlv T q = v) (h0 : 0 ≤ v) (hp : vlp T q = q') : ac T p = (true, q') := by
  subst e
  unfold ac
  rw [if_neg (by omega), if_pos h, hp, hv, decide_eq_true (by omega)]
theorem ac_d {T : Int → Int} {p q w m : Int} (h : wdr T p = w) (hn : w ≠ -1) (h6 : w ≠ 6) (e : q = wdp T p) (em : m = acm w) (hd : T q < 48 ∨ 48 + m < T q) : ac T p = (false, q) := by
  subst e
  subst em
  subst h
  unfold ac
  rw [if_neg hn, if_neg h6, if_neg (by omega)]
theorem ac_34 {T : Int → Int} {p q q2 w m : Int} (h : wdr T p = w) (hw : w = 3 ∨ w = 4) (e : q = wdp T p) (em : m = acm w) (hd : 48 ≤ T q ∧ T q ≤ 48 + m) (e2 : q2 = q + 1) : ac T p = (true, q2) := by
  subst e
  subst em
  subst h
  subst e2
  unfold ac
  rw [if_neg (by omega), if_neg (by omega), if_pos hd, if_pos hw]
theorem ac_s {T : Int → Int} {p q q2 w m : Int} (h : wdr T p = w) (hn : w ≠ -1) (h6 : w ≠ 6) (hw : ¬ (w = 3 ∨ w = 4)) (e : q = wdp T p) (em : m = acm w) (hd : 48 ≤ T q ∧ T q ≤ 48 + m) (e2 : q2 = q + 1) (hs : T q2 ≠ 32) : ac T p = (false, q2) := by
  subst e
  subst em
  subst h
  subst e2
  unfold ac
  rw [if_neg hn, if_neg h6, if_pos hd, if_neg hw, if_neg hs]
theorem ac_vn {T : Int → Int} {p q q2 q3 q' w m : Int} (h : wdr T p = w) (hn : w ≠ -1) (h6 : w ≠ 6) (hw : ¬ (w = 3 ∨ w = 4)) (e : q = wdp T p) (em : m = acm w) (hd : 48 ≤ T q ∧ T q ≤ 48 + m) (e2 : q2 = q + 1) (hs : T q2 = 32) (e3 : q3 = q2 + 1) (hv : vlv T q3 = -1) (hp : vlp T q3 = q') : ac T p = (false, q') := by
  subst e
  subst em
  subst h
  subst e2
  subst e3
  rw [show wdp T p + 1 + 1 = wdp T p + 2 by omega] at hv hp
  unfold ac
  rw [if_neg hn, if_neg h6, if_pos hd, if_neg hw, if_pos hs, hp, hv]
  rfl
theorem ac_vs {T : Int → Int} {p q q2 q3 q' w m v : Int} (h : wdr T p = w) (hn : w ≠ -1) (h6 : w ≠ 6) (hw : ¬ (w = 3 ∨ w = 4)) (e : q = wdp T p) (em : m = acm w) (hd : 48 ≤ T q ∧ T q ≤ 48 + m) (e2 : q2 = q + 1) (hs : T q2 = 32) (e3 : q3 = q2 + 1) (hv : vlv T q3 = v) (h0 : 0 ≤ v) (hp : vlp T q3 = q') : ac T p = (true, q') := by
  subst e
  subst em
  subst h
  subst e2
  subst e3
  rw [show wdp T p + 1 + 1 = wdp T p + 2 by omega] at hv hp
  unfold ac
  rw [if_neg hn, if_neg h6, if_pos hd, if_neg hw, if_pos hs, hp, hv, decide_eq_true (by omega)]
/-- the acts from p on, at most k of them: the place, whether it went well, how many came -/
def rde (T : Int → Int) : Nat → Int → Int → Int × Bool × Int
  | 0, p, n => (p, false, n)
  | k + 1, p, n => if (ac T p).1 = true then (if k = 0 ∨ T (ac T p).2 ≠ 59 then ((ac T p).2, true, n + 1) else rde T k ((ac T p).2 + 1) (n + 1)) else ((ac T p).2, false, n + 1)
theorem rd_k {i : Int} (h : 0 ≤ i ∧ i < 8) : (8 - i).toNat = (7 - i).toNat + 1 := by omega
theorem rd_f {T : Int → Int} {i p q n : Int} (hi : 0 ≤ i ∧ i < 8) (h : ac T p = (false, q)) : rde T (8 - i).toNat p n = (q, false, n + 1) := by
  rw [rd_k hi]
  show (if (ac T p).1 = true then _ else ((ac T p).2, false, n + 1)) = _
  rw [h, if_neg (fun x => Bool.noConfusion x)]
theorem rd_e {T : Int → Int} {i p q n : Int} (hi : 0 ≤ i ∧ i < 8) (h : ac T p = (true, q)) (h7 : i = 7 ∨ T q ≠ 59) : rde T (8 - i).toNat p n = (q, true, n + 1) := by
  rw [rd_k hi]
  show (if (ac T p).1 = true then (if (7 - i).toNat = 0 ∨ T (ac T p).2 ≠ 59 then ((ac T p).2, true, n + 1) else _) else _) = _
  rw [h, if_pos rfl, if_pos]
  exact h7.imp (fun q => by omega) (fun q => q)
theorem rd_s {T : Int → Int} {i j p q q2 n n2 : Int} (hi : 0 ≤ i ∧ i < 8) (h : ac T p = (true, q)) (h7 : i ≠ 7) (h9 : T q = 59) (e2 : q2 = q + 1) (ej : j = i + 1) (en : n2 = n + 1) : rde T (8 - i).toNat p n = rde T (8 - j).toNat q2 n2 := by
  subst e2
  subst ej
  subst en
  rw [rd_k hi]
  show (if (ac T p).1 = true then (if (7 - i).toNat = 0 ∨ T (ac T p).2 ≠ 59 then _ else rde T (7 - i).toNat ((ac T p).2 + 1) (n + 1)) else _) = _
  rw [h, if_pos rfl, if_neg, show (8 - (i + 1)).toNat = (7 - i).toNat by omega]
  intro x
  rcases x with x | x
  · omega
  · exact x h9
theorem rd_0 {T : Int → Int} {p : Int} : rde T 8 p 0 = rde T (8 - (0 : Int32).toInt).toNat p (0 : Int32).toInt := by
  rw [z0]
  rfl
theorem rd_00 {T : Int → Int} : rde T 8 (0 : Int32).toInt 0 = rde T 8 0 0 := by rw [z0]
theorem fw_st {T : Int → Int} {p f f' a : Int} {k : Nat} (h : f = fw T p k) (hq : qj T p k = a) (hz : f' = max f a) : f' = fw T p (k + 1) := by
  rw [hz, h, ← hq]
  rfl
def pgk (T : Int → Int) (z : Int) : Bool := (rde T 8 0 0).2.1 && decide ((rde T 8 0 0).1 = z)
def pgf (T : Int → Int) : Int := (rde T 8 0 0).1
def pgn (T : Int → Int) : Int := (rde T 8 0 0).2.2
theorem pg_f {T : Int → Int} {q n : Int} (h : rde T 8 0 0 = (q, false, n)) (z : Int) : pgk T z = false ∧ pgf T = q ∧ pgn T = n := by
  unfold pgk pgf pgn
  rw [h]
  exact ⟨rfl, rfl, rfl⟩
theorem pg_t {T : Int → Int} {q n z : Int} (h : rde T 8 0 0 = (q, true, n)) (e : q = z) : pgk T z = true ∧ pgf T = q ∧ pgn T = n := by
  unfold pgk pgf pgn
  rw [h]
  exact ⟨(Bool.true_and _).trans (decide_eq_true e), rfl, rfl⟩
theorem pg_n {T : Int → Int} {q n z : Int} (h : rde T 8 0 0 = (q, true, n)) (e : q ≠ z) : pgk T z = false ∧ pgf T = q ∧ pgn T = n := by
  unfold pgk pgf pgn
  rw [h]
  exact ⟨(Bool.true_and _).trans (decide_eq_false e), rfl, rfl⟩
theorem Sm.cf {md : Nat → Nat → Bool} {g g' : GS} {a r : Nat} (h : Sm md g g') (hr : g.1 a = r) (h0 : r ≠ 0) (hm : md r 99 = false) : g'.2.2.2.1 a = g.2.2.2.1 a := (h.2 a (by rw [hr]; exact h0) (by rw [hr]; exact hm)).1
theorem sC_f {g : GS} {x a j : Nat} {v : Int32} {ct : Nat → Int32} (h : g.2.2.2.1 x = ct) (n : x ≠ a) : (sC g a j v).2.2.2.1 x = ct := funext fun i => by
  show (if x = a ∧ i = j then v else g.2.2.2.1 x i) = ct i
  rw [if_neg (fun q => n q.1), h]
theorem i_nt {x y : Int32} (h : x.toInt = y.toInt) : x.toNatClampNeg = y.toNatClampNeg := congrArg Int.toNat h
theorem i_inj {x y : Int32} (h : x.toInt = y.toInt) : x = y := Int32.toInt_inj.mp h
/-! the bytes that feed writes -/
def bC (w : Int64) (y : Int32) : Int32 := ((w.toUInt64 >>> (y.toInt64.toUInt64 &&& Int64.toUInt64 63)).toInt64 &&& 255).toInt32
def bM (w : Int64) (y : Int32) : Int32 := ((w >>> (y.toInt64 &&& 63)) &&& 255).toInt32
theorem b_bv (w : BitVec 64) (k : Nat) (hk : k ≤ 56) : (w >>> k) &&& 255#64 = (w.sshiftRight k) &&& 255#64 := by
  apply BitVec.eq_of_getLsbD_eq
  intro i hi
  rw [BitVec.getLsbD_and, BitVec.getLsbD_and, BitVec.getLsbD_ushiftRight, BitVec.getLsbD_sshiftRight]
  by_cases h8 : i < 8
  · rw [if_pos (by omega : k + i < 64), decide_eq_false (by omega : ¬ 64 ≤ i)]
    rfl
  · have h : (255#64).getLsbD i = false := by
      rw [BitVec.getLsbD_ofNat, Nat.testBit_lt_two_pow (Nat.lt_of_lt_of_le (by decide : 255 < 2 ^ 8) (Nat.pow_le_pow_right (by decide) (by omega)))]
      exact Bool.and_false _
    rw [h, Bool.and_false, Bool.and_false]
theorem b_eq8 (w : Int64) (y : Int32) (k : Nat) (u : UInt64) (v : Int64) (hk : k ≤ 56) (hu : (y.toInt64.toUInt64 &&& Int64.toUInt64 63) = u) (hv : (y.toInt64 &&& 63) = v) (hu' : (u.toBitVec % 64#64).toNat = k) (hv' : (v.toBitVec.smod 64#64).toNat = k) : bM w y = bC w y := by
  unfold bM bC
  rw [hu, hv]
  refine congrArg Int64.toInt32 (Int64.toBitVec_inj.mp ?_)
  show (w.toBitVec.sshiftRight (v.toBitVec.smod 64#64).toNat) &&& 255#64 = (w.toBitVec >>> (u.toBitVec % 64#64).toNat) &&& 255#64
  rw [hu', hv']
  exact (b_bv _ _ hk).symm
theorem b_eq {w : Int64} {y : Int32} {i : Int} (h0 : 0 ≤ i) (h7 : i ≤ 7) (hy : y.toInt = 8 * i) : bM w y = bC w y := by
  rcases (show i = 0 ∨ i = 1 ∨ i = 2 ∨ i = 3 ∨ i = 4 ∨ i = 5 ∨ i = 6 ∨ i = 7 by omega) with rfl | rfl | rfl | rfl | rfl | rfl | rfl | rfl
  · have e : y = 0 := i_inj (hy.trans (by decide))
    subst e
    exact b_eq8 w 0 0 0 0 (by decide) (by decide +kernel) (by decide +kernel) (by decide +kernel) (by decide +kernel)
  · have e : y = 8 := i_inj (hy.trans (by decide))
    subst e
    exact b_eq8 w 8 8 8 8 (by decide) (by decide +kernel) (by decide +kernel) (by decide +kernel) (by decide +kernel)
  · have e : y = 16 := i_inj (hy.trans (by decide))
    subst e
    exact b_eq8 w 16 16 16 16 (by decide) (by decide +kernel) (by decide +kernel) (by decide +kernel) (by decide +kernel)
  · have e : y = 24 := i_inj (hy.trans (by decide))
    subst e
    exact b_eq8 w 24 24 24 24 (by decide) (by decide +kernel) (by decide +kernel) (by decide +kernel) (by decide +kernel)
  · have e : y = 32 := i_inj (hy.trans (by decide))
    subst e
    exact b_eq8 w 32 32 32 32 (by decide) (by decide +kernel) (by decide +kernel) (by decide +kernel) (by decide +kernel)
  · have e : y = 40 := i_inj (hy.trans (by decide))
    subst e
    exact b_eq8 w 40 40 40 40 (by decide) (by decide +kernel) (by decide +kernel) (by decide +kernel) (by decide +kernel)
  · have e : y = 48 := i_inj (hy.trans (by decide))
    subst e
    exact b_eq8 w 48 48 48 48 (by decide) (by decide +kernel) (by decide +kernel) (by decide +kernel) (by decide +kernel)
  · have e : y = 56 := i_inj (hy.trans (by decide))
    subst e
    exact b_eq8 w 56 56 56 56 (by decide) (by decide +kernel) (by decide +kernel) (by decide +kernel) (by decide +kernel)
theorem b_rng (w : Int64) (y : Int32) : 0 ≤ (bC w y).toInt ∧ (bC w y).toInt ≤ 255 := by
  unfold bC
  generalize (w.toUInt64 >>> (y.toInt64.toUInt64 &&& Int64.toUInt64 63)).toInt64 = x
  have h : (x &&& 255).toInt32.toBitVec = (x.toBitVec &&& 255#64).setWidth 32 := BitVec.signExtend_eq_setWidth_of_le _ (by decide)
  have h2 : (x &&& 255).toInt32.toBitVec.toNat ≤ 255 := by
    rw [h, BitVec.toNat_setWidth]
    refine Nat.le_trans (Nat.mod_le _ _) ?_
    rw [BitVec.toNat_and]
    exact Nat.and_le_right
  show 0 ≤ (x &&& 255).toInt32.toBitVec.toInt ∧ (x &&& 255).toInt32.toBitVec.toInt ≤ 255
  rw [BitVec.toInt_eq_toNat_of_lt (by omega)]
  omega
def bt (w : Int64) (i : Int) : Int32 := bC w (Int32.ofInt (8 * i))
theorem bt_c {w : Int64} {y : Int32} {i : Int} (hy : y.toInt = 8 * i) : bC w y = bt w i := by
  unfold bt
  rw [← hy, Int32.ofInt_toInt]
/-- feed's writing: k bytes of n are behind the first z -/
def FD (g : GS) (a : Nat) (c0 : Nat → Int32) (w : Int64) (z n k : Int) : Prop := ∀ j : Nat, g.2.2.2.1 a j = if z ≤ j ∧ (j : Int) < z + k then bt w (n - 1 - (j - z)) else c0 j
theorem FD.zero {g : GS} {a : Nat} {c0 : Nat → Int32} {w : Int64} {z n k : Int} (e : g.2.2.2.1 a = c0) (hk : k ≤ 0) : FD g a c0 w z n k := fun j => by
  rw [if_neg (by omega), e]
theorem FD.st {g : GS} {a j : Nat} {c0 : Nat → Int32} {w : Int64} {z n k k' : Int} {v : Int32} (h : FD g a c0 w z n k) (hk : 0 ≤ k) (ej : (j : Int) = z + k) (ev : v = bt w (n - 1 - k)) (ek : k' = k + 1) : FD (sC g a j v) a c0 w z n k' := fun x => by
  subst ek
  show (if a = a ∧ x = j then v else g.2.2.2.1 a x) = _
  by_cases hx : x = j
  · rw [if_pos ⟨rfl, hx⟩, if_pos (by omega), ev]
    congr 1
    omega
  · rw [if_neg (fun q => hx q.2), h x]
    by_cases hq : z ≤ x ∧ (x : Int) < z + k
    · rw [if_pos hq, if_pos (by omega)]
    · rw [if_neg hq, if_neg (by omega)]
theorem FD.tC {g : GS} {a b j : Nat} {c0 : Nat → Int32} {w : Int64} {z n k : Int} {v : Int32} (h : FD g a c0 w z n k) (ne : a ≠ b) : FD (sC g b j v) a c0 w z n k := fun x => by
  show (if a = b ∧ x = j then v else g.2.2.2.1 a x) = _
  rw [if_neg (fun q => ne q.1)]
  exact h x
theorem FD.sm {md : Nat → Nat → Bool} {g g' : GS} {a r : Nat} {c0 : Nat → Int32} {w : Int64} {z n k : Int} (h : FD g a c0 w z n k) (m : Sm md g g') (e1 : g.1 a = r) (z1 : r ≠ 0) (q1 : md r 99 = false) : FD g' a c0 w z n k := fun x => by
  rw [(m.2 a (by rw [e1]; exact z1) (by rw [e1]; exact q1)).1]
  exact h x
theorem FD.cast {g : GS} {a : Nat} {c0 : Nat → Int32} {w : Int64} {z n k k' : Int} (h : FD g a c0 w z n k) (e : k' = k) : FD g a c0 w z n k' := by rw [e]; exact h
def fdR (n z : Int) : Int := if 1 ≤ n ∧ n ≤ 8 then (if z + n ≤ 100 then z + n else -4) else -2
def fdK (n z : Int) : Int := if 1 ≤ n ∧ n ≤ 8 then (if z + n ≤ 100 then n else 0) else 0
/-- the tapes are the same -/
def TE (g : GS) (ba ta : Nat) (z : Int) : Prop := ∀ i : Nat, (i : Int) < z → g.2.2.2.1 ba i = g.2.2.2.1 ta i
theorem TE.sm {md : Nat → Nat → Bool} {g g' : GS} {na pa r1 r2 : Nat} {z : Int} (h : TE g na pa z) (m : Sm md g g') (e1 : g.1 na = r1) (z1 : r1 ≠ 0) (q1 : md r1 99 = false) (e2 : g.1 pa = r2) (z2 : r2 ≠ 0) (q2 : md r2 99 = false) : TE g' na pa z := fun i hi => by
  rw [(m.2 na (by rw [e1]; exact z1) (by rw [e1]; exact q1)).1, (m.2 pa (by rw [e2]; exact z2) (by rw [e2]; exact q2)).1]
  exact h i hi
theorem TE.cast {g : GS} {na pa : Nat} {z z' : Int} (h : TE g na pa z) (e : z' ≤ z) : TE g na pa z' := fun i hi => h i (by omega)
theorem TE.fd {g : GS} {ba ta : Nat} {c c' : Nat → Int32} {w : Int64} {z n k z' : Int} (h : ∀ i : Nat, (i : Int) < z → c i = c' i) (f : FD g ba c w z n k) (f' : FD g ta c' w z n k) (e : z' = z + k) : TE g ba ta z' := fun i hi => by
  rw [f i, f' i]
  by_cases hq : z ≤ i ∧ (i : Int) < z + k
  · rw [if_pos hq, if_pos hq]
  · rw [if_neg hq, if_neg hq, h i (by omega)]
/-! what the calls answer, by what is kept -/
def svR (T : Int → Int) (z s : Int) : Int := if s ≤ 5 then (if pgk T z = true then s else -10 - pgf T) else -4
def svS (T : Int → Int) (z s : Int) : Int := if s ≤ 5 then (if pgk T z = true then s + 1 else s) else s
def svZ (z s : Int) : Int := if s ≤ 5 then 0 else z
def chR (T : Int → Int) (z s n : Int) : Int := if 0 ≤ n ∧ n < s then (if pgk T z = true then pgn T else -10 - pgf T) else -1
def chZ (z s n : Int) : Int := if 0 ≤ n ∧ n < s then 0 else z
def roR (s q n k j : Int) : Int := if 0 ≤ n ∧ n < s then (if (0 ≤ k ∧ k ≤ 999) ∧ 0 ≤ j ∧ j ≤ 99 then (if q ≤ 5 then q + 1 else -4) else -2) else -1
def roQ (s q n k j : Int) : Int := if 0 ≤ n ∧ n < s then (if (0 ≤ k ∧ k ≤ 999) ∧ 0 ≤ j ∧ j ≤ 99 then (if q ≤ 5 then q + 1 else q) else q) else q
def caL (s q n k j x : Int) : Int := if 0 ≤ n ∧ n < s then (if (0 ≤ k ∧ k ≤ 999) ∧ (0 ≤ j ∧ j ≤ 99) ∧ 0 ≤ x ∧ x ≤ 99 then (if q ≤ 19 then q + 1 else q) else q) else q
theorem k_true {T : Int → Int} {z : Int} {a b : Int} (h : pgk T z = true) : (if pgk T z = true then a else b) = a := if_pos h
theorem k_false {T : Int → Int} {z : Int} {a b : Int} (h : pgk T z = false) : (if pgk T z = true then a else b) = b := if_neg (by rw [h]; decide)
/-! a row's first elements -/
def EA (g : GS) (a : Nat) (c0 : Nat → Int32) (n : Int) : Prop := ∀ i : Nat, (i : Int) < n → g.2.2.2.1 a i = c0 i
theorem EA.tC {g : GS} {a b' i' : Nat} {c0 : Nat → Int32} {n : Int} {w : Int32} (h : EA g a c0 n) (ne : a ≠ b') : EA (sC g b' i' w) a c0 n := fun i hi => by
  show (if a = b' ∧ i = i' then w else g.2.2.2.1 a i) = _
  rw [if_neg (fun q => ne q.1)]
  exact h i hi
theorem EA.sm {md : Nat → Nat → Bool} {g g' : GS} {a r : Nat} {c0 : Nat → Int32} {n : Int} (h : EA g a c0 n) (m : Sm md g g') (e1 : g.1 a = r) (z1 : r ≠ 0) (q1 : md r 99 = false) : EA g' a c0 n := fun i hi => by
  rw [(m.2 a (by rw [e1]; exact z1) (by rw [e1]; exact q1)).1]
  exact h i hi
theorem EA.cast {g : GS} {a : Nat} {c0 : Nat → Int32} {n n' : Int} (h : EA g a c0 n) (e : n' ≤ n) : EA g a c0 n' := fun i hi => h i (by omega)
theorem EA.st {g : GS} {a : Nat} {c0 : Nat → Int32} {n : Int} {x v : Int32} (h : EA g a c0 n) (h0 : 0 ≤ x.toInt) (ex : x.toInt = n) (ev : v = c0 x.toNatClampNeg) : EA (sC g a x.toNatClampNeg v) a c0 (n + 1) := fun i hi => by
  have e0 : (x.toNatClampNeg : Int) = x.toInt := Int.toNat_of_nonneg h0
  show (if a = a ∧ i = x.toNatClampNeg then v else g.2.2.2.1 a i) = _
  by_cases hx : i = x.toNatClampNeg
  · rw [if_pos ⟨rfl, hx⟩, ev, hx]
  · rw [if_neg (fun q => hx q.2)]
    exact h i (by omega)
def UP (g : GS) (a : Nat) (c0 : Nat → Int32) (b : Bool) (j : Nat) (v : Int32) : Prop := ∀ i, g.2.2.2.1 a i = if b = true ∧ i = j then v else c0 i
theorem UP.zero {g : GS} {a j : Nat} {c0 : Nat → Int32} {v : Int32} (e : g.2.2.2.1 a = c0) : UP g a c0 false j v := fun i => by
  rw [if_neg (fun q => Bool.noConfusion q.1), e]
theorem UP.st {g : GS} {a j j' : Nat} {c0 : Nat → Int32} {v : Int32} (h : UP g a c0 false j v) (ej : j' = j) : UP (sC g a j' v) a c0 true j v := fun x => by
  subst ej
  show (if a = a ∧ x = j' then v else g.2.2.2.1 a x) = _
  by_cases hx : x = j'
  · rw [if_pos ⟨rfl, hx⟩, if_pos ⟨rfl, hx⟩]
  · rw [if_neg (fun q => hx q.2), h x, if_neg (fun q => Bool.noConfusion q.1), if_neg (fun q => hx q.2)]
theorem UP.tC {g : GS} {a b' i' j : Nat} {c0 : Nat → Int32} {b : Bool} {v w : Int32} (h : UP g a c0 b j v) (n : a ≠ b') : UP (sC g b' i' w) a c0 b j v := fun i => by
  show (if a = b' ∧ i = i' then w else g.2.2.2.1 a i) = _
  rw [if_neg (fun q => n q.1)]
  exact h i
theorem UP.sm {md : Nat → Nat → Bool} {g g' : GS} {a j r : Nat} {c0 : Nat → Int32} {b : Bool} {v : Int32} (h : UP g a c0 b j v) (m : Sm md g g') (e1 : g.1 a = r) (z1 : r ≠ 0) (q1 : md r 99 = false) : UP g' a c0 b j v := fun i => by
  rw [(m.2 a (by rw [e1]; exact z1) (by rw [e1]; exact q1)).1]
  exact h i
theorem UP.tr {g g' : GS} {a j : Nat} {c : Nat → Int32} {b : Bool} {v v0 : Int32} (h : UP g a c false j v0) (h' : UP g' a (g.2.2.2.1 a) b j v) : UP g' a c b j v := fun i => by
  have e := h i
  rw [if_neg (fun q => Bool.noConfusion q.1)] at e
  rw [h' i, e]
theorem UP.val {g : GS} {a j : Nat} {c : Nat → Int32} {v v' : Int32} (h : UP g a c false j v) : UP g a c false j v' := fun i => by
  rw [h i, if_neg (fun q => Bool.noConfusion q.1), if_neg (fun q => Bool.noConfusion q.1)]
/-! holds, mends: a field of the services of now beside a row of the model -/
def HO (k : Nat) (d : Int32) (g : GS) (sa ha : Nat) (sv : Int) : Prop := (∀ i : Nat, i < 6 → ∃ (q : Nat) (x : Int32), g.2.2.2.2 sa i = some q ∧ g.1 q = 10 ∧ g.2.1 q k = .int x ∧ ((i : Int) < sv → g.2.2.2.1 ha i = x) ∧ (sv ≤ i → x = d)) ∧ (∀ i j q : Nat, i < 6 → j < 6 → g.2.2.2.2 sa i = some q → g.2.2.2.2 sa j = some q → i = j)
theorem HO.go {k : Nat} {d : Int32} {g g' : GS} {sa ha : Nat} {sv : Int} (h : HO k d g sa ha sv) (x : Ex g g') (s : g'.2.2.2.2 sa = g.2.2.2.2 sa) (f : ∀ q, g.1 q = 10 → g'.2.1 q k = g.2.1 q k) (c : ∀ i : Nat, i < 6 → g'.2.2.2.1 ha i = g.2.2.2.1 ha i) : HO k d g' sa ha sv := by
  refine ⟨fun i hi => ?_, fun i j q hi hj h1 h2 => h.2 i j q hi hj (by rw [← s]; exact h1) (by rw [← s]; exact h2)⟩
  obtain ⟨q, y, e1, e2, e3, e4, e5⟩ := h.1 i hi
  exact ⟨q, y, by rw [s]; exact e1, x.r e2 (by decide), (f q e2).trans e3, fun hs => (c i hi).trans (e4 hs), e5⟩
theorem HO.mono {k rm : Nat} {d : Int32} {md : Nat → Nat → Bool} {g g' : GS} {sa ha : Nat} {sv : Int} (h : HO k d g sa ha sv) (m : Sm md g g') (x : Ex g g') (rs : g.1 sa = 42) (rh : g.1 ha = rm) (z : rm ≠ 0) (q1 : md 42 99 = false) (q2 : md rm 99 = false) (q3 : md 10 k = false) : HO k d g' sa ha sv :=
  h.go x (m.2 sa (by rw [rs]; decide) (by rw [rs]; exact q1)).2 (fun q hq => m.1 q k (by rw [hq]; decide) (by rw [hq]; exact q3)) (fun i _ => congrFun (m.2 ha (by rw [rh]; exact z) (by rw [rh]; exact q2)).1 i)
/-- a service's field is changed, or not -/
def HC (k : Nat) (g g' : GS) (sa n : Nat) (ok : Bool) (r rb : Int32) (f a : Int32 → Int32) : Prop := (ok = false ∧ r = rb ∧ ∀ q, g'.2.1 q k = g.2.1 q k) ∨ (ok = true ∧ ∃ (q : Nat) (x : Int32), g.2.2.2.2 sa n = some q ∧ g.2.1 q k = .int x ∧ r = a x ∧ g'.2.1 q k = .int (f x) ∧ ∀ q', q' ≠ q → g'.2.1 q' k = g.2.1 q' k)
theorem HO.step {k n : Nat} {d : Int32} {g g2 g3 : GS} {sa ha : Nat} {sv : Int} {ok : Bool} {r r' rb : Int32} {f a : Int32 → Int32} (h : HO k d g sa ha sv) (hn : ok = true → n < 6 ∧ (n : Int) < sv) (hc : HC k g g2 sa n ok r rb f a) (x12 : Ex g g2) (s12 : g2.2.2.2.2 sa = g.2.2.2.2 sa) (c12 : g2.2.2.2.1 ha = g.2.2.2.1 ha) (x23 : Ex g2 g3) (s23 : g3.2.2.2.2 sa = g2.2.2.2.2 sa) (f23 : ∀ q, g2.1 q = 10 → g3.2.1 q k = g2.2.1 q k) (hm : UP g3 ha (g2.2.2.2.1 ha) ok n (f (g2.2.2.2.1 ha n))) (hr : r' = if ok = true then a (g2.2.2.2.1 ha n) else rb) : r = r' ∧ HO k d g3 sa ha sv := by
  rcases hc with ⟨o1, o2, o3⟩ | ⟨o1, q, x, e1, e2, e3, e4, e5⟩
  · subst o1
    rw [if_neg (fun q => Bool.noConfusion q)] at hr
    refine ⟨o2.trans hr.symm, h.go (x12.tr x23) (s23.trans s12) (fun q hq => (f23 q (x12.r hq (by decide))).trans (o3 q)) (fun i _ => ?_)⟩
    rw [hm i, if_neg (fun q => Bool.noConfusion q.1), c12]
  · subst o1
    obtain ⟨h6, hs⟩ := hn rfl
    obtain ⟨q', x', d1, d2, d3, d4, d5⟩ := h.1 n h6
    have eq : q' = q := Option.some.inj (d1.symm.trans e1)
    subst eq
    have ex : x' = x := Value.int.inj (d3.symm.trans e2)
    subst ex
    have cn : g2.2.2.2.1 ha n = x' := by rw [c12]; exact d4 hs
    rw [if_pos rfl, cn] at hr
    rw [cn] at hm
    refine ⟨e3.trans hr.symm, fun i hi => ?_, fun i j q hi hj h1 h2 => h.2 i j q hi hj (by rw [← s12, ← s23]; exact h1) (by rw [← s12, ← s23]; exact h2)⟩
    obtain ⟨qi, xi, i1, i2, i3, i4, i5⟩ := h.1 i hi
    by_cases hin : i = n
    · subst hin
      have eq2 : qi = q' := Option.some.inj (i1.symm.trans d1)
      subst eq2
      refine ⟨qi, f x', by rw [s23, s12]; exact i1, (x12.tr x23).r i2 (by decide), (f23 qi (x12.r i2 (by decide))).trans e4, fun _ => ?_, fun hx => absurd hx (by omega)⟩
      rw [hm i, if_pos ⟨rfl, rfl⟩]
    · have hq : qi ≠ q' := fun e => hin (h.2 i n qi hi h6 i1 (by rw [e]; exact d1))
      refine ⟨qi, xi, by rw [s23, s12]; exact i1, (x12.tr x23).r i2 (by decide), ((f23 qi (x12.r i2 (by decide))).trans (e5 qi hq)).trans i3, fun hx => ?_, i5⟩
      rw [hm i, if_neg (fun q => hin q.2), c12]
      exact i4 hx
theorem HO.svc {k n : Nat} {d : Int32} {g g' : GS} {sa ha : Nat} {sv sv' : Int} {b : Bool} (h : HO k d g sa ha sv) (x : Ex g g') (s : g'.2.2.2.2 sa = g.2.2.2.2 sa) (f : ∀ q, g.1 q = 10 → g'.2.1 q k = g.2.1 q k) (hm : UP g' ha (g.2.2.2.1 ha) b n d) (hn : (n : Int) = sv) (hs : sv' = if b = true then sv + 1 else sv) : HO k d g' sa ha sv' := by
  refine ⟨fun i hi => ?_, fun i j q hi hj h1 h2 => h.2 i j q hi hj (by rw [← s]; exact h1) (by rw [← s]; exact h2)⟩
  obtain ⟨q, y, e1, e2, e3, e4, e5⟩ := h.1 i hi
  refine ⟨q, y, by rw [s]; exact e1, x.r e2 (by decide), (f q e2).trans e3, fun hx => ?_, fun hx => e5 ?_⟩
  · rw [hm i]
    by_cases hb : b = true ∧ i = n
    · rw [if_pos hb]
      exact (e5 (by omega)).symm
    · rw [if_neg hb]
      refine e4 ?_
      by_cases hb1 : b = true
      · rw [if_pos hb1] at hs
        have : i ≠ n := fun q => hb ⟨hb1, q⟩
        omega
      · rw [if_neg hb1] at hs
        omega
  · by_cases hb1 : b = true
    · rw [if_pos hb1] at hs
      omega
    · rw [if_neg hb1] at hs
      omega
theorem six_inj {f : Nat → Option Nat} {q0 q1 q2 q3 q4 q5 : Nat} (e0 : f 0 = some q0) (e1 : f 1 = some q1) (e2 : f 2 = some q2) (e3 : f 3 = some q3) (e4 : f 4 = some q4) (e5 : f 5 = some q5) (d01 : q0 ≠ q1) (d02 : q0 ≠ q2) (d03 : q0 ≠ q3) (d04 : q0 ≠ q4) (d05 : q0 ≠ q5) (d12 : q1 ≠ q2) (d13 : q1 ≠ q3) (d14 : q1 ≠ q4) (d15 : q1 ≠ q5) (d23 : q2 ≠ q3) (d24 : q2 ≠ q4) (d25 : q2 ≠ q5) (d34 : q3 ≠ q4) (d35 : q3 ≠ q5) (d45 : q4 ≠ q5) : ∀ i j q : Nat, i < 6 → j < 6 → f i = some q → f j = some q → i = j := by
  intro i j q hi hj h1 h2
  have a1 : i = 0 ∨ i = 1 ∨ i = 2 ∨ i = 3 ∨ i = 4 ∨ i = 5 := by omega
  have a2 : j = 0 ∨ j = 1 ∨ j = 2 ∨ j = 3 ∨ j = 4 ∨ j = 5 := by omega
  rcases a1 with rfl | rfl | rfl | rfl | rfl | rfl <;> rcases a2 with rfl | rfl | rfl | rfl | rfl | rfl <;> first | rfl | (exfalso; simp only [e0, e1, e2, e3, e4, e5, Option.some.injEq] at h1 h2; omega)
def HS (g : GS) (h : Nat) : Prop := ∃ sa : Nat, g.2.1 h 0 = .ref sa ∧ g.1 sa = 42 ∧ g.2.2.1 sa = 6 ∧ (∀ i : Nat, i < 6 → ∃ q : Nat, g.2.2.2.2 sa i = some q ∧ g.1 q = 10 ∧ g.2.1 q 3 = .int 0 ∧ g.2.1 q 4 = .int 10) ∧ (∀ i j q : Nat, i < 6 → j < 6 → g.2.2.2.2 sa i = some q → g.2.2.2.2 sa j = some q → i = j)
theorem HS.mono {md : Nat → Nat → Bool} {g g' : GS} {h : Nat} (w : HS g h) (m : Sm md g g') (x : Ex g g') (rh : g.1 h = 19) (q1 : md 19 0 = false) (q2 : md 42 99 = false) (q3 : md 10 3 = false) (q4 : md 10 4 = false) : HS g' h := by
  obtain ⟨sa, e1, e2, e3, e4, e5⟩ := w
  have s := (m.2 sa (by rw [e2]; decide) (by rw [e2]; exact q2)).2
  refine ⟨sa, m.v rh (by decide) q1 e1, x.r e2 (by decide), x.n e2 (by decide) e3, fun i hi => ?_, fun i j q hi hj h1 h2 => e5 i j q hi hj (by rw [← s]; exact h1) (by rw [← s]; exact h2)⟩
  obtain ⟨q, d1, d2, d3, d4⟩ := e4 i hi
  exact ⟨q, by rw [s]; exact d1, x.r d2 (by decide), m.v d2 (by decide) q3 d3, m.v d2 (by decide) q4 d4⟩
theorem HS.monx {md : Nat → Nat → Bool} {g g' : GS} {h a r : Nat} (w : HS g h) (m : Sm md g g') (x : Exx a g g') (ra : g.1 a = r) (hr : 10 ≠ r ∧ 42 ≠ r ∧ 19 ≠ r) (rh : g.1 h = 19) (q1 : md 19 0 = false) (q2 : md 42 99 = false) (q3 : md 10 3 = false) (q4 : md 10 4 = false) : HS g' h := by
  obtain ⟨sa, e1, e2, e3, e4, e5⟩ := w
  have s := (m.2 sa (by rw [e2]; decide) (by rw [e2]; exact q2)).2
  have xs := x sa (ro_ne e2 ra hr.2.1) (by rw [e2]; decide)
  refine ⟨sa, m.v rh (by decide) q1 e1, xs.1.trans e2, xs.2.trans e3, fun i hi => ?_, fun i j q hi hj h1 h2 => e5 i j q hi hj (by rw [← s]; exact h1) (by rw [← s]; exact h2)⟩
  obtain ⟨q, d1, d2, d3, d4⟩ := e4 i hi
  exact ⟨q, by rw [s]; exact d1, (x q (ro_ne d2 ra hr.1) (by rw [d2]; decide)).1.trans d2, m.v d2 (by decide) q3 d3, m.v d2 (by decide) q4 d4⟩
theorem HS.pr {g : GS} {h a : Nat} (w : HS g h) (ra : g.1 a = 17) : HS (sR g a 7) h := by
  obtain ⟨sa, e1, e2, e3, e4, e5⟩ := w
  refine ⟨sa, e1, sR_r e2 (ro_ne e2 ra (by decide)), e3, fun i hi => ?_, e5⟩
  obtain ⟨q, d1, d2, d3, d4⟩ := e4 i hi
  exact ⟨q, d1, sR_r d2 (ro_ne d2 ra (by decide)), d3, d4⟩
def HX (g : GS) (h : Nat) : Prop := ∃ nw : Nat, g.2.1 h 1 = .ref nw ∧ HS g nw
def hoB (s n t : Int) : Bool := decide ((0 ≤ n ∧ n < s) ∧ 0 ≤ t ∧ t ≤ 99)
def hoE (s n : Int) : Int32 := if 0 ≤ n ∧ n < s then -2 else -1
theorem hoB_f {s n t : Int} (h : ¬ ((0 ≤ n ∧ n < s) ∧ 0 ≤ t ∧ t ≤ 99)) : hoB s n t = false := decide_eq_false h
theorem hoB_t {s n t : Int} (h : (0 ≤ n ∧ n < s) ∧ 0 ≤ t ∧ t ≤ 99) : hoB s n t = true := decide_eq_true h
theorem hoE_1 {s n : Int} (h : ¬ (0 ≤ n ∧ n < s)) : (-1 : Int32) = hoE s n := by
  unfold hoE
  rw [if_neg h]
theorem hoE_2 {s n : Int} (h : 0 ≤ n ∧ n < s) : (-2 : Int32) = hoE s n := by
  unfold hoE
  rw [if_pos h]
theorem bb_f {b : Bool} {x y z : Int32} (h : b = false) (e : z = y) : z = if b = true then x else y := by
  rw [if_neg (by rw [h]; exact fun q => Bool.noConfusion q)]
  exact e
theorem bb_t {b : Bool} {x y z : Int32} (h : b = true) (e : z = x) : z = if b = true then x else y := by
  rw [if_pos h]
  exact e
theorem hoB_n {s n t : Int} {x : Int32} (hx : x.toInt = n) (h : hoB s n t = true) (hs : s ≤ 6) : x.toNatClampNeg < 6 ∧ ((x.toNatClampNeg : Nat) : Int) < s := by
  have := of_decide_eq_true h
  have e0 : (x.toNatClampNeg : Int) = x.toInt := Int.toNat_of_nonneg (by omega)
  omega
def svb (T : Int → Int) (z s : Int) : Bool := decide (s ≤ 5) && pgk T z
theorem svb_0 {T : Int → Int} {z s : Int} (h : 5 < s) : svb T z s = false := by
  unfold svb
  rw [decide_eq_false (by omega)]
  rfl
theorem svb_k {T : Int → Int} {z s : Int} {b : Bool} (h : s ≤ 5) (hk : pgk T z = b) : svb T z s = b := by
  unfold svb
  rw [decide_eq_true h, hk]
  exact Bool.true_and _
theorem svb_s {T : Int → Int} {z s : Int} : svS T z s = if svb T z s = true then s + 1 else s := by
  unfold svS svb
  by_cases h : s ≤ 5
  · rw [if_pos h, decide_eq_true h, Bool.true_and]
  · rw [if_neg h, decide_eq_false h, Bool.false_and, if_neg (fun q => Bool.noConfusion q)]
theorem HO.of {k : Nat} {d : Int32} {g : GS} {sa ha : Nat} (h : ∀ i : Nat, i < 6 → ∃ q : Nat, g.2.2.2.2 sa i = some q ∧ g.1 q = 10 ∧ g.2.1 q k = .int d) (h2 : ∀ i j q : Nat, i < 6 → j < 6 → g.2.2.2.2 sa i = some q → g.2.2.2.2 sa j = some q → i = j) : HO k d g sa ha (0 : Int32).toInt := by
  refine ⟨fun i hi => ?_, h2⟩
  obtain ⟨q, d1, d2, d3⟩ := h i hi
  exact ⟨q, d, d1, d2, d3, fun hx => absurd hx (by have e0 : (0 : Int32).toInt = 0 := (by decide); omega), fun _ => rfl⟩
/-! mends: bits -/
def meF (m is x : Int32) : Int32 := (x &&& ((1 <<< (m &&& 31)) ^^^ (-1))) ||| (is <<< (m &&& 31))
def meA (m x : Int32) : Int32 := (x >>> (m &&& 31)) &&& 1
theorem me_bv (x b : BitVec 32) : (x &&& (b ^^^ BitVec.allOnes 32)) ||| b = x ||| b := by
  apply BitVec.eq_of_getLsbD_eq
  intro i hi
  rw [BitVec.getLsbD_or, BitVec.getLsbD_or, BitVec.getLsbD_and, BitVec.getLsbD_xor, BitVec.getLsbD_allOnes, decide_eq_true hi]
  cases x.getLsbD i <;> cases b.getLsbD i <;> rfl
theorem me_1 (x b : Int32) : (x &&& (b ^^^ (-1))) ||| b = x ||| b := Int32.toBitVec_inj.mp (me_bv x.toBitVec b.toBitVec)
theorem me_s1 {m is x z : Int32} (hi : is.toInt = 1) (e : z = x ||| (1 <<< (m &&& 31))) : z = meF m is x := by
  have h1 : is = 1 := i_inj (hi.trans (by decide))
  subst h1
  unfold meF
  rw [me_1]
  exact e
theorem me_s0 {m is x z : Int32} (hi : is.toInt = 0) (h0 : 0 ≤ m.toInt) (h3 : m.toInt ≤ 3) (e : z = x &&& ((1 <<< (m &&& 31)) ^^^ (-1))) : z = meF m is x := by
  have h1 : is = 0 := i_inj (hi.trans (by decide))
  subst h1
  unfold meF
  have hz : (0 : Int32) <<< (m &&& 31) = 0 := by
    rcases (show m.toInt = 0 ∨ m.toInt = 1 ∨ m.toInt = 2 ∨ m.toInt = 3 by omega) with h | h | h | h
    · rw [show m = 0 from i_inj (h.trans (by decide))]; decide
    · rw [show m = 1 from i_inj (h.trans (by decide))]; decide
    · rw [show m = 2 from i_inj (h.trans (by decide))]; decide
    · rw [show m = 3 from i_inj (h.trans (by decide))]; decide
  rw [hz, Int32.or_zero]
  exact e
theorem me_a1 {m x : Int32} (h : (x >>> (m &&& 31)) &&& 1 = 1) : (1 : Int32) = meA m x := h.symm
theorem me_a0 {m x : Int32} (h : ¬ (x >>> (m &&& 31)) &&& 1 = 1) : (0 : Int32) = meA m x := by
  unfold meA
  have h2 := i_and 1 (b := 1) (rfl : (x >>> (m &&& 31)) &&& 1 = (x >>> (m &&& 31)) &&& 1) (by decide) (by decide) (by decide)
  generalize (x >>> (m &&& 31)) &&& 1 = y at h h2
  refine i_inj ?_
  have h1 : y.toInt ≠ 1 := fun q => h (i_inj (q.trans (by decide)))
  have e0 : (0 : Int32).toInt = 0 := by decide
  omega
def meB (s n m t : Int) : Bool := decide ((0 ≤ n ∧ n < s) ∧ (0 ≤ m ∧ m ≤ 3) ∧ 0 ≤ t ∧ t ≤ 1)
def meE (s n m : Int) : Int32 := if (0 ≤ n ∧ n < s) ∧ 0 ≤ m ∧ m ≤ 3 then -2 else -1
theorem meB_f {s n m t : Int} (h : ¬ ((0 ≤ n ∧ n < s) ∧ (0 ≤ m ∧ m ≤ 3) ∧ 0 ≤ t ∧ t ≤ 1)) : meB s n m t = false := decide_eq_false h
theorem meB_t {s n m t : Int} (h : (0 ≤ n ∧ n < s) ∧ (0 ≤ m ∧ m ≤ 3) ∧ 0 ≤ t ∧ t ≤ 1) : meB s n m t = true := decide_eq_true h
theorem meE_1 {s n m : Int} (h : ¬ ((0 ≤ n ∧ n < s) ∧ 0 ≤ m ∧ m ≤ 3)) : (-1 : Int32) = meE s n m := by
  unfold meE
  rw [if_neg h]
theorem meE_2 {s n m : Int} (h : (0 ≤ n ∧ n < s) ∧ 0 ≤ m ∧ m ≤ 3) : (-2 : Int32) = meE s n m := by
  unfold meE
  rw [if_pos h]
theorem meB_n {s n m t : Int} {x : Int32} (hx : x.toInt = n) (h : meB s n m t = true) (hs : s ≤ 6) : x.toNatClampNeg < 6 ∧ ((x.toNatClampNeg : Nat) : Int) < s := by
  have := of_decide_eq_true h
  have e0 : (x.toNatClampNeg : Int) = x.toInt := Int.toNat_of_nonneg (by omega)
  omega
/-! the log's rows -/
def lpr (c : Nat → Int32) (z : Int) (j : Nat) : Int32 := if z ≤ 19 then c j else c (j + 1)
def lal (c : Nat → Int32) (z : Int) (v : Int32) (j : Nat) : Int32 := if (j : Int) = (if z ≤ 19 then z else 19) then v else lpr c z j
def shf (c : Nat → Int32) (i : Int) (j : Nat) : Int32 := if (j : Int) < i - 1 then c (j + 1) else c j
theorem EA.lp0 {g : GS} {a : Nat} {c : Nat → Int32} {z : Int} (h : EA g a c 20) (hz : z ≤ 19) : EA g a (lpr c z) 19 := fun i hi => by
  unfold lpr
  rw [if_pos hz]
  exact h i (by omega)
theorem EA.lp1 {g : GS} {a : Nat} {c : Nat → Int32} {z : Int} (h : EA g a (fun j => c (j + 1)) 19) (hz : z = 20) : EA g a (lpr c z) 19 := fun i hi => by
  unfold lpr
  rw [if_neg (by omega)]
  exact h i hi
theorem EA.cp {g : GS} {a : Nat} {c f : Nat → Int32} {x : Int32} (h : EA g a c 20) (ef : f = va_cpy (g.2.2.2.1 a) (g.2.2.2.1 a) (1 : Int32).toNatClampNeg (0 : Int32).toNatClampNeg x.toNatClampNeg) (hx : x.toInt = 19) : EA (sV g a f) a (fun j => c (j + 1)) 19 := fun i hi => by
  have e0 : (x.toNatClampNeg : Int) = x.toInt := Int.toNat_of_nonneg (by omega)
  have e1 : (1 : Int32).toNatClampNeg = 1 := by decide
  have e2 : (0 : Int32).toNatClampNeg = 0 := by decide
  show (if a = a then f i else _) = c (i + 1)
  rw [if_pos rfl, ef, e1, e2]
  show (if 0 ≤ i ∧ i < 0 + x.toNatClampNeg then g.2.2.2.1 a (1 + (i - 0)) else _) = _
  rw [if_pos (by omega), show 1 + (i - 0) = i + 1 by omega]
  exact h (i + 1) (by omega)
theorem EA.tV {g : GS} {a b : Nat} {c f : Nat → Int32} {n : Int} (h : EA g a c n) (ne : a ≠ b) : EA (sV g b f) a c n := fun i hi => by
  show (if a = b then f i else g.2.2.2.1 a i) = _
  rw [if_neg ne]
  exact h i hi
theorem EA.ls {g : GS} {a : Nat} {c : Nat → Int32} {z : Int} {v x : Int32} (h : EA g a (lpr c z) 19) (hx : x.toInt = if z ≤ 19 then z else 19) (h0 : 0 ≤ z) : EA (sC g a x.toNatClampNeg v) a (lal c z v) (x.toInt + 1) := fun i hi => by
  have hx0 : 0 ≤ x.toInt ∧ x.toInt ≤ 19 := by omega
  have e0 : (x.toNatClampNeg : Int) = x.toInt := Int.toNat_of_nonneg hx0.1
  show (if a = a ∧ i = x.toNatClampNeg then v else g.2.2.2.1 a i) = _
  unfold lal
  rw [← hx]
  by_cases hi2 : i = x.toNatClampNeg
  · rw [if_pos ⟨rfl, hi2⟩, if_pos (by omega)]
  · rw [if_neg (fun q => hi2 q.2), if_neg (by omega)]
    exact h i (by omega)
theorem EA.sh0 {g : GS} {a : Nat} {c : Nat → Int32} (h : EA g a c 20) : EA g a (shf c (1 : Int32).toInt) 20 := fun i hi => by
  have e1 : (1 : Int32).toInt = 1 := by decide
  unfold shf
  rw [e1, if_neg (by omega)]
  exact h i hi
theorem EA.sh {g : GS} {a : Nat} {c : Nat → Int32} {i : Int} {x y v : Int32} (h : EA g a (shf c i) 20) (hx : x.toInt = i - 1) (hy : y.toInt = i) (h1 : 1 ≤ i) (h19 : i ≤ 19) (ev : v = g.2.2.2.1 a y.toNatClampNeg) : EA (sC g a x.toNatClampNeg v) a (shf c (i + 1)) 20 := fun q hq => by
  have e0 : (x.toNatClampNeg : Int) = x.toInt := Int.toNat_of_nonneg (by omega)
  have e1 : (y.toNatClampNeg : Int) = y.toInt := Int.toNat_of_nonneg (by omega)
  have hv := h y.toNatClampNeg (by omega)
  unfold shf at hv
  rw [if_neg (by omega)] at hv
  have hq' := h q hq
  show (if a = a ∧ q = x.toNatClampNeg then v else g.2.2.2.1 a q) = _
  unfold shf at hq' ⊢
  by_cases hx2 : q = x.toNatClampNeg
  · rw [if_pos ⟨rfl, hx2⟩, if_pos (by omega), ev, hv]
    congr 1
    omega
  · rw [if_neg (fun z => hx2 z.2), hq']
    by_cases hl : (q : Int) < i - 1
    · rw [if_pos hl, if_pos (by omega)]
    · rw [if_neg hl, if_neg (by omega)]
theorem EA.she {g : GS} {a : Nat} {c : Nat → Int32} {i : Int} (h : EA g a (shf c i) 20) (hi : i = 20) : EA g a (fun j => c (j + 1)) 19 := fun q hq => by
  have := h q (by omega)
  unfold shf at this
  rw [if_pos (by omega)] at this
  exact this
theorem EA.scast {g : GS} {a : Nat} {c : Nat → Int32} {i i' n : Int} (h : EA g a (shf c i) n) (e : i' = i) : EA g a (shf c i') n := by rw [e]; exact h
def CA (g : GS) (a : Nat) (c : Nat → Int32) (ok : Bool) (z : Int) (v : Int32) (l : Int) : Prop := (ok = true → EA g a (lal c z v) l) ∧ (ok = false → ∀ j, g.2.2.2.1 a j = c j)
theorem CA.no {g : GS} {a : Nat} {ok : Bool} {z l : Int} {v : Int32} (h : ok = false) : CA g a (g.2.2.2.1 a) ok z v l := ⟨fun q => (by rw [h] at q; cases q), fun _ _ => rfl⟩
theorem CA.ye {g : GS} {a : Nat} {c : Nat → Int32} {ok : Bool} {z l : Int} {v : Int32} (h : ok = true) (e : EA g a (lal c z v) l) : CA g a c ok z v l := ⟨fun _ => e, fun q => by rw [h] at q; cases q⟩
theorem lal_eq {c c' : Nat → Int32} {z : Int} {v : Int32} {j : Nat} (h : ∀ i : Nat, (i : Int) < z → c i = c' i) (hz : z ≤ 20) (hj : (j : Int) ≤ (if z ≤ 19 then z else 19)) : lal c z v j = lal c' z v j := by
  unfold lal lpr
  by_cases h1 : (j : Int) = (if z ≤ 19 then z else 19)
  · rw [if_pos h1, if_pos h1]
  · rw [if_neg h1, if_neg h1]
    by_cases h2 : z ≤ 19
    · rw [if_pos h2, if_pos h2]
      rw [if_pos h2] at h1 hj
      exact h j (by omega)
    · rw [if_neg h2, if_neg h2]
      rw [if_neg h2] at h1 hj
      exact h (j + 1) (by omega)
theorem TE.call {g2 g3 : GS} {y m : Nat} {c c' : Nat → Int32} {ok : Bool} {z l : Int} {v : Int32} (h : ∀ i : Nat, (i : Int) < z → c i = c' i) (hz : z ≤ 20) (h1 : CA g2 y c ok z v l) (hf : g3.2.2.2.1 y = g2.2.2.2.1 y) (h2 : CA g3 m c' ok z v l) (hl : (ok = false → l = z) ∧ (ok = true → l = (if z ≤ 19 then z else 19) + 1)) : TE g3 y m l := fun i hi => by
  rw [hf]
  cases ok with
  | false => rw [h1.2 rfl i, h2.2 rfl i]; exact h i (by have := hl.1 rfl; omega)
  | true =>
    rw [h1.1 rfl i hi, h2.1 rfl i hi]
    exact lal_eq h hz (by have := hl.2 rfl; omega)
def caB (s n k j x : Int) : Bool := decide ((0 ≤ n ∧ n < s) ∧ (0 ≤ k ∧ k ≤ 999) ∧ (0 ≤ j ∧ j ≤ 99) ∧ 0 ≤ x ∧ x ≤ 99)
theorem caB_f {s n k j x : Int} (h : ¬ ((0 ≤ n ∧ n < s) ∧ (0 ≤ k ∧ k ≤ 999) ∧ (0 ≤ j ∧ j ≤ 99) ∧ 0 ≤ x ∧ x ≤ 99)) : caB s n k j x = false := decide_eq_false h
theorem caB_t {s n k j x : Int} (h : (0 ≤ n ∧ n < s) ∧ (0 ≤ k ∧ k ≤ 999) ∧ (0 ≤ j ∧ j ≤ 99) ∧ 0 ≤ x ∧ x ≤ 99) : caB s n k j x = true := decide_eq_true h
theorem caB_l {s q n k j x l : Int} (e : l = caL s q n k j x) : (caB s n k j x = false → l = q) ∧ (caB s n k j x = true → q ≤ 20 → l = (if q ≤ 19 then q else 19) + 1) := by
  unfold caL at e
  refine ⟨fun h => ?_, fun h hq => ?_⟩
  · have := of_decide_eq_false h
    omega
  · have := of_decide_eq_true h
    omega
def lgR (c0 c1 c2 : Nat → Int32) (z n k : Int) (x : Nat) : Int32 := if 0 ≤ n ∧ n < z then (if k = 0 then c0 x else if k = 1 then c1 x else if k = 2 then c2 x else -1) else -1
theorem lgR_n {c0 c1 c2 : Nat → Int32} {z n k : Int} {x : Nat} (h : ¬ (0 ≤ n ∧ n < z)) : (-1 : Int32) = lgR c0 c1 c2 z n k x := by
  unfold lgR
  rw [if_neg h]
theorem lgR_0 {c0 c1 c2 : Nat → Int32} {z n k : Int} {x : Nat} {u : Int32} (h : 0 ≤ n ∧ n < z) (hk : k = 0) (e : u = c0 x) : u = lgR c0 c1 c2 z n k x := by
  unfold lgR
  rw [if_pos h, if_pos hk]
  exact e
theorem lgR_1 {c0 c1 c2 : Nat → Int32} {z n k : Int} {x : Nat} {u : Int32} (h : 0 ≤ n ∧ n < z) (hk : k = 1) (e : u = c1 x) : u = lgR c0 c1 c2 z n k x := by
  unfold lgR
  rw [if_pos h, if_neg (by omega), if_pos hk]
  exact e
theorem lgR_2 {c0 c1 c2 : Nat → Int32} {z n k : Int} {x : Nat} {u : Int32} (h : 0 ≤ n ∧ n < z) (hk : k = 2) (e : u = c2 x) : u = lgR c0 c1 c2 z n k x := by
  unfold lgR
  rw [if_pos h, if_neg (by omega), if_neg (by omega), if_pos hk]
  exact e
theorem lgR_3 {c0 c1 c2 : Nat → Int32} {z n k : Int} {x : Nat} (hk : k < 0 ∨ 2 < k) : (-1 : Int32) = lgR c0 c1 c2 z n k x := by
  unfold lgR
  by_cases h : 0 ≤ n ∧ n < z
  · rw [if_pos h, if_neg (by omega), if_neg (by omega), if_neg (by omega)]
  · rw [if_neg h]
theorem lgM_3 {c0 c1 c2 : Nat → Int32} {z n k : Int} {x : Nat} (h : 0 ≤ n ∧ n < z) (h0 : k ≠ 0) (h1 : k ≠ 1) (h2 : k ≠ 2) : (-1 : Int32) = lgR c0 c1 c2 z n k x := by
  unfold lgR
  rw [if_pos h, if_neg h0, if_neg h1, if_neg h2]
theorem lgR_eq {c0 c1 c2 d0 d1 d2 : Nat → Int32} {z k : Int} {x : Int32} (h0 : ∀ i : Nat, (i : Int) < z → c0 i = d0 i) (h1 : ∀ i : Nat, (i : Int) < z → c1 i = d1 i) (h2 : ∀ i : Nat, (i : Int) < z → c2 i = d2 i) : lgR c0 c1 c2 z x.toInt k x.toNatClampNeg = lgR d0 d1 d2 z x.toInt k x.toNatClampNeg := by
  unfold lgR
  by_cases h : 0 ≤ x.toInt ∧ x.toInt < z
  · have e0 : (x.toNatClampNeg : Int) = x.toInt := Int.toNat_of_nonneg h.1
    rw [if_pos h, if_pos h, h0 _ (by omega), h1 _ (by omega), h2 _ (by omega)]
  · rw [if_neg h, if_neg h]
/-! programs: what an act says, and where it begins -/
def acc (T : Int → Int) (p : Int) : Int := if wdr T p = 6 then 0 else T (wdp T p) - 48
def acv (T : Int → Int) (p : Int) : Int := if wdr T p = 6 then vlv T (wdp T p) else if wdr T p = 3 ∨ wdr T p = 4 then 0 else vlv T (wdp T p + 2)
theorem acx_6 {T : Int → Int} {p q v : Int} (h : wdr T p = 6) (e : q = wdp T p) (hv : vlv T q = v) : acc T p = 0 ∧ acv T p = v := by
  subst e
  unfold acc acv
  rw [if_pos h, if_pos h]
  exact ⟨rfl, hv⟩
theorem acx_34 {T : Int → Int} {p q w c' : Int} (h : wdr T p = w) (hw : w = 3 ∨ w = 4) (e : q = wdp T p) (hc : c' = T q - 48) : acc T p = c' ∧ acv T p = 0 := by
  subst e
  subst h
  unfold acc acv
  rw [if_neg (by omega), if_neg (by omega), if_pos hw]
  exact ⟨hc.symm, rfl⟩
theorem acx_v {T : Int → Int} {p q q3 w c' v : Int} (h : wdr T p = w) (h6 : w ≠ 6) (hw : ¬ (w = 3 ∨ w = 4)) (e : q = wdp T p) (hc : c' = T q - 48) (e3 : q3 = q + 2) (hv : vlv T q3 = v) : acc T p = c' ∧ acv T p = v := by
  subst e
  subst h
  subst e3
  unfold acc acv
  rw [if_neg h6, if_neg h6, if_neg hw]
  exact ⟨hc.symm, hv⟩
def stp (T : Int → Int) : Nat → Int
  | 0 => 0
  | j + 1 => (ac T (stp T j)).2 + 1
theorem stp_s {T : Int → Int} {i i' : Int} {p q p' : Int} (h0 : 0 ≤ i) (e : p = stp T i.toNat) (h : ac T p = (true, q)) (ei : i' = i + 1) (ep : p' = q + 1) : p' = stp T i'.toNat := by
  subst ei
  rw [show (i + 1).toNat = i.toNat + 1 by omega]
  show p' = (ac T (stp T i.toNat)).2 + 1
  rw [← e, h, ep]
theorem stp_p {T : Int → Int} {x : Int} (h : x = 0) : x = stp T (0 : Int32).toInt.toNat := by
  have e : (0 : Int32).toInt.toNat = 0 := by decide
  rw [e]
  exact h
def PG (g : GS) (a b d : Nat) (T : Int → Int) (n : Int) : Prop := ∀ j : Nat, (j : Int) < n → (g.2.2.2.1 a j).toInt = wdr T (stp T j) ∧ (g.2.2.2.1 b j).toInt = acc T (stp T j) ∧ (g.2.2.2.1 d j).toInt = acv T (stp T j)
theorem PG.tC {g : GS} {a b d x i : Nat} {v : Int32} {T : Int → Int} {n : Int} (h : PG g a b d T n) (n1 : a ≠ x) (n2 : b ≠ x) (n3 : d ≠ x) : PG (sC g x i v) a b d T n := fun j hj => by
  show (if a = x ∧ j = i then v else g.2.2.2.1 a j).toInt = _ ∧ (if b = x ∧ j = i then v else g.2.2.2.1 b j).toInt = _ ∧ (if d = x ∧ j = i then v else g.2.2.2.1 d j).toInt = _
  rw [if_neg (fun q => n1 q.1), if_neg (fun q => n2 q.1), if_neg (fun q => n3 q.1)]
  exact h j hj
theorem PG.sm {md : Nat → Nat → Bool} {g g' : GS} {a b d r1 r2 r3 : Nat} {T : Int → Int} {n : Int} (h : PG g a b d T n) (m : Sm md g g') (e1 : g.1 a = r1) (z1 : r1 ≠ 0) (q1 : md r1 99 = false) (e2 : g.1 b = r2) (z2 : r2 ≠ 0) (q2 : md r2 99 = false) (e3 : g.1 d = r3) (z3 : r3 ≠ 0) (q3 : md r3 99 = false) : PG g' a b d T n := fun j hj => by
  rw [Sm.cf m e1 z1 q1, Sm.cf m e2 z2 q2, Sm.cf m e3 z3 q3]
  exact h j hj
theorem PG.cast {g : GS} {a b d : Nat} {T : Int → Int} {n n' : Int} (h : PG g a b d T n) (e : n' ≤ n) : PG g a b d T n' := fun j hj => h j (by omega)
theorem PG.up {g g' : GS} {a b d : Nat} {T : Int → Int} {n p : Int} {x w c' v : Int32} (h : PG g a b d T n) (u0 : UP g' a (g.2.2.2.1 a) true x.toNatClampNeg w) (u1 : UP g' b (g.2.2.2.1 b) true x.toNatClampNeg c') (u2 : UP g' d (g.2.2.2.1 d) true x.toNatClampNeg v) (h0 : 0 ≤ x.toInt) (hx : x.toInt = n) (hp : p = stp T n.toNat) (hw : w.toInt = wdr T p) (hc : c'.toInt = acc T p) (hv : v.toInt = acv T p) : PG g' a b d T (n + 1) := fun j hj => by
  have e0 : (x.toNatClampNeg : Int) = x.toInt := Int.toNat_of_nonneg h0
  rw [u0 j, u1 j, u2 j]
  by_cases hj2 : j = x.toNatClampNeg
  · rw [if_pos ⟨rfl, hj2⟩, if_pos ⟨rfl, hj2⟩, if_pos ⟨rfl, hj2⟩, show j = n.toNat by omega, ← hp]
    exact ⟨hw, hc, hv⟩
  · rw [if_neg (fun q => hj2 q.2), if_neg (fun q => hj2 q.2), if_neg (fun q => hj2 q.2)]
    exact h j (by omega)
/-- but for one program all programs stay -/
def OX (o a b d : Nat) (g g' : GS) : Prop := (∀ x, g.1 x = 3 → x ≠ o → g'.2.1 x 3 = g.2.1 x 3) ∧ (∀ x, g.1 x = 68 ∨ g.1 x = 69 ∨ g.1 x = 70 → x ≠ a → x ≠ b → x ≠ d → g'.2.2.2.1 x = g.2.2.2.1 x)
theorem OX.rf {o a b d : Nat} {g : GS} : OX o a b d g g := ⟨fun _ _ _ => rfl, fun _ _ _ _ _ => rfl⟩
theorem OX.tr {o a b d : Nat} {g g' g'' : GS} (x : Ex g g') (h : OX o a b d g g') (h' : OX o a b d g' g'') : OX o a b d g g'' := ⟨fun y e n => (h'.1 y (x.r e (by decide)) n).trans (h.1 y e n), fun y e n1 n2 n3 => (h'.2 y (by rcases e with e | e | e; exact Or.inl (x.r e (by decide)); exact Or.inr (Or.inl (x.r e (by decide))); exact Or.inr (Or.inr (x.r e (by decide)))) n1 n2 n3).trans (h.2 y e n1 n2 n3)⟩
theorem OX.sm {o a b d : Nat} {md : Nat → Nat → Bool} {g g' : GS} (m : Sm md g g') (q1 : md 3 3 = false) (q2 : md 68 99 = false) (q3 : md 69 99 = false) (q4 : md 70 99 = false) : OX o a b d g g' := ⟨fun x e _ => m.1 x 3 (by rw [e]; decide) (by rw [e]; exact q1), fun x e _ _ _ => by
  rcases e with e | e | e
  · exact Sm.cf m e (by decide) q2
  · exact Sm.cf m e (by decide) q3
  · exact Sm.cf m e (by decide) q4⟩
theorem OX.ap {o a b d i j k : Nat} {g : GS} {x y z : Int32} {v : Value} : OX o a b d g (sF (sC (sC (sC g a i x) b j y) d k z) o 3 v) := ⟨fun q e n => by
  show (if q = o ∧ 3 = 3 then v else g.2.1 q 3) = _
  rw [if_neg (fun h => n h.1)], fun q e n1 n2 n3 => funext fun l => by
  show (if q = d ∧ l = k then z else (if q = b ∧ l = j then y else (if q = a ∧ l = i then x else g.2.2.2.1 q l))) = _
  rw [if_neg (fun h => n3 h.1), if_neg (fun h => n2 h.1), if_neg (fun h => n1 h.1)]⟩
/-- all programs that there were stay -/
def OO (g g' : GS) : Prop := (∀ x, g.1 x = 3 → g'.2.1 x 3 = g.2.1 x 3) ∧ (∀ x, g.1 x = 68 ∨ g.1 x = 69 ∨ g.1 x = 70 → g'.2.2.2.1 x = g.2.2.2.1 x)
theorem OO.rf {g : GS} : OO g g := ⟨fun _ _ => rfl, fun _ _ => rfl⟩
theorem OO.tr {g g' g'' : GS} (x : Ex g g') (h : OO g g') (h' : OO g' g'') : OO g g'' := ⟨fun y e => (h'.1 y (x.r e (by decide))).trans (h.1 y e), fun y e => (h'.2 y (by rcases e with e | e | e; exact Or.inl (x.r e (by decide)); exact Or.inr (Or.inl (x.r e (by decide))); exact Or.inr (Or.inr (x.r e (by decide))))).trans (h.2 y e)⟩
theorem OO.sm {md : Nat → Nat → Bool} {g g' : GS} (m : Sm md g g') (q1 : md 3 3 = false) (q2 : md 68 99 = false) (q3 : md 69 99 = false) (q4 : md 70 99 = false) : OO g g' := ⟨fun x e => m.1 x 3 (by rw [e]; decide) (by rw [e]; exact q1), fun x e => by
  rcases e with e | e | e
  · exact Sm.cf m e (by decide) q2
  · exact Sm.cf m e (by decide) q3
  · exact Sm.cf m e (by decide) q4⟩
theorem OO.ox {o a b d : Nat} {g g1 g2 : GS} (h1 : OO g g1) (x1 : Ex g g1) (h2 : OX o a b d g1 g2) (zo : g.1 o = 0) (za : g.1 a = 0) (zb : g.1 b = 0) (zd : g.1 d = 0) : OO g g2 := by
  have ne : ∀ x r y : Nat, g.1 x = r → r ≠ 0 → g.1 y = 0 → x ≠ y := fun x r y e n z q => n (by rw [← e, q]; exact z)
  refine ⟨fun x e => (h2.1 x (x1.r e (by decide)) (ne x 3 o e (by decide) zo)).trans (h1.1 x e), fun x e => Eq.trans ?_ (h1.2 x e)⟩
  rcases e with e | e | e
  · exact h2.2 x (Or.inl (x1.r e (by decide))) (ne x _ a e (by decide) za) (ne x _ b e (by decide) zb) (ne x _ d e (by decide) zd)
  · exact h2.2 x (Or.inr (Or.inl (x1.r e (by decide)))) (ne x _ a e (by decide) za) (ne x _ b e (by decide) zb) (ne x _ d e (by decide) zd)
  · exact h2.2 x (Or.inr (Or.inr (x1.r e (by decide)))) (ne x _ a e (by decide) za) (ne x _ b e (by decide) zb) (ne x _ d e (by decide) zd)
/-- a new program's rows are new -/
def FR (g g' : GS) (h : Nat) : Prop := ∃ a b d : Nat, g'.2.1 h 0 = .ref a ∧ g'.2.1 h 1 = .ref b ∧ g'.2.1 h 2 = .ref d ∧ g'.1 a = 68 ∧ g'.1 b = 69 ∧ g'.1 d = 70 ∧ g'.2.2.1 a = 8 ∧ g'.2.2.1 b = 8 ∧ g'.2.2.1 d = 8 ∧ g.1 a = 0 ∧ g.1 b = 0 ∧ g.1 d = 0
/-- a program p as the reading says it -/
def PP (g : GS) (p : Nat) (T : Int → Int) (n : Int) : Prop := ∃ (a b d : Nat) (z : Int32), g.2.1 p 0 = .ref a ∧ g.2.1 p 1 = .ref b ∧ g.2.1 p 2 = .ref d ∧ g.1 a = 68 ∧ g.1 b = 69 ∧ g.1 d = 70 ∧ g.2.1 p 3 = .int z ∧ z.toInt = n ∧ PG g a b d T n
theorem PP.sm {md : Nat → Nat → Bool} {g g' : GS} {p : Nat} {T : Int → Int} {n : Int} (h : PP g p T n) (m : Sm md g g') (x : Ex g g') (rp : g.1 p = 3) (q0 : md 3 0 = false) (q1 : md 3 1 = false) (q2 : md 3 2 = false) (q3 : md 3 3 = false) (w0 : md 68 99 = false) (w1 : md 69 99 = false) (w2 : md 70 99 = false) : PP g' p T n := by
  obtain ⟨a, b, d, z, e0, e1, e2, r0, r1, r2, e3, ez, hp⟩ := h
  exact ⟨a, b, d, z, m.v rp (by decide) q0 e0, m.v rp (by decide) q1 e1, m.v rp (by decide) q2 e2, x.r r0 (by decide), x.r r1 (by decide), x.r r2 (by decide), m.v rp (by decide) q3 e3, ez, hp.sm m r0 (by decide) w0 r1 (by decide) w1 r2 (by decide) w2⟩
/-- a service has a new program, or not -/
def PS (g g' : GS) (sa n : Nat) (ok : Bool) (T : Int → Int) : Prop := OO g g' ∧ ((ok = false ∧ ∀ q, g.1 q = 10 → g'.2.1 q 0 = g.2.1 q 0) ∨ (ok = true ∧ ∃ q p : Nat, g.2.2.2.2 sa n = some q ∧ g'.2.1 q 0 = .ref p ∧ g'.1 p = 3 ∧ PP g' p T (pgn T) ∧ ∀ q', g.1 q' = 10 → q' ≠ q → g'.2.1 q' 0 = g.2.1 q' 0))
def chb (T : Int → Int) (z s n : Int) : Bool := decide (0 ≤ n ∧ n < s) && pgk T z
theorem chb_0 {T : Int → Int} {z s n : Int} (h : ¬ (0 ≤ n ∧ n < s)) : chb T z s n = false := by
  unfold chb
  rw [decide_eq_false h]
  rfl
theorem chb_k {T : Int → Int} {z s n : Int} {b : Bool} (h : 0 ≤ n ∧ n < s) (hk : pgk T z = b) : chb T z s n = b := by
  unfold chb
  rw [decide_eq_true h, hk]
  exact Bool.true_and _
/-- what act answers, by the class's cells -/
def AF (g : GS) (sa : Nat) (s n k j : Int) (nn kn : Nat) (r : Int32) : Prop := (¬ (0 ≤ n ∧ n < s) ∧ r = -1) ∨ ((0 ≤ n ∧ n < s) ∧ ∃ (q p a b d : Nat) (z : Int32), g.2.2.2.2 sa nn = some q ∧ g.2.1 q 0 = .ref p ∧ g.2.1 p 3 = .int z ∧ g.2.1 p 0 = .ref a ∧ g.2.1 p 1 = .ref b ∧ g.2.1 p 2 = .ref d ∧ r = lgR (g.2.2.2.1 a) (g.2.2.2.1 b) (g.2.2.2.1 d) z.toInt k j kn)
/-- a row that is copied into another from a place on -/
def CP (g : GS) (a : Nat) (c0 src : Nat → Int32) (b : Nat) (i : Int) : Prop := ∀ x : Nat, g.2.2.2.1 a x = if b ≤ x ∧ (x : Int) < b + i then src (x - b) else c0 x
theorem CP.zero {g : GS} {a b : Nat} {c0 src : Nat → Int32} {i : Int} (e : g.2.2.2.1 a = c0) (hi : i ≤ 0) : CP g a c0 src b i := fun x => by
  rw [if_neg (by omega), e]
theorem CP.st {g : GS} {a b j k : Nat} {c0 src : Nat → Int32} {i i' : Int} {v : Int32} (h : CP g a c0 src b i) (hi : 0 ≤ i) (hj : (j : Int) = b + i) (hk : (k : Int) = i) (ev : v = src k) (ei : i' = i + 1) : CP (sC g a j v) a c0 src b i' := fun x => by
  subst ei
  show (if a = a ∧ x = j then v else g.2.2.2.1 a x) = _
  by_cases hx : x = j
  · rw [if_pos ⟨rfl, hx⟩, if_pos (by omega), ev]
    congr 1
    omega
  · rw [if_neg (fun q => hx q.2), h x]
    by_cases hq : b ≤ x ∧ (x : Int) < b + i
    · rw [if_pos hq, if_pos (by omega)]
    · rw [if_neg hq, if_neg (by omega)]
theorem CP.tC {g : GS} {a b y l : Nat} {c0 src : Nat → Int32} {i : Int} {v : Int32} (h : CP g a c0 src b i) (n : a ≠ y) : CP (sC g y l v) a c0 src b i := fun x => by
  show (if a = y ∧ x = l then v else g.2.2.2.1 a x) = _
  rw [if_neg (fun q => n q.1)]
  exact h x
theorem CP.sm {md : Nat → Nat → Bool} {g g' : GS} {a b r : Nat} {c0 src : Nat → Int32} {i : Int} (h : CP g a c0 src b i) (m : Sm md g g') (e1 : g.1 a = r) (z1 : r ≠ 0) (q1 : md r 99 = false) : CP g' a c0 src b i := fun x => by
  rw [Sm.cf m e1 z1 q1]
  exact h x
theorem CP.cast {g : GS} {a b : Nat} {c0 src : Nat → Int32} {i i' : Int} (h : CP g a c0 src b i) (e : i' = i) : CP g a c0 src b i' := by rw [e]; exact h
/-- the model's rows of programs -/
def TK (g g' : GS) (aa wo pl wr s : Nat) (ok : Bool) (T : Int → Int) : Prop := (ok = false ∧ g'.2.2.2.1 aa = g.2.2.2.1 aa ∧ g'.2.2.2.1 wo = g.2.2.2.1 wo ∧ g'.2.2.2.1 pl = g.2.2.2.1 pl ∧ g'.2.2.2.1 wr = g.2.2.2.1 wr) ∨ (ok = true ∧ pgn T ≤ 8 ∧ (g'.2.2.2.1 aa s).toInt = pgn T ∧ (∀ j : Nat, (j : Int) < pgn T → (g'.2.2.2.1 wo (8 * s + j)).toInt = wdr T (stp T j) ∧ (g'.2.2.2.1 pl (8 * s + j)).toInt = acc T (stp T j) ∧ (g'.2.2.2.1 wr (8 * s + j)).toInt = acv T (stp T j)) ∧ (∀ i : Nat, i ≠ s → g'.2.2.2.1 aa i = g.2.2.2.1 aa i) ∧ (∀ x : Nat, x < 8 * s ∨ 8 * s + 8 ≤ x → g'.2.2.2.1 wo x = g.2.2.2.1 wo x ∧ g'.2.2.2.1 pl x = g.2.2.2.1 pl x ∧ g'.2.2.2.1 wr x = g.2.2.2.1 wr x))
theorem TK.of {g g1 g' : GS} {aa wo pl wr na pa nv s : Nat} {T : Int → Int} {z : Int} (hz : z ≤ 8) (ez : z = pgn T) (hP : PG g1 na pa nv T z) (ha : (g'.2.2.2.1 aa s).toInt = z) (ho : ∀ i : Nat, i ≠ s → g'.2.2.2.1 aa i = g.2.2.2.1 aa i) (c0 : CP g' wo (g.2.2.2.1 wo) (g1.2.2.2.1 na) (8 * s) z) (c1 : CP g' pl (g.2.2.2.1 pl) (g1.2.2.2.1 pa) (8 * s) z) (c2 : CP g' wr (g.2.2.2.1 wr) (g1.2.2.2.1 nv) (8 * s) z) : TK g g' aa wo pl wr s true T := by
  subst ez
  refine Or.inr ⟨rfl, hz, ha, fun j hj => ?_, ho, fun x hx => ?_⟩
  · rw [c0 (8 * s + j), c1 (8 * s + j), c2 (8 * s + j), if_pos (by omega), if_pos (by omega), if_pos (by omega), show 8 * s + j - 8 * s = j by omega]
    exact hP j hj
  · rw [c0 x, c1 x, c2 x, if_neg (by omega), if_neg (by omega), if_neg (by omega)]
    exact ⟨rfl, rfl, rfl⟩
def PGI (g : GS) (sa aa wo pl wr : Nat) (sv : Int) : Prop := (∀ i : Nat, (i : Int) < sv → ∃ (q p a b d : Nat) (z : Int32), g.2.2.2.2 sa i = some q ∧ g.1 q = 10 ∧ g.2.1 q 0 = .ref p ∧ g.1 p = 3 ∧ g.2.1 p 3 = .int z ∧ g.2.1 p 0 = .ref a ∧ g.2.1 p 1 = .ref b ∧ g.2.1 p 2 = .ref d ∧ g.1 a = 68 ∧ g.1 b = 69 ∧ g.1 d = 70 ∧ g.2.2.2.1 aa i = z ∧ z.toInt ≤ 8 ∧ ∀ j : Nat, (j : Int) < z.toInt → g.2.2.2.1 a j = g.2.2.2.1 wo (8 * i + j) ∧ g.2.2.2.1 b j = g.2.2.2.1 pl (8 * i + j) ∧ g.2.2.2.1 d j = g.2.2.2.1 wr (8 * i + j)) ∧ (∀ i j q : Nat, i < 6 → j < 6 → g.2.2.2.2 sa i = some q → g.2.2.2.2 sa j = some q → i = j)
/-- nothing that programs hang on has changed -/
def PK (g g' : GS) (sa : Nat) : Prop := Ex g g' ∧ g'.2.2.2.2 sa = g.2.2.2.2 sa ∧ (∀ q, g.1 q = 10 → g'.2.1 q 0 = g.2.1 q 0) ∧ (∀ p k, g.1 p = 3 → k < 4 → g'.2.1 p k = g.2.1 p k) ∧ (∀ x, g.1 x = 68 ∨ g.1 x = 69 ∨ g.1 x = 70 → g'.2.2.2.1 x = g.2.2.2.1 x)
theorem PK.sm {md : Nat → Nat → Bool} {g g' : GS} {sa : Nat} (m : Sm md g g') (x : Ex g g') (rs : g.1 sa = 42) (q0 : md 42 99 = false) (q1 : md 10 0 = false) (q2 : md 3 0 = false) (q3 : md 3 1 = false) (q4 : md 3 2 = false) (q5 : md 3 3 = false) (q6 : md 68 99 = false) (q7 : md 69 99 = false) (q8 : md 70 99 = false) : PK g g' sa := by
  refine ⟨x, (m.2 sa (by rw [rs]; decide) (by rw [rs]; exact q0)).2, fun q e => m.1 q 0 (by rw [e]; decide) (by rw [e]; exact q1), fun p k e hk => ?_, (OO.sm m q5 q6 q7 q8).2⟩
  refine m.1 p k (by rw [e]; decide) ?_
  rw [e]
  rcases (show k = 0 ∨ k = 1 ∨ k = 2 ∨ k = 3 by omega) with h | h | h | h
  · rw [h]; exact q2
  · rw [h]; exact q3
  · rw [h]; exact q4
  · rw [h]; exact q5
theorem PGI.go {g g' : GS} {sa aa wo pl wr : Nat} {sv : Int} (h : PGI g sa aa wo pl wr sv) (k : PK g g' sa) (h0 : g'.2.2.2.1 aa = g.2.2.2.1 aa) (h1 : g'.2.2.2.1 wo = g.2.2.2.1 wo) (h2 : g'.2.2.2.1 pl = g.2.2.2.1 pl) (h3 : g'.2.2.2.1 wr = g.2.2.2.1 wr) : PGI g' sa aa wo pl wr sv := by
  obtain ⟨x, s, k1, k2, k3⟩ := k
  refine ⟨fun i hi => ?_, fun i j q hi hj e1 e2 => h.2 i j q hi hj (by rw [← s]; exact e1) (by rw [← s]; exact e2)⟩
  obtain ⟨q, p, a, b, d, z, e1, e2, e3, e4, e5, e6, e7, e8, e9, e10, e11, e12, e13, e14⟩ := h.1 i hi
  refine ⟨q, p, a, b, d, z, by rw [s]; exact e1, x.r e2 (by decide), (k1 q e2).trans e3, x.r e4 (by decide), (k2 p 3 e4 (by decide)).trans e5, (k2 p 0 e4 (by decide)).trans e6, (k2 p 1 e4 (by decide)).trans e7, (k2 p 2 e4 (by decide)).trans e8, x.r e9 (by decide), x.r e10 (by decide), x.r e11 (by decide), by rw [h0]; exact e12, e13, fun j hj => ?_⟩
  rw [k3 a (Or.inl e9), k3 b (Or.inr (Or.inl e10)), k3 d (Or.inr (Or.inr e11)), h1, h2, h3]
  exact e14 j hj
theorem PGI.set {g g2 g3 : GS} {sa aa wo pl wr n : Nat} {sv sv' : Int} {ok : Bool} {T : Int → Int} (h : PGI g sa aa wo pl wr sv) (hv : sv ≤ 6) (hs : PS g g2 sa n ok T) (ht : TK g2 g3 aa wo pl wr n ok T) (x12 : Ex g g2) (s12 : g2.2.2.2.2 sa = g.2.2.2.2 sa) (p12 : ∀ p k, g.1 p = 3 → k < 3 → g2.2.1 p k = g.2.1 p k) (h0 : g2.2.2.2.1 aa = g.2.2.2.1 aa) (h1 : g2.2.2.2.1 wo = g.2.2.2.1 wo) (h2 : g2.2.2.2.1 pl = g.2.2.2.1 pl) (h3 : g2.2.2.2.1 wr = g.2.2.2.1 wr) (k23 : PK g2 g3 sa) (hr : ∀ q : Nat, g.2.2.2.2 sa n = some q → ok = true → n < 6 ∧ g.1 q = 10) (hsv : ∀ i : Nat, (i : Int) < sv' → (i : Int) < sv ∨ (ok = true ∧ i = n)) : PGI g3 sa aa wo pl wr sv' := by
  obtain ⟨x23, s23, k1, k2, k3⟩ := k23
  have x13 := x12.tr x23
  refine ⟨fun i hi => ?_, fun i j q hi hj e1 e2 => h.2 i j q hi hj (by rw [← s12, ← s23]; exact e1) (by rw [← s12, ← s23]; exact e2)⟩
  by_cases hin : ok = true ∧ i = n
  · obtain ⟨hok, rfl⟩ := hin
    rcases hs.2 with ⟨c, -⟩ | ⟨-, q, p, e1, e2, e3, e4, -⟩
    · rw [c] at hok; cases hok
    rcases ht with ⟨c, -⟩ | ⟨-, t0, t1, t2, -, -⟩
    · rw [c] at hok; cases hok
    obtain ⟨a, b, d, z, f0, f1, f2, r0, r1, r2, f3, fz, hp⟩ := e4
    have hq := (hr q e1 hok).2
    refine ⟨q, p, a, b, d, z, by rw [s23, s12]; exact e1, x13.r hq (by decide), (k1 q (x12.r hq (by decide))).trans e2, x23.r e3 (by decide), (k2 p 3 e3 (by decide)).trans f3, (k2 p 0 e3 (by decide)).trans f0, (k2 p 1 e3 (by decide)).trans f1, (k2 p 2 e3 (by decide)).trans f2, x23.r r0 (by decide), x23.r r1 (by decide), x23.r r2 (by decide), i_inj (t1.trans fz.symm), by omega, fun j hj => ?_⟩
    rw [k3 a (Or.inl r0), k3 b (Or.inr (Or.inl r1)), k3 d (Or.inr (Or.inr r2))]
    have u1 := hp j (by omega)
    have u2 := t2 j (by omega)
    exact ⟨i_inj (u1.1.trans u2.1.symm), i_inj (u1.2.1.trans u2.2.1.symm), i_inj (u1.2.2.trans u2.2.2.symm)⟩
  · have hi0 : (i : Int) < sv := (hsv i hi).resolve_right hin
    obtain ⟨q, p, a, b, d, z, e1, e2, e3, e4, e5, e6, e7, e8, e9, e10, e11, e12, e13, e14⟩ := h.1 i hi0
    have e3' : g2.2.1 q 0 = .ref p := by
      rcases hs.2 with ⟨-, c⟩ | ⟨hok, q', p', c1, -, -, -, c5⟩
      · exact (c q e2).trans e3
      · refine (c5 q e2 (fun e => hin ⟨hok, ?_⟩)).trans e3
        exact h.2 i n q (by omega) (hr q' c1 hok).1 e1 (by rw [e]; exact c1)
    have r4 := x12.r e4 (by decide)
    have r9 := x12.r e9 (by decide)
    have r10 := x12.r e10 (by decide)
    have r11 := x12.r e11 (by decide)
    have ha : g3.2.2.2.1 aa i = g.2.2.2.1 aa i ∧ (∀ j : Nat, (j : Int) < z.toInt → g3.2.2.2.1 wo (8 * i + j) = g.2.2.2.1 wo (8 * i + j) ∧ g3.2.2.2.1 pl (8 * i + j) = g.2.2.2.1 pl (8 * i + j) ∧ g3.2.2.2.1 wr (8 * i + j) = g.2.2.2.1 wr (8 * i + j)) := by
      rcases ht with ⟨-, t0, t1, t2, t3⟩ | ⟨hok, -, -, -, t3, t4⟩
      · rw [t0, t1, t2, t3, h0, h1, h2, h3]
        exact ⟨rfl, fun _ _ => ⟨rfl, rfl, rfl⟩⟩
      · have hne : i ≠ n := fun e => hin ⟨hok, e⟩
        refine ⟨by rw [t3 i hne, h0], fun j hj => ?_⟩
        have u := t4 (8 * i + j) (by omega)
        rw [u.1, u.2.1, u.2.2, h1, h2, h3]
        exact ⟨rfl, rfl, rfl⟩
    refine ⟨q, p, a, b, d, z, by rw [s23, s12]; exact e1, x13.r e2 (by decide), (k1 q (x12.r e2 (by decide))).trans e3', x13.r e4 (by decide), (k2 p 3 r4 (by decide)).trans ((hs.1.1 p e4).trans e5), (k2 p 0 r4 (by decide)).trans ((p12 p 0 e4 (by decide)).trans e6), (k2 p 1 r4 (by decide)).trans ((p12 p 1 e4 (by decide)).trans e7), (k2 p 2 r4 (by decide)).trans ((p12 p 2 e4 (by decide)).trans e8), x13.r e9 (by decide), x13.r e10 (by decide), x13.r e11 (by decide), ha.1.trans e12, e13, fun j hj => ?_⟩
    have u := ha.2 j hj
    rw [k3 a (Or.inl r9), k3 b (Or.inr (Or.inl r10)), k3 d (Or.inr (Or.inr r11)), hs.1.2 a (Or.inl e9), hs.1.2 b (Or.inr (Or.inl e10)), hs.1.2 d (Or.inr (Or.inr e11)), u.1, u.2.1, u.2.2]
    exact e14 j hj
/-- what act answers, by the model's rows -/
def amR (g : GS) (aa wo pl wr : Nat) (s n k j : Int) (nn kn : Nat) : Int32 := if 0 ≤ n ∧ n < s then lgR (fun i => g.2.2.2.1 wo (8 * nn + i)) (fun i => g.2.2.2.1 pl (8 * nn + i)) (fun i => g.2.2.2.1 wr (8 * nn + i)) (g.2.2.2.1 aa nn).toInt k j kn else -1
theorem PGI.act {g : GS} {sa aa wo pl wr : Nat} {sv j : Int} {n k r r' : Int32} (h : PGI g sa aa wo pl wr sv) (f : AF g sa sv n.toInt k.toInt j n.toNatClampNeg k.toNatClampNeg r) (e : r' = amR g aa wo pl wr sv n.toInt k.toInt j n.toNatClampNeg k.toNatClampNeg) : r = r' := by
  rw [e]
  unfold amR
  rcases f with ⟨c, e1⟩ | ⟨c, q, p, a, b, d, z, e1, e2, e3, e4, e5, e6, e7⟩
  · rw [if_neg c]; exact e1
  · rw [if_pos c, e7]
    have e0 : (n.toNatClampNeg : Int) = n.toInt := Int.toNat_of_nonneg c.1
    obtain ⟨q', p', a', b', d', z', f1, f2, f3, f4, f5, f6, f7, f8, f9, f10, f11, f12, f13, f14⟩ := h.1 n.toNatClampNeg (by omega)
    have x1 : q' = q := Option.some.inj (f1.symm.trans e1)
    subst x1
    have x2 : p' = p := Value.ref.inj (f3.symm.trans e2)
    subst x2
    have x3 : z' = z := Value.int.inj (f5.symm.trans e3)
    subst x3
    have x4 : a' = a := Value.ref.inj (f6.symm.trans e4)
    subst x4
    have x5 : b' = b := Value.ref.inj (f7.symm.trans e5)
    subst x5
    have x6 : d' = d := Value.ref.inj (f8.symm.trans e6)
    subst x6
    rw [f12]
    exact lgR_eq (fun i hi => (f14 i hi).1) (fun i hi => (f14 i hi).2.1) (fun i hi => (f14 i hi).2.2)
theorem PGI.of {g : GS} {sa aa wo pl wr : Nat} (h2 : ∀ i j q : Nat, i < 6 → j < 6 → g.2.2.2.2 sa i = some q → g.2.2.2.2 sa j = some q → i = j) : PGI g sa aa wo pl wr (0 : Int32).toInt := ⟨fun i hi => absurd hi (by have e0 : (0 : Int32).toInt = 0 := (by decide); omega), h2⟩
theorem am_n {g : GS} {aa wo pl wr nn kn : Nat} {s n k j : Int} (h : ¬ (0 ≤ n ∧ n < s)) : (-1 : Int32) = amR g aa wo pl wr s n k j nn kn := by
  unfold amR
  rw [if_neg h]
theorem am_y {g : GS} {aa wo pl wr nn kn : Nat} {s n k j : Int} {r : Int32} (h : 0 ≤ n ∧ n < s) (e : r = lgR (fun i => g.2.2.2.1 wo (8 * nn + i)) (fun i => g.2.2.2.1 pl (8 * nn + i)) (fun i => g.2.2.2.1 wr (8 * nn + i)) (g.2.2.2.1 aa nn).toInt k j kn) : r = amR g aa wo pl wr s n k j nn kn := by
  unfold amR
  rw [if_pos h]
  exact e
theorem svb_n {T : Int → Int} {z s : Int} (h : svb T z s = true) : s ≤ 5 := by
  unfold svb at h
  exact of_decide_eq_true ((Bool.and_eq_true _ _).mp h).1
theorem chb_n {T : Int → Int} {z s n : Int} (h : chb T z s n = true) : 0 ≤ n ∧ n < s := by
  unfold chb at h
  exact of_decide_eq_true ((Bool.and_eq_true _ _).mp h).1
theorem q10 {g : GS} {sa n q : Nat} (hI : Inv g) (rs : g.1 sa = 42) (ns : g.2.2.1 sa = 6) (hn : n < 6) (e : g.2.2.2.2 sa n = some q) : n < 6 ∧ g.1 q = 10 := by
  obtain ⟨q', e1, e2⟩ := hI.q rs ns hn
  have : q' = q := Option.some.inj (e1.symm.trans e)
  subst this
  exact ⟨hn, e2⟩
theorem sv_in {i : Nat} {b : Bool} {s s' : Int} {x : Int32} (hx : x.toInt = s) (h0 : 0 ≤ s) (e : s' = if b = true then s + 1 else s) (hi : (i : Int) < s') : (i : Int) < s ∨ (b = true ∧ i = x.toNatClampNeg) := by
  have e0 : (x.toNatClampNeg : Int) = x.toInt := Int.toNat_of_nonneg (by omega)
  by_cases hb : b = true
  · rw [if_pos hb] at e
    by_cases hs : (i : Int) < s
    · exact Or.inl hs
    · exact Or.inr ⟨hb, by omega⟩
  · rw [if_neg hb] at e
    exact Or.inl (by omega)
