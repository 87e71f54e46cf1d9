/-! plain facts of ints: sums, products, quotients that stay small -/
theorem bm_i {x : Int} (h1 : -2147483648 ≤ x) (h2 : x < 2147483648) : x.bmod (2 ^ 32) = x := by
  rw [Int.bmod_def]
  split <;> omega
theorem ad_i {x y : Int32} (h1 : -2147483648 ≤ x.toInt + y.toInt) (h2 : x.toInt + y.toInt < 2147483648) : (x + y).toInt = x.toInt + y.toInt := by
  rw [Int32.toInt_add, bm_i h1 h2]
theorem sb_i {x y : Int32} (h1 : -2147483648 ≤ x.toInt - y.toInt) (h2 : x.toInt - y.toInt < 2147483648) : (x - y).toInt = x.toInt - y.toInt := by
  rw [Int32.toInt_sub, bm_i h1 h2]
theorem ml_i {x y : Int32} (h1 : -2147483648 ≤ x.toInt * y.toInt) (h2 : x.toInt * y.toInt < 2147483648) : (x * y).toInt = x.toInt * y.toInt := by
  rw [Int32.toInt_mul, bm_i h1 h2]
theorem lo_i (x : Int32) : -2147483648 ≤ x.toInt := by
  have := Int32.le_toInt x
  omega
theorem hi_i (x : Int32) : x.toInt < 2147483648 := by
  have := Int32.toInt_lt x
  omega
theorem dv_i {x c : Int32} (hx : 0 ≤ x.toInt) (hc : 0 < c.toInt) : (x / c).toInt = x.toInt / c.toInt := by
  rw [Int32.toInt_div, Int.tdiv_eq_ediv_of_nonneg hx]
  have h1 : 0 ≤ x.toInt / c.toInt := Int.ediv_nonneg hx (by omega)
  have h2 : x.toInt / c.toInt ≤ x.toInt := Int.ediv_le_self _ hx
  have h3 := hi_i x
  exact bm_i (by omega) (by omega)
theorem l_2 : (2 : Int32).toInt = 2 := by decide
theorem l_3 : (3 : Int32).toInt = 3 := by decide
theorem l_4 : (4 : Int32).toInt = 4 := by decide
theorem l_20 : (20 : Int32).toInt = 20 := by decide
theorem l_100 : (100 : Int32).toInt = 100 := by decide
theorem wsh_le {x s : Int32} (h1 : 0 ≤ x.toInt) (h2 : x.toInt ≤ 200) (h3 : 0 ≤ s.toInt) (h4 : s.toInt ≤ 100) : 0 ≤ (x - x * s / 100).toInt ∧ (x - x * s / 100).toInt ≤ x.toInt := by
  have p0 : 0 ≤ x.toInt * s.toInt := Int.mul_nonneg h1 h3
  have p1 : x.toInt * s.toInt ≤ x.toInt * 100 := Int.mul_le_mul_of_nonneg_left h4 h1
  have e1 : (x * s).toInt = x.toInt * s.toInt := ml_i (by omega) (by omega)
  have e2 : (x * s / 100).toInt = x.toInt * s.toInt / 100 := by
    rw [dv_i (by rw [e1]; exact p0) (by decide), e1, l_100]
  rw [sb_i (by rw [e2]; omega) (by rw [e2]; omega), e2]
  omega
theorem mx_held {e : Int32} (h : e.toInt ≤ 200) : i_max 10 e = heldF e 10 200 := by
  unfold i_max heldF
  have a : (10 : Int32).toInt = 10 := by decide
  have b : (200 : Int32).toInt = 200 := by decide
  by_cases h1 : 10 < e
  · rw [if_pos h1, if_neg (by rw [fa_lt] at *; omega), if_neg (by rw [fa_lt] at *; omega)]
  · rw [if_neg h1]
    by_cases h2 : e < 10
    · rw [if_pos h2]
    · rw [if_neg h2, if_neg (by rw [fa_lt] at *; omega)]
      rw [fa_eq]
      rw [fa_lt] at *
      omega
theorem mn_held {e lo hi : Int32} (h : lo.toInt ≤ e.toInt) (h2 : lo.toInt ≤ hi.toInt) : i_min hi e = heldF e lo hi := by
  unfold i_min heldF
  rw [if_neg (show ¬ e < lo by rw [fa_lt]; omega)]
  by_cases h1 : e < hi
  · rw [if_pos h1, if_neg (by rw [fa_lt] at *; omega)]
  · rw [if_neg h1]
    by_cases h2 : hi < e
    · rw [if_pos h2]
    · rw [if_neg h2, fa_eq]
      rw [fa_lt] at *
      omega
theorem held_b {e lo hi : Int32} (h : lo.toInt ≤ hi.toInt) : lo.toInt ≤ (heldF e lo hi).toInt ∧ (heldF e lo hi).toInt ≤ hi.toInt := by
  unfold heldF
  split
  · omega
  · split
    · omega
    · rw [fa_lt] at *
      omega
theorem wool_b {d : Int32} (h1 : 0 ≤ d.toInt) (h2 : d.toInt ≤ 95) : 0 ≤ (woolF d).toInt ∧ (woolF d).toInt ≤ 27 := by
  unfold woolF
  have a : (40 : Int32).toInt = 40 := by decide
  split
  · rename_i h
    rw [fa_lt, a] at h
    have e : (d - 40).toInt = d.toInt - 40 := by rw [sb_i (by omega) (by omega), a]
    rw [dv_i (by omega) (by decide), l_2, e]
    omega
  · decide
theorem shr_b {c d t : Int32} (h1 : 0 ≤ d.toInt) (h2 : d.toInt ≤ 95) : 0 ≤ (shrF c d t).toInt ∧ (shrF c d t).toInt ≤ 54 := by
  have hw := wool_b h1 h2
  have hd : (d / 20).toInt = d.toInt / 20 := by rw [dv_i h1 (by decide), l_20]
  have h1' : (1 : Int32).toInt = 1 := by decide
  unfold shrF
  split
  · omega
  · split
    · omega
    · split
      · split <;> decide
      · split
        · split
          · rw [ml_i (by rw [l_2]; omega) (by rw [l_2]; omega), l_2]
            omega
          · omega
        · split
          · split
            · rw [ad_i (by omega) (by omega), hd, h1']
              omega
            · omega
          · decide
theorem fel_b {c s : Int32} (h1 : 0 ≤ s.toInt) (h2 : s.toInt ≤ 54) : 0 ≤ (felF c s).toInt ∧ (felF c s).toInt ≤ 19 := by
  have hd : (s / 3).toInt = s.toInt / 3 := by rw [dv_i h1 (by decide), l_3]
  have h1' : (1 : Int32).toInt = 1 := by decide
  unfold felF
  split
  · omega
  · split
    · split
      · rw [ad_i (by omega) (by omega), hd, h1']
        omega
      · decide
    · split <;> decide
theorem kee_b (c : Int32) : 0 ≤ (keeF c).toInt ∧ (keeF c).toInt ≤ 100 := by
  unfold keeF
  repeat' split
  all_goals decide
/-- a garment's numbers are as they may be -/
def okG (D : Nat) (v : Nat → Int32) : Prop := (0 ≤ (v 0).toInt ∧ (v 0).toInt ≤ 5) ∧ (10 ≤ (v 1).toInt ∧ (v 1).toInt ≤ 200) ∧ (10 ≤ (v 2).toInt ∧ (v 2).toInt ≤ 200) ∧ (1 ≤ (v 3).toInt ∧ (v 3).toInt ≤ 99) ∧ (0 ≤ (v 4).toInt ∧ (v 4).toInt ≤ 3) ∧ (0 ≤ (v 5).toInt ∧ (v 5).toInt ≤ D) ∧ (0 ≤ (v 6).toInt ∧ (v 6).toInt ≤ 9999)
def wshG (d t : Int32) (v : Nat → Int32) : Nat → Int32 := rw7 (v 0) (heldF (v 1 - v 1 * shrF (v 0) d t / 100) 10 200) (heldF (v 2 - v 2 * shrF (v 0) d t / 100) 10 200) (heldF (v 3 + felF (v 0) (shrF (v 0) d t)) 1 99) 3 0 (v 6) v
def wshN (d t : Int32) (v : Nat → Int32) : Nat → Nat → Int32
  | 0 => v
  | n + 1 => wshG d t (wshN d t v n)
def drwG (n : Int32) (v : Nat → Int32) : Nat → Int32 := rw7 (v 0) (heldF (v 1 + n) 10 200) (heldF (v 2 - n / 2) 10 200) (v 3) (v 4) (v 5 + n) (heldF (v 6 + if beaF (v 0) (v 3) (v 6) < v 5 + n then 1 else 0) 0 9999) v
def dryG (v : Nat → Int32) : Nat → Int32 := if 0 < v 4 then (if v 4 - 1 = 0 then rw7 (v 0) (heldF (v 1 - v 5 * (100 - keeF (v 0)) / 100) 10 200) (v 2) (v 3) (v 4 - 1) 0 (v 6) v else rw7 (v 0) (v 1) (v 2) (v 3) (v 4 - 1) (v 5) (v 6) v) else v
def dryN (v : Nat → Int32) : Nat → Nat → Int32
  | 0 => v
  | n + 1 => dryG (dryN v n)
def newG (c : Int32) (v : Nat → Int32) : Nat → Int32 := rw7 c 100 100 10 0 0 0 v
def cpG (w v : Nat → Int32) : Nat → Int32 := rw7 (w 0) (w 1) (w 2) (w 3) (w 4) (w 5) (w 6) v
abbrev fitP (v : Nat → Int32) (pl pb : Int32) : Prop := v 4 = 0 ∧ v 6 = 0 ∧ (0 ≤ v 1 - pl ∧ v 1 - pl ≤ 10) ∧ (0 ≤ v 2 - pb ∧ v 2 - pb ≤ 15)
theorem ok_wsh {D : Nat} {d t : Int32} {v : Nat → Int32} (h : okG D v) (h1 : 0 ≤ d.toInt) (h2 : d.toInt ≤ 95) : okG D (wshG d t v) := by
  obtain ⟨a0, a1, a2, a3, a4, a5, a6⟩ := h
  have g1 := held_b (e := v 1 - v 1 * shrF (v 0) d t / 100) (lo := 10) (hi := 200) (by decide)
  have g2 := held_b (e := v 2 - v 2 * shrF (v 0) d t / 100) (lo := 10) (hi := 200) (by decide)
  have g3 := held_b (e := v 3 + felF (v 0) (shrF (v 0) d t)) (lo := 1) (hi := 99) (by decide)
  refine ⟨a0, ⟨g1.1, g1.2⟩, ⟨g2.1, g2.2⟩, ⟨g3.1, g3.2⟩, ⟨by show 0 ≤ (3 : Int32).toInt; decide, by show (3 : Int32).toInt ≤ 3; decide⟩, ⟨by show 0 ≤ (0 : Int32).toInt; decide, ?_⟩, a6⟩
  show (0 : Int32).toInt ≤ _
  have : (0 : Int32).toInt = 0 := by decide
  omega
theorem ok_wshN {D : Nat} {d t : Int32} {v : Nat → Int32} (h : okG D v) (h1 : 0 ≤ d.toInt) (h2 : d.toInt ≤ 95) : ∀ n, okG D (wshN d t v n)
  | 0 => h
  | n + 1 => ok_wsh (ok_wshN h h1 h2 n) h1 h2
theorem ok_drw {D : Nat} {n : Int32} {v : Nat → Int32} (h : okG D v) (hD : D ≤ 100000000) (h1 : 0 ≤ n.toInt) (h2 : n.toInt ≤ 50) : okG (D + 50) (drwG n v) := by
  obtain ⟨a0, a1, a2, a3, a4, a5, a6⟩ := h
  have g1 := held_b (e := v 1 + n) (lo := 10) (hi := 200) (by decide)
  have g2 := held_b (e := v 2 - n / 2) (lo := 10) (hi := 200) (by decide)
  have g6 := held_b (e := v 6 + if beaF (v 0) (v 3) (v 6) < v 5 + n then 1 else 0) (lo := 0) (hi := 9999) (by decide)
  have e5 : (v 5 + n).toInt = (v 5).toInt + n.toInt := ad_i (by omega) (by omega)
  refine ⟨a0, ⟨g1.1, g1.2⟩, ⟨g2.1, g2.2⟩, a3, a4, ⟨?_, ?_⟩, ⟨g6.1, g6.2⟩⟩
  · show 0 ≤ (v 5 + n).toInt
    omega
  · show (v 5 + n).toInt ≤ _
    omega
theorem okG.up {D D' : Nat} {v : Nat → Int32} (h : okG D v) (hD : D ≤ D') : okG D' v := by
  obtain ⟨a0, a1, a2, a3, a4, a5, a6⟩ := h
  exact ⟨a0, a1, a2, a3, a4, ⟨a5.1, by omega⟩, a6⟩
theorem ok_dry {D : Nat} {v : Nat → Int32} (h : okG D v) : okG D (dryG v) := by
  obtain ⟨a0, a1, a2, a3, a4, a5, a6⟩ := h
  have g1 := held_b (e := v 1 - v 5 * (100 - keeF (v 0)) / 100) (lo := 10) (hi := 200) (by decide)
  have z : (0 : Int32).toInt = 0 := by decide
  have o : (1 : Int32).toInt = 1 := by decide
  unfold dryG
  split
  · rename_i hw
    rw [fa_lt, z] at hw
    have e4 : (v 4 - 1).toInt = (v 4).toInt - 1 := by rw [sb_i (by omega) (by omega), o]
    split
    · refine ⟨a0, ⟨g1.1, g1.2⟩, a2, a3, ⟨?_, ?_⟩, ⟨?_, ?_⟩, a6⟩
      · show 0 ≤ (v 4 - 1).toInt
        omega
      · show (v 4 - 1).toInt ≤ 3
        omega
      · show 0 ≤ (0 : Int32).toInt
        omega
      · show (0 : Int32).toInt ≤ _
        omega
    · refine ⟨a0, a1, a2, a3, ⟨?_, ?_⟩, a5, a6⟩
      · show 0 ≤ (v 4 - 1).toInt
        omega
      · show (v 4 - 1).toInt ≤ 3
        omega
  · exact ⟨a0, a1, a2, a3, a4, a5, a6⟩
theorem ok_dryN {D : Nat} {v : Nat → Int32} (h : okG D v) : ∀ n, okG D (dryN v n)
  | 0 => h
  | n + 1 => ok_dry (ok_dryN h n)
theorem back_b {D : Nat} {x k : Int32} (hD : D ≤ 20000000) (h1 : 0 ≤ x.toInt) (h2 : x.toInt ≤ D) (h3 : 0 ≤ k.toInt) (h4 : k.toInt ≤ 100) : 0 ≤ (x * (100 - k) / 100).toInt ∧ (x * (100 - k) / 100).toInt ≤ D := by
  have e0 : (100 - k).toInt = 100 - k.toInt := by rw [sb_i (by rw [l_100]; omega) (by rw [l_100]; omega), l_100]
  have p0 : 0 ≤ x.toInt * (100 - k.toInt) := Int.mul_nonneg h1 (by omega)
  have p1 : x.toInt * (100 - k.toInt) ≤ x.toInt * 100 := Int.mul_le_mul_of_nonneg_left (by omega) h1
  have e1 : (x * (100 - k)).toInt = x.toInt * (100 - k.toInt) := by rw [ml_i (by rw [e0]; omega) (by rw [e0]; omega), e0]
  rw [dv_i (by rw [e1]; exact p0) (by decide), e1, l_100]
  omega
