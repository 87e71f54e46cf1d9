/-! the constructors that make little -/
def mI : Mm := fun k j => if ((k = 8 ∨ k = 25 ∨ k = 42) ∧ j = 6) ∨ (k = 73 ∧ j = 3) then 40 else 0
def LI : Ml := fun _ _ => 0
theorem mI_0 {k j : Nat} (h : ¬ (((k = 8 ∨ k = 25 ∨ k = 42) ∧ j = 6) ∨ (k = 73 ∧ j = 3))) : mI k j = 0 := if_neg h
section CT1
variable {E : EVt} {h : AHt} {Q : Value → AHt → Prop} {n a : Nat}
theorem ct_X4_init {ci : Nat} {num : Int32} {ab : Value} (f1 : FF RX4 9 ci 0 .int) (f2 : FF RX4 15 ci 1 (.object RX4)) (hab : ab = .null ∨ ∃ r, ab = .ref r) (ha : a < n) (hh : h a = .inr (ci, [.int 0, .null])) (k : NH h a (.inr (ci, [.int num, ab])) (Q .null)) : CT E 2 MX4_init (n, 0, 0) [.ref (ev_z E + a), .int num, ab] h Q := by
  rcases hab with rfl | ⟨r, rfl⟩
  · refine CT.of rfl (Nat.le_of_ble_eq_true rfl) (lv := [(0, _), (1, _), (2, _)]) rfl ?_
    refine aw_aload_n (i := 0) (q := 1) dX4_init_0 rfl rfl rfl ?_
    refine aw_objInit (q := 4) lkX4_3 dX4_init_1 (Nat.le_of_ble_eq_true rfl) (Nat.le_of_ble_eq_true rfl) rfl ?_
    refine aw_aload_n (i := 0) (q := 5) dX4_init_4 rfl rfl rfl ?_
    refine aw_iload_n (i := 1) (q := 6) dX4_init_5 rfl rfl rfl ?_
    refine an_putF (q := 9) f1 rfl dX4_init_6 ha hh (Nat.le_of_ble_eq_true rfl) rfl rfl rfl ?_
    intro h1 e1 o1
    refine aw_aload_n (i := 0) (q := 10) dX4_init_9 rfl rfl rfl ?_
    refine aw_aload_nN (i := 2) (q := 11) dX4_init_10 rfl rfl rfl ?_
    refine an_putF (q := 14) f2 rfl dX4_init_11 ha e1 (Nat.le_of_ble_eq_true rfl) rfl rfl rfl ?_
    intro h2 e2 o2
    refine aw_return dX4_init_14 rfl (Nat.le_of_ble_eq_true rfl) rfl ?_
    exact k h2 e2 (fun j hj => (o2 j hj).trans (o1 j hj))
  · refine CT.of rfl (Nat.le_of_ble_eq_true rfl) (lv := [(0, _), (1, _), (2, _)]) rfl ?_
    refine aw_aload_n (i := 0) (q := 1) dX4_init_0 rfl rfl rfl ?_
    refine aw_objInit (q := 4) lkX4_3 dX4_init_1 (Nat.le_of_ble_eq_true rfl) (Nat.le_of_ble_eq_true rfl) rfl ?_
    refine aw_aload_n (i := 0) (q := 5) dX4_init_4 rfl rfl rfl ?_
    refine aw_iload_n (i := 1) (q := 6) dX4_init_5 rfl rfl rfl ?_
    refine an_putF (q := 9) f1 rfl dX4_init_6 ha hh (Nat.le_of_ble_eq_true rfl) rfl rfl rfl ?_
    intro h1 e1 o1
    refine aw_aload_n (i := 0) (q := 10) dX4_init_9 rfl rfl rfl ?_
    refine aw_aload_n (i := 2) (q := 11) dX4_init_10 rfl rfl rfl ?_
    refine an_putF (q := 14) f2 rfl dX4_init_11 ha e1 (Nat.le_of_ble_eq_true rfl) rfl rfl rfl ?_
    intro h2 e2 o2
    refine aw_return dX4_init_14 rfl (Nat.le_of_ble_eq_true rfl) rfl ?_
    exact k h2 e2 (fun j hj => (o2 j hj).trans (o1 j hj))
theorem ct_X10_init {ci : Nat} {num : Int32} {ab : Value} (f1 : FF RX4 9 ci 0 .int) (f2 : FF RX4 15 ci 1 (.object RX4)) (hab : ab = .null ∨ ∃ r, ab = .ref r) (ha : a < n) (hh : h a = .inr (ci, [.int 0, .null])) (k : NH h a (.inr (ci, [.int num, ab])) (Q .null)) : CT E 3 MX10_init (n, 0, 0) [.ref (ev_z E + a), .int num, ab] h Q := by
  rcases hab with rfl | ⟨r, rfl⟩
  · refine CT.of rfl (Nat.le_of_ble_eq_true rfl) (lv := [(0, _), (1, _), (2, _)]) rfl ?_
    refine aw_aload_n (i := 0) (q := 1) dX10_init_0 rfl rfl rfl ?_
    refine aw_iload_n (i := 1) (q := 2) dX10_init_1 rfl rfl rfl ?_
    refine aw_aload_nN (i := 2) (q := 3) dX10_init_2 rfl rfl rfl ?_
    refine aw_callI (As := [.int num, .null]) (rest := []) (mc := 0) (ms := 0) (d' := 2) (q := 6) lkX10_1 dX10_init_3 (Nat.le_of_ble_eq_true rfl) rfl rfl (Nat.le_of_ble_eq_true rfl) (Nat.le_of_ble_eq_true rfl) (Nat.le_of_ble_eq_true rfl) rfl ?_
    refine ct_X4_init (n := n) f1 f2 (Or.inl rfl) ha hh ?_
    intro h1 e1 o1
    refine aw_return dX10_init_6 rfl (Nat.le_of_ble_eq_true rfl) rfl ?_
    exact k h1 e1 o1
  · refine CT.of rfl (Nat.le_of_ble_eq_true rfl) (lv := [(0, _), (1, _), (2, _)]) rfl ?_
    refine aw_aload_n (i := 0) (q := 1) dX10_init_0 rfl rfl rfl ?_
    refine aw_iload_n (i := 1) (q := 2) dX10_init_1 rfl rfl rfl ?_
    refine aw_aload_n (i := 2) (q := 3) dX10_init_2 rfl rfl rfl ?_
    refine aw_callI (As := [.int num, .ref r]) (rest := []) (mc := 0) (ms := 0) (d' := 2) (q := 6) lkX10_1 dX10_init_3 (Nat.le_of_ble_eq_true rfl) rfl rfl (Nat.le_of_ble_eq_true rfl) (Nat.le_of_ble_eq_true rfl) (Nat.le_of_ble_eq_true rfl) rfl ?_
    refine ct_X4_init (n := n) f1 f2 (Or.inr ⟨r, rfl⟩) ha hh ?_
    intro h1 e1 o1
    refine aw_return dX10_init_6 rfl (Nat.le_of_ble_eq_true rfl) rfl ?_
    exact k h1 e1 o1
theorem ct_X1_init {ci : Nat} {num : Int32} {ab : Value} (f1 : FF RX4 9 ci 0 .int) (f2 : FF RX4 15 ci 1 (.object RX4)) (hab : ab = .null ∨ ∃ r, ab = .ref r) (ha : a < n) (hh : h a = .inr (ci, [.int 0, .null])) (k : NH h a (.inr (ci, [.int num, ab])) (Q .null)) : CT E 3 MX1_init (n, 0, 0) [.ref (ev_z E + a), .int num, ab] h Q := by
  rcases hab with rfl | ⟨r, rfl⟩
  · refine CT.of rfl (Nat.le_of_ble_eq_true rfl) (lv := [(0, _), (1, _), (2, _)]) rfl ?_
    refine aw_aload_n (i := 0) (q := 1) dX1_init_0 rfl rfl rfl ?_
    refine aw_iload_n (i := 1) (q := 2) dX1_init_1 rfl rfl rfl ?_
    refine aw_aload_nN (i := 2) (q := 3) dX1_init_2 rfl rfl rfl ?_
    refine aw_callI (As := [.int num, .null]) (rest := []) (mc := 0) (ms := 0) (d' := 2) (q := 6) lkX1_1 dX1_init_3 (Nat.le_of_ble_eq_true rfl) rfl rfl (Nat.le_of_ble_eq_true rfl) (Nat.le_of_ble_eq_true rfl) (Nat.le_of_ble_eq_true rfl) rfl ?_
    refine ct_X4_init (n := n) f1 f2 (Or.inl rfl) ha hh ?_
    intro h1 e1 o1
    refine aw_return dX1_init_6 rfl (Nat.le_of_ble_eq_true rfl) rfl ?_
    exact k h1 e1 o1
  · refine CT.of rfl (Nat.le_of_ble_eq_true rfl) (lv := [(0, _), (1, _), (2, _)]) rfl ?_
    refine aw_aload_n (i := 0) (q := 1) dX1_init_0 rfl rfl rfl ?_
    refine aw_iload_n (i := 1) (q := 2) dX1_init_1 rfl rfl rfl ?_
    refine aw_aload_n (i := 2) (q := 3) dX1_init_2 rfl rfl rfl ?_
    refine aw_callI (As := [.int num, .ref r]) (rest := []) (mc := 0) (ms := 0) (d' := 2) (q := 6) lkX1_1 dX1_init_3 (Nat.le_of_ble_eq_true rfl) rfl rfl (Nat.le_of_ble_eq_true rfl) (Nat.le_of_ble_eq_true rfl) (Nat.le_of_ble_eq_true rfl) rfl ?_
    refine ct_X4_init (n := n) f1 f2 (Or.inr ⟨r, rfl⟩) ha hh ?_
    intro h1 e1 o1
    refine aw_return dX1_init_6 rfl (Nat.le_of_ble_eq_true rfl) rfl ?_
    exact k h1 e1 o1
theorem ct_X7_init {ci : Nat} {num : Int32} {ab : Value} (f1 : FF RX4 9 ci 0 .int) (f2 : FF RX4 15 ci 1 (.object RX4)) (hab : ab = .null ∨ ∃ r, ab = .ref r) (ha : a < n) (hh : h a = .inr (ci, [.int 0, .null])) (k : NH h a (.inr (ci, [.int num, ab])) (Q .null)) : CT E 3 MX7_init (n, 0, 0) [.ref (ev_z E + a), .int num, ab] h Q := by
  rcases hab with rfl | ⟨r, rfl⟩
  · refine CT.of rfl (Nat.le_of_ble_eq_true rfl) (lv := [(0, _), (1, _), (2, _)]) rfl ?_
    refine aw_aload_n (i := 0) (q := 1) dX7_init_0 rfl rfl rfl ?_
    refine aw_iload_n (i := 1) (q := 2) dX7_init_1 rfl rfl rfl ?_
    refine aw_aload_nN (i := 2) (q := 3) dX7_init_2 rfl rfl rfl ?_
    refine aw_callI (As := [.int num, .null]) (rest := []) (mc := 0) (ms := 0) (d' := 2) (q := 6) lkX7_1 dX7_init_3 (Nat.le_of_ble_eq_true rfl) rfl rfl (Nat.le_of_ble_eq_true rfl) (Nat.le_of_ble_eq_true rfl) (Nat.le_of_ble_eq_true rfl) rfl ?_
    refine ct_X4_init (n := n) f1 f2 (Or.inl rfl) ha hh ?_
    intro h1 e1 o1
    refine aw_return dX7_init_6 rfl (Nat.le_of_ble_eq_true rfl) rfl ?_
    exact k h1 e1 o1
  · refine CT.of rfl (Nat.le_of_ble_eq_true rfl) (lv := [(0, _), (1, _), (2, _)]) rfl ?_
    refine aw_aload_n (i := 0) (q := 1) dX7_init_0 rfl rfl rfl ?_
    refine aw_iload_n (i := 1) (q := 2) dX7_init_1 rfl rfl rfl ?_
    refine aw_aload_n (i := 2) (q := 3) dX7_init_2 rfl rfl rfl ?_
    refine aw_callI (As := [.int num, .ref r]) (rest := []) (mc := 0) (ms := 0) (d' := 2) (q := 6) lkX7_1 dX7_init_3 (Nat.le_of_ble_eq_true rfl) rfl rfl (Nat.le_of_ble_eq_true rfl) (Nat.le_of_ble_eq_true rfl) (Nat.le_of_ble_eq_true rfl) rfl ?_
    refine ct_X4_init (n := n) f1 f2 (Or.inr ⟨r, rfl⟩) ha hh ?_
    intro h1 e1 o1
    refine aw_return dX7_init_6 rfl (Nat.le_of_ble_eq_true rfl) rfl ?_
    exact k h1 e1 o1
theorem ct_X3_init {ci : Nat} {num : Int32} {ab : Value} (f1 : FF RX4 9 ci 0 .int) (f2 : FF RX4 15 ci 1 (.object RX4)) (hab : ab = .null ∨ ∃ r, ab = .ref r) (ha : a < n) (hh : h a = .inr (ci, [.int 0, .null])) (k : NH h a (.inr (ci, [.int num, ab])) (Q .null)) : CT E 4 MX3_init (n, 0, 0) [.ref (ev_z E + a), .int num, ab] h Q := by
  rcases hab with rfl | ⟨r, rfl⟩
  · refine CT.of rfl (Nat.le_of_ble_eq_true rfl) (lv := [(0, _), (1, _), (2, _)]) rfl ?_
    refine aw_aload_n (i := 0) (q := 1) dX3_init_0 rfl rfl rfl ?_
    refine aw_iload_n (i := 1) (q := 2) dX3_init_1 rfl rfl rfl ?_
    refine aw_aload_nN (i := 2) (q := 3) dX3_init_2 rfl rfl rfl ?_
    refine aw_callI (As := [.int num, .null]) (rest := []) (mc := 0) (ms := 0) (d' := 3) (q := 6) lkX3_1 dX3_init_3 (Nat.le_of_ble_eq_true rfl) rfl rfl (Nat.le_of_ble_eq_true rfl) (Nat.le_of_ble_eq_true rfl) (Nat.le_of_ble_eq_true rfl) rfl ?_
    refine ct_X10_init (n := n) f1 f2 (Or.inl rfl) ha hh ?_
    intro h1 e1 o1
    refine aw_return dX3_init_6 rfl (Nat.le_of_ble_eq_true rfl) rfl ?_
    exact k h1 e1 o1
  · refine CT.of rfl (Nat.le_of_ble_eq_true rfl) (lv := [(0, _), (1, _), (2, _)]) rfl ?_
    refine aw_aload_n (i := 0) (q := 1) dX3_init_0 rfl rfl rfl ?_
    refine aw_iload_n (i := 1) (q := 2) dX3_init_1 rfl rfl rfl ?_
    refine aw_aload_n (i := 2) (q := 3) dX3_init_2 rfl rfl rfl ?_
    refine aw_callI (As := [.int num, .ref r]) (rest := []) (mc := 0) (ms := 0) (d' := 3) (q := 6) lkX3_1 dX3_init_3 (Nat.le_of_ble_eq_true rfl) rfl rfl (Nat.le_of_ble_eq_true rfl) (Nat.le_of_ble_eq_true rfl) (Nat.le_of_ble_eq_true rfl) rfl ?_
    refine ct_X10_init (n := n) f1 f2 (Or.inr ⟨r, rfl⟩) ha hh ?_
    intro h1 e1 o1
    refine aw_return dX3_init_6 rfl (Nat.le_of_ble_eq_true rfl) rfl ?_
    exact k h1 e1 o1
theorem ct_X8_init {ci : Nat} {num : Int32} {ab : Value} (f1 : FF RX4 9 ci 0 .int) (f2 : FF RX4 15 ci 1 (.object RX4)) (hab : ab = .null ∨ ∃ r, ab = .ref r) (ha : a < n) (hh : h a = .inr (ci, [.int 0, .null])) (k : NH h a (.inr (ci, [.int num, ab])) (Q .null)) : CT E 4 MX8_init (n, 0, 0) [.ref (ev_z E + a), .int num, ab] h Q := by
  rcases hab with rfl | ⟨r, rfl⟩
  · refine CT.of rfl (Nat.le_of_ble_eq_true rfl) (lv := [(0, _), (1, _), (2, _)]) rfl ?_
    refine aw_aload_n (i := 0) (q := 1) dX8_init_0 rfl rfl rfl ?_
    refine aw_iload_n (i := 1) (q := 2) dX8_init_1 rfl rfl rfl ?_
    refine aw_aload_nN (i := 2) (q := 3) dX8_init_2 rfl rfl rfl ?_
    refine aw_callI (As := [.int num, .null]) (rest := []) (mc := 0) (ms := 0) (d' := 3) (q := 6) lkX8_1 dX8_init_3 (Nat.le_of_ble_eq_true rfl) rfl rfl (Nat.le_of_ble_eq_true rfl) (Nat.le_of_ble_eq_true rfl) (Nat.le_of_ble_eq_true rfl) rfl ?_
    refine ct_X1_init (n := n) f1 f2 (Or.inl rfl) ha hh ?_
    intro h1 e1 o1
    refine aw_return dX8_init_6 rfl (Nat.le_of_ble_eq_true rfl) rfl ?_
    exact k h1 e1 o1
  · refine CT.of rfl (Nat.le_of_ble_eq_true rfl) (lv := [(0, _), (1, _), (2, _)]) rfl ?_
    refine aw_aload_n (i := 0) (q := 1) dX8_init_0 rfl rfl rfl ?_
    refine aw_iload_n (i := 1) (q := 2) dX8_init_1 rfl rfl rfl ?_
    refine aw_aload_n (i := 2) (q := 3) dX8_init_2 rfl rfl rfl ?_
    refine aw_callI (As := [.int num, .ref r]) (rest := []) (mc := 0) (ms := 0) (d' := 3) (q := 6) lkX8_1 dX8_init_3 (Nat.le_of_ble_eq_true rfl) rfl rfl (Nat.le_of_ble_eq_true rfl) (Nat.le_of_ble_eq_true rfl) (Nat.le_of_ble_eq_true rfl) rfl ?_
    refine ct_X1_init (n := n) f1 f2 (Or.inr ⟨r, rfl⟩) ha hh ?_
    intro h1 e1 o1
    refine aw_return dX8_init_6 rfl (Nat.le_of_ble_eq_true rfl) rfl ?_
    exact k h1 e1 o1
abbrev gF0 (v : Value) : List Value := [v, .int 0, .int 0, .int 0, .int 0, .int 0, .int 0]
theorem ct_X2_init {r : Nat} (ha : a < n) (hh : h a = .inr (2, gF0 .null)) (k : NH h a (.inr (2, gF0 (.ref r))) (Q .null)) : CT E 2 MX2_init (n, 0, 0) [.ref (ev_z E + a), .ref r] h Q := by
  refine CT.of rfl (Nat.le_of_ble_eq_true rfl) (lv := [(0, _), (1, _)]) rfl ?_
  refine aw_aload_n (i := 0) (q := 1) dX2_init_0 rfl rfl rfl ?_
  refine aw_objInit (q := 4) lkX2_3 dX2_init_1 (Nat.le_of_ble_eq_true rfl) (Nat.le_of_ble_eq_true rfl) rfl ?_
  refine aw_aload_n (i := 0) (q := 5) dX2_init_4 rfl rfl rfl ?_
  refine aw_aload_n (i := 1) (q := 6) dX2_init_5 rfl rfl rfl ?_
  refine an_put (q := 9) fpX2_9 dX2_init_6 ha hh (Nat.le_of_ble_eq_true rfl) rfl rfl rfl ?_
  intro h1 e1 o1
  refine aw_return dX2_init_9 rfl (Nat.le_of_ble_eq_true rfl) rfl ?_
  exact k h1 e1 o1
theorem ct_X5_init (k : Q .null h) : CT E 2 MX5_init (n, 0, 0) [.ref (ev_z E + a)] h Q := by
  refine CT.of rfl (Nat.le_of_ble_eq_true rfl) (lv := [(0, _)]) rfl ?_
  refine aw_aload_n (i := 0) (q := 1) dX5_init_0 rfl rfl rfl ?_
  refine aw_objInit (q := 4) lkX5_1 dX5_init_1 (Nat.le_of_ble_eq_true rfl) (Nat.le_of_ble_eq_true rfl) rfl ?_
  refine aw_return dX5_init_4 rfl (Nat.le_of_ble_eq_true rfl) rfl ?_
  exact k
theorem ct_X6_init (ha : a < n) (hh : h a = .inr (6, [.null, .int 0, .int 0])) (k : ∀ h2, h2 a = .inr (6, [(.ref (ev_z E + n)), .int 0, .int 0]) → h2 n = aL (ev_cy E 1) 40 (fun _ => 0) → (∀ j, j ≠ a → j ≠ n → h2 j = h j) → Q .null h2) : CT E 2 MX6_init (n, 1, 40) [.ref (ev_z E + a)] h Q := by
  refine CT.of rfl (Nat.le_of_ble_eq_true rfl) (lv := [(0, _)]) rfl ?_
  refine aw_aload_n (i := 0) (q := 1) dX6_init_0 rfl rfl rfl ?_
  refine aw_objInit (q := 4) lkX6_3 dX6_init_1 (Nat.le_of_ble_eq_true rfl) (Nat.le_of_ble_eq_true rfl) rfl ?_
  refine aw_aload_n (i := 0) (q := 5) dX6_init_4 rfl rfl rfl ?_
  refine aw_bipush (v := 40) (q := 7) dX6_init_5 rfl rfl ?_
  refine an_newa (a := n) (atype := .long) (t := 1) (N' := 40) (a0 := (40, .inr (.inl (fun _ => 0)))) (q := 9) dX6_init_7 rfl rfl (fun C q => by cases q) w_245 (fun _ => rfl) (by decide) (by decide) (by decide) (Nat.le_of_ble_eq_true rfl) (Nat.le_of_ble_eq_true rfl) rfl rfl ?_
  intro h1 e1 o1
  refine an_putF (q := 12) ffX6_9 rfl dX6_init_9 (Nat.lt_succ_of_lt ha) ((o1 a (Nat.ne_of_lt ha)).trans hh) (Nat.le_of_ble_eq_true rfl) rfl rfl rfl ?_
  intro h2 e2 o2
  refine aw_return dX6_init_12 rfl (Nat.le_of_ble_eq_true rfl) rfl ?_
  exact k h2 e2 ((o2 n (Nat.ne_of_gt ha)).trans e1) (fun j h1 h3 => (o2 j h1).trans (o1 j h3))
theorem ct_X9_init (ha : a < n) (hh : h a = .inr (9, [.null, .int 0, .int 0, .int 0, .int 0, .int 0, .int 0, .int 0])) (k : ∀ h2, h2 a = .inr (9, [(.ref (ev_z E + n)), .int 0, .int 0, .int 0, .int 0, .int 0, .int 0, .int 0]) → h2 n = aI (ev_cy E 2) 120 (fun _ => 0) → (∀ j, j ≠ a → j ≠ n → h2 j = h j) → Q .null h2) : CT E 2 MX9_init (n, 1, 120) [.ref (ev_z E + a)] h Q := by
  refine CT.of rfl (Nat.le_of_ble_eq_true rfl) (lv := [(0, _)]) rfl ?_
  refine aw_aload_n (i := 0) (q := 1) dX9_init_0 rfl rfl rfl ?_
  refine aw_objInit (q := 4) lkX9_3 dX9_init_1 (Nat.le_of_ble_eq_true rfl) (Nat.le_of_ble_eq_true rfl) rfl ?_
  refine aw_aload_n (i := 0) (q := 5) dX9_init_4 rfl rfl rfl ?_
  refine aw_bipush (v := 120) (q := 7) dX9_init_5 rfl rfl ?_
  refine an_newa (a := n) (atype := .byte) (t := 2) (N' := 120) (a0 := (120, .inl (fun _ => 0))) (q := 9) dX9_init_7 rfl rfl (fun C q => by cases q) w_224 (fun _ => rfl) (by decide) (by decide) (by decide) (Nat.le_of_ble_eq_true rfl) (Nat.le_of_ble_eq_true rfl) rfl rfl ?_
  intro h1 e1 o1
  refine an_putF (q := 12) ffX9_9 rfl dX9_init_9 (Nat.lt_succ_of_lt ha) ((o1 a (Nat.ne_of_lt ha)).trans hh) (Nat.le_of_ble_eq_true rfl) rfl rfl rfl ?_
  intro h2 e2 o2
  refine aw_return dX9_init_12 rfl (Nat.le_of_ble_eq_true rfl) rfl ?_
  exact k h2 e2 ((o2 n (Nat.ne_of_gt ha)).trans e1) (fun j h1 h3 => (o2 j h1).trans (o1 j h3))
end CT1
