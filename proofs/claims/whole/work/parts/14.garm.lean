/-! calls of a kind; the garment's methods -/
section KV
variable {E : EVt} {d : Nat} {M : MDt} {pc q : Nat} {lv : List (Nat × Value)} {m : Mm} {L : Ml} {Q : Value → Mm → Ml → Prop}
theorem kref_o {c : Int32} (e1 : ¬ c = 1) (e2 : ¬ c = 2) (e3 : ¬ c = 3) (e4 : ¬ c = 4) (e5 : ¬ c = 5) : kref c = 1 := by
  unfold kref
  rw [if_neg e1, if_neg e2, if_neg e3, if_neg e4, if_neg e5]
theorem wk_kshr {ix : Nat} {c dg tw : Int32} {rest : List Value} (h1 : MLO M.1.cls ix RX1 RX4 yX4_shrinks MX1_shrinks 2) (h3 : MLO M.1.cls ix RX3 RX4 yX4_shrinks MX3_shrinks 2) (h4 : MLO M.1.cls ix RX4 RX4 yX4_shrinks MX4_shrinks 2) (h7 : MLO M.1.cls ix RX7 RX4 yX4_shrinks MX7_shrinks 2) (h8 : MLO M.1.cls ix RX8 RX4 yX4_shrinks MX8_shrinks 2) (h10 : MLO M.1.cls ix RX10 RX4 yX4_shrinks MX10_shrinks 2) (hd : decode M.2.1 pc = .ok (.invokevirtual ix, 3)) (hdd : Nat.ble 3 d = true) (hrm : Nat.ble (rest.map fun v => v.category).sum 8 = true) (hq : pc + 3 = q) (kk : WK E d M q lv (.int (shrF c dg tw) :: rest) m L Q) : WK E d M pc lv (.int tw :: .int dg :: .ref (ev_z E + kref c) :: rest) m L Q := by
  have hdn := Nat.le_of_ble_eq_true hdd
  by_cases e1 : c = 1
  · subst e1
    refine wk_O2r (d' := 1) (s := 10) (k := 2) (r := (RX10, TX10, 2)) h10 hd rfl rfl rfl rfl (Nat.ble_eq_true_of_le (by omega)) hrm hq (ck_X10_shrinks ?_)
    exact kk
  by_cases e2 : c = 2
  · subst e2
    refine wk_O2r (d' := 1) (s := 1) (k := 3) (r := (RX1, TX1, 2)) h1 hd rfl rfl rfl rfl (Nat.ble_eq_true_of_le (by omega)) hrm hq (ck_X1_shrinks ?_)
    exact kk
  by_cases e3 : c = 3
  · subst e3
    refine wk_O2r (d' := 1) (s := 7) (k := 4) (r := (RX7, TX7, 2)) h7 hd rfl rfl rfl rfl (Nat.ble_eq_true_of_le (by omega)) hrm hq (ck_X7_shrinks ?_)
    exact kk
  by_cases e4 : c = 4
  · subst e4
    refine wk_O2r (d' := 2) (s := 3) (k := 6) (r := (RX3, TX3, 2)) h3 hd rfl rfl rfl rfl (Nat.ble_eq_true_of_le (by omega)) hrm hq (ck_X3_shrinks ?_)
    exact kk
  by_cases e5 : c = 5
  · subst e5
    refine wk_O2r (d' := 2) (s := 8) (k := 7) (r := (RX8, TX8, 2)) h8 hd rfl rfl rfl rfl (Nat.ble_eq_true_of_le (by omega)) hrm hq (ck_X8_shrinks ?_)
    exact kk
  · rw [kref_o e1 e2 e3 e4 e5]
    refine wk_O2r (d' := 1) (s := 4) (k := 1) (r := (RX4, TX4, 2)) h4 hd rfl rfl rfl rfl (Nat.ble_eq_true_of_le (by omega)) hrm hq (ck_X4_shrinks ?_)
    unfold shrF at kk
    simp only [e1, e2, e3, e4, e5, if_false] at kk
    exact kk
theorem wk_kfel {ix : Nat} {c dg : Int32} {rest : List Value} (h1 : MLO M.1.cls ix RX1 RX4 yX4_felts MX4_felts 1) (h3 : MLO M.1.cls ix RX3 RX4 yX4_felts MX3_felts 1) (h4 : MLO M.1.cls ix RX4 RX4 yX4_felts MX4_felts 1) (h7 : MLO M.1.cls ix RX7 RX4 yX4_felts MX4_felts 1) (h8 : MLO M.1.cls ix RX8 RX4 yX4_felts MX8_felts 1) (h10 : MLO M.1.cls ix RX10 RX4 yX4_felts MX10_felts 1) (h0 : 0 ≤ dg) (hd : decode M.2.1 pc = .ok (.invokevirtual ix, 3)) (hdd : Nat.ble 3 d = true) (hrm : Nat.ble (rest.map fun v => v.category).sum 8 = true) (hq : pc + 3 = q) (kk : WK E d M q lv (.int (felF c dg) :: rest) m L Q) : WK E d M pc lv (.int dg :: .ref (ev_z E + kref c) :: rest) m L Q := by
  have hdn := Nat.le_of_ble_eq_true hdd
  by_cases e1 : c = 1
  · subst e1
    refine wk_O1r (d' := 1) (s := 10) (k := 2) (r := (RX10, TX10, 2)) h10 hd rfl rfl rfl rfl (Nat.ble_eq_true_of_le (by omega)) hrm hq (ck_X10_felts ?_)
    exact kk
  by_cases e2 : c = 2
  · subst e2
    refine wk_O1r (d' := 1) (s := 1) (k := 3) (r := (RX1, TX1, 2)) h1 hd rfl rfl rfl rfl (Nat.ble_eq_true_of_le (by omega)) hrm hq (ck_X4_felts ?_)
    exact kk
  by_cases e3 : c = 3
  · subst e3
    refine wk_O1r (d' := 1) (s := 7) (k := 4) (r := (RX7, TX7, 2)) h7 hd rfl rfl rfl rfl (Nat.ble_eq_true_of_le (by omega)) hrm hq (ck_X4_felts ?_)
    exact kk
  by_cases e4 : c = 4
  · subst e4
    refine wk_O1r (d' := 2) (s := 3) (k := 6) (r := (RX3, TX3, 2)) h3 hd rfl rfl rfl rfl (Nat.ble_eq_true_of_le (by omega)) hrm hq (ck_X3_felts ?_ h0)
    exact kk
  by_cases e5 : c = 5
  · subst e5
    refine wk_O1r (d' := 2) (s := 8) (k := 7) (r := (RX8, TX8, 2)) h8 hd rfl rfl rfl rfl (Nat.ble_eq_true_of_le (by omega)) hrm hq (ck_X8_felts ?_)
    exact kk
  · rw [kref_o e1 e2 e3 e4 e5]
    refine wk_O1r (d' := 1) (s := 4) (k := 1) (r := (RX4, TX4, 2)) h4 hd rfl rfl rfl rfl (Nat.ble_eq_true_of_le (by omega)) hrm hq (ck_X4_felts ?_)
    unfold felF at kk
    simp only [e1, e2, e3, e4, e5, if_false] at kk
    exact kk
theorem wk_kbea {ix : Nat} {c dg tw : Int32} {rest : List Value} (h1 : MLO M.1.cls ix RX1 RX4 yX4_bears MX1_bears 2) (h3 : MLO M.1.cls ix RX3 RX4 yX4_bears MX3_bears 2) (h4 : MLO M.1.cls ix RX4 RX4 yX4_bears MX4_bears 2) (h7 : MLO M.1.cls ix RX7 RX4 yX4_bears MX7_bears 2) (h8 : MLO M.1.cls ix RX8 RX4 yX4_bears MX8_bears 2) (h10 : MLO M.1.cls ix RX10 RX4 yX4_bears MX10_bears 2) (hd : decode M.2.1 pc = .ok (.invokevirtual ix, 3)) (hdd : Nat.ble 4 d = true) (hrm : Nat.ble (rest.map fun v => v.category).sum 8 = true) (hq : pc + 3 = q) (kk : WK E d M q lv (.int (beaF c dg tw) :: rest) m L Q) : WK E d M pc lv (.int tw :: .int dg :: .ref (ev_z E + kref c) :: rest) m L Q := by
  have hdn := Nat.le_of_ble_eq_true hdd
  by_cases e1 : c = 1
  · subst e1
    refine wk_O2r (d' := 2) (s := 10) (k := 2) (r := (RX10, TX10, 2)) h10 hd rfl rfl rfl rfl (Nat.ble_eq_true_of_le (by omega)) hrm hq (ck_X10_bears (Or.inl rfl) ?_)
    exact kk
  by_cases e2 : c = 2
  · subst e2
    refine wk_O2r (d' := 1) (s := 1) (k := 3) (r := (RX1, TX1, 2)) h1 hd rfl rfl rfl rfl (Nat.ble_eq_true_of_le (by omega)) hrm hq (ck_X1_bears ?_)
    exact kk
  by_cases e3 : c = 3
  · subst e3
    refine wk_O2r (d' := 2) (s := 7) (k := 4) (r := (RX7, TX7, 2)) h7 hd rfl rfl rfl rfl (Nat.ble_eq_true_of_le (by omega)) hrm hq (ck_X7_bears ?_)
    exact kk
  by_cases e4 : c = 4
  · subst e4
    refine wk_O2r (d' := 3) (s := 3) (k := 6) (r := (RX3, TX3, 2)) h3 hd rfl rfl rfl rfl (Nat.ble_eq_true_of_le (by omega)) hrm hq (ck_X3_bears ?_)
    exact kk
  by_cases e5 : c = 5
  · subst e5
    refine wk_O2r (d' := 2) (s := 8) (k := 7) (r := (RX8, TX8, 2)) h8 hd rfl rfl rfl rfl (Nat.ble_eq_true_of_le (by omega)) hrm hq (ck_X8_bears ?_)
    exact kk
  · rw [kref_o e1 e2 e3 e4 e5]
    refine wk_O2r (d' := 1) (s := 4) (k := 1) (r := (RX4, TX4, 2)) h4 hd rfl rfl rfl rfl (Nat.ble_eq_true_of_le (by omega)) hrm hq (ck_X4_bears ?_)
    unfold beaF at kk
    simp only [e1, e2, e3, e4, e5, if_false] at kk
    exact kk
theorem wk_kkee {ix : Nat} {c : Int32} {rest : List Value} (h1 : MLO M.1.cls ix RX1 RX4 yX4_keeps MX1_keeps 0) (h3 : MLO M.1.cls ix RX3 RX4 yX4_keeps MX3_keeps 0) (h4 : MLO M.1.cls ix RX4 RX4 yX4_keeps MX4_keeps 0) (h7 : MLO M.1.cls ix RX7 RX4 yX4_keeps MX7_keeps 0) (h8 : MLO M.1.cls ix RX8 RX4 yX4_keeps MX1_keeps 0) (h10 : MLO M.1.cls ix RX10 RX4 yX4_keeps MX4_keeps 0) (hd : decode M.2.1 pc = .ok (.invokevirtual ix, 3)) (hdd : Nat.ble 3 d = true) (hrm : Nat.ble (rest.map fun v => v.category).sum 8 = true) (hq : pc + 3 = q) (kk : WK E d M q lv (.int (keeF c) :: rest) m L Q) : WK E d M pc lv (.ref (ev_z E + kref c) :: rest) m L Q := by
  have hdn := Nat.le_of_ble_eq_true hdd
  by_cases e1 : c = 1
  · subst e1
    refine wk_O0r (d' := 1) (s := 10) (k := 2) (r := (RX10, TX10, 2)) h10 hd rfl rfl rfl rfl (Nat.ble_eq_true_of_le (by omega)) hrm hq (ck_X4_keeps ?_)
    exact kk
  by_cases e2 : c = 2
  · subst e2
    refine wk_O0r (d' := 1) (s := 1) (k := 3) (r := (RX1, TX1, 2)) h1 hd rfl rfl rfl rfl (Nat.ble_eq_true_of_le (by omega)) hrm hq (ck_X1_keeps ?_)
    exact kk
  by_cases e3 : c = 3
  · subst e3
    refine wk_O0r (d' := 2) (s := 7) (k := 4) (r := (RX7, TX7, 2)) h7 hd rfl rfl rfl rfl (Nat.ble_eq_true_of_le (by omega)) hrm hq (ck_X7_keeps ?_)
    exact kk
  by_cases e4 : c = 4
  · subst e4
    refine wk_O0r (d' := 2) (s := 3) (k := 6) (r := (RX3, TX3, 2)) h3 hd rfl rfl rfl rfl (Nat.ble_eq_true_of_le (by omega)) hrm hq (ck_X3_keeps ?_)
    exact kk
  by_cases e5 : c = 5
  · subst e5
    refine wk_O0r (d' := 1) (s := 8) (k := 7) (r := (RX8, TX8, 2)) h8 hd rfl rfl rfl rfl (Nat.ble_eq_true_of_le (by omega)) hrm hq (ck_X1_keeps ?_)
    exact kk
  · rw [kref_o e1 e2 e3 e4 e5]
    refine wk_O0r (d' := 1) (s := 4) (k := 1) (r := (RX4, TX4, 2)) h4 hd rfl rfl rfl rfl (Nat.ble_eq_true_of_le (by omega)) hrm hq (ck_X4_keeps ?_)
    unfold keeF at kk
    simp only [e1, e2, e3, e4, e5, if_false] at kk
    exact kk
end KV
theorem held_id {e lo hi : Int32} (h : lo.toInt ≤ e.toInt) (h2 : e.toInt ≤ hi.toInt) : heldF e lo hi = e := by
  unfold heldF
  rw [if_neg (by rw [fa_lt]; omega), if_neg (by rw [fa_lt]; omega)]
section GM
variable {E : EVt} {m : Mm} {L : Ml} {Q : Value → Mm → Ml → Prop} {k : Nat}
theorem ck_X2_goThroughWash {d t : Int32} {D : Nat} (hk : shp k = 2) (ho : okG D (m k)) (h1 : 0 ≤ d.toInt) (h2 : d.toInt ≤ 95) (hQ : Q .null (wr m k (wshG d t (m k))) L) : CK E 3 MX2_goThroughWash [.ref (ev_z E + k), .int d, .int t] m L Q := by
  refine CK.of rfl rfl (lv := [(0, _), (1, _), (2, _)]) rfl ?_
  refine wk_row (k := k) ?_
  have hs := shr_b (c := m k 0) (t := t) h1 h2
  have hf := fel_b (c := m k 0) hs.1 hs.2
  have z0 : (0 : Int32).toInt = 0 := by decide
  have h99 : (99 : Int32).toInt = 99 := by decide
  have h11 : (1 : Int32).toInt = 1 := by decide
  obtain ⟨o0, o1, o2, o3, o4, o5, o6⟩ := ho
  have w1 := wsh_le (x := m k 1) (s := shrF (m k 0) d t) (by omega) (by omega) hs.1 (by omega)
  have w2 := wsh_le (x := m k 2) (s := shrF (m k 0) d t) (by omega) (by omega) hs.1 (by omega)
  have w3 : (m k 3 + felF (m k 0) (shrF (m k 0) d t)).toInt = (m k 3).toInt + (felF (m k 0) (shrF (m k 0) d t)).toInt := ad_i (by omega) (by omega)
  refine wk_aload_n (i := 0) (q := 1) dX2_goThroughWash_0 rfl rfl rfl ?_
  refine wk_gG0 (q := 4) fgX2_9 dX2_goThroughWash_1 hk rfl ?_
  refine wk_iload_n (i := 1) (q := 5) dX2_goThroughWash_4 rfl rfl rfl ?_
  refine wk_iload_n (i := 2) (q := 6) dX2_goThroughWash_5 rfl rfl rfl ?_
  refine wk_kshr lkX2_34_1 lkX2_34_3 lkX2_34_4 lkX2_34_7 lkX2_34_8 lkX2_34_10  dX2_goThroughWash_6 rfl rfl (q := 9) rfl ?_
  refine wk_istore_n (i := 3) (q := 10) (lv' := [_, _, _, _]) dX2_goThroughWash_9 rfl rfl rfl rfl ?_
  refine wk_aload_n (i := 0) (q := 11) dX2_goThroughWash_10 rfl rfl rfl ?_
  refine wk_bipush (v := 10) (q := 13) dX2_goThroughWash_11 rfl rfl ?_
  refine wk_aload_n (i := 0) (q := 14) dX2_goThroughWash_13 rfl rfl rfl ?_
  refine wk_gG1 (q := 17) fgX2_15 dX2_goThroughWash_14 hk rfl ?_
  refine wk_aload_n (i := 0) (q := 18) dX2_goThroughWash_17 rfl rfl rfl ?_
  refine wk_gG1 (q := 21) fgX2_15 dX2_goThroughWash_18 hk rfl ?_
  refine wk_iload_n (i := 3) (q := 22) dX2_goThroughWash_21 rfl rfl rfl ?_
  refine wk_imul (q := 23) dX2_goThroughWash_22 rfl ?_
  refine wk_bipush (v := 100) (q := 25) dX2_goThroughWash_23 rfl rfl ?_
  refine wk_idiv (q := 26) dX2_goThroughWash_25 (by decide) rfl ?_
  refine wk_isub (q := 27) dX2_goThroughWash_26 rfl ?_
  refine wk_mmax (q := 30) lkX2_40 dX2_goThroughWash_27 rfl rfl rfl ?_
  refine wk_pG1 (q := 33) fpX2_15 dX2_goThroughWash_30 hk rfl rfl rfl ?_
  refine wk_aload_n (i := 0) (q := 34) dX2_goThroughWash_33 rfl rfl rfl ?_
  refine wk_bipush (v := 10) (q := 36) dX2_goThroughWash_34 rfl rfl ?_
  refine wk_aload_n (i := 0) (q := 37) dX2_goThroughWash_36 rfl rfl rfl ?_
  refine wk_gG2 (q := 40) fgX2_19 dX2_goThroughWash_37 hk rfl ?_
  refine wk_aload_n (i := 0) (q := 41) dX2_goThroughWash_40 rfl rfl rfl ?_
  refine wk_gG2 (q := 44) fgX2_19 dX2_goThroughWash_41 hk rfl ?_
  refine wk_iload_n (i := 3) (q := 45) dX2_goThroughWash_44 rfl rfl rfl ?_
  refine wk_imul (q := 46) dX2_goThroughWash_45 rfl ?_
  refine wk_bipush (v := 100) (q := 48) dX2_goThroughWash_46 rfl rfl ?_
  refine wk_idiv (q := 49) dX2_goThroughWash_48 (by decide) rfl ?_
  refine wk_isub (q := 50) dX2_goThroughWash_49 rfl ?_
  refine wk_mmax (q := 53) lkX2_40 dX2_goThroughWash_50 rfl rfl rfl ?_
  refine wk_pG2 (q := 56) fpX2_19 dX2_goThroughWash_53 hk rfl rfl rfl ?_
  refine wk_aload_n (i := 0) (q := 57) dX2_goThroughWash_56 rfl rfl rfl ?_
  refine wk_bipush (v := 99) (q := 59) dX2_goThroughWash_57 rfl rfl ?_
  refine wk_aload_n (i := 0) (q := 60) dX2_goThroughWash_59 rfl rfl rfl ?_
  refine wk_gG3 (q := 63) fgX2_22 dX2_goThroughWash_60 hk rfl ?_
  refine wk_aload_n (i := 0) (q := 64) dX2_goThroughWash_63 rfl rfl rfl ?_
  refine wk_gG0 (q := 67) fgX2_9 dX2_goThroughWash_64 hk rfl ?_
  refine wk_iload_n (i := 3) (q := 68) dX2_goThroughWash_67 rfl rfl rfl ?_
  refine wk_kfel lkX2_45_1 lkX2_45_3 lkX2_45_4 lkX2_45_7 lkX2_45_8 lkX2_45_10 (by rw [fa_le, z0]; exact hs.1) dX2_goThroughWash_68 rfl rfl (q := 71) rfl ?_
  refine wk_iadd (q := 72) dX2_goThroughWash_71 rfl ?_
  refine wk_mmin (q := 75) lkX2_49 dX2_goThroughWash_72 rfl rfl rfl ?_
  refine wk_pG3 (q := 78) fpX2_22 dX2_goThroughWash_75 hk rfl rfl rfl ?_
  refine wk_aload_n (i := 0) (q := 79) dX2_goThroughWash_78 rfl rfl rfl ?_
  refine wk_iconst (v := 3) (q := 80) dX2_goThroughWash_79 rfl rfl ?_
  refine wk_pG4 (q := 83) fpX2_25 dX2_goThroughWash_80 hk rfl rfl rfl ?_
  refine wk_aload_n (i := 0) (q := 84) dX2_goThroughWash_83 rfl rfl rfl ?_
  refine wk_iconst (v := 0) (q := 85) dX2_goThroughWash_84 rfl rfl ?_
  refine wk_pG5 (q := 88) fpX2_28 dX2_goThroughWash_85 hk rfl rfl rfl ?_
  refine wk_return dX2_goThroughWash_88 rfl ?_
  rw [mx_held (by omega), mx_held (by omega), mn_held (lo := 1) (by rw [w3, h11]; omega) (by decide)]
  exact hQ
theorem lp_X2_gtw {d t : Int32} {D N : Nat} (hN : N < 2 ^ 31) (hk : shp k = 2) (ho : okG D (m k)) (h1 : 0 ≤ d.toInt) (h2 : d.toInt ≤ 95) (hQ : Q .null (wr m k (wshN d t (m k) N)) L) : ∀ (r j : Nat), j + r = N → WK E 4 MX2_goThroughWashes 3 [(0, .ref (ev_z E + k)), (1, .int (nI N)), (2, .int d), (3, .int t), (4, .int (nI j))] [] (wr m k (wshN d t (m k) j)) L Q := by
  intro r
  induction r with
  | zero =>
    intro j hj
    refine wk_iload (i := 4) (q := 5) dX2_goThroughWashes_3 rfl rfl ?_
    refine wk_iload_n (i := 1) (q := 6) dX2_goThroughWashes_5 rfl rfl rfl ?_
    refine wk_icmp_ge (t := 21) (q := 9) dX2_goThroughWashes_6 rfl rfl (fun c6 => ?_) (fun h => absurd (nI_le (by omega) (by omega)) h)
    refine wk_return dX2_goThroughWashes_21 rfl ?_
    have e : j = N := by omega
    subst e
    exact hQ
  | succ r ih =>
    intro j hj
    refine wk_iload (i := 4) (q := 5) dX2_goThroughWashes_3 rfl rfl ?_
    refine wk_iload_n (i := 1) (q := 6) dX2_goThroughWashes_5 rfl rfl rfl ?_
    refine wk_icmp_ge (t := 21) (q := 9) dX2_goThroughWashes_6 rfl rfl (fun h => absurd h (nI_ge (by omega) hN)) (fun c6 => ?_)
    refine wk_aload_n (i := 0) (q := 10) dX2_goThroughWashes_9 rfl rfl rfl ?_
    refine wk_iload_n (i := 2) (q := 11) dX2_goThroughWashes_10 rfl rfl rfl ?_
    refine wk_iload_n (i := 3) (q := 12) dX2_goThroughWashes_11 rfl rfl rfl ?_
    refine wk_V2v (d' := 3) (q := 15) lkX2_52 dX2_goThroughWashes_12 hk rfl rfl rfl rfl rfl rfl ?_
    refine ck_X2_goThroughWash hk (by rw [wr_s]; exact ok_wshN ho h1 h2 j) h1 h2 ?_
    rw [wr_wr, wr_s]
    refine wk_iinc (w := 1) (q := 18) (lv' := [_, _, _, _, _]) dX2_goThroughWashes_15 rfl rfl rfl rfl rfl ?_
    rw [nI_1]
    refine wk_goto (t := 3) dX2_goThroughWashes_18 rfl ?_
    exact ih (j + 1) (by omega)
theorem ck_X2_goThroughWashes {d t : Int32} {D N : Nat} (hN : N < 2 ^ 31) (hk : shp k = 2) (ho : okG D (m k)) (h1 : 0 ≤ d.toInt) (h2 : d.toInt ≤ 95) (hQ : Q .null (wr m k (wshN d t (m k) N)) L) : CK E 4 MX2_goThroughWashes [.ref (ev_z E + k), .int (nI N), .int d, .int t] m L Q := by
  refine CK.of rfl rfl (lv := [(0, _), (1, _), (2, _), (3, _)]) rfl ?_
  refine wk_iconst (v := 0) (q := 1) dX2_goThroughWashes_0 rfl rfl ?_
  refine wk_istore (i := 4) (q := 3) (lv' := [_, _, _, _, _]) dX2_goThroughWashes_1 rfl rfl rfl ?_
  have hl := lp_X2_gtw (E := E) hN hk ho h1 h2 hQ N 0 (by omega)
  rw [show wshN d t (m k) 0 = m k from rfl, wr_self] at hl
  exact hl
theorem ck_X2_stretch {n : Int32} {D : Nat} (hk : shp k = 2) (ho : okG D (m k)) (hD : D ≤ 20000000) (h1 : 0 ≤ n.toInt) (h2 : n.toInt ≤ 50) (hQ : Q .null (wr m k (drwG n (m k))) L) : CK E 4 MX2_stretch [.ref (ev_z E + k), .int n] m L Q := by
  refine CK.of rfl rfl (lv := [(0, _), (1, _)]) rfl ?_
  refine wk_row (k := k) ?_
  obtain ⟨o0, o1, o2, o3, o4, o5, o6⟩ := ho
  have h11 : (1 : Int32).toInt = 1 := by decide
  have h00 : (0 : Int32).toInt = 0 := by decide
  have w1 : (m k 1 + n).toInt = (m k 1).toInt + n.toInt := ad_i (by omega) (by omega)
  have wd : (n / 2).toInt = n.toInt / 2 := by rw [dv_i h1 (by decide), l_2]
  have w2 : (m k 2 - n / 2).toInt = (m k 2).toInt - n.toInt / 2 := by rw [sb_i (by omega) (by omega), wd]
  have w6 : (m k 6 + 1).toInt = (m k 6).toInt + 1 := by rw [ad_i (by omega) (by omega), h11]
  have hm : i_min 200 (m k 1 + n) = heldF (m k 1 + n) 10 200 := mn_held (by show (10 : Int32).toInt ≤ _; rw [w1, show (10 : Int32).toInt = 10 by decide]; omega) (by decide)
  have hx : i_max 10 (m k 2 - n / 2) = heldF (m k 2 - n / 2) 10 200 := mx_held (by omega)
  unfold drwG at hQ
  refine wk_aload_n (i := 0) (q := 1) dX2_stretch_0 rfl rfl rfl ?_
  refine wk_sipush (v := 200) (q := 4) dX2_stretch_1 rfl rfl ?_
  refine wk_aload_n (i := 0) (q := 5) dX2_stretch_4 rfl rfl rfl ?_
  refine wk_gG1 (q := 8) fgX2_15 dX2_stretch_5 hk rfl ?_
  refine wk_iload_n (i := 1) (q := 9) dX2_stretch_8 rfl rfl rfl ?_
  refine wk_iadd (q := 10) dX2_stretch_9 rfl ?_
  refine wk_mmin (q := 13) lkX2_49 dX2_stretch_10 rfl rfl rfl ?_
  refine wk_pG1 (q := 16) fpX2_15 dX2_stretch_13 hk rfl rfl rfl ?_
  refine wk_aload_n (i := 0) (q := 17) dX2_stretch_16 rfl rfl rfl ?_
  refine wk_bipush (v := 10) (q := 19) dX2_stretch_17 rfl rfl ?_
  refine wk_aload_n (i := 0) (q := 20) dX2_stretch_19 rfl rfl rfl ?_
  refine wk_gG2 (q := 23) fgX2_19 dX2_stretch_20 hk rfl ?_
  refine wk_iload_n (i := 1) (q := 24) dX2_stretch_23 rfl rfl rfl ?_
  refine wk_iconst (v := 2) (q := 25) dX2_stretch_24 rfl rfl ?_
  refine wk_idiv (q := 26) dX2_stretch_25 (by decide) rfl ?_
  refine wk_isub (q := 27) dX2_stretch_26 rfl ?_
  refine wk_mmax (q := 30) lkX2_40 dX2_stretch_27 rfl rfl rfl ?_
  refine wk_pG2 (q := 33) fpX2_19 dX2_stretch_30 hk rfl rfl rfl ?_
  refine wk_aload_n (i := 0) (q := 34) dX2_stretch_33 rfl rfl rfl ?_
  refine wk_dup (q := 35) dX2_stretch_34 rfl rfl ?_
  refine wk_gG5 (q := 38) fgX2_28 dX2_stretch_35 hk rfl ?_
  refine wk_iload_n (i := 1) (q := 39) dX2_stretch_38 rfl rfl rfl ?_
  refine wk_iadd (q := 40) dX2_stretch_39 rfl ?_
  refine wk_pG5 (q := 43) fpX2_28 dX2_stretch_40 hk rfl rfl rfl ?_
  refine wk_aload_n (i := 0) (q := 44) dX2_stretch_43 rfl rfl rfl ?_
  refine wk_gG5 (q := 47) fgX2_28 dX2_stretch_44 hk rfl ?_
  refine wk_aload_n (i := 0) (q := 48) dX2_stretch_47 rfl rfl rfl ?_
  refine wk_gG0 (q := 51) fgX2_9 dX2_stretch_48 hk rfl ?_
  refine wk_aload_n (i := 0) (q := 52) dX2_stretch_51 rfl rfl rfl ?_
  refine wk_gG3 (q := 55) fgX2_22 dX2_stretch_52 hk rfl ?_
  refine wk_aload_n (i := 0) (q := 56) dX2_stretch_55 rfl rfl rfl ?_
  refine wk_gG6 (q := 59) fgX2_31 dX2_stretch_56 hk rfl ?_
  refine wk_kbea lkX2_56_1 lkX2_56_3 lkX2_56_4 lkX2_56_7 lkX2_56_8 lkX2_56_10  dX2_stretch_59 rfl rfl (q := 62) rfl ?_
  refine wk_icmp_le (t := 81) (q := 65) dX2_stretch_62 rfl rfl (fun c62 => ?_) (fun c62 => ?_)
  · skip
    rw [if_neg (show ¬ beaF (m k 0) (m k 3) (m k 6) < m k 5 + n by rw [fa_lt]; rw [fa_le] at c62; omega)] at hQ
    refine wk_return dX2_stretch_81 rfl ?_
    rw [hm, hx]
    first | (rw [mn_held (lo := 0) (by rw [w6, h00]; omega) (by decide)]; exact hQ) | (rw [Int32.add_zero, held_id (e := m k 6) (lo := 0) (hi := 9999) (by rw [h00]; omega) (by rw [show (9999 : Int32).toInt = 9999 by decide]; omega)] at hQ; exact hQ)
  · skip
    rw [if_pos (show beaF (m k 0) (m k 3) (m k 6) < m k 5 + n by rw [fa_lt]; rw [fa_le] at c62; omega)] at hQ
    refine wk_aload_n (i := 0) (q := 66) dX2_stretch_65 rfl rfl rfl ?_
    refine wk_sipush (v := 9999) (q := 69) dX2_stretch_66 rfl rfl ?_
    refine wk_aload_n (i := 0) (q := 70) dX2_stretch_69 rfl rfl rfl ?_
    refine wk_gG6 (q := 73) fgX2_31 dX2_stretch_70 hk rfl ?_
    refine wk_iconst (v := 1) (q := 74) dX2_stretch_73 rfl rfl ?_
    refine wk_iadd (q := 75) dX2_stretch_74 rfl ?_
    refine wk_mmin (q := 78) lkX2_49 dX2_stretch_75 rfl rfl rfl ?_
    refine wk_pG6 (q := 81) fpX2_31 dX2_stretch_78 hk rfl rfl rfl ?_
    refine wk_return dX2_stretch_81 rfl ?_
    rw [hm, hx]
    first | (rw [mn_held (lo := 0) (by rw [w6, h00]; omega) (by decide)]; exact hQ) | (rw [Int32.add_zero, held_id (e := m k 6) (lo := 0) (hi := 9999) (by rw [h00]; omega) (by rw [show (9999 : Int32).toInt = 9999 by decide]; omega)] at hQ; exact hQ)
theorem ck_X2_dryOneDay {D : Nat} (hk : shp k = 2) (ho : okG D (m k)) (hD : D ≤ 20000000) (hQ : Q .null (wr m k (dryG (m k))) L) : CK E 3 MX2_dryOneDay [.ref (ev_z E + k)] m L Q := by
  refine CK.of rfl rfl (lv := [(0, _)]) rfl ?_
  refine wk_row (k := k) ?_
  obtain ⟨o0, o1, o2, o3, o4, o5, o6⟩ := ho
  have h11 : (1 : Int32).toInt = 1 := by decide
  have h00 : (0 : Int32).toInt = 0 := by decide
  have kb := kee_b (m k 0)
  have bb := back_b hD o5.1 o5.2 kb.1 kb.2
  have w1 : (m k 1 - m k 5 * (100 - keeF (m k 0)) / 100).toInt = (m k 1).toInt - (m k 5 * (100 - keeF (m k 0)) / 100).toInt := sb_i (by omega) (by omega)
  unfold dryG at hQ
  refine wk_aload_n (i := 0) (q := 1) dX2_dryOneDay_0 rfl rfl rfl ?_
  refine wk_gG4 (q := 4) fgX2_25 dX2_dryOneDay_1 hk rfl ?_
  refine wk_if_ne (t := 8) (q := 7) dX2_dryOneDay_4 rfl rfl (fun c4 => ?_) (fun c4 => ?_)
  · skip
    rw [if_pos (show 0 < m k 4 by rw [fa_lt, h00]; rw [fa_eq, h00] at c4; omega)] at hQ
    refine wk_aload_n (i := 0) (q := 9) dX2_dryOneDay_8 rfl rfl rfl ?_
    refine wk_dup (q := 10) dX2_dryOneDay_9 rfl rfl ?_
    refine wk_gG4 (q := 13) fgX2_25 dX2_dryOneDay_10 hk rfl ?_
    refine wk_iconst (v := 1) (q := 14) dX2_dryOneDay_13 rfl rfl ?_
    refine wk_isub (q := 15) dX2_dryOneDay_14 rfl ?_
    refine wk_pG4 (q := 18) fpX2_25 dX2_dryOneDay_15 hk rfl rfl rfl ?_
    refine wk_aload_n (i := 0) (q := 19) dX2_dryOneDay_18 rfl rfl rfl ?_
    refine wk_gG4 (q := 22) fgX2_25 dX2_dryOneDay_19 hk rfl ?_
    refine wk_if_ne (t := 62) (q := 25) dX2_dryOneDay_22 rfl rfl (fun c22 => ?_) (fun c22 => ?_)
    · skip
      rw [if_neg c22] at hQ
      refine wk_return dX2_dryOneDay_62 rfl ?_
      first | exact hQ | (rw [mx_held (by omega)]; exact hQ)
    · skip
      rw [if_pos c22] at hQ
      refine wk_aload_n (i := 0) (q := 26) dX2_dryOneDay_25 rfl rfl rfl ?_
      refine wk_bipush (v := 10) (q := 28) dX2_dryOneDay_26 rfl rfl ?_
      refine wk_aload_n (i := 0) (q := 29) dX2_dryOneDay_28 rfl rfl rfl ?_
      refine wk_gG1 (q := 32) fgX2_15 dX2_dryOneDay_29 hk rfl ?_
      refine wk_aload_n (i := 0) (q := 33) dX2_dryOneDay_32 rfl rfl rfl ?_
      refine wk_gG5 (q := 36) fgX2_28 dX2_dryOneDay_33 hk rfl ?_
      refine wk_bipush (v := 100) (q := 38) dX2_dryOneDay_36 rfl rfl ?_
      refine wk_aload_n (i := 0) (q := 39) dX2_dryOneDay_38 rfl rfl rfl ?_
      refine wk_gG0 (q := 42) fgX2_9 dX2_dryOneDay_39 hk rfl ?_
      refine wk_kkee lkX2_62_1 lkX2_62_3 lkX2_62_4 lkX2_62_7 lkX2_62_8 lkX2_62_10  dX2_dryOneDay_42 rfl rfl (q := 45) rfl ?_
      refine wk_isub (q := 46) dX2_dryOneDay_45 rfl ?_
      refine wk_imul (q := 47) dX2_dryOneDay_46 rfl ?_
      refine wk_bipush (v := 100) (q := 49) dX2_dryOneDay_47 rfl rfl ?_
      refine wk_idiv (q := 50) dX2_dryOneDay_49 (by decide) rfl ?_
      refine wk_isub (q := 51) dX2_dryOneDay_50 rfl ?_
      refine wk_mmax (q := 54) lkX2_40 dX2_dryOneDay_51 rfl rfl rfl ?_
      refine wk_pG1 (q := 57) fpX2_15 dX2_dryOneDay_54 hk rfl rfl rfl ?_
      refine wk_aload_n (i := 0) (q := 58) dX2_dryOneDay_57 rfl rfl rfl ?_
      refine wk_iconst (v := 0) (q := 59) dX2_dryOneDay_58 rfl rfl ?_
      refine wk_pG5 (q := 62) fpX2_28 dX2_dryOneDay_59 hk rfl rfl rfl ?_
      refine wk_return dX2_dryOneDay_62 rfl ?_
      first | exact hQ | (rw [mx_held (by omega)]; exact hQ)
  · skip
    rw [if_neg (show ¬ 0 < m k 4 by rw [fa_lt, h00]; rw [fa_eq, h00] at c4; omega)] at hQ
    refine wk_return dX2_dryOneDay_7 rfl ?_
    rw [rw7_self]
    exact hQ
theorem lp_X2_dryFor {D N : Nat} (hN : N < 2 ^ 31) (hk : shp k = 2) (ho : okG D (m k)) (hD : D ≤ 20000000) (hQ : Q .null (wr m k (dryN (m k) N)) L) : ∀ (r j : Nat), j + r = N → WK E 4 MX2_dryFor 2 [(0, .ref (ev_z E + k)), (1, .int (nI N)), (2, .int (nI j))] [] (wr m k (dryN (m k) j)) L Q := by
  intro r
  induction r with
  | zero =>
    intro j hj
    refine wk_iload_n (i := 2) (q := 3) dX2_dryFor_2 rfl rfl rfl ?_
    refine wk_iload_n (i := 1) (q := 4) dX2_dryFor_3 rfl rfl rfl ?_
    refine wk_icmp_ge (t := 17) (q := 7) dX2_dryFor_4 rfl rfl (fun c4 => ?_) (fun h => absurd (nI_le (by omega) (by omega)) h)
    refine wk_return dX2_dryFor_17 rfl ?_
    have e : j = N := by omega
    subst e
    exact hQ
  | succ r ih =>
    intro j hj
    refine wk_iload_n (i := 2) (q := 3) dX2_dryFor_2 rfl rfl rfl ?_
    refine wk_iload_n (i := 1) (q := 4) dX2_dryFor_3 rfl rfl rfl ?_
    refine wk_icmp_ge (t := 17) (q := 7) dX2_dryFor_4 rfl rfl (fun h => absurd h (nI_ge (by omega) hN)) (fun c4 => ?_)
    refine wk_aload_n (i := 0) (q := 8) dX2_dryFor_7 rfl rfl rfl ?_
    refine wk_V0v (d' := 3) (q := 11) lkX2_59 dX2_dryFor_8 hk rfl rfl rfl rfl rfl rfl ?_
    refine ck_X2_dryOneDay hk (by rw [wr_s]; exact ok_dryN ho j) hD ?_
    rw [wr_wr, wr_s]
    refine wk_iinc (w := 1) (q := 14) (lv' := [_, _, _]) dX2_dryFor_11 rfl rfl rfl rfl rfl ?_
    rw [nI_1]
    refine wk_goto (t := 2) dX2_dryFor_14 rfl ?_
    exact ih (j + 1) (by omega)
theorem ck_X2_dryFor {D N : Nat} (hN : N < 2 ^ 31) (hk : shp k = 2) (ho : okG D (m k)) (hD : D ≤ 20000000) (hQ : Q .null (wr m k (dryN (m k) N)) L) : CK E 4 MX2_dryFor [.ref (ev_z E + k), .int (nI N)] m L Q := by
  refine CK.of rfl rfl (lv := [(0, _), (1, _)]) rfl ?_
  refine wk_iconst (v := 0) (q := 1) dX2_dryFor_0 rfl rfl ?_
  refine wk_istore_n (i := 2) (q := 2) (lv' := [_, _, _]) dX2_dryFor_1 rfl rfl rfl rfl ?_
  have hl := lp_X2_dryFor (E := E) hN hk ho hD hQ N 0 (by omega)
  rw [show dryN (m k) 0 = m k from rfl, wr_self] at hl
  exact hl
theorem ck_X2_become {j : Nat} (hk : shp k = 2) (hj : shp j = 2) (hne : j ≠ k) (hQ : Q .null (wr m k (cpG (m j) (m k))) L) : CK E 1 MX2_become [.ref (ev_z E + k), .ref (ev_z E + j)] m L Q := by
  refine CK.of rfl rfl (lv := [(0, _), (1, _)]) rfl ?_
  refine wk_row (k := k) ?_
  refine wk_aload_n (i := 0) (q := 1) dX2_become_0 rfl rfl rfl ?_
  refine wk_aload_n (i := 1) (q := 2) dX2_become_1 rfl rfl rfl ?_
  refine wk_getN (q := 5) hne fgX2_9 dX2_become_2 hj rfl rfl rfl ?_
  refine wk_pG0 (q := 8) fpX2_9 dX2_become_5 hk rfl rfl rfl ?_
  refine wk_aload_n (i := 0) (q := 9) dX2_become_8 rfl rfl rfl ?_
  refine wk_aload_n (i := 1) (q := 10) dX2_become_9 rfl rfl rfl ?_
  refine wk_getN (q := 13) hne fgX2_15 dX2_become_10 hj rfl rfl rfl ?_
  refine wk_pG1 (q := 16) fpX2_15 dX2_become_13 hk rfl rfl rfl ?_
  refine wk_aload_n (i := 0) (q := 17) dX2_become_16 rfl rfl rfl ?_
  refine wk_aload_n (i := 1) (q := 18) dX2_become_17 rfl rfl rfl ?_
  refine wk_getN (q := 21) hne fgX2_19 dX2_become_18 hj rfl rfl rfl ?_
  refine wk_pG2 (q := 24) fpX2_19 dX2_become_21 hk rfl rfl rfl ?_
  refine wk_aload_n (i := 0) (q := 25) dX2_become_24 rfl rfl rfl ?_
  refine wk_aload_n (i := 1) (q := 26) dX2_become_25 rfl rfl rfl ?_
  refine wk_getN (q := 29) hne fgX2_22 dX2_become_26 hj rfl rfl rfl ?_
  refine wk_pG3 (q := 32) fpX2_22 dX2_become_29 hk rfl rfl rfl ?_
  refine wk_aload_n (i := 0) (q := 33) dX2_become_32 rfl rfl rfl ?_
  refine wk_aload_n (i := 1) (q := 34) dX2_become_33 rfl rfl rfl ?_
  refine wk_getN (q := 37) hne fgX2_25 dX2_become_34 hj rfl rfl rfl ?_
  refine wk_pG4 (q := 40) fpX2_25 dX2_become_37 hk rfl rfl rfl ?_
  refine wk_aload_n (i := 0) (q := 41) dX2_become_40 rfl rfl rfl ?_
  refine wk_aload_n (i := 1) (q := 42) dX2_become_41 rfl rfl rfl ?_
  refine wk_getN (q := 45) hne fgX2_28 dX2_become_42 hj rfl rfl rfl ?_
  refine wk_pG5 (q := 48) fpX2_28 dX2_become_45 hk rfl rfl rfl ?_
  refine wk_aload_n (i := 0) (q := 49) dX2_become_48 rfl rfl rfl ?_
  refine wk_aload_n (i := 1) (q := 50) dX2_become_49 rfl rfl rfl ?_
  refine wk_getN (q := 53) hne fgX2_31 dX2_become_50 hj rfl rfl rfl ?_
  refine wk_pG6 (q := 56) fpX2_31 dX2_become_53 hk rfl rfl rfl ?_
  refine wk_return dX2_become_56 rfl ?_
  exact hQ
theorem ck_X2_beNew {c : Int32} (hk : shp k = 2) (hQ : Q .null (wr m k (newG c (m k))) L) : CK E 1 MX2_beNew [.ref (ev_z E + k), .ref (ev_z E + kref c)] m L Q := by
  refine CK.of rfl rfl (lv := [(0, _), (1, _)]) rfl ?_
  refine wk_row (k := k) ?_
  refine wk_aload_n (i := 0) (q := 1) dX2_beNew_0 rfl rfl rfl ?_
  refine wk_aload_n (i := 1) (q := 2) dX2_beNew_1 rfl rfl rfl ?_
  refine wk_pG0 (q := 5) fpX2_9 dX2_beNew_2 hk rfl rfl rfl ?_
  refine wk_aload_n (i := 0) (q := 6) dX2_beNew_5 rfl rfl rfl ?_
  refine wk_bipush (v := 100) (q := 8) dX2_beNew_6 rfl rfl ?_
  refine wk_pG1 (q := 11) fpX2_15 dX2_beNew_8 hk rfl rfl rfl ?_
  refine wk_aload_n (i := 0) (q := 12) dX2_beNew_11 rfl rfl rfl ?_
  refine wk_bipush (v := 100) (q := 14) dX2_beNew_12 rfl rfl ?_
  refine wk_pG2 (q := 17) fpX2_19 dX2_beNew_14 hk rfl rfl rfl ?_
  refine wk_aload_n (i := 0) (q := 18) dX2_beNew_17 rfl rfl rfl ?_
  refine wk_bipush (v := 10) (q := 20) dX2_beNew_18 rfl rfl ?_
  refine wk_pG3 (q := 23) fpX2_22 dX2_beNew_20 hk rfl rfl rfl ?_
  refine wk_aload_n (i := 0) (q := 24) dX2_beNew_23 rfl rfl rfl ?_
  refine wk_iconst (v := 0) (q := 25) dX2_beNew_24 rfl rfl ?_
  refine wk_pG4 (q := 28) fpX2_25 dX2_beNew_25 hk rfl rfl rfl ?_
  refine wk_aload_n (i := 0) (q := 29) dX2_beNew_28 rfl rfl rfl ?_
  refine wk_iconst (v := 0) (q := 30) dX2_beNew_29 rfl rfl ?_
  refine wk_pG5 (q := 33) fpX2_28 dX2_beNew_30 hk rfl rfl rfl ?_
  refine wk_aload_n (i := 0) (q := 34) dX2_beNew_33 rfl rfl rfl ?_
  refine wk_iconst (v := 0) (q := 35) dX2_beNew_34 rfl rfl ?_
  refine wk_pG6 (q := 38) fpX2_31 dX2_beNew_35 hk rfl rfl rfl ?_
  refine wk_return dX2_beNew_38 rfl ?_
  exact hQ
theorem ck_X2_suits {p D : Nat} (hk : shp k = 2) (hp : shp p = 5) (ho : okG D (m k)) (l1 : 10 ≤ (m p 0).toInt) (l2 : (m p 0).toInt ≤ 200) (b1 : 10 ≤ (m p 1).toInt) (b2 : (m p 1).toInt ≤ 200) (hQ1 : fitP (m k) (m p 0) (m p 1) → Q (.int 1) m L) (hQ0 : ¬ fitP (m k) (m p 0) (m p 1) → Q (.int 0) m L) : CK E 2 MX2_suits [.ref (ev_z E + k), .ref (ev_z E + p)] m L Q := by
  refine CK.of rfl rfl (lv := [(0, _), (1, _)]) rfl ?_
  obtain ⟨o0, o1, o2, o3, o4, o5, o6⟩ := ho
  have s1 : (m k 1 - m p 0).toInt = (m k 1).toInt - (m p 0).toInt := sb_i (by omega) (by omega)
  have s2 : (m k 2 - m p 1).toInt = (m k 2).toInt - (m p 1).toInt := sb_i (by omega) (by omega)
  have a1 : (m p 0 + 10).toInt = (m p 0).toInt + 10 := by rw [ad_i (by rw [show (10 : Int32).toInt = 10 by decide]; omega) (by rw [show (10 : Int32).toInt = 10 by decide]; omega), show (10 : Int32).toInt = 10 by decide]
  have a2 : (m p 1 + 15).toInt = (m p 1).toInt + 15 := by rw [ad_i (by rw [show (15 : Int32).toInt = 15 by decide]; omega) (by rw [show (15 : Int32).toInt = 15 by decide]; omega), show (15 : Int32).toInt = 15 by decide]
  have h00 : (0 : Int32).toInt = 0 := by decide
  have h10 : (10 : Int32).toInt = 10 := by decide
  have h15 : (15 : Int32).toInt = 15 := by decide
  unfold fitP at hQ1 hQ0
  simp only [fa_le, fa_eq, s1, s2, h00, h10, h15] at hQ1 hQ0
  refine wk_aload_n (i := 0) (q := 1) dX2_suits_0 rfl rfl rfl ?_
  refine wk_get (q := 4) fgX2_25 dX2_suits_1 hk rfl rfl rfl ?_
  refine wk_if_ne (t := 60) (q := 7) dX2_suits_4 rfl rfl (fun c4 => ?_) (fun c4 => ?_)
  · skip
    refine wk_iconst (v := 0) (q := 61) dX2_suits_60 rfl rfl ?_
    refine wk_ireturn dX2_suits_61 rfl rfl ?_
    exact hQ0 (by simp only [fa_le, fa_eq, a1, a2, h00] at *; omega)
  · skip
    refine wk_aload_n (i := 0) (q := 8) dX2_suits_7 rfl rfl rfl ?_
    refine wk_get (q := 11) fgX2_31 dX2_suits_8 hk rfl rfl rfl ?_
    refine wk_if_ne (t := 60) (q := 14) dX2_suits_11 rfl rfl (fun c11 => ?_) (fun c11 => ?_)
    · skip
      refine wk_iconst (v := 0) (q := 61) dX2_suits_60 rfl rfl ?_
      refine wk_ireturn dX2_suits_61 rfl rfl ?_
      exact hQ0 (by simp only [fa_le, fa_eq, a1, a2, h00] at *; omega)
    · skip
      refine wk_aload_n (i := 0) (q := 15) dX2_suits_14 rfl rfl rfl ?_
      refine wk_get (q := 18) fgX2_15 dX2_suits_15 hk rfl rfl rfl ?_
      refine wk_aload_n (i := 1) (q := 19) dX2_suits_18 rfl rfl rfl ?_
      refine wk_get (q := 22) fgX2_66 dX2_suits_19 hp rfl rfl rfl ?_
      refine wk_aload_n (i := 1) (q := 23) dX2_suits_22 rfl rfl rfl ?_
      refine wk_get (q := 26) fgX2_66 dX2_suits_23 hp rfl rfl rfl ?_
      refine wk_bipush (v := 10) (q := 28) dX2_suits_26 rfl rfl ?_
      refine wk_iadd (q := 29) dX2_suits_28 rfl ?_
      refine wk_T3r (d' := 1) (q := 32) lkX2_69 dX2_suits_29 rfl rfl rfl rfl ?_
      refine ck_X11_within (fun hw => ?_) (fun hw => ?_)
      · skip
        refine wk_if_eq (t := 60) (q := 35) dX2_suits_32 rfl rfl (fun h => absurd h (by decide)) (fun _ => ?_)
        refine wk_aload_n (i := 0) (q := 36) dX2_suits_35 rfl rfl rfl ?_
        refine wk_get (q := 39) fgX2_19 dX2_suits_36 hk rfl rfl rfl ?_
        refine wk_aload_n (i := 1) (q := 40) dX2_suits_39 rfl rfl rfl ?_
        refine wk_get (q := 43) fgX2_73 dX2_suits_40 hp rfl rfl rfl ?_
        refine wk_aload_n (i := 1) (q := 44) dX2_suits_43 rfl rfl rfl ?_
        refine wk_get (q := 47) fgX2_73 dX2_suits_44 hp rfl rfl rfl ?_
        refine wk_bipush (v := 15) (q := 49) dX2_suits_47 rfl rfl ?_
        refine wk_iadd (q := 50) dX2_suits_49 rfl ?_
        refine wk_T3r (d' := 1) (q := 53) lkX2_69 dX2_suits_50 rfl rfl rfl rfl ?_
        refine ck_X11_within (fun hw => ?_) (fun hw => ?_)
        · skip
          refine wk_if_eq (t := 60) (q := 56) dX2_suits_53 rfl rfl (fun h => absurd h (by decide)) (fun _ => ?_)
          refine wk_iconst (v := 1) (q := 57) dX2_suits_56 rfl rfl ?_
          refine wk_goto (t := 61) dX2_suits_57 rfl ?_
          refine wk_ireturn dX2_suits_61 rfl rfl ?_
          exact hQ1 (by simp only [fa_le, fa_eq, a1, a2, h00] at *; omega)
        · skip
          refine wk_if_eq (t := 60) (q := 56) dX2_suits_53 rfl rfl (fun _ => ?_) (fun h => absurd (by decide) h)
          refine wk_iconst (v := 0) (q := 61) dX2_suits_60 rfl rfl ?_
          refine wk_ireturn dX2_suits_61 rfl rfl ?_
          exact hQ0 (by simp only [fa_le, fa_eq, a1, a2, h00] at *; omega)
      · skip
        refine wk_if_eq (t := 60) (q := 35) dX2_suits_32 rfl rfl (fun _ => ?_) (fun h => absurd (by decide) h)
        refine wk_iconst (v := 0) (q := 61) dX2_suits_60 rfl rfl ?_
        refine wk_ireturn dX2_suits_61 rfl rfl ?_
        exact hQ0 (by simp only [fa_le, fa_eq, a1, a2, h00] at *; omega)
end GM
