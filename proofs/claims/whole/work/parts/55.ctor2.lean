/-! the kinds in their order; baskets -/
theorem hd_0 : ∀ j, j < 8 → defaultValue (tyX0 j) = vp_V [.null, .null, .null, .int 0, .int 0, .int 0, .int 0, .int 0] j := by
  intro j hj
  obtain rfl | rfl | rfl | rfl | rfl | rfl | rfl | rfl : j = 0 ∨ j = 1 ∨ j = 2 ∨ j = 3 ∨ j = 4 ∨ j = 5 ∨ j = 6 ∨ j = 7 := by omega
  all_goals rfl
theorem hd_1 : ∀ j, j < 2 → defaultValue (tyX1 j) = vp_V [.int 0, .null] j := by
  intro j hj
  obtain rfl | rfl : j = 0 ∨ j = 1 := by omega
  all_goals rfl
theorem hd_2 : ∀ j, j < 7 → defaultValue (tyX2 j) = vp_V [.null, .int 0, .int 0, .int 0, .int 0, .int 0, .int 0] j := by
  intro j hj
  obtain rfl | rfl | rfl | rfl | rfl | rfl | rfl : j = 0 ∨ j = 1 ∨ j = 2 ∨ j = 3 ∨ j = 4 ∨ j = 5 ∨ j = 6 := by omega
  all_goals rfl
theorem hd_3 : ∀ j, j < 2 → defaultValue (tyX3 j) = vp_V [.int 0, .null] j := by
  intro j hj
  obtain rfl | rfl : j = 0 ∨ j = 1 := by omega
  all_goals rfl
theorem hd_4 : ∀ j, j < 2 → defaultValue (tyX4 j) = vp_V [.int 0, .null] j := by
  intro j hj
  obtain rfl | rfl : j = 0 ∨ j = 1 := by omega
  all_goals rfl
theorem hd_5 : ∀ j, j < 2 → defaultValue (tyX5 j) = vp_V [.int 0, .int 0] j := by
  intro j hj
  obtain rfl | rfl : j = 0 ∨ j = 1 := by omega
  all_goals rfl
theorem hd_6 : ∀ j, j < 3 → defaultValue (tyX6 j) = vp_V [.null, .int 0, .int 0] j := by
  intro j hj
  obtain rfl | rfl | rfl : j = 0 ∨ j = 1 ∨ j = 2 := by omega
  all_goals rfl
theorem hd_7 : ∀ j, j < 2 → defaultValue (tyX7 j) = vp_V [.int 0, .null] j := by
  intro j hj
  obtain rfl | rfl : j = 0 ∨ j = 1 := by omega
  all_goals rfl
theorem hd_8 : ∀ j, j < 2 → defaultValue (tyX8 j) = vp_V [.int 0, .null] j := by
  intro j hj
  obtain rfl | rfl : j = 0 ∨ j = 1 := by omega
  all_goals rfl
theorem hd_9 : ∀ j, j < 8 → defaultValue (tyX9 j) = vp_V [.null, .int 0, .int 0, .int 0, .int 0, .int 0, .int 0, .int 0] j := by
  intro j hj
  obtain rfl | rfl | rfl | rfl | rfl | rfl | rfl | rfl : j = 0 ∨ j = 1 ∨ j = 2 ∨ j = 3 ∨ j = 4 ∨ j = 5 ∨ j = 6 ∨ j = 7 := by omega
  all_goals rfl
theorem hd_10 : ∀ j, j < 2 → defaultValue (tyX10 j) = vp_V [.int 0, .null] j := by
  intro j hj
  obtain rfl | rfl : j = 0 ∨ j = 1 := by omega
  all_goals rfl
theorem hd_11 : ∀ j, j < 8 → defaultValue (tyX11 j) = vp_V [.null, .null, .null, .null, .null, .null, .null, .int 0] j := by
  intro j hj
  obtain rfl | rfl | rfl | rfl | rfl | rfl | rfl | rfl : j = 0 ∨ j = 1 ∨ j = 2 ∨ j = 3 ∨ j = 4 ∨ j = 5 ∨ j = 6 ∨ j = 7 := by omega
  all_goals rfl
theorem hd_12 : ∀ j, j < 16 → defaultValue (tyX12 j) = vp_V [.null, .null, .null, .null, .null, .int 0, .null, .int 0, .int 0, .int 0, .int 0, .int 0, .null, .null, .null, .null] j := by
  intro j hj
  obtain rfl | rfl | rfl | rfl | rfl | rfl | rfl | rfl | rfl | rfl | rfl | rfl | rfl | rfl | rfl | rfl : j = 0 ∨ j = 1 ∨ j = 2 ∨ j = 3 ∨ j = 4 ∨ j = 5 ∨ j = 6 ∨ j = 7 ∨ j = 8 ∨ j = 9 ∨ j = 10 ∨ j = 11 ∨ j = 12 ∨ j = 13 ∨ j = 14 ∨ j = 15 := by omega
  all_goals rfl
section CT2
variable {E : EVt} {h : AHt} {Q : Value → AHt → Prop}
theorem ct_X4_inOrder (k : ∀ h1, (∀ j, j < 1 → h1 j = h j) → (∀ j, 1 ≤ j → j < 8 → h1 j = HP E mI LI j) → Q (.ref (ev_z E + 5)) h1) : CT E 5 MX4_inOrder (1, 7, 18) [] h Q := by
  refine CT.of rfl (Nat.le_of_ble_eq_true rfl) (lv := []) rfl ?_
  refine an_new (a := 1) (ci := 4) (fs := [.int 0, .null]) (q := 3) dX4_inOrder_0 ck_4 ⟨w_32, w_33, w_2⟩ hd_4 (Nat.le_of_ble_eq_true rfl) (Nat.le_of_ble_eq_true rfl) rfl rfl ?_
  intro h1 e1 o1
  refine aw_dup (q := 4) dX4_inOrder_3 rfl rfl ?_
  refine aw_iconst (v := 0) (q := 5) dX4_inOrder_4 rfl rfl ?_
  refine aw_null (q := 6) dX4_inOrder_5 rfl ?_
  refine aw_callI (As := [.int 0, .null]) (rest := [.ref (ev_z E + 1)]) (mc := 0) (ms := 0) (d' := 2) (q := 9) lkX4_19 dX4_inOrder_6 (Nat.le_of_ble_eq_true rfl) rfl rfl (Nat.le_of_ble_eq_true rfl) (Nat.le_of_ble_eq_true rfl) (Nat.le_of_ble_eq_true rfl) rfl ?_
  refine ct_X4_init (n := 2) (ci := 4) ffX4_9_4 ffX4_15_4 (Or.inl rfl) (Nat.le_of_ble_eq_true rfl) e1 ?_
  intro h2 e2 o2
  refine aw_astore_n (i := 0) (q := 10) (lv' := [_]) dX4_inOrder_9 rfl (Nat.le_of_ble_eq_true rfl) rfl rfl ?_
  refine an_new (a := 2) (ci := 10) (fs := [.int 0, .null]) (q := 13) dX4_inOrder_10 ck_10 ⟨w_46, w_47, w_3⟩ hd_10 (Nat.le_of_ble_eq_true rfl) (Nat.le_of_ble_eq_true rfl) rfl rfl ?_
  intro h3 e3 o3
  refine aw_dup (q := 14) dX4_inOrder_13 rfl rfl ?_
  refine aw_iconst (v := 1) (q := 15) dX4_inOrder_14 rfl rfl ?_
  refine aw_aload_n (i := 0) (q := 16) dX4_inOrder_15 rfl rfl rfl ?_
  refine aw_callI (As := [.int 1, .ref (ev_z E + 1)]) (rest := [.ref (ev_z E + 2)]) (mc := 0) (ms := 0) (d' := 3) (q := 19) lkX4_24 dX4_inOrder_16 (Nat.le_of_ble_eq_true rfl) rfl rfl (Nat.le_of_ble_eq_true rfl) (Nat.le_of_ble_eq_true rfl) (Nat.le_of_ble_eq_true rfl) rfl ?_
  refine ct_X10_init (n := 3) (ci := 10) ffX4_9_10 ffX4_15_10 (Or.inr ⟨_, rfl⟩) (Nat.le_of_ble_eq_true rfl) e3 ?_
  intro h4 e4 o4
  refine aw_astore_n (i := 1) (q := 20) (lv' := [_, _]) dX4_inOrder_19 rfl (Nat.le_of_ble_eq_true rfl) rfl rfl ?_
  refine an_new (a := 3) (ci := 1) (fs := [.int 0, .null]) (q := 23) dX4_inOrder_20 ck_1 ⟨w_55, w_56, w_4⟩ hd_1 (Nat.le_of_ble_eq_true rfl) (Nat.le_of_ble_eq_true rfl) rfl rfl ?_
  intro h5 e5 o5
  refine aw_dup (q := 24) dX4_inOrder_23 rfl rfl ?_
  refine aw_iconst (v := 2) (q := 25) dX4_inOrder_24 rfl rfl ?_
  refine aw_aload_n (i := 0) (q := 26) dX4_inOrder_25 rfl rfl rfl ?_
  refine aw_callI (As := [.int 2, .ref (ev_z E + 1)]) (rest := [.ref (ev_z E + 3)]) (mc := 0) (ms := 0) (d' := 3) (q := 29) lkX4_27 dX4_inOrder_26 (Nat.le_of_ble_eq_true rfl) rfl rfl (Nat.le_of_ble_eq_true rfl) (Nat.le_of_ble_eq_true rfl) (Nat.le_of_ble_eq_true rfl) rfl ?_
  refine ct_X1_init (n := 4) (ci := 1) ffX4_9_1 ffX4_15_1 (Or.inr ⟨_, rfl⟩) (Nat.le_of_ble_eq_true rfl) e5 ?_
  intro h6 e6 o6
  refine aw_astore_n (i := 2) (q := 30) (lv' := [_, _, _]) dX4_inOrder_29 rfl (Nat.le_of_ble_eq_true rfl) rfl rfl ?_
  refine an_new (a := 4) (ci := 7) (fs := [.int 0, .null]) (q := 33) dX4_inOrder_30 ck_7 ⟨w_64, w_65, w_5⟩ hd_7 (Nat.le_of_ble_eq_true rfl) (Nat.le_of_ble_eq_true rfl) rfl rfl ?_
  intro h7 e7 o7
  refine aw_dup (q := 34) dX4_inOrder_33 rfl rfl ?_
  refine aw_iconst (v := 3) (q := 35) dX4_inOrder_34 rfl rfl ?_
  refine aw_aload_n (i := 0) (q := 36) dX4_inOrder_35 rfl rfl rfl ?_
  refine aw_callI (As := [.int 3, .ref (ev_z E + 1)]) (rest := [.ref (ev_z E + 4)]) (mc := 0) (ms := 0) (d' := 3) (q := 39) lkX4_30 dX4_inOrder_36 (Nat.le_of_ble_eq_true rfl) rfl rfl (Nat.le_of_ble_eq_true rfl) (Nat.le_of_ble_eq_true rfl) (Nat.le_of_ble_eq_true rfl) rfl ?_
  refine ct_X7_init (n := 5) (ci := 7) ffX4_9_7 ffX4_15_7 (Or.inr ⟨_, rfl⟩) (Nat.le_of_ble_eq_true rfl) e7 ?_
  intro h8 e8 o8
  refine aw_astore_n (i := 3) (q := 40) (lv' := [_, _, _, _]) dX4_inOrder_39 rfl (Nat.le_of_ble_eq_true rfl) rfl rfl ?_
  refine aw_bipush (v := 6) (q := 42) dX4_inOrder_40 rfl rfl ?_
  refine an_anew (a := 5) (t := 3) (C := RX4) (N' := 6) (q := 45) dX4_inOrder_42 rfl (List.mem_of_getElem? (i := 0) rfl) w_32 (by decide) (by decide) (by decide) (Nat.le_of_ble_eq_true rfl) (Nat.le_of_ble_eq_true rfl) rfl rfl ?_
  intro h9 e9 o9
  refine aw_astore (i := 4) (q := 47) (lv' := [_, _, _, _, _]) dX4_inOrder_45 (Nat.le_of_ble_eq_true rfl) rfl rfl ?_
  refine aw_aload (i := 4) (q := 49) dX4_inOrder_47 rfl rfl ?_
  refine aw_iconst (v := 0) (q := 50) dX4_inOrder_49 rfl rfl ?_
  refine aw_aload_n (i := 0) (q := 51) dX4_inOrder_50 rfl rfl rfl ?_
  refine an_aast (r := (RX4, TX4, 2)) (t := 3) (q := 52) rfl dX4_inOrder_51 (Nat.le_of_ble_eq_true rfl) e9 (Nat.le_of_ble_eq_true rfl) ((o9 1 (by decide)).trans ((o8 1 (by decide)).trans ((o7 1 (by decide)).trans ((o6 1 (by decide)).trans ((o5 1 (by decide)).trans ((o4 1 (by decide)).trans ((o3 1 (by decide)).trans e2))))))) rfl (by unfold vp_in; decide) rfl ?_
  intro h10 e10 o10
  refine aw_aload (i := 4) (q := 54) dX4_inOrder_52 rfl rfl ?_
  refine aw_iconst (v := 1) (q := 55) dX4_inOrder_54 rfl rfl ?_
  refine aw_aload_n (i := 1) (q := 56) dX4_inOrder_55 rfl rfl rfl ?_
  refine an_aastO (C := RX4) (r := (RX10, TX10, 2)) (t := 3) (q := 57) rfl (List.mem_of_getElem? (i := 7) rfl) dX4_inOrder_56 (Nat.le_of_ble_eq_true rfl) e10 (Nat.le_of_ble_eq_true rfl) ((o10 2 (by decide)).trans ((o9 2 (by decide)).trans ((o8 2 (by decide)).trans ((o7 2 (by decide)).trans ((o6 2 (by decide)).trans ((o5 2 (by decide)).trans e4)))))) rfl (by unfold vp_in; decide) rfl ?_
  intro h11 e11 o11
  refine aw_aload (i := 4) (q := 59) dX4_inOrder_57 rfl rfl ?_
  refine aw_iconst (v := 2) (q := 60) dX4_inOrder_59 rfl rfl ?_
  refine aw_aload_n (i := 2) (q := 61) dX4_inOrder_60 rfl rfl rfl ?_
  refine an_aastO (C := RX4) (r := (RX1, TX1, 2)) (t := 3) (q := 62) rfl (List.mem_of_getElem? (i := 8) rfl) dX4_inOrder_61 (Nat.le_of_ble_eq_true rfl) e11 (Nat.le_of_ble_eq_true rfl) ((o11 3 (by decide)).trans ((o10 3 (by decide)).trans ((o9 3 (by decide)).trans ((o8 3 (by decide)).trans ((o7 3 (by decide)).trans e6))))) rfl (by unfold vp_in; decide) rfl ?_
  intro h12 e12 o12
  refine aw_aload (i := 4) (q := 64) dX4_inOrder_62 rfl rfl ?_
  refine aw_iconst (v := 3) (q := 65) dX4_inOrder_64 rfl rfl ?_
  refine aw_aload_n (i := 3) (q := 66) dX4_inOrder_65 rfl rfl rfl ?_
  refine an_aastO (C := RX4) (r := (RX7, TX7, 2)) (t := 3) (q := 67) rfl (List.mem_of_getElem? (i := 9) rfl) dX4_inOrder_66 (Nat.le_of_ble_eq_true rfl) e12 (Nat.le_of_ble_eq_true rfl) ((o12 4 (by decide)).trans ((o11 4 (by decide)).trans ((o10 4 (by decide)).trans ((o9 4 (by decide)).trans e8)))) rfl (by unfold vp_in; decide) rfl ?_
  intro h13 e13 o13
  refine aw_aload (i := 4) (q := 69) dX4_inOrder_67 rfl rfl ?_
  refine aw_iconst (v := 4) (q := 70) dX4_inOrder_69 rfl rfl ?_
  refine an_new (a := 6) (ci := 3) (fs := [.int 0, .null]) (q := 73) dX4_inOrder_70 ck_3 ⟨w_74, w_75, w_6⟩ hd_3 (Nat.le_of_ble_eq_true rfl) (Nat.le_of_ble_eq_true rfl) rfl rfl ?_
  intro h14 e14 o14
  refine aw_dup (q := 74) dX4_inOrder_73 rfl rfl ?_
  refine aw_iconst (v := 4) (q := 75) dX4_inOrder_74 rfl rfl ?_
  refine aw_aload_n (i := 1) (q := 76) dX4_inOrder_75 rfl rfl rfl ?_
  refine aw_callI (As := [.int 4, .ref (ev_z E + 2)]) (rest := [.ref (ev_z E + 6), .int 4, .ref (ev_z E + 5)]) (mc := 0) (ms := 0) (d' := 4) (q := 79) lkX4_33 dX4_inOrder_76 (Nat.le_of_ble_eq_true rfl) rfl rfl (Nat.le_of_ble_eq_true rfl) (Nat.le_of_ble_eq_true rfl) (Nat.le_of_ble_eq_true rfl) rfl ?_
  refine ct_X3_init (n := 7) (ci := 3) ffX4_9_3 ffX4_15_3 (Or.inr ⟨_, rfl⟩) (Nat.le_of_ble_eq_true rfl) e14 ?_
  intro h15 e15 o15
  refine an_aastO (C := RX4) (r := (RX3, TX3, 2)) (t := 3) (q := 80) rfl (List.mem_of_getElem? (i := 10) rfl) dX4_inOrder_79 (Nat.le_of_ble_eq_true rfl) ((o15 5 (by decide)).trans ((o14 5 (by decide)).trans e13)) (Nat.le_of_ble_eq_true rfl) e15 rfl (by unfold vp_in; decide) rfl ?_
  intro h16 e16 o16
  refine aw_aload (i := 4) (q := 82) dX4_inOrder_80 rfl rfl ?_
  refine aw_iconst (v := 5) (q := 83) dX4_inOrder_82 rfl rfl ?_
  refine an_new (a := 7) (ci := 8) (fs := [.int 0, .null]) (q := 86) dX4_inOrder_83 ck_8 ⟨w_83, w_84, w_7⟩ hd_8 (Nat.le_of_ble_eq_true rfl) (Nat.le_of_ble_eq_true rfl) rfl rfl ?_
  intro h17 e17 o17
  refine aw_dup (q := 87) dX4_inOrder_86 rfl rfl ?_
  refine aw_iconst (v := 5) (q := 88) dX4_inOrder_87 rfl rfl ?_
  refine aw_aload_n (i := 2) (q := 89) dX4_inOrder_88 rfl rfl rfl ?_
  refine aw_callI (As := [.int 5, .ref (ev_z E + 3)]) (rest := [.ref (ev_z E + 7), .int 5, .ref (ev_z E + 5)]) (mc := 0) (ms := 0) (d' := 4) (q := 92) lkX4_36 dX4_inOrder_89 (Nat.le_of_ble_eq_true rfl) rfl rfl (Nat.le_of_ble_eq_true rfl) (Nat.le_of_ble_eq_true rfl) (Nat.le_of_ble_eq_true rfl) rfl ?_
  refine ct_X8_init (n := 8) (ci := 8) ffX4_9_8 ffX4_15_8 (Or.inr ⟨_, rfl⟩) (Nat.le_of_ble_eq_true rfl) e17 ?_
  intro h18 e18 o18
  refine an_aastO (C := RX4) (r := (RX8, TX8, 2)) (t := 3) (q := 93) rfl (List.mem_of_getElem? (i := 11) rfl) dX4_inOrder_92 (Nat.le_of_ble_eq_true rfl) ((o18 5 (by decide)).trans ((o17 5 (by decide)).trans e16)) (Nat.le_of_ble_eq_true rfl) e18 rfl (by unfold vp_in; decide) rfl ?_
  intro h19 e19 o19
  refine aw_aload (i := 4) (q := 95) dX4_inOrder_93 rfl rfl ?_
  refine AW_cong (h' := fun k => if k < 1 then h k else HP E mI LI k) (fun k hk => ?_) ?_
  · have hk : k < 8 := hk
    obtain rfl | rfl | rfl | rfl | rfl | rfl | rfl | rfl : k = 0 ∨ k = 1 ∨ k = 2 ∨ k = 3 ∨ k = 4 ∨ k = 5 ∨ k = 6 ∨ k = 7 := by omega
    · exact Or.inl ((o19 0 (by decide)).trans ((o18 0 (by decide)).trans ((o17 0 (by decide)).trans ((o16 0 (by decide)).trans ((o15 0 (by decide)).trans ((o14 0 (by decide)).trans ((o13 0 (by decide)).trans ((o12 0 (by decide)).trans ((o11 0 (by decide)).trans ((o10 0 (by decide)).trans ((o9 0 (by decide)).trans ((o8 0 (by decide)).trans ((o7 0 (by decide)).trans ((o6 0 (by decide)).trans ((o5 0 (by decide)).trans ((o4 0 (by decide)).trans ((o3 0 (by decide)).trans ((o2 0 (by decide)).trans (o1 0 (by decide))))))))))))))))))))
    · exact Or.inl ((o19 1 (by decide)).trans ((o18 1 (by decide)).trans ((o17 1 (by decide)).trans ((o16 1 (by decide)).trans ((o15 1 (by decide)).trans ((o14 1 (by decide)).trans ((o13 1 (by decide)).trans ((o12 1 (by decide)).trans ((o11 1 (by decide)).trans ((o10 1 (by decide)).trans ((o9 1 (by decide)).trans ((o8 1 (by decide)).trans ((o7 1 (by decide)).trans ((o6 1 (by decide)).trans ((o5 1 (by decide)).trans ((o4 1 (by decide)).trans ((o3 1 (by decide)).trans e2)))))))))))))))))
    · exact Or.inl ((o19 2 (by decide)).trans ((o18 2 (by decide)).trans ((o17 2 (by decide)).trans ((o16 2 (by decide)).trans ((o15 2 (by decide)).trans ((o14 2 (by decide)).trans ((o13 2 (by decide)).trans ((o12 2 (by decide)).trans ((o11 2 (by decide)).trans ((o10 2 (by decide)).trans ((o9 2 (by decide)).trans ((o8 2 (by decide)).trans ((o7 2 (by decide)).trans ((o6 2 (by decide)).trans ((o5 2 (by decide)).trans e4)))))))))))))))
    · exact Or.inl ((o19 3 (by decide)).trans ((o18 3 (by decide)).trans ((o17 3 (by decide)).trans ((o16 3 (by decide)).trans ((o15 3 (by decide)).trans ((o14 3 (by decide)).trans ((o13 3 (by decide)).trans ((o12 3 (by decide)).trans ((o11 3 (by decide)).trans ((o10 3 (by decide)).trans ((o9 3 (by decide)).trans ((o8 3 (by decide)).trans ((o7 3 (by decide)).trans e6)))))))))))))
    · exact Or.inl ((o19 4 (by decide)).trans ((o18 4 (by decide)).trans ((o17 4 (by decide)).trans ((o16 4 (by decide)).trans ((o15 4 (by decide)).trans ((o14 4 (by decide)).trans ((o13 4 (by decide)).trans ((o12 4 (by decide)).trans ((o11 4 (by decide)).trans ((o10 4 (by decide)).trans ((o9 4 (by decide)).trans e8)))))))))))
    · refine Or.inr ⟨_, _, _, _, e19, rfl, fun i hi => ?_⟩
      obtain rfl | rfl | rfl | rfl | rfl | rfl : i = 0 ∨ i = 1 ∨ i = 2 ∨ i = 3 ∨ i = 4 ∨ i = 5 := by omega
      all_goals rfl
    · exact Or.inl ((o19 6 (by decide)).trans ((o18 6 (by decide)).trans ((o17 6 (by decide)).trans ((o16 6 (by decide)).trans e15))))
    · exact Or.inl ((o19 7 (by decide)).trans e18)
  refine aw_areturn dX4_inOrder_95 rfl (Or.inr ⟨_, rfl⟩) (Or.inr ⟨_, rfl⟩) (Nat.le_of_ble_eq_true rfl) rfl ?_
  exact k _ (fun j hj => if_pos hj) (fun j h1 h2 => if_neg (by omega))
theorem ct_X0_init_8 (hh : h 8 = .inr (0, [.null, .null, .null, .int 0, .int 0, .int 0, .int 0, .int 0])) (hk5 : h 5 = HP E mI LI 5) (k : ∀ h1, (∀ j, j < 8 → h1 j = h j) → (∀ j, 8 ≤ j → j < 25 → h1 j = HP E mI LI j) → Q .null h1) : CT E 3 MX0_init (9, 16, 82) [.ref (ev_z E + 8), .ref (ev_z E + 5)] h Q := by
  refine CT.of rfl (Nat.le_of_ble_eq_true rfl) (lv := [(0, _), (1, _)]) rfl ?_
  refine aw_aload_n (i := 0) (q := 1) dX0_init_0 rfl rfl rfl ?_
  refine aw_objInit (q := 4) lkX0_3 dX0_init_1 (Nat.le_of_ble_eq_true rfl) (Nat.le_of_ble_eq_true rfl) rfl ?_
  refine aw_aload_n (i := 0) (q := 5) dX0_init_4 rfl rfl rfl ?_
  refine aw_aload_n (i := 1) (q := 6) dX0_init_5 rfl rfl rfl ?_
  refine an_putF (q := 9) ffX0_9 rfl dX0_init_6 (Nat.le_of_ble_eq_true rfl) hh (Nat.le_of_ble_eq_true rfl) rfl rfl rfl ?_
  intro h1 e1 o1
  replace e1 : h1 8 = .inr (0, [.ref (ev_z E + 5), .null, .null, .int 0, .int 0, .int 0, .int 0, .int 0]) := e1
  refine aw_aload_n (i := 0) (q := 10) dX0_init_9 rfl rfl rfl ?_
  refine aw_bipush (v := 8) (q := 12) dX0_init_10 rfl rfl ?_
  refine an_anew (a := 9) (t := 4) (C := RX2) (N' := 8) (q := 15) dX0_init_12 rfl (List.mem_of_getElem? (i := 1) rfl) w_98 (by decide) (by decide) (by decide) (Nat.le_of_ble_eq_true rfl) (Nat.le_of_ble_eq_true rfl) rfl rfl ?_
  intro h2 e2 o2
  refine an_putF (q := 18) ffX0_17 rfl dX0_init_15 (Nat.le_of_ble_eq_true rfl) ((o2 8 (by decide)).trans e1) (Nat.le_of_ble_eq_true rfl) rfl rfl rfl ?_
  intro h3 e3 o3
  replace e3 : h3 8 = .inr (0, [.ref (ev_z E + 5), .ref (ev_z E + 9), .null, .int 0, .int 0, .int 0, .int 0, .int 0]) := e3
  refine aw_iconst (v := 0) (q := 19) dX0_init_18 rfl rfl ?_
  refine aw_istore_n (i := 2) (q := 20) (lv' := [_, _, _]) dX0_init_19 rfl (Nat.le_of_ble_eq_true rfl) rfl rfl ?_
  refine aw_iload_n (i := 2) (q := 21) dX0_init_20 rfl rfl rfl ?_
  refine aw_bipush (v := 8) (q := 23) dX0_init_21 rfl rfl ?_
  refine aw_icmp_ge (t := 48) (q := 26) dX0_init_23 rfl rfl (fun c => absurd c (by decide)) (fun _ => ?_)
  refine aw_aload_n (i := 0) (q := 27) dX0_init_26 rfl rfl rfl ?_
  refine aw_getfield (q := 30) fgX0_17 dX0_init_27 (Nat.le_of_ble_eq_true rfl) e3 rfl rfl ?_
  refine aw_iload_n (i := 2) (q := 31) dX0_init_30 rfl rfl rfl ?_
  refine an_new (a := 10) (ci := 2) (fs := [.null, .int 0, .int 0, .int 0, .int 0, .int 0, .int 0]) (q := 34) dX0_init_31 ck_2 ⟨w_98, w_100, w_9⟩ hd_2 (Nat.le_of_ble_eq_true rfl) (Nat.le_of_ble_eq_true rfl) rfl rfl ?_
  intro h4 e4 o4
  refine aw_dup (q := 35) dX0_init_34 rfl rfl ?_
  refine aw_aload_n (i := 1) (q := 36) dX0_init_35 rfl rfl rfl ?_
  refine aw_iconst (v := 0) (q := 37) dX0_init_36 rfl rfl ?_
  refine aw_aaload (t := 3) (n := 6) (f := fun i => some (ev_z E + kcl i)) (r := ev_z E + 1) (q := 38) rfl dX0_init_37 (Nat.le_of_ble_eq_true rfl) ((o4 5 (by decide)).trans ((o3 5 (by decide)).trans ((o2 5 (by decide)).trans ((o1 5 (by decide)).trans hk5)))) (by unfold vp_in; decide) rfl rfl ?_
  refine aw_callI (As := [.ref (ev_z E + 1)]) (rest := [.ref (ev_z E + 10), .int 0, .ref (ev_z E + 9)]) (mc := 0) (ms := 0) (d' := 2) (q := 41) lkX0_21 dX0_init_38 (Nat.le_of_ble_eq_true rfl) rfl rfl (Nat.le_of_ble_eq_true rfl) (Nat.le_of_ble_eq_true rfl) (Nat.le_of_ble_eq_true rfl) rfl ?_
  refine ct_X2_init (n := 11) (Nat.le_of_ble_eq_true rfl) e4 ?_
  intro h5 e5 o5
  refine an_aast (r := (RX2, TX2, 7)) (t := 4) (q := 42) rfl dX0_init_41 (Nat.le_of_ble_eq_true rfl) ((o5 9 (by decide)).trans ((o4 9 (by decide)).trans ((o3 9 (by decide)).trans e2))) (Nat.le_of_ble_eq_true rfl) e5 rfl (by unfold vp_in; decide) rfl ?_
  intro h6 e6 o6
  refine aw_iinc (w := 1) (q := 45) (lv' := [(2, .int 1), _, _]) dX0_init_42 rfl rfl (Nat.le_of_ble_eq_true rfl) rfl rfl ?_
  refine aw_goto (t := 20) dX0_init_45 rfl ?_
  refine aw_iload_n (i := 2) (q := 21) dX0_init_20 rfl rfl rfl ?_
  refine aw_bipush (v := 8) (q := 23) dX0_init_21 rfl rfl ?_
  refine aw_icmp_ge (t := 48) (q := 26) dX0_init_23 rfl rfl (fun c => absurd c (by decide)) (fun _ => ?_)
  refine aw_aload_n (i := 0) (q := 27) dX0_init_26 rfl rfl rfl ?_
  refine aw_getfield (q := 30) fgX0_17 dX0_init_27 (Nat.le_of_ble_eq_true rfl) ((o6 8 (by decide)).trans ((o5 8 (by decide)).trans ((o4 8 (by decide)).trans e3))) rfl rfl ?_
  refine aw_iload_n (i := 2) (q := 31) dX0_init_30 rfl rfl rfl ?_
  refine an_new (a := 11) (ci := 2) (fs := [.null, .int 0, .int 0, .int 0, .int 0, .int 0, .int 0]) (q := 34) dX0_init_31 ck_2 ⟨w_98, w_100, w_9⟩ hd_2 (Nat.le_of_ble_eq_true rfl) (Nat.le_of_ble_eq_true rfl) rfl rfl ?_
  intro h7 e7 o7
  refine aw_dup (q := 35) dX0_init_34 rfl rfl ?_
  refine aw_aload_n (i := 1) (q := 36) dX0_init_35 rfl rfl rfl ?_
  refine aw_iconst (v := 0) (q := 37) dX0_init_36 rfl rfl ?_
  refine aw_aaload (t := 3) (n := 6) (f := fun i => some (ev_z E + kcl i)) (r := ev_z E + 1) (q := 38) rfl dX0_init_37 (Nat.le_of_ble_eq_true rfl) ((o7 5 (by decide)).trans ((o6 5 (by decide)).trans ((o5 5 (by decide)).trans ((o4 5 (by decide)).trans ((o3 5 (by decide)).trans ((o2 5 (by decide)).trans ((o1 5 (by decide)).trans hk5))))))) (by unfold vp_in; decide) rfl rfl ?_
  refine aw_callI (As := [.ref (ev_z E + 1)]) (rest := [.ref (ev_z E + 11), .int 1, .ref (ev_z E + 9)]) (mc := 0) (ms := 0) (d' := 2) (q := 41) lkX0_21 dX0_init_38 (Nat.le_of_ble_eq_true rfl) rfl rfl (Nat.le_of_ble_eq_true rfl) (Nat.le_of_ble_eq_true rfl) (Nat.le_of_ble_eq_true rfl) rfl ?_
  refine ct_X2_init (n := 12) (Nat.le_of_ble_eq_true rfl) e7 ?_
  intro h8 e8 o8
  refine an_aast (r := (RX2, TX2, 7)) (t := 4) (q := 42) rfl dX0_init_41 (Nat.le_of_ble_eq_true rfl) ((o8 9 (by decide)).trans ((o7 9 (by decide)).trans e6)) (Nat.le_of_ble_eq_true rfl) e8 rfl (by unfold vp_in; decide) rfl ?_
  intro h9 e9 o9
  refine aw_iinc (w := 1) (q := 45) (lv' := [(2, .int 2), _, _]) dX0_init_42 rfl rfl (Nat.le_of_ble_eq_true rfl) rfl rfl ?_
  refine aw_goto (t := 20) dX0_init_45 rfl ?_
  refine aw_iload_n (i := 2) (q := 21) dX0_init_20 rfl rfl rfl ?_
  refine aw_bipush (v := 8) (q := 23) dX0_init_21 rfl rfl ?_
  refine aw_icmp_ge (t := 48) (q := 26) dX0_init_23 rfl rfl (fun c => absurd c (by decide)) (fun _ => ?_)
  refine aw_aload_n (i := 0) (q := 27) dX0_init_26 rfl rfl rfl ?_
  refine aw_getfield (q := 30) fgX0_17 dX0_init_27 (Nat.le_of_ble_eq_true rfl) ((o9 8 (by decide)).trans ((o8 8 (by decide)).trans ((o7 8 (by decide)).trans ((o6 8 (by decide)).trans ((o5 8 (by decide)).trans ((o4 8 (by decide)).trans e3)))))) rfl rfl ?_
  refine aw_iload_n (i := 2) (q := 31) dX0_init_30 rfl rfl rfl ?_
  refine an_new (a := 12) (ci := 2) (fs := [.null, .int 0, .int 0, .int 0, .int 0, .int 0, .int 0]) (q := 34) dX0_init_31 ck_2 ⟨w_98, w_100, w_9⟩ hd_2 (Nat.le_of_ble_eq_true rfl) (Nat.le_of_ble_eq_true rfl) rfl rfl ?_
  intro h10 e10 o10
  refine aw_dup (q := 35) dX0_init_34 rfl rfl ?_
  refine aw_aload_n (i := 1) (q := 36) dX0_init_35 rfl rfl rfl ?_
  refine aw_iconst (v := 0) (q := 37) dX0_init_36 rfl rfl ?_
  refine aw_aaload (t := 3) (n := 6) (f := fun i => some (ev_z E + kcl i)) (r := ev_z E + 1) (q := 38) rfl dX0_init_37 (Nat.le_of_ble_eq_true rfl) ((o10 5 (by decide)).trans ((o9 5 (by decide)).trans ((o8 5 (by decide)).trans ((o7 5 (by decide)).trans ((o6 5 (by decide)).trans ((o5 5 (by decide)).trans ((o4 5 (by decide)).trans ((o3 5 (by decide)).trans ((o2 5 (by decide)).trans ((o1 5 (by decide)).trans hk5)))))))))) (by unfold vp_in; decide) rfl rfl ?_
  refine aw_callI (As := [.ref (ev_z E + 1)]) (rest := [.ref (ev_z E + 12), .int 2, .ref (ev_z E + 9)]) (mc := 0) (ms := 0) (d' := 2) (q := 41) lkX0_21 dX0_init_38 (Nat.le_of_ble_eq_true rfl) rfl rfl (Nat.le_of_ble_eq_true rfl) (Nat.le_of_ble_eq_true rfl) (Nat.le_of_ble_eq_true rfl) rfl ?_
  refine ct_X2_init (n := 13) (Nat.le_of_ble_eq_true rfl) e10 ?_
  intro h11 e11 o11
  refine an_aast (r := (RX2, TX2, 7)) (t := 4) (q := 42) rfl dX0_init_41 (Nat.le_of_ble_eq_true rfl) ((o11 9 (by decide)).trans ((o10 9 (by decide)).trans e9)) (Nat.le_of_ble_eq_true rfl) e11 rfl (by unfold vp_in; decide) rfl ?_
  intro h12 e12 o12
  refine aw_iinc (w := 1) (q := 45) (lv' := [(2, .int 3), _, _]) dX0_init_42 rfl rfl (Nat.le_of_ble_eq_true rfl) rfl rfl ?_
  refine aw_goto (t := 20) dX0_init_45 rfl ?_
  refine aw_iload_n (i := 2) (q := 21) dX0_init_20 rfl rfl rfl ?_
  refine aw_bipush (v := 8) (q := 23) dX0_init_21 rfl rfl ?_
  refine aw_icmp_ge (t := 48) (q := 26) dX0_init_23 rfl rfl (fun c => absurd c (by decide)) (fun _ => ?_)
  refine aw_aload_n (i := 0) (q := 27) dX0_init_26 rfl rfl rfl ?_
  refine aw_getfield (q := 30) fgX0_17 dX0_init_27 (Nat.le_of_ble_eq_true rfl) ((o12 8 (by decide)).trans ((o11 8 (by decide)).trans ((o10 8 (by decide)).trans ((o9 8 (by decide)).trans ((o8 8 (by decide)).trans ((o7 8 (by decide)).trans ((o6 8 (by decide)).trans ((o5 8 (by decide)).trans ((o4 8 (by decide)).trans e3))))))))) rfl rfl ?_
  refine aw_iload_n (i := 2) (q := 31) dX0_init_30 rfl rfl rfl ?_
  refine an_new (a := 13) (ci := 2) (fs := [.null, .int 0, .int 0, .int 0, .int 0, .int 0, .int 0]) (q := 34) dX0_init_31 ck_2 ⟨w_98, w_100, w_9⟩ hd_2 (Nat.le_of_ble_eq_true rfl) (Nat.le_of_ble_eq_true rfl) rfl rfl ?_
  intro h13 e13 o13
  refine aw_dup (q := 35) dX0_init_34 rfl rfl ?_
  refine aw_aload_n (i := 1) (q := 36) dX0_init_35 rfl rfl rfl ?_
  refine aw_iconst (v := 0) (q := 37) dX0_init_36 rfl rfl ?_
  refine aw_aaload (t := 3) (n := 6) (f := fun i => some (ev_z E + kcl i)) (r := ev_z E + 1) (q := 38) rfl dX0_init_37 (Nat.le_of_ble_eq_true rfl) ((o13 5 (by decide)).trans ((o12 5 (by decide)).trans ((o11 5 (by decide)).trans ((o10 5 (by decide)).trans ((o9 5 (by decide)).trans ((o8 5 (by decide)).trans ((o7 5 (by decide)).trans ((o6 5 (by decide)).trans ((o5 5 (by decide)).trans ((o4 5 (by decide)).trans ((o3 5 (by decide)).trans ((o2 5 (by decide)).trans ((o1 5 (by decide)).trans hk5))))))))))))) (by unfold vp_in; decide) rfl rfl ?_
  refine aw_callI (As := [.ref (ev_z E + 1)]) (rest := [.ref (ev_z E + 13), .int 3, .ref (ev_z E + 9)]) (mc := 0) (ms := 0) (d' := 2) (q := 41) lkX0_21 dX0_init_38 (Nat.le_of_ble_eq_true rfl) rfl rfl (Nat.le_of_ble_eq_true rfl) (Nat.le_of_ble_eq_true rfl) (Nat.le_of_ble_eq_true rfl) rfl ?_
  refine ct_X2_init (n := 14) (Nat.le_of_ble_eq_true rfl) e13 ?_
  intro h14 e14 o14
  refine an_aast (r := (RX2, TX2, 7)) (t := 4) (q := 42) rfl dX0_init_41 (Nat.le_of_ble_eq_true rfl) ((o14 9 (by decide)).trans ((o13 9 (by decide)).trans e12)) (Nat.le_of_ble_eq_true rfl) e14 rfl (by unfold vp_in; decide) rfl ?_
  intro h15 e15 o15
  refine aw_iinc (w := 1) (q := 45) (lv' := [(2, .int 4), _, _]) dX0_init_42 rfl rfl (Nat.le_of_ble_eq_true rfl) rfl rfl ?_
  refine aw_goto (t := 20) dX0_init_45 rfl ?_
  refine aw_iload_n (i := 2) (q := 21) dX0_init_20 rfl rfl rfl ?_
  refine aw_bipush (v := 8) (q := 23) dX0_init_21 rfl rfl ?_
  refine aw_icmp_ge (t := 48) (q := 26) dX0_init_23 rfl rfl (fun c => absurd c (by decide)) (fun _ => ?_)
  refine aw_aload_n (i := 0) (q := 27) dX0_init_26 rfl rfl rfl ?_
  refine aw_getfield (q := 30) fgX0_17 dX0_init_27 (Nat.le_of_ble_eq_true rfl) ((o15 8 (by decide)).trans ((o14 8 (by decide)).trans ((o13 8 (by decide)).trans ((o12 8 (by decide)).trans ((o11 8 (by decide)).trans ((o10 8 (by decide)).trans ((o9 8 (by decide)).trans ((o8 8 (by decide)).trans ((o7 8 (by decide)).trans ((o6 8 (by decide)).trans ((o5 8 (by decide)).trans ((o4 8 (by decide)).trans e3)))))))))))) rfl rfl ?_
  refine aw_iload_n (i := 2) (q := 31) dX0_init_30 rfl rfl rfl ?_
  refine an_new (a := 14) (ci := 2) (fs := [.null, .int 0, .int 0, .int 0, .int 0, .int 0, .int 0]) (q := 34) dX0_init_31 ck_2 ⟨w_98, w_100, w_9⟩ hd_2 (Nat.le_of_ble_eq_true rfl) (Nat.le_of_ble_eq_true rfl) rfl rfl ?_
  intro h16 e16 o16
  refine aw_dup (q := 35) dX0_init_34 rfl rfl ?_
  refine aw_aload_n (i := 1) (q := 36) dX0_init_35 rfl rfl rfl ?_
  refine aw_iconst (v := 0) (q := 37) dX0_init_36 rfl rfl ?_
  refine aw_aaload (t := 3) (n := 6) (f := fun i => some (ev_z E + kcl i)) (r := ev_z E + 1) (q := 38) rfl dX0_init_37 (Nat.le_of_ble_eq_true rfl) ((o16 5 (by decide)).trans ((o15 5 (by decide)).trans ((o14 5 (by decide)).trans ((o13 5 (by decide)).trans ((o12 5 (by decide)).trans ((o11 5 (by decide)).trans ((o10 5 (by decide)).trans ((o9 5 (by decide)).trans ((o8 5 (by decide)).trans ((o7 5 (by decide)).trans ((o6 5 (by decide)).trans ((o5 5 (by decide)).trans ((o4 5 (by decide)).trans ((o3 5 (by decide)).trans ((o2 5 (by decide)).trans ((o1 5 (by decide)).trans hk5)))))))))))))))) (by unfold vp_in; decide) rfl rfl ?_
  refine aw_callI (As := [.ref (ev_z E + 1)]) (rest := [.ref (ev_z E + 14), .int 4, .ref (ev_z E + 9)]) (mc := 0) (ms := 0) (d' := 2) (q := 41) lkX0_21 dX0_init_38 (Nat.le_of_ble_eq_true rfl) rfl rfl (Nat.le_of_ble_eq_true rfl) (Nat.le_of_ble_eq_true rfl) (Nat.le_of_ble_eq_true rfl) rfl ?_
  refine ct_X2_init (n := 15) (Nat.le_of_ble_eq_true rfl) e16 ?_
  intro h17 e17 o17
  refine an_aast (r := (RX2, TX2, 7)) (t := 4) (q := 42) rfl dX0_init_41 (Nat.le_of_ble_eq_true rfl) ((o17 9 (by decide)).trans ((o16 9 (by decide)).trans e15)) (Nat.le_of_ble_eq_true rfl) e17 rfl (by unfold vp_in; decide) rfl ?_
  intro h18 e18 o18
  refine aw_iinc (w := 1) (q := 45) (lv' := [(2, .int 5), _, _]) dX0_init_42 rfl rfl (Nat.le_of_ble_eq_true rfl) rfl rfl ?_
  refine aw_goto (t := 20) dX0_init_45 rfl ?_
  refine aw_iload_n (i := 2) (q := 21) dX0_init_20 rfl rfl rfl ?_
  refine aw_bipush (v := 8) (q := 23) dX0_init_21 rfl rfl ?_
  refine aw_icmp_ge (t := 48) (q := 26) dX0_init_23 rfl rfl (fun c => absurd c (by decide)) (fun _ => ?_)
  refine aw_aload_n (i := 0) (q := 27) dX0_init_26 rfl rfl rfl ?_
  refine aw_getfield (q := 30) fgX0_17 dX0_init_27 (Nat.le_of_ble_eq_true rfl) ((o18 8 (by decide)).trans ((o17 8 (by decide)).trans ((o16 8 (by decide)).trans ((o15 8 (by decide)).trans ((o14 8 (by decide)).trans ((o13 8 (by decide)).trans ((o12 8 (by decide)).trans ((o11 8 (by decide)).trans ((o10 8 (by decide)).trans ((o9 8 (by decide)).trans ((o8 8 (by decide)).trans ((o7 8 (by decide)).trans ((o6 8 (by decide)).trans ((o5 8 (by decide)).trans ((o4 8 (by decide)).trans e3))))))))))))))) rfl rfl ?_
  refine aw_iload_n (i := 2) (q := 31) dX0_init_30 rfl rfl rfl ?_
  refine an_new (a := 15) (ci := 2) (fs := [.null, .int 0, .int 0, .int 0, .int 0, .int 0, .int 0]) (q := 34) dX0_init_31 ck_2 ⟨w_98, w_100, w_9⟩ hd_2 (Nat.le_of_ble_eq_true rfl) (Nat.le_of_ble_eq_true rfl) rfl rfl ?_
  intro h19 e19 o19
  refine aw_dup (q := 35) dX0_init_34 rfl rfl ?_
  refine aw_aload_n (i := 1) (q := 36) dX0_init_35 rfl rfl rfl ?_
  refine aw_iconst (v := 0) (q := 37) dX0_init_36 rfl rfl ?_
  refine aw_aaload (t := 3) (n := 6) (f := fun i => some (ev_z E + kcl i)) (r := ev_z E + 1) (q := 38) rfl dX0_init_37 (Nat.le_of_ble_eq_true rfl) ((o19 5 (by decide)).trans ((o18 5 (by decide)).trans ((o17 5 (by decide)).trans ((o16 5 (by decide)).trans ((o15 5 (by decide)).trans ((o14 5 (by decide)).trans ((o13 5 (by decide)).trans ((o12 5 (by decide)).trans ((o11 5 (by decide)).trans ((o10 5 (by decide)).trans ((o9 5 (by decide)).trans ((o8 5 (by decide)).trans ((o7 5 (by decide)).trans ((o6 5 (by decide)).trans ((o5 5 (by decide)).trans ((o4 5 (by decide)).trans ((o3 5 (by decide)).trans ((o2 5 (by decide)).trans ((o1 5 (by decide)).trans hk5))))))))))))))))))) (by unfold vp_in; decide) rfl rfl ?_
  refine aw_callI (As := [.ref (ev_z E + 1)]) (rest := [.ref (ev_z E + 15), .int 5, .ref (ev_z E + 9)]) (mc := 0) (ms := 0) (d' := 2) (q := 41) lkX0_21 dX0_init_38 (Nat.le_of_ble_eq_true rfl) rfl rfl (Nat.le_of_ble_eq_true rfl) (Nat.le_of_ble_eq_true rfl) (Nat.le_of_ble_eq_true rfl) rfl ?_
  refine ct_X2_init (n := 16) (Nat.le_of_ble_eq_true rfl) e19 ?_
  intro h20 e20 o20
  refine an_aast (r := (RX2, TX2, 7)) (t := 4) (q := 42) rfl dX0_init_41 (Nat.le_of_ble_eq_true rfl) ((o20 9 (by decide)).trans ((o19 9 (by decide)).trans e18)) (Nat.le_of_ble_eq_true rfl) e20 rfl (by unfold vp_in; decide) rfl ?_
  intro h21 e21 o21
  refine aw_iinc (w := 1) (q := 45) (lv' := [(2, .int 6), _, _]) dX0_init_42 rfl rfl (Nat.le_of_ble_eq_true rfl) rfl rfl ?_
  refine aw_goto (t := 20) dX0_init_45 rfl ?_
  refine aw_iload_n (i := 2) (q := 21) dX0_init_20 rfl rfl rfl ?_
  refine aw_bipush (v := 8) (q := 23) dX0_init_21 rfl rfl ?_
  refine aw_icmp_ge (t := 48) (q := 26) dX0_init_23 rfl rfl (fun c => absurd c (by decide)) (fun _ => ?_)
  refine aw_aload_n (i := 0) (q := 27) dX0_init_26 rfl rfl rfl ?_
  refine aw_getfield (q := 30) fgX0_17 dX0_init_27 (Nat.le_of_ble_eq_true rfl) ((o21 8 (by decide)).trans ((o20 8 (by decide)).trans ((o19 8 (by decide)).trans ((o18 8 (by decide)).trans ((o17 8 (by decide)).trans ((o16 8 (by decide)).trans ((o15 8 (by decide)).trans ((o14 8 (by decide)).trans ((o13 8 (by decide)).trans ((o12 8 (by decide)).trans ((o11 8 (by decide)).trans ((o10 8 (by decide)).trans ((o9 8 (by decide)).trans ((o8 8 (by decide)).trans ((o7 8 (by decide)).trans ((o6 8 (by decide)).trans ((o5 8 (by decide)).trans ((o4 8 (by decide)).trans e3)))))))))))))))))) rfl rfl ?_
  refine aw_iload_n (i := 2) (q := 31) dX0_init_30 rfl rfl rfl ?_
  refine an_new (a := 16) (ci := 2) (fs := [.null, .int 0, .int 0, .int 0, .int 0, .int 0, .int 0]) (q := 34) dX0_init_31 ck_2 ⟨w_98, w_100, w_9⟩ hd_2 (Nat.le_of_ble_eq_true rfl) (Nat.le_of_ble_eq_true rfl) rfl rfl ?_
  intro h22 e22 o22
  refine aw_dup (q := 35) dX0_init_34 rfl rfl ?_
  refine aw_aload_n (i := 1) (q := 36) dX0_init_35 rfl rfl rfl ?_
  refine aw_iconst (v := 0) (q := 37) dX0_init_36 rfl rfl ?_
  refine aw_aaload (t := 3) (n := 6) (f := fun i => some (ev_z E + kcl i)) (r := ev_z E + 1) (q := 38) rfl dX0_init_37 (Nat.le_of_ble_eq_true rfl) ((o22 5 (by decide)).trans ((o21 5 (by decide)).trans ((o20 5 (by decide)).trans ((o19 5 (by decide)).trans ((o18 5 (by decide)).trans ((o17 5 (by decide)).trans ((o16 5 (by decide)).trans ((o15 5 (by decide)).trans ((o14 5 (by decide)).trans ((o13 5 (by decide)).trans ((o12 5 (by decide)).trans ((o11 5 (by decide)).trans ((o10 5 (by decide)).trans ((o9 5 (by decide)).trans ((o8 5 (by decide)).trans ((o7 5 (by decide)).trans ((o6 5 (by decide)).trans ((o5 5 (by decide)).trans ((o4 5 (by decide)).trans ((o3 5 (by decide)).trans ((o2 5 (by decide)).trans ((o1 5 (by decide)).trans hk5)))))))))))))))))))))) (by unfold vp_in; decide) rfl rfl ?_
  refine aw_callI (As := [.ref (ev_z E + 1)]) (rest := [.ref (ev_z E + 16), .int 6, .ref (ev_z E + 9)]) (mc := 0) (ms := 0) (d' := 2) (q := 41) lkX0_21 dX0_init_38 (Nat.le_of_ble_eq_true rfl) rfl rfl (Nat.le_of_ble_eq_true rfl) (Nat.le_of_ble_eq_true rfl) (Nat.le_of_ble_eq_true rfl) rfl ?_
  refine ct_X2_init (n := 17) (Nat.le_of_ble_eq_true rfl) e22 ?_
  intro h23 e23 o23
  refine an_aast (r := (RX2, TX2, 7)) (t := 4) (q := 42) rfl dX0_init_41 (Nat.le_of_ble_eq_true rfl) ((o23 9 (by decide)).trans ((o22 9 (by decide)).trans e21)) (Nat.le_of_ble_eq_true rfl) e23 rfl (by unfold vp_in; decide) rfl ?_
  intro h24 e24 o24
  refine aw_iinc (w := 1) (q := 45) (lv' := [(2, .int 7), _, _]) dX0_init_42 rfl rfl (Nat.le_of_ble_eq_true rfl) rfl rfl ?_
  refine aw_goto (t := 20) dX0_init_45 rfl ?_
  refine aw_iload_n (i := 2) (q := 21) dX0_init_20 rfl rfl rfl ?_
  refine aw_bipush (v := 8) (q := 23) dX0_init_21 rfl rfl ?_
  refine aw_icmp_ge (t := 48) (q := 26) dX0_init_23 rfl rfl (fun c => absurd c (by decide)) (fun _ => ?_)
  refine aw_aload_n (i := 0) (q := 27) dX0_init_26 rfl rfl rfl ?_
  refine aw_getfield (q := 30) fgX0_17 dX0_init_27 (Nat.le_of_ble_eq_true rfl) ((o24 8 (by decide)).trans ((o23 8 (by decide)).trans ((o22 8 (by decide)).trans ((o21 8 (by decide)).trans ((o20 8 (by decide)).trans ((o19 8 (by decide)).trans ((o18 8 (by decide)).trans ((o17 8 (by decide)).trans ((o16 8 (by decide)).trans ((o15 8 (by decide)).trans ((o14 8 (by decide)).trans ((o13 8 (by decide)).trans ((o12 8 (by decide)).trans ((o11 8 (by decide)).trans ((o10 8 (by decide)).trans ((o9 8 (by decide)).trans ((o8 8 (by decide)).trans ((o7 8 (by decide)).trans ((o6 8 (by decide)).trans ((o5 8 (by decide)).trans ((o4 8 (by decide)).trans e3))))))))))))))))))))) rfl rfl ?_
  refine aw_iload_n (i := 2) (q := 31) dX0_init_30 rfl rfl rfl ?_
  refine an_new (a := 17) (ci := 2) (fs := [.null, .int 0, .int 0, .int 0, .int 0, .int 0, .int 0]) (q := 34) dX0_init_31 ck_2 ⟨w_98, w_100, w_9⟩ hd_2 (Nat.le_of_ble_eq_true rfl) (Nat.le_of_ble_eq_true rfl) rfl rfl ?_
  intro h25 e25 o25
  refine aw_dup (q := 35) dX0_init_34 rfl rfl ?_
  refine aw_aload_n (i := 1) (q := 36) dX0_init_35 rfl rfl rfl ?_
  refine aw_iconst (v := 0) (q := 37) dX0_init_36 rfl rfl ?_
  refine aw_aaload (t := 3) (n := 6) (f := fun i => some (ev_z E + kcl i)) (r := ev_z E + 1) (q := 38) rfl dX0_init_37 (Nat.le_of_ble_eq_true rfl) ((o25 5 (by decide)).trans ((o24 5 (by decide)).trans ((o23 5 (by decide)).trans ((o22 5 (by decide)).trans ((o21 5 (by decide)).trans ((o20 5 (by decide)).trans ((o19 5 (by decide)).trans ((o18 5 (by decide)).trans ((o17 5 (by decide)).trans ((o16 5 (by decide)).trans ((o15 5 (by decide)).trans ((o14 5 (by decide)).trans ((o13 5 (by decide)).trans ((o12 5 (by decide)).trans ((o11 5 (by decide)).trans ((o10 5 (by decide)).trans ((o9 5 (by decide)).trans ((o8 5 (by decide)).trans ((o7 5 (by decide)).trans ((o6 5 (by decide)).trans ((o5 5 (by decide)).trans ((o4 5 (by decide)).trans ((o3 5 (by decide)).trans ((o2 5 (by decide)).trans ((o1 5 (by decide)).trans hk5))))))))))))))))))))))))) (by unfold vp_in; decide) rfl rfl ?_
  refine aw_callI (As := [.ref (ev_z E + 1)]) (rest := [.ref (ev_z E + 17), .int 7, .ref (ev_z E + 9)]) (mc := 0) (ms := 0) (d' := 2) (q := 41) lkX0_21 dX0_init_38 (Nat.le_of_ble_eq_true rfl) rfl rfl (Nat.le_of_ble_eq_true rfl) (Nat.le_of_ble_eq_true rfl) (Nat.le_of_ble_eq_true rfl) rfl ?_
  refine ct_X2_init (n := 18) (Nat.le_of_ble_eq_true rfl) e25 ?_
  intro h26 e26 o26
  refine an_aast (r := (RX2, TX2, 7)) (t := 4) (q := 42) rfl dX0_init_41 (Nat.le_of_ble_eq_true rfl) ((o26 9 (by decide)).trans ((o25 9 (by decide)).trans e24)) (Nat.le_of_ble_eq_true rfl) e26 rfl (by unfold vp_in; decide) rfl ?_
  intro h27 e27 o27
  refine aw_iinc (w := 1) (q := 45) (lv' := [(2, .int 8), _, _]) dX0_init_42 rfl rfl (Nat.le_of_ble_eq_true rfl) rfl rfl ?_
  refine aw_goto (t := 20) dX0_init_45 rfl ?_
  refine aw_iload_n (i := 2) (q := 21) dX0_init_20 rfl rfl rfl ?_
  refine aw_bipush (v := 8) (q := 23) dX0_init_21 rfl rfl ?_
  refine aw_icmp_ge (t := 48) (q := 26) dX0_init_23 rfl rfl (fun _ => ?_) (fun c => absurd (by decide) c)
  refine aw_aload_n (i := 0) (q := 49) dX0_init_48 rfl rfl rfl ?_
  refine aw_bipush (v := 6) (q := 51) dX0_init_49 rfl rfl ?_
  refine an_anew (a := 18) (t := 5) (C := RX5) (N' := 6) (q := 54) dX0_init_51 rfl (List.mem_of_getElem? (i := 2) rfl) w_139 (by decide) (by decide) (by decide) (Nat.le_of_ble_eq_true rfl) (Nat.le_of_ble_eq_true rfl) rfl rfl ?_
  intro h28 e28 o28
  refine an_putF (q := 57) ffX0_26 rfl dX0_init_54 (Nat.le_of_ble_eq_true rfl) ((o28 8 (by decide)).trans ((o27 8 (by decide)).trans ((o26 8 (by decide)).trans ((o25 8 (by decide)).trans ((o24 8 (by decide)).trans ((o23 8 (by decide)).trans ((o22 8 (by decide)).trans ((o21 8 (by decide)).trans ((o20 8 (by decide)).trans ((o19 8 (by decide)).trans ((o18 8 (by decide)).trans ((o17 8 (by decide)).trans ((o16 8 (by decide)).trans ((o15 8 (by decide)).trans ((o14 8 (by decide)).trans ((o13 8 (by decide)).trans ((o12 8 (by decide)).trans ((o11 8 (by decide)).trans ((o10 8 (by decide)).trans ((o9 8 (by decide)).trans ((o8 8 (by decide)).trans ((o7 8 (by decide)).trans ((o6 8 (by decide)).trans ((o5 8 (by decide)).trans ((o4 8 (by decide)).trans e3))))))))))))))))))))))))) (Nat.le_of_ble_eq_true rfl) rfl rfl rfl ?_
  intro h29 e29 o29
  replace e29 : h29 8 = .inr (0, [.ref (ev_z E + 5), .ref (ev_z E + 9), .ref (ev_z E + 18), .int 0, .int 0, .int 0, .int 0, .int 0]) := e29
  refine aw_iconst (v := 0) (q := 58) dX0_init_57 rfl rfl ?_
  refine aw_istore_n (i := 2) (q := 59) (lv' := [_, _, _]) dX0_init_58 rfl (Nat.le_of_ble_eq_true rfl) rfl rfl ?_
  refine aw_iload_n (i := 2) (q := 60) dX0_init_59 rfl rfl rfl ?_
  refine aw_bipush (v := 6) (q := 62) dX0_init_60 rfl rfl ?_
  refine aw_icmp_ge (t := 84) (q := 65) dX0_init_62 rfl rfl (fun c => absurd c (by decide)) (fun _ => ?_)
  refine aw_aload_n (i := 0) (q := 66) dX0_init_65 rfl rfl rfl ?_
  refine aw_getfield (q := 69) fgX0_26 dX0_init_66 (Nat.le_of_ble_eq_true rfl) e29 rfl rfl ?_
  refine aw_iload_n (i := 2) (q := 70) dX0_init_69 rfl rfl rfl ?_
  refine an_new (a := 19) (ci := 5) (fs := [.int 0, .int 0]) (q := 73) dX0_init_70 ck_5 ⟨w_139, w_141, w_10⟩ hd_5 (Nat.le_of_ble_eq_true rfl) (Nat.le_of_ble_eq_true rfl) rfl rfl ?_
  intro h30 e30 o30
  refine aw_dup (q := 74) dX0_init_73 rfl rfl ?_
  refine aw_callIN (As := []) (rest := [.ref (ev_z E + 19), .int 0, .ref (ev_z E + 18)]) (mc := 0) (ms := 0) (d' := 2) (q := 77) lkX0_30 dX0_init_74 (Nat.le_of_ble_eq_true rfl) rfl rfl (Nat.le_of_ble_eq_true rfl) (Nat.le_of_ble_eq_true rfl) (Nat.le_of_ble_eq_true rfl) rfl ?_
  refine ct_X5_init (n := 20) ?_
  refine an_aast (r := (RX5, TX5, 2)) (t := 5) (q := 78) rfl dX0_init_77 (Nat.le_of_ble_eq_true rfl) ((o30 18 (by decide)).trans ((o29 18 (by decide)).trans e28)) (Nat.le_of_ble_eq_true rfl) e30 rfl (by unfold vp_in; decide) rfl ?_
  intro h31 e31 o31
  refine aw_iinc (w := 1) (q := 81) (lv' := [(2, .int 1), _, _]) dX0_init_78 rfl rfl (Nat.le_of_ble_eq_true rfl) rfl rfl ?_
  refine aw_goto (t := 59) dX0_init_81 rfl ?_
  refine aw_iload_n (i := 2) (q := 60) dX0_init_59 rfl rfl rfl ?_
  refine aw_bipush (v := 6) (q := 62) dX0_init_60 rfl rfl ?_
  refine aw_icmp_ge (t := 84) (q := 65) dX0_init_62 rfl rfl (fun c => absurd c (by decide)) (fun _ => ?_)
  refine aw_aload_n (i := 0) (q := 66) dX0_init_65 rfl rfl rfl ?_
  refine aw_getfield (q := 69) fgX0_26 dX0_init_66 (Nat.le_of_ble_eq_true rfl) ((o31 8 (by decide)).trans ((o30 8 (by decide)).trans e29)) rfl rfl ?_
  refine aw_iload_n (i := 2) (q := 70) dX0_init_69 rfl rfl rfl ?_
  refine an_new (a := 20) (ci := 5) (fs := [.int 0, .int 0]) (q := 73) dX0_init_70 ck_5 ⟨w_139, w_141, w_10⟩ hd_5 (Nat.le_of_ble_eq_true rfl) (Nat.le_of_ble_eq_true rfl) rfl rfl ?_
  intro h32 e32 o32
  refine aw_dup (q := 74) dX0_init_73 rfl rfl ?_
  refine aw_callIN (As := []) (rest := [.ref (ev_z E + 20), .int 1, .ref (ev_z E + 18)]) (mc := 0) (ms := 0) (d' := 2) (q := 77) lkX0_30 dX0_init_74 (Nat.le_of_ble_eq_true rfl) rfl rfl (Nat.le_of_ble_eq_true rfl) (Nat.le_of_ble_eq_true rfl) (Nat.le_of_ble_eq_true rfl) rfl ?_
  refine ct_X5_init (n := 21) ?_
  refine an_aast (r := (RX5, TX5, 2)) (t := 5) (q := 78) rfl dX0_init_77 (Nat.le_of_ble_eq_true rfl) ((o32 18 (by decide)).trans e31) (Nat.le_of_ble_eq_true rfl) e32 rfl (by unfold vp_in; decide) rfl ?_
  intro h33 e33 o33
  refine aw_iinc (w := 1) (q := 81) (lv' := [(2, .int 2), _, _]) dX0_init_78 rfl rfl (Nat.le_of_ble_eq_true rfl) rfl rfl ?_
  refine aw_goto (t := 59) dX0_init_81 rfl ?_
  refine aw_iload_n (i := 2) (q := 60) dX0_init_59 rfl rfl rfl ?_
  refine aw_bipush (v := 6) (q := 62) dX0_init_60 rfl rfl ?_
  refine aw_icmp_ge (t := 84) (q := 65) dX0_init_62 rfl rfl (fun c => absurd c (by decide)) (fun _ => ?_)
  refine aw_aload_n (i := 0) (q := 66) dX0_init_65 rfl rfl rfl ?_
  refine aw_getfield (q := 69) fgX0_26 dX0_init_66 (Nat.le_of_ble_eq_true rfl) ((o33 8 (by decide)).trans ((o32 8 (by decide)).trans ((o31 8 (by decide)).trans ((o30 8 (by decide)).trans e29)))) rfl rfl ?_
  refine aw_iload_n (i := 2) (q := 70) dX0_init_69 rfl rfl rfl ?_
  refine an_new (a := 21) (ci := 5) (fs := [.int 0, .int 0]) (q := 73) dX0_init_70 ck_5 ⟨w_139, w_141, w_10⟩ hd_5 (Nat.le_of_ble_eq_true rfl) (Nat.le_of_ble_eq_true rfl) rfl rfl ?_
  intro h34 e34 o34
  refine aw_dup (q := 74) dX0_init_73 rfl rfl ?_
  refine aw_callIN (As := []) (rest := [.ref (ev_z E + 21), .int 2, .ref (ev_z E + 18)]) (mc := 0) (ms := 0) (d' := 2) (q := 77) lkX0_30 dX0_init_74 (Nat.le_of_ble_eq_true rfl) rfl rfl (Nat.le_of_ble_eq_true rfl) (Nat.le_of_ble_eq_true rfl) (Nat.le_of_ble_eq_true rfl) rfl ?_
  refine ct_X5_init (n := 22) ?_
  refine an_aast (r := (RX5, TX5, 2)) (t := 5) (q := 78) rfl dX0_init_77 (Nat.le_of_ble_eq_true rfl) ((o34 18 (by decide)).trans e33) (Nat.le_of_ble_eq_true rfl) e34 rfl (by unfold vp_in; decide) rfl ?_
  intro h35 e35 o35
  refine aw_iinc (w := 1) (q := 81) (lv' := [(2, .int 3), _, _]) dX0_init_78 rfl rfl (Nat.le_of_ble_eq_true rfl) rfl rfl ?_
  refine aw_goto (t := 59) dX0_init_81 rfl ?_
  refine aw_iload_n (i := 2) (q := 60) dX0_init_59 rfl rfl rfl ?_
  refine aw_bipush (v := 6) (q := 62) dX0_init_60 rfl rfl ?_
  refine aw_icmp_ge (t := 84) (q := 65) dX0_init_62 rfl rfl (fun c => absurd c (by decide)) (fun _ => ?_)
  refine aw_aload_n (i := 0) (q := 66) dX0_init_65 rfl rfl rfl ?_
  refine aw_getfield (q := 69) fgX0_26 dX0_init_66 (Nat.le_of_ble_eq_true rfl) ((o35 8 (by decide)).trans ((o34 8 (by decide)).trans ((o33 8 (by decide)).trans ((o32 8 (by decide)).trans ((o31 8 (by decide)).trans ((o30 8 (by decide)).trans e29)))))) rfl rfl ?_
  refine aw_iload_n (i := 2) (q := 70) dX0_init_69 rfl rfl rfl ?_
  refine an_new (a := 22) (ci := 5) (fs := [.int 0, .int 0]) (q := 73) dX0_init_70 ck_5 ⟨w_139, w_141, w_10⟩ hd_5 (Nat.le_of_ble_eq_true rfl) (Nat.le_of_ble_eq_true rfl) rfl rfl ?_
  intro h36 e36 o36
  refine aw_dup (q := 74) dX0_init_73 rfl rfl ?_
  refine aw_callIN (As := []) (rest := [.ref (ev_z E + 22), .int 3, .ref (ev_z E + 18)]) (mc := 0) (ms := 0) (d' := 2) (q := 77) lkX0_30 dX0_init_74 (Nat.le_of_ble_eq_true rfl) rfl rfl (Nat.le_of_ble_eq_true rfl) (Nat.le_of_ble_eq_true rfl) (Nat.le_of_ble_eq_true rfl) rfl ?_
  refine ct_X5_init (n := 23) ?_
  refine an_aast (r := (RX5, TX5, 2)) (t := 5) (q := 78) rfl dX0_init_77 (Nat.le_of_ble_eq_true rfl) ((o36 18 (by decide)).trans e35) (Nat.le_of_ble_eq_true rfl) e36 rfl (by unfold vp_in; decide) rfl ?_
  intro h37 e37 o37
  refine aw_iinc (w := 1) (q := 81) (lv' := [(2, .int 4), _, _]) dX0_init_78 rfl rfl (Nat.le_of_ble_eq_true rfl) rfl rfl ?_
  refine aw_goto (t := 59) dX0_init_81 rfl ?_
  refine aw_iload_n (i := 2) (q := 60) dX0_init_59 rfl rfl rfl ?_
  refine aw_bipush (v := 6) (q := 62) dX0_init_60 rfl rfl ?_
  refine aw_icmp_ge (t := 84) (q := 65) dX0_init_62 rfl rfl (fun c => absurd c (by decide)) (fun _ => ?_)
  refine aw_aload_n (i := 0) (q := 66) dX0_init_65 rfl rfl rfl ?_
  refine aw_getfield (q := 69) fgX0_26 dX0_init_66 (Nat.le_of_ble_eq_true rfl) ((o37 8 (by decide)).trans ((o36 8 (by decide)).trans ((o35 8 (by decide)).trans ((o34 8 (by decide)).trans ((o33 8 (by decide)).trans ((o32 8 (by decide)).trans ((o31 8 (by decide)).trans ((o30 8 (by decide)).trans e29)))))))) rfl rfl ?_
  refine aw_iload_n (i := 2) (q := 70) dX0_init_69 rfl rfl rfl ?_
  refine an_new (a := 23) (ci := 5) (fs := [.int 0, .int 0]) (q := 73) dX0_init_70 ck_5 ⟨w_139, w_141, w_10⟩ hd_5 (Nat.le_of_ble_eq_true rfl) (Nat.le_of_ble_eq_true rfl) rfl rfl ?_
  intro h38 e38 o38
  refine aw_dup (q := 74) dX0_init_73 rfl rfl ?_
  refine aw_callIN (As := []) (rest := [.ref (ev_z E + 23), .int 4, .ref (ev_z E + 18)]) (mc := 0) (ms := 0) (d' := 2) (q := 77) lkX0_30 dX0_init_74 (Nat.le_of_ble_eq_true rfl) rfl rfl (Nat.le_of_ble_eq_true rfl) (Nat.le_of_ble_eq_true rfl) (Nat.le_of_ble_eq_true rfl) rfl ?_
  refine ct_X5_init (n := 24) ?_
  refine an_aast (r := (RX5, TX5, 2)) (t := 5) (q := 78) rfl dX0_init_77 (Nat.le_of_ble_eq_true rfl) ((o38 18 (by decide)).trans e37) (Nat.le_of_ble_eq_true rfl) e38 rfl (by unfold vp_in; decide) rfl ?_
  intro h39 e39 o39
  refine aw_iinc (w := 1) (q := 81) (lv' := [(2, .int 5), _, _]) dX0_init_78 rfl rfl (Nat.le_of_ble_eq_true rfl) rfl rfl ?_
  refine aw_goto (t := 59) dX0_init_81 rfl ?_
  refine aw_iload_n (i := 2) (q := 60) dX0_init_59 rfl rfl rfl ?_
  refine aw_bipush (v := 6) (q := 62) dX0_init_60 rfl rfl ?_
  refine aw_icmp_ge (t := 84) (q := 65) dX0_init_62 rfl rfl (fun c => absurd c (by decide)) (fun _ => ?_)
  refine aw_aload_n (i := 0) (q := 66) dX0_init_65 rfl rfl rfl ?_
  refine aw_getfield (q := 69) fgX0_26 dX0_init_66 (Nat.le_of_ble_eq_true rfl) ((o39 8 (by decide)).trans ((o38 8 (by decide)).trans ((o37 8 (by decide)).trans ((o36 8 (by decide)).trans ((o35 8 (by decide)).trans ((o34 8 (by decide)).trans ((o33 8 (by decide)).trans ((o32 8 (by decide)).trans ((o31 8 (by decide)).trans ((o30 8 (by decide)).trans e29)))))))))) rfl rfl ?_
  refine aw_iload_n (i := 2) (q := 70) dX0_init_69 rfl rfl rfl ?_
  refine an_new (a := 24) (ci := 5) (fs := [.int 0, .int 0]) (q := 73) dX0_init_70 ck_5 ⟨w_139, w_141, w_10⟩ hd_5 (Nat.le_of_ble_eq_true rfl) (Nat.le_of_ble_eq_true rfl) rfl rfl ?_
  intro h40 e40 o40
  refine aw_dup (q := 74) dX0_init_73 rfl rfl ?_
  refine aw_callIN (As := []) (rest := [.ref (ev_z E + 24), .int 5, .ref (ev_z E + 18)]) (mc := 0) (ms := 0) (d' := 2) (q := 77) lkX0_30 dX0_init_74 (Nat.le_of_ble_eq_true rfl) rfl rfl (Nat.le_of_ble_eq_true rfl) (Nat.le_of_ble_eq_true rfl) (Nat.le_of_ble_eq_true rfl) rfl ?_
  refine ct_X5_init (n := 25) ?_
  refine an_aast (r := (RX5, TX5, 2)) (t := 5) (q := 78) rfl dX0_init_77 (Nat.le_of_ble_eq_true rfl) ((o40 18 (by decide)).trans e39) (Nat.le_of_ble_eq_true rfl) e40 rfl (by unfold vp_in; decide) rfl ?_
  intro h41 e41 o41
  refine aw_iinc (w := 1) (q := 81) (lv' := [(2, .int 6), _, _]) dX0_init_78 rfl rfl (Nat.le_of_ble_eq_true rfl) rfl rfl ?_
  refine aw_goto (t := 59) dX0_init_81 rfl ?_
  refine aw_iload_n (i := 2) (q := 60) dX0_init_59 rfl rfl rfl ?_
  refine aw_bipush (v := 6) (q := 62) dX0_init_60 rfl rfl ?_
  refine aw_icmp_ge (t := 84) (q := 65) dX0_init_62 rfl rfl (fun _ => ?_) (fun c => absurd (by decide) c)
  refine aw_aload_n (i := 0) (q := 85) dX0_init_84 rfl rfl rfl ?_
  refine aw_bipush (v := 40) (q := 87) dX0_init_85 rfl rfl ?_
  refine an_put (q := 90) fpX0_31 dX0_init_87 (Nat.le_of_ble_eq_true rfl) ((o41 8 (by decide)).trans ((o40 8 (by decide)).trans ((o39 8 (by decide)).trans ((o38 8 (by decide)).trans ((o37 8 (by decide)).trans ((o36 8 (by decide)).trans ((o35 8 (by decide)).trans ((o34 8 (by decide)).trans ((o33 8 (by decide)).trans ((o32 8 (by decide)).trans ((o31 8 (by decide)).trans ((o30 8 (by decide)).trans e29)))))))))))) (Nat.le_of_ble_eq_true rfl) rfl rfl rfl ?_
  intro h42 e42 o42
  replace e42 : h42 8 = .inr (0, [.ref (ev_z E + 5), .ref (ev_z E + 9), .ref (ev_z E + 18), .int 0, .int 0, .int 0, .int 40, .int 0]) := e42
  refine AW_cong (h' := fun k => if k < 8 then h k else HP E mI LI k) (fun k hk => ?_) ?_
  · have hk : k < 25 := hk
    by_cases hb : k < 8
    · rw [if_pos hb]
      exact Or.inl ((o42 k (by omega)).trans ((o41 k (by omega)).trans ((o40 k (by omega)).trans ((o39 k (by omega)).trans ((o38 k (by omega)).trans ((o37 k (by omega)).trans ((o36 k (by omega)).trans ((o35 k (by omega)).trans ((o34 k (by omega)).trans ((o33 k (by omega)).trans ((o32 k (by omega)).trans ((o31 k (by omega)).trans ((o30 k (by omega)).trans ((o29 k (by omega)).trans ((o28 k (by omega)).trans ((o27 k (by omega)).trans ((o26 k (by omega)).trans ((o25 k (by omega)).trans ((o24 k (by omega)).trans ((o23 k (by omega)).trans ((o22 k (by omega)).trans ((o21 k (by omega)).trans ((o20 k (by omega)).trans ((o19 k (by omega)).trans ((o18 k (by omega)).trans ((o17 k (by omega)).trans ((o16 k (by omega)).trans ((o15 k (by omega)).trans ((o14 k (by omega)).trans ((o13 k (by omega)).trans ((o12 k (by omega)).trans ((o11 k (by omega)).trans ((o10 k (by omega)).trans ((o9 k (by omega)).trans ((o8 k (by omega)).trans ((o7 k (by omega)).trans ((o6 k (by omega)).trans ((o5 k (by omega)).trans ((o4 k (by omega)).trans ((o3 k (by omega)).trans ((o2 k (by omega)).trans (o1 k (by omega)))))))))))))))))))))))))))))))))))))))))))
    · rw [if_neg hb]
      obtain rfl | rfl | rfl | rfl | rfl | rfl | rfl | rfl | rfl | rfl | rfl | rfl | rfl | rfl | rfl | rfl | rfl : k = 8 ∨ k = 9 ∨ k = 10 ∨ k = 11 ∨ k = 12 ∨ k = 13 ∨ k = 14 ∨ k = 15 ∨ k = 16 ∨ k = 17 ∨ k = 18 ∨ k = 19 ∨ k = 20 ∨ k = 21 ∨ k = 22 ∨ k = 23 ∨ k = 24 := by omega
      · exact Or.inl e42
      · refine Or.inr ⟨_, _, _, _, ((o42 9 (by decide)).trans ((o41 9 (by decide)).trans ((o40 9 (by decide)).trans ((o39 9 (by decide)).trans ((o38 9 (by decide)).trans ((o37 9 (by decide)).trans ((o36 9 (by decide)).trans ((o35 9 (by decide)).trans ((o34 9 (by decide)).trans ((o33 9 (by decide)).trans ((o32 9 (by decide)).trans ((o31 9 (by decide)).trans ((o30 9 (by decide)).trans ((o29 9 (by decide)).trans ((o28 9 (by decide)).trans e27))))))))))))))), rfl, fun i hi => ?_⟩
        obtain rfl | rfl | rfl | rfl | rfl | rfl | rfl | rfl : i = 0 ∨ i = 1 ∨ i = 2 ∨ i = 3 ∨ i = 4 ∨ i = 5 ∨ i = 6 ∨ i = 7 := by omega
        all_goals rfl
      · exact Or.inl ((o42 10 (by decide)).trans ((o41 10 (by decide)).trans ((o40 10 (by decide)).trans ((o39 10 (by decide)).trans ((o38 10 (by decide)).trans ((o37 10 (by decide)).trans ((o36 10 (by decide)).trans ((o35 10 (by decide)).trans ((o34 10 (by decide)).trans ((o33 10 (by decide)).trans ((o32 10 (by decide)).trans ((o31 10 (by decide)).trans ((o30 10 (by decide)).trans ((o29 10 (by decide)).trans ((o28 10 (by decide)).trans ((o27 10 (by decide)).trans ((o26 10 (by decide)).trans ((o25 10 (by decide)).trans ((o24 10 (by decide)).trans ((o23 10 (by decide)).trans ((o22 10 (by decide)).trans ((o21 10 (by decide)).trans ((o20 10 (by decide)).trans ((o19 10 (by decide)).trans ((o18 10 (by decide)).trans ((o17 10 (by decide)).trans ((o16 10 (by decide)).trans ((o15 10 (by decide)).trans ((o14 10 (by decide)).trans ((o13 10 (by decide)).trans ((o12 10 (by decide)).trans ((o11 10 (by decide)).trans ((o10 10 (by decide)).trans ((o9 10 (by decide)).trans ((o8 10 (by decide)).trans ((o7 10 (by decide)).trans ((o6 10 (by decide)).trans e5)))))))))))))))))))))))))))))))))))))
      · exact Or.inl ((o42 11 (by decide)).trans ((o41 11 (by decide)).trans ((o40 11 (by decide)).trans ((o39 11 (by decide)).trans ((o38 11 (by decide)).trans ((o37 11 (by decide)).trans ((o36 11 (by decide)).trans ((o35 11 (by decide)).trans ((o34 11 (by decide)).trans ((o33 11 (by decide)).trans ((o32 11 (by decide)).trans ((o31 11 (by decide)).trans ((o30 11 (by decide)).trans ((o29 11 (by decide)).trans ((o28 11 (by decide)).trans ((o27 11 (by decide)).trans ((o26 11 (by decide)).trans ((o25 11 (by decide)).trans ((o24 11 (by decide)).trans ((o23 11 (by decide)).trans ((o22 11 (by decide)).trans ((o21 11 (by decide)).trans ((o20 11 (by decide)).trans ((o19 11 (by decide)).trans ((o18 11 (by decide)).trans ((o17 11 (by decide)).trans ((o16 11 (by decide)).trans ((o15 11 (by decide)).trans ((o14 11 (by decide)).trans ((o13 11 (by decide)).trans ((o12 11 (by decide)).trans ((o11 11 (by decide)).trans ((o10 11 (by decide)).trans ((o9 11 (by decide)).trans e8))))))))))))))))))))))))))))))))))
      · exact Or.inl ((o42 12 (by decide)).trans ((o41 12 (by decide)).trans ((o40 12 (by decide)).trans ((o39 12 (by decide)).trans ((o38 12 (by decide)).trans ((o37 12 (by decide)).trans ((o36 12 (by decide)).trans ((o35 12 (by decide)).trans ((o34 12 (by decide)).trans ((o33 12 (by decide)).trans ((o32 12 (by decide)).trans ((o31 12 (by decide)).trans ((o30 12 (by decide)).trans ((o29 12 (by decide)).trans ((o28 12 (by decide)).trans ((o27 12 (by decide)).trans ((o26 12 (by decide)).trans ((o25 12 (by decide)).trans ((o24 12 (by decide)).trans ((o23 12 (by decide)).trans ((o22 12 (by decide)).trans ((o21 12 (by decide)).trans ((o20 12 (by decide)).trans ((o19 12 (by decide)).trans ((o18 12 (by decide)).trans ((o17 12 (by decide)).trans ((o16 12 (by decide)).trans ((o15 12 (by decide)).trans ((o14 12 (by decide)).trans ((o13 12 (by decide)).trans ((o12 12 (by decide)).trans e11)))))))))))))))))))))))))))))))
      · exact Or.inl ((o42 13 (by decide)).trans ((o41 13 (by decide)).trans ((o40 13 (by decide)).trans ((o39 13 (by decide)).trans ((o38 13 (by decide)).trans ((o37 13 (by decide)).trans ((o36 13 (by decide)).trans ((o35 13 (by decide)).trans ((o34 13 (by decide)).trans ((o33 13 (by decide)).trans ((o32 13 (by decide)).trans ((o31 13 (by decide)).trans ((o30 13 (by decide)).trans ((o29 13 (by decide)).trans ((o28 13 (by decide)).trans ((o27 13 (by decide)).trans ((o26 13 (by decide)).trans ((o25 13 (by decide)).trans ((o24 13 (by decide)).trans ((o23 13 (by decide)).trans ((o22 13 (by decide)).trans ((o21 13 (by decide)).trans ((o20 13 (by decide)).trans ((o19 13 (by decide)).trans ((o18 13 (by decide)).trans ((o17 13 (by decide)).trans ((o16 13 (by decide)).trans ((o15 13 (by decide)).trans e14))))))))))))))))))))))))))))
      · exact Or.inl ((o42 14 (by decide)).trans ((o41 14 (by decide)).trans ((o40 14 (by decide)).trans ((o39 14 (by decide)).trans ((o38 14 (by decide)).trans ((o37 14 (by decide)).trans ((o36 14 (by decide)).trans ((o35 14 (by decide)).trans ((o34 14 (by decide)).trans ((o33 14 (by decide)).trans ((o32 14 (by decide)).trans ((o31 14 (by decide)).trans ((o30 14 (by decide)).trans ((o29 14 (by decide)).trans ((o28 14 (by decide)).trans ((o27 14 (by decide)).trans ((o26 14 (by decide)).trans ((o25 14 (by decide)).trans ((o24 14 (by decide)).trans ((o23 14 (by decide)).trans ((o22 14 (by decide)).trans ((o21 14 (by decide)).trans ((o20 14 (by decide)).trans ((o19 14 (by decide)).trans ((o18 14 (by decide)).trans e17)))))))))))))))))))))))))
      · exact Or.inl ((o42 15 (by decide)).trans ((o41 15 (by decide)).trans ((o40 15 (by decide)).trans ((o39 15 (by decide)).trans ((o38 15 (by decide)).trans ((o37 15 (by decide)).trans ((o36 15 (by decide)).trans ((o35 15 (by decide)).trans ((o34 15 (by decide)).trans ((o33 15 (by decide)).trans ((o32 15 (by decide)).trans ((o31 15 (by decide)).trans ((o30 15 (by decide)).trans ((o29 15 (by decide)).trans ((o28 15 (by decide)).trans ((o27 15 (by decide)).trans ((o26 15 (by decide)).trans ((o25 15 (by decide)).trans ((o24 15 (by decide)).trans ((o23 15 (by decide)).trans ((o22 15 (by decide)).trans ((o21 15 (by decide)).trans e20))))))))))))))))))))))
      · exact Or.inl ((o42 16 (by decide)).trans ((o41 16 (by decide)).trans ((o40 16 (by decide)).trans ((o39 16 (by decide)).trans ((o38 16 (by decide)).trans ((o37 16 (by decide)).trans ((o36 16 (by decide)).trans ((o35 16 (by decide)).trans ((o34 16 (by decide)).trans ((o33 16 (by decide)).trans ((o32 16 (by decide)).trans ((o31 16 (by decide)).trans ((o30 16 (by decide)).trans ((o29 16 (by decide)).trans ((o28 16 (by decide)).trans ((o27 16 (by decide)).trans ((o26 16 (by decide)).trans ((o25 16 (by decide)).trans ((o24 16 (by decide)).trans e23)))))))))))))))))))
      · exact Or.inl ((o42 17 (by decide)).trans ((o41 17 (by decide)).trans ((o40 17 (by decide)).trans ((o39 17 (by decide)).trans ((o38 17 (by decide)).trans ((o37 17 (by decide)).trans ((o36 17 (by decide)).trans ((o35 17 (by decide)).trans ((o34 17 (by decide)).trans ((o33 17 (by decide)).trans ((o32 17 (by decide)).trans ((o31 17 (by decide)).trans ((o30 17 (by decide)).trans ((o29 17 (by decide)).trans ((o28 17 (by decide)).trans ((o27 17 (by decide)).trans e26))))))))))))))))
      · refine Or.inr ⟨_, _, _, _, ((o42 18 (by decide)).trans e41), rfl, fun i hi => ?_⟩
        obtain rfl | rfl | rfl | rfl | rfl | rfl : i = 0 ∨ i = 1 ∨ i = 2 ∨ i = 3 ∨ i = 4 ∨ i = 5 := by omega
        all_goals rfl
      · exact Or.inl ((o42 19 (by decide)).trans ((o41 19 (by decide)).trans ((o40 19 (by decide)).trans ((o39 19 (by decide)).trans ((o38 19 (by decide)).trans ((o37 19 (by decide)).trans ((o36 19 (by decide)).trans ((o35 19 (by decide)).trans ((o34 19 (by decide)).trans ((o33 19 (by decide)).trans ((o32 19 (by decide)).trans ((o31 19 (by decide)).trans e30))))))))))))
      · exact Or.inl ((o42 20 (by decide)).trans ((o41 20 (by decide)).trans ((o40 20 (by decide)).trans ((o39 20 (by decide)).trans ((o38 20 (by decide)).trans ((o37 20 (by decide)).trans ((o36 20 (by decide)).trans ((o35 20 (by decide)).trans ((o34 20 (by decide)).trans ((o33 20 (by decide)).trans e32))))))))))
      · exact Or.inl ((o42 21 (by decide)).trans ((o41 21 (by decide)).trans ((o40 21 (by decide)).trans ((o39 21 (by decide)).trans ((o38 21 (by decide)).trans ((o37 21 (by decide)).trans ((o36 21 (by decide)).trans ((o35 21 (by decide)).trans e34))))))))
      · exact Or.inl ((o42 22 (by decide)).trans ((o41 22 (by decide)).trans ((o40 22 (by decide)).trans ((o39 22 (by decide)).trans ((o38 22 (by decide)).trans ((o37 22 (by decide)).trans e36))))))
      · exact Or.inl ((o42 23 (by decide)).trans ((o41 23 (by decide)).trans ((o40 23 (by decide)).trans ((o39 23 (by decide)).trans e38))))
      · exact Or.inl ((o42 24 (by decide)).trans ((o41 24 (by decide)).trans e40))
  refine aw_return dX0_init_90 rfl (Nat.le_of_ble_eq_true rfl) rfl ?_
  exact k _ (fun j hj => if_pos hj) (fun j h1 h2 => if_neg (by omega))
theorem ct_X0_init_25 (hh : h 25 = .inr (0, [.null, .null, .null, .int 0, .int 0, .int 0, .int 0, .int 0])) (hk5 : h 5 = HP E mI LI 5) (k : ∀ h1, (∀ j, j < 25 → h1 j = h j) → (∀ j, 25 ≤ j → j < 42 → h1 j = HP E mI LI j) → Q .null h1) : CT E 3 MX0_init (26, 16, 82) [.ref (ev_z E + 25), .ref (ev_z E + 5)] h Q := by
  refine CT.of rfl (Nat.le_of_ble_eq_true rfl) (lv := [(0, _), (1, _)]) rfl ?_
  refine aw_aload_n (i := 0) (q := 1) dX0_init_0 rfl rfl rfl ?_
  refine aw_objInit (q := 4) lkX0_3 dX0_init_1 (Nat.le_of_ble_eq_true rfl) (Nat.le_of_ble_eq_true rfl) rfl ?_
  refine aw_aload_n (i := 0) (q := 5) dX0_init_4 rfl rfl rfl ?_
  refine aw_aload_n (i := 1) (q := 6) dX0_init_5 rfl rfl rfl ?_
  refine an_putF (q := 9) ffX0_9 rfl dX0_init_6 (Nat.le_of_ble_eq_true rfl) hh (Nat.le_of_ble_eq_true rfl) rfl rfl rfl ?_
  intro h1 e1 o1
  replace e1 : h1 25 = .inr (0, [.ref (ev_z E + 5), .null, .null, .int 0, .int 0, .int 0, .int 0, .int 0]) := e1
  refine aw_aload_n (i := 0) (q := 10) dX0_init_9 rfl rfl rfl ?_
  refine aw_bipush (v := 8) (q := 12) dX0_init_10 rfl rfl ?_
  refine an_anew (a := 26) (t := 4) (C := RX2) (N' := 8) (q := 15) dX0_init_12 rfl (List.mem_of_getElem? (i := 1) rfl) w_98 (by decide) (by decide) (by decide) (Nat.le_of_ble_eq_true rfl) (Nat.le_of_ble_eq_true rfl) rfl rfl ?_
  intro h2 e2 o2
  refine an_putF (q := 18) ffX0_17 rfl dX0_init_15 (Nat.le_of_ble_eq_true rfl) ((o2 25 (by decide)).trans e1) (Nat.le_of_ble_eq_true rfl) rfl rfl rfl ?_
  intro h3 e3 o3
  replace e3 : h3 25 = .inr (0, [.ref (ev_z E + 5), .ref (ev_z E + 26), .null, .int 0, .int 0, .int 0, .int 0, .int 0]) := e3
  refine aw_iconst (v := 0) (q := 19) dX0_init_18 rfl rfl ?_
  refine aw_istore_n (i := 2) (q := 20) (lv' := [_, _, _]) dX0_init_19 rfl (Nat.le_of_ble_eq_true rfl) rfl rfl ?_
  refine aw_iload_n (i := 2) (q := 21) dX0_init_20 rfl rfl rfl ?_
  refine aw_bipush (v := 8) (q := 23) dX0_init_21 rfl rfl ?_
  refine aw_icmp_ge (t := 48) (q := 26) dX0_init_23 rfl rfl (fun c => absurd c (by decide)) (fun _ => ?_)
  refine aw_aload_n (i := 0) (q := 27) dX0_init_26 rfl rfl rfl ?_
  refine aw_getfield (q := 30) fgX0_17 dX0_init_27 (Nat.le_of_ble_eq_true rfl) e3 rfl rfl ?_
  refine aw_iload_n (i := 2) (q := 31) dX0_init_30 rfl rfl rfl ?_
  refine an_new (a := 27) (ci := 2) (fs := [.null, .int 0, .int 0, .int 0, .int 0, .int 0, .int 0]) (q := 34) dX0_init_31 ck_2 ⟨w_98, w_100, w_9⟩ hd_2 (Nat.le_of_ble_eq_true rfl) (Nat.le_of_ble_eq_true rfl) rfl rfl ?_
  intro h4 e4 o4
  refine aw_dup (q := 35) dX0_init_34 rfl rfl ?_
  refine aw_aload_n (i := 1) (q := 36) dX0_init_35 rfl rfl rfl ?_
  refine aw_iconst (v := 0) (q := 37) dX0_init_36 rfl rfl ?_
  refine aw_aaload (t := 3) (n := 6) (f := fun i => some (ev_z E + kcl i)) (r := ev_z E + 1) (q := 38) rfl dX0_init_37 (Nat.le_of_ble_eq_true rfl) ((o4 5 (by decide)).trans ((o3 5 (by decide)).trans ((o2 5 (by decide)).trans ((o1 5 (by decide)).trans hk5)))) (by unfold vp_in; decide) rfl rfl ?_
  refine aw_callI (As := [.ref (ev_z E + 1)]) (rest := [.ref (ev_z E + 27), .int 0, .ref (ev_z E + 26)]) (mc := 0) (ms := 0) (d' := 2) (q := 41) lkX0_21 dX0_init_38 (Nat.le_of_ble_eq_true rfl) rfl rfl (Nat.le_of_ble_eq_true rfl) (Nat.le_of_ble_eq_true rfl) (Nat.le_of_ble_eq_true rfl) rfl ?_
  refine ct_X2_init (n := 28) (Nat.le_of_ble_eq_true rfl) e4 ?_
  intro h5 e5 o5
  refine an_aast (r := (RX2, TX2, 7)) (t := 4) (q := 42) rfl dX0_init_41 (Nat.le_of_ble_eq_true rfl) ((o5 26 (by decide)).trans ((o4 26 (by decide)).trans ((o3 26 (by decide)).trans e2))) (Nat.le_of_ble_eq_true rfl) e5 rfl (by unfold vp_in; decide) rfl ?_
  intro h6 e6 o6
  refine aw_iinc (w := 1) (q := 45) (lv' := [(2, .int 1), _, _]) dX0_init_42 rfl rfl (Nat.le_of_ble_eq_true rfl) rfl rfl ?_
  refine aw_goto (t := 20) dX0_init_45 rfl ?_
  refine aw_iload_n (i := 2) (q := 21) dX0_init_20 rfl rfl rfl ?_
  refine aw_bipush (v := 8) (q := 23) dX0_init_21 rfl rfl ?_
  refine aw_icmp_ge (t := 48) (q := 26) dX0_init_23 rfl rfl (fun c => absurd c (by decide)) (fun _ => ?_)
  refine aw_aload_n (i := 0) (q := 27) dX0_init_26 rfl rfl rfl ?_
  refine aw_getfield (q := 30) fgX0_17 dX0_init_27 (Nat.le_of_ble_eq_true rfl) ((o6 25 (by decide)).trans ((o5 25 (by decide)).trans ((o4 25 (by decide)).trans e3))) rfl rfl ?_
  refine aw_iload_n (i := 2) (q := 31) dX0_init_30 rfl rfl rfl ?_
  refine an_new (a := 28) (ci := 2) (fs := [.null, .int 0, .int 0, .int 0, .int 0, .int 0, .int 0]) (q := 34) dX0_init_31 ck_2 ⟨w_98, w_100, w_9⟩ hd_2 (Nat.le_of_ble_eq_true rfl) (Nat.le_of_ble_eq_true rfl) rfl rfl ?_
  intro h7 e7 o7
  refine aw_dup (q := 35) dX0_init_34 rfl rfl ?_
  refine aw_aload_n (i := 1) (q := 36) dX0_init_35 rfl rfl rfl ?_
  refine aw_iconst (v := 0) (q := 37) dX0_init_36 rfl rfl ?_
  refine aw_aaload (t := 3) (n := 6) (f := fun i => some (ev_z E + kcl i)) (r := ev_z E + 1) (q := 38) rfl dX0_init_37 (Nat.le_of_ble_eq_true rfl) ((o7 5 (by decide)).trans ((o6 5 (by decide)).trans ((o5 5 (by decide)).trans ((o4 5 (by decide)).trans ((o3 5 (by decide)).trans ((o2 5 (by decide)).trans ((o1 5 (by decide)).trans hk5))))))) (by unfold vp_in; decide) rfl rfl ?_
  refine aw_callI (As := [.ref (ev_z E + 1)]) (rest := [.ref (ev_z E + 28), .int 1, .ref (ev_z E + 26)]) (mc := 0) (ms := 0) (d' := 2) (q := 41) lkX0_21 dX0_init_38 (Nat.le_of_ble_eq_true rfl) rfl rfl (Nat.le_of_ble_eq_true rfl) (Nat.le_of_ble_eq_true rfl) (Nat.le_of_ble_eq_true rfl) rfl ?_
  refine ct_X2_init (n := 29) (Nat.le_of_ble_eq_true rfl) e7 ?_
  intro h8 e8 o8
  refine an_aast (r := (RX2, TX2, 7)) (t := 4) (q := 42) rfl dX0_init_41 (Nat.le_of_ble_eq_true rfl) ((o8 26 (by decide)).trans ((o7 26 (by decide)).trans e6)) (Nat.le_of_ble_eq_true rfl) e8 rfl (by unfold vp_in; decide) rfl ?_
  intro h9 e9 o9
  refine aw_iinc (w := 1) (q := 45) (lv' := [(2, .int 2), _, _]) dX0_init_42 rfl rfl (Nat.le_of_ble_eq_true rfl) rfl rfl ?_
  refine aw_goto (t := 20) dX0_init_45 rfl ?_
  refine aw_iload_n (i := 2) (q := 21) dX0_init_20 rfl rfl rfl ?_
  refine aw_bipush (v := 8) (q := 23) dX0_init_21 rfl rfl ?_
  refine aw_icmp_ge (t := 48) (q := 26) dX0_init_23 rfl rfl (fun c => absurd c (by decide)) (fun _ => ?_)
  refine aw_aload_n (i := 0) (q := 27) dX0_init_26 rfl rfl rfl ?_
  refine aw_getfield (q := 30) fgX0_17 dX0_init_27 (Nat.le_of_ble_eq_true rfl) ((o9 25 (by decide)).trans ((o8 25 (by decide)).trans ((o7 25 (by decide)).trans ((o6 25 (by decide)).trans ((o5 25 (by decide)).trans ((o4 25 (by decide)).trans e3)))))) rfl rfl ?_
  refine aw_iload_n (i := 2) (q := 31) dX0_init_30 rfl rfl rfl ?_
  refine an_new (a := 29) (ci := 2) (fs := [.null, .int 0, .int 0, .int 0, .int 0, .int 0, .int 0]) (q := 34) dX0_init_31 ck_2 ⟨w_98, w_100, w_9⟩ hd_2 (Nat.le_of_ble_eq_true rfl) (Nat.le_of_ble_eq_true rfl) rfl rfl ?_
  intro h10 e10 o10
  refine aw_dup (q := 35) dX0_init_34 rfl rfl ?_
  refine aw_aload_n (i := 1) (q := 36) dX0_init_35 rfl rfl rfl ?_
  refine aw_iconst (v := 0) (q := 37) dX0_init_36 rfl rfl ?_
  refine aw_aaload (t := 3) (n := 6) (f := fun i => some (ev_z E + kcl i)) (r := ev_z E + 1) (q := 38) rfl dX0_init_37 (Nat.le_of_ble_eq_true rfl) ((o10 5 (by decide)).trans ((o9 5 (by decide)).trans ((o8 5 (by decide)).trans ((o7 5 (by decide)).trans ((o6 5 (by decide)).trans ((o5 5 (by decide)).trans ((o4 5 (by decide)).trans ((o3 5 (by decide)).trans ((o2 5 (by decide)).trans ((o1 5 (by decide)).trans hk5)))))))))) (by unfold vp_in; decide) rfl rfl ?_
  refine aw_callI (As := [.ref (ev_z E + 1)]) (rest := [.ref (ev_z E + 29), .int 2, .ref (ev_z E + 26)]) (mc := 0) (ms := 0) (d' := 2) (q := 41) lkX0_21 dX0_init_38 (Nat.le_of_ble_eq_true rfl) rfl rfl (Nat.le_of_ble_eq_true rfl) (Nat.le_of_ble_eq_true rfl) (Nat.le_of_ble_eq_true rfl) rfl ?_
  refine ct_X2_init (n := 30) (Nat.le_of_ble_eq_true rfl) e10 ?_
  intro h11 e11 o11
  refine an_aast (r := (RX2, TX2, 7)) (t := 4) (q := 42) rfl dX0_init_41 (Nat.le_of_ble_eq_true rfl) ((o11 26 (by decide)).trans ((o10 26 (by decide)).trans e9)) (Nat.le_of_ble_eq_true rfl) e11 rfl (by unfold vp_in; decide) rfl ?_
  intro h12 e12 o12
  refine aw_iinc (w := 1) (q := 45) (lv' := [(2, .int 3), _, _]) dX0_init_42 rfl rfl (Nat.le_of_ble_eq_true rfl) rfl rfl ?_
  refine aw_goto (t := 20) dX0_init_45 rfl ?_
  refine aw_iload_n (i := 2) (q := 21) dX0_init_20 rfl rfl rfl ?_
  refine aw_bipush (v := 8) (q := 23) dX0_init_21 rfl rfl ?_
  refine aw_icmp_ge (t := 48) (q := 26) dX0_init_23 rfl rfl (fun c => absurd c (by decide)) (fun _ => ?_)
  refine aw_aload_n (i := 0) (q := 27) dX0_init_26 rfl rfl rfl ?_
  refine aw_getfield (q := 30) fgX0_17 dX0_init_27 (Nat.le_of_ble_eq_true rfl) ((o12 25 (by decide)).trans ((o11 25 (by decide)).trans ((o10 25 (by decide)).trans ((o9 25 (by decide)).trans ((o8 25 (by decide)).trans ((o7 25 (by decide)).trans ((o6 25 (by decide)).trans ((o5 25 (by decide)).trans ((o4 25 (by decide)).trans e3))))))))) rfl rfl ?_
  refine aw_iload_n (i := 2) (q := 31) dX0_init_30 rfl rfl rfl ?_
  refine an_new (a := 30) (ci := 2) (fs := [.null, .int 0, .int 0, .int 0, .int 0, .int 0, .int 0]) (q := 34) dX0_init_31 ck_2 ⟨w_98, w_100, w_9⟩ hd_2 (Nat.le_of_ble_eq_true rfl) (Nat.le_of_ble_eq_true rfl) rfl rfl ?_
  intro h13 e13 o13
  refine aw_dup (q := 35) dX0_init_34 rfl rfl ?_
  refine aw_aload_n (i := 1) (q := 36) dX0_init_35 rfl rfl rfl ?_
  refine aw_iconst (v := 0) (q := 37) dX0_init_36 rfl rfl ?_
  refine aw_aaload (t := 3) (n := 6) (f := fun i => some (ev_z E + kcl i)) (r := ev_z E + 1) (q := 38) rfl dX0_init_37 (Nat.le_of_ble_eq_true rfl) ((o13 5 (by decide)).trans ((o12 5 (by decide)).trans ((o11 5 (by decide)).trans ((o10 5 (by decide)).trans ((o9 5 (by decide)).trans ((o8 5 (by decide)).trans ((o7 5 (by decide)).trans ((o6 5 (by decide)).trans ((o5 5 (by decide)).trans ((o4 5 (by decide)).trans ((o3 5 (by decide)).trans ((o2 5 (by decide)).trans ((o1 5 (by decide)).trans hk5))))))))))))) (by unfold vp_in; decide) rfl rfl ?_
  refine aw_callI (As := [.ref (ev_z E + 1)]) (rest := [.ref (ev_z E + 30), .int 3, .ref (ev_z E + 26)]) (mc := 0) (ms := 0) (d' := 2) (q := 41) lkX0_21 dX0_init_38 (Nat.le_of_ble_eq_true rfl) rfl rfl (Nat.le_of_ble_eq_true rfl) (Nat.le_of_ble_eq_true rfl) (Nat.le_of_ble_eq_true rfl) rfl ?_
  refine ct_X2_init (n := 31) (Nat.le_of_ble_eq_true rfl) e13 ?_
  intro h14 e14 o14
  refine an_aast (r := (RX2, TX2, 7)) (t := 4) (q := 42) rfl dX0_init_41 (Nat.le_of_ble_eq_true rfl) ((o14 26 (by decide)).trans ((o13 26 (by decide)).trans e12)) (Nat.le_of_ble_eq_true rfl) e14 rfl (by unfold vp_in; decide) rfl ?_
  intro h15 e15 o15
  refine aw_iinc (w := 1) (q := 45) (lv' := [(2, .int 4), _, _]) dX0_init_42 rfl rfl (Nat.le_of_ble_eq_true rfl) rfl rfl ?_
  refine aw_goto (t := 20) dX0_init_45 rfl ?_
  refine aw_iload_n (i := 2) (q := 21) dX0_init_20 rfl rfl rfl ?_
  refine aw_bipush (v := 8) (q := 23) dX0_init_21 rfl rfl ?_
  refine aw_icmp_ge (t := 48) (q := 26) dX0_init_23 rfl rfl (fun c => absurd c (by decide)) (fun _ => ?_)
  refine aw_aload_n (i := 0) (q := 27) dX0_init_26 rfl rfl rfl ?_
  refine aw_getfield (q := 30) fgX0_17 dX0_init_27 (Nat.le_of_ble_eq_true rfl) ((o15 25 (by decide)).trans ((o14 25 (by decide)).trans ((o13 25 (by decide)).trans ((o12 25 (by decide)).trans ((o11 25 (by decide)).trans ((o10 25 (by decide)).trans ((o9 25 (by decide)).trans ((o8 25 (by decide)).trans ((o7 25 (by decide)).trans ((o6 25 (by decide)).trans ((o5 25 (by decide)).trans ((o4 25 (by decide)).trans e3)))))))))))) rfl rfl ?_
  refine aw_iload_n (i := 2) (q := 31) dX0_init_30 rfl rfl rfl ?_
  refine an_new (a := 31) (ci := 2) (fs := [.null, .int 0, .int 0, .int 0, .int 0, .int 0, .int 0]) (q := 34) dX0_init_31 ck_2 ⟨w_98, w_100, w_9⟩ hd_2 (Nat.le_of_ble_eq_true rfl) (Nat.le_of_ble_eq_true rfl) rfl rfl ?_
  intro h16 e16 o16
  refine aw_dup (q := 35) dX0_init_34 rfl rfl ?_
  refine aw_aload_n (i := 1) (q := 36) dX0_init_35 rfl rfl rfl ?_
  refine aw_iconst (v := 0) (q := 37) dX0_init_36 rfl rfl ?_
  refine aw_aaload (t := 3) (n := 6) (f := fun i => some (ev_z E + kcl i)) (r := ev_z E + 1) (q := 38) rfl dX0_init_37 (Nat.le_of_ble_eq_true rfl) ((o16 5 (by decide)).trans ((o15 5 (by decide)).trans ((o14 5 (by decide)).trans ((o13 5 (by decide)).trans ((o12 5 (by decide)).trans ((o11 5 (by decide)).trans ((o10 5 (by decide)).trans ((o9 5 (by decide)).trans ((o8 5 (by decide)).trans ((o7 5 (by decide)).trans ((o6 5 (by decide)).trans ((o5 5 (by decide)).trans ((o4 5 (by decide)).trans ((o3 5 (by decide)).trans ((o2 5 (by decide)).trans ((o1 5 (by decide)).trans hk5)))))))))))))))) (by unfold vp_in; decide) rfl rfl ?_
  refine aw_callI (As := [.ref (ev_z E + 1)]) (rest := [.ref (ev_z E + 31), .int 4, .ref (ev_z E + 26)]) (mc := 0) (ms := 0) (d' := 2) (q := 41) lkX0_21 dX0_init_38 (Nat.le_of_ble_eq_true rfl) rfl rfl (Nat.le_of_ble_eq_true rfl) (Nat.le_of_ble_eq_true rfl) (Nat.le_of_ble_eq_true rfl) rfl ?_
  refine ct_X2_init (n := 32) (Nat.le_of_ble_eq_true rfl) e16 ?_
  intro h17 e17 o17
  refine an_aast (r := (RX2, TX2, 7)) (t := 4) (q := 42) rfl dX0_init_41 (Nat.le_of_ble_eq_true rfl) ((o17 26 (by decide)).trans ((o16 26 (by decide)).trans e15)) (Nat.le_of_ble_eq_true rfl) e17 rfl (by unfold vp_in; decide) rfl ?_
  intro h18 e18 o18
  refine aw_iinc (w := 1) (q := 45) (lv' := [(2, .int 5), _, _]) dX0_init_42 rfl rfl (Nat.le_of_ble_eq_true rfl) rfl rfl ?_
  refine aw_goto (t := 20) dX0_init_45 rfl ?_
  refine aw_iload_n (i := 2) (q := 21) dX0_init_20 rfl rfl rfl ?_
  refine aw_bipush (v := 8) (q := 23) dX0_init_21 rfl rfl ?_
  refine aw_icmp_ge (t := 48) (q := 26) dX0_init_23 rfl rfl (fun c => absurd c (by decide)) (fun _ => ?_)
  refine aw_aload_n (i := 0) (q := 27) dX0_init_26 rfl rfl rfl ?_
  refine aw_getfield (q := 30) fgX0_17 dX0_init_27 (Nat.le_of_ble_eq_true rfl) ((o18 25 (by decide)).trans ((o17 25 (by decide)).trans ((o16 25 (by decide)).trans ((o15 25 (by decide)).trans ((o14 25 (by decide)).trans ((o13 25 (by decide)).trans ((o12 25 (by decide)).trans ((o11 25 (by decide)).trans ((o10 25 (by decide)).trans ((o9 25 (by decide)).trans ((o8 25 (by decide)).trans ((o7 25 (by decide)).trans ((o6 25 (by decide)).trans ((o5 25 (by decide)).trans ((o4 25 (by decide)).trans e3))))))))))))))) rfl rfl ?_
  refine aw_iload_n (i := 2) (q := 31) dX0_init_30 rfl rfl rfl ?_
  refine an_new (a := 32) (ci := 2) (fs := [.null, .int 0, .int 0, .int 0, .int 0, .int 0, .int 0]) (q := 34) dX0_init_31 ck_2 ⟨w_98, w_100, w_9⟩ hd_2 (Nat.le_of_ble_eq_true rfl) (Nat.le_of_ble_eq_true rfl) rfl rfl ?_
  intro h19 e19 o19
  refine aw_dup (q := 35) dX0_init_34 rfl rfl ?_
  refine aw_aload_n (i := 1) (q := 36) dX0_init_35 rfl rfl rfl ?_
  refine aw_iconst (v := 0) (q := 37) dX0_init_36 rfl rfl ?_
  refine aw_aaload (t := 3) (n := 6) (f := fun i => some (ev_z E + kcl i)) (r := ev_z E + 1) (q := 38) rfl dX0_init_37 (Nat.le_of_ble_eq_true rfl) ((o19 5 (by decide)).trans ((o18 5 (by decide)).trans ((o17 5 (by decide)).trans ((o16 5 (by decide)).trans ((o15 5 (by decide)).trans ((o14 5 (by decide)).trans ((o13 5 (by decide)).trans ((o12 5 (by decide)).trans ((o11 5 (by decide)).trans ((o10 5 (by decide)).trans ((o9 5 (by decide)).trans ((o8 5 (by decide)).trans ((o7 5 (by decide)).trans ((o6 5 (by decide)).trans ((o5 5 (by decide)).trans ((o4 5 (by decide)).trans ((o3 5 (by decide)).trans ((o2 5 (by decide)).trans ((o1 5 (by decide)).trans hk5))))))))))))))))))) (by unfold vp_in; decide) rfl rfl ?_
  refine aw_callI (As := [.ref (ev_z E + 1)]) (rest := [.ref (ev_z E + 32), .int 5, .ref (ev_z E + 26)]) (mc := 0) (ms := 0) (d' := 2) (q := 41) lkX0_21 dX0_init_38 (Nat.le_of_ble_eq_true rfl) rfl rfl (Nat.le_of_ble_eq_true rfl) (Nat.le_of_ble_eq_true rfl) (Nat.le_of_ble_eq_true rfl) rfl ?_
  refine ct_X2_init (n := 33) (Nat.le_of_ble_eq_true rfl) e19 ?_
  intro h20 e20 o20
  refine an_aast (r := (RX2, TX2, 7)) (t := 4) (q := 42) rfl dX0_init_41 (Nat.le_of_ble_eq_true rfl) ((o20 26 (by decide)).trans ((o19 26 (by decide)).trans e18)) (Nat.le_of_ble_eq_true rfl) e20 rfl (by unfold vp_in; decide) rfl ?_
  intro h21 e21 o21
  refine aw_iinc (w := 1) (q := 45) (lv' := [(2, .int 6), _, _]) dX0_init_42 rfl rfl (Nat.le_of_ble_eq_true rfl) rfl rfl ?_
  refine aw_goto (t := 20) dX0_init_45 rfl ?_
  refine aw_iload_n (i := 2) (q := 21) dX0_init_20 rfl rfl rfl ?_
  refine aw_bipush (v := 8) (q := 23) dX0_init_21 rfl rfl ?_
  refine aw_icmp_ge (t := 48) (q := 26) dX0_init_23 rfl rfl (fun c => absurd c (by decide)) (fun _ => ?_)
  refine aw_aload_n (i := 0) (q := 27) dX0_init_26 rfl rfl rfl ?_
  refine aw_getfield (q := 30) fgX0_17 dX0_init_27 (Nat.le_of_ble_eq_true rfl) ((o21 25 (by decide)).trans ((o20 25 (by decide)).trans ((o19 25 (by decide)).trans ((o18 25 (by decide)).trans ((o17 25 (by decide)).trans ((o16 25 (by decide)).trans ((o15 25 (by decide)).trans ((o14 25 (by decide)).trans ((o13 25 (by decide)).trans ((o12 25 (by decide)).trans ((o11 25 (by decide)).trans ((o10 25 (by decide)).trans ((o9 25 (by decide)).trans ((o8 25 (by decide)).trans ((o7 25 (by decide)).trans ((o6 25 (by decide)).trans ((o5 25 (by decide)).trans ((o4 25 (by decide)).trans e3)))))))))))))))))) rfl rfl ?_
  refine aw_iload_n (i := 2) (q := 31) dX0_init_30 rfl rfl rfl ?_
  refine an_new (a := 33) (ci := 2) (fs := [.null, .int 0, .int 0, .int 0, .int 0, .int 0, .int 0]) (q := 34) dX0_init_31 ck_2 ⟨w_98, w_100, w_9⟩ hd_2 (Nat.le_of_ble_eq_true rfl) (Nat.le_of_ble_eq_true rfl) rfl rfl ?_
  intro h22 e22 o22
  refine aw_dup (q := 35) dX0_init_34 rfl rfl ?_
  refine aw_aload_n (i := 1) (q := 36) dX0_init_35 rfl rfl rfl ?_
  refine aw_iconst (v := 0) (q := 37) dX0_init_36 rfl rfl ?_
  refine aw_aaload (t := 3) (n := 6) (f := fun i => some (ev_z E + kcl i)) (r := ev_z E + 1) (q := 38) rfl dX0_init_37 (Nat.le_of_ble_eq_true rfl) ((o22 5 (by decide)).trans ((o21 5 (by decide)).trans ((o20 5 (by decide)).trans ((o19 5 (by decide)).trans ((o18 5 (by decide)).trans ((o17 5 (by decide)).trans ((o16 5 (by decide)).trans ((o15 5 (by decide)).trans ((o14 5 (by decide)).trans ((o13 5 (by decide)).trans ((o12 5 (by decide)).trans ((o11 5 (by decide)).trans ((o10 5 (by decide)).trans ((o9 5 (by decide)).trans ((o8 5 (by decide)).trans ((o7 5 (by decide)).trans ((o6 5 (by decide)).trans ((o5 5 (by decide)).trans ((o4 5 (by decide)).trans ((o3 5 (by decide)).trans ((o2 5 (by decide)).trans ((o1 5 (by decide)).trans hk5)))))))))))))))))))))) (by unfold vp_in; decide) rfl rfl ?_
  refine aw_callI (As := [.ref (ev_z E + 1)]) (rest := [.ref (ev_z E + 33), .int 6, .ref (ev_z E + 26)]) (mc := 0) (ms := 0) (d' := 2) (q := 41) lkX0_21 dX0_init_38 (Nat.le_of_ble_eq_true rfl) rfl rfl (Nat.le_of_ble_eq_true rfl) (Nat.le_of_ble_eq_true rfl) (Nat.le_of_ble_eq_true rfl) rfl ?_
  refine ct_X2_init (n := 34) (Nat.le_of_ble_eq_true rfl) e22 ?_
  intro h23 e23 o23
  refine an_aast (r := (RX2, TX2, 7)) (t := 4) (q := 42) rfl dX0_init_41 (Nat.le_of_ble_eq_true rfl) ((o23 26 (by decide)).trans ((o22 26 (by decide)).trans e21)) (Nat.le_of_ble_eq_true rfl) e23 rfl (by unfold vp_in; decide) rfl ?_
  intro h24 e24 o24
  refine aw_iinc (w := 1) (q := 45) (lv' := [(2, .int 7), _, _]) dX0_init_42 rfl rfl (Nat.le_of_ble_eq_true rfl) rfl rfl ?_
  refine aw_goto (t := 20) dX0_init_45 rfl ?_
  refine aw_iload_n (i := 2) (q := 21) dX0_init_20 rfl rfl rfl ?_
  refine aw_bipush (v := 8) (q := 23) dX0_init_21 rfl rfl ?_
  refine aw_icmp_ge (t := 48) (q := 26) dX0_init_23 rfl rfl (fun c => absurd c (by decide)) (fun _ => ?_)
  refine aw_aload_n (i := 0) (q := 27) dX0_init_26 rfl rfl rfl ?_
  refine aw_getfield (q := 30) fgX0_17 dX0_init_27 (Nat.le_of_ble_eq_true rfl) ((o24 25 (by decide)).trans ((o23 25 (by decide)).trans ((o22 25 (by decide)).trans ((o21 25 (by decide)).trans ((o20 25 (by decide)).trans ((o19 25 (by decide)).trans ((o18 25 (by decide)).trans ((o17 25 (by decide)).trans ((o16 25 (by decide)).trans ((o15 25 (by decide)).trans ((o14 25 (by decide)).trans ((o13 25 (by decide)).trans ((o12 25 (by decide)).trans ((o11 25 (by decide)).trans ((o10 25 (by decide)).trans ((o9 25 (by decide)).trans ((o8 25 (by decide)).trans ((o7 25 (by decide)).trans ((o6 25 (by decide)).trans ((o5 25 (by decide)).trans ((o4 25 (by decide)).trans e3))))))))))))))))))))) rfl rfl ?_
  refine aw_iload_n (i := 2) (q := 31) dX0_init_30 rfl rfl rfl ?_
  refine an_new (a := 34) (ci := 2) (fs := [.null, .int 0, .int 0, .int 0, .int 0, .int 0, .int 0]) (q := 34) dX0_init_31 ck_2 ⟨w_98, w_100, w_9⟩ hd_2 (Nat.le_of_ble_eq_true rfl) (Nat.le_of_ble_eq_true rfl) rfl rfl ?_
  intro h25 e25 o25
  refine aw_dup (q := 35) dX0_init_34 rfl rfl ?_
  refine aw_aload_n (i := 1) (q := 36) dX0_init_35 rfl rfl rfl ?_
  refine aw_iconst (v := 0) (q := 37) dX0_init_36 rfl rfl ?_
  refine aw_aaload (t := 3) (n := 6) (f := fun i => some (ev_z E + kcl i)) (r := ev_z E + 1) (q := 38) rfl dX0_init_37 (Nat.le_of_ble_eq_true rfl) ((o25 5 (by decide)).trans ((o24 5 (by decide)).trans ((o23 5 (by decide)).trans ((o22 5 (by decide)).trans ((o21 5 (by decide)).trans ((o20 5 (by decide)).trans ((o19 5 (by decide)).trans ((o18 5 (by decide)).trans ((o17 5 (by decide)).trans ((o16 5 (by decide)).trans ((o15 5 (by decide)).trans ((o14 5 (by decide)).trans ((o13 5 (by decide)).trans ((o12 5 (by decide)).trans ((o11 5 (by decide)).trans ((o10 5 (by decide)).trans ((o9 5 (by decide)).trans ((o8 5 (by decide)).trans ((o7 5 (by decide)).trans ((o6 5 (by decide)).trans ((o5 5 (by decide)).trans ((o4 5 (by decide)).trans ((o3 5 (by decide)).trans ((o2 5 (by decide)).trans ((o1 5 (by decide)).trans hk5))))))))))))))))))))))))) (by unfold vp_in; decide) rfl rfl ?_
  refine aw_callI (As := [.ref (ev_z E + 1)]) (rest := [.ref (ev_z E + 34), .int 7, .ref (ev_z E + 26)]) (mc := 0) (ms := 0) (d' := 2) (q := 41) lkX0_21 dX0_init_38 (Nat.le_of_ble_eq_true rfl) rfl rfl (Nat.le_of_ble_eq_true rfl) (Nat.le_of_ble_eq_true rfl) (Nat.le_of_ble_eq_true rfl) rfl ?_
  refine ct_X2_init (n := 35) (Nat.le_of_ble_eq_true rfl) e25 ?_
  intro h26 e26 o26
  refine an_aast (r := (RX2, TX2, 7)) (t := 4) (q := 42) rfl dX0_init_41 (Nat.le_of_ble_eq_true rfl) ((o26 26 (by decide)).trans ((o25 26 (by decide)).trans e24)) (Nat.le_of_ble_eq_true rfl) e26 rfl (by unfold vp_in; decide) rfl ?_
  intro h27 e27 o27
  refine aw_iinc (w := 1) (q := 45) (lv' := [(2, .int 8), _, _]) dX0_init_42 rfl rfl (Nat.le_of_ble_eq_true rfl) rfl rfl ?_
  refine aw_goto (t := 20) dX0_init_45 rfl ?_
  refine aw_iload_n (i := 2) (q := 21) dX0_init_20 rfl rfl rfl ?_
  refine aw_bipush (v := 8) (q := 23) dX0_init_21 rfl rfl ?_
  refine aw_icmp_ge (t := 48) (q := 26) dX0_init_23 rfl rfl (fun _ => ?_) (fun c => absurd (by decide) c)
  refine aw_aload_n (i := 0) (q := 49) dX0_init_48 rfl rfl rfl ?_
  refine aw_bipush (v := 6) (q := 51) dX0_init_49 rfl rfl ?_
  refine an_anew (a := 35) (t := 5) (C := RX5) (N' := 6) (q := 54) dX0_init_51 rfl (List.mem_of_getElem? (i := 2) rfl) w_139 (by decide) (by decide) (by decide) (Nat.le_of_ble_eq_true rfl) (Nat.le_of_ble_eq_true rfl) rfl rfl ?_
  intro h28 e28 o28
  refine an_putF (q := 57) ffX0_26 rfl dX0_init_54 (Nat.le_of_ble_eq_true rfl) ((o28 25 (by decide)).trans ((o27 25 (by decide)).trans ((o26 25 (by decide)).trans ((o25 25 (by decide)).trans ((o24 25 (by decide)).trans ((o23 25 (by decide)).trans ((o22 25 (by decide)).trans ((o21 25 (by decide)).trans ((o20 25 (by decide)).trans ((o19 25 (by decide)).trans ((o18 25 (by decide)).trans ((o17 25 (by decide)).trans ((o16 25 (by decide)).trans ((o15 25 (by decide)).trans ((o14 25 (by decide)).trans ((o13 25 (by decide)).trans ((o12 25 (by decide)).trans ((o11 25 (by decide)).trans ((o10 25 (by decide)).trans ((o9 25 (by decide)).trans ((o8 25 (by decide)).trans ((o7 25 (by decide)).trans ((o6 25 (by decide)).trans ((o5 25 (by decide)).trans ((o4 25 (by decide)).trans e3))))))))))))))))))))))))) (Nat.le_of_ble_eq_true rfl) rfl rfl rfl ?_
  intro h29 e29 o29
  replace e29 : h29 25 = .inr (0, [.ref (ev_z E + 5), .ref (ev_z E + 26), .ref (ev_z E + 35), .int 0, .int 0, .int 0, .int 0, .int 0]) := e29
  refine aw_iconst (v := 0) (q := 58) dX0_init_57 rfl rfl ?_
  refine aw_istore_n (i := 2) (q := 59) (lv' := [_, _, _]) dX0_init_58 rfl (Nat.le_of_ble_eq_true rfl) rfl rfl ?_
  refine aw_iload_n (i := 2) (q := 60) dX0_init_59 rfl rfl rfl ?_
  refine aw_bipush (v := 6) (q := 62) dX0_init_60 rfl rfl ?_
  refine aw_icmp_ge (t := 84) (q := 65) dX0_init_62 rfl rfl (fun c => absurd c (by decide)) (fun _ => ?_)
  refine aw_aload_n (i := 0) (q := 66) dX0_init_65 rfl rfl rfl ?_
  refine aw_getfield (q := 69) fgX0_26 dX0_init_66 (Nat.le_of_ble_eq_true rfl) e29 rfl rfl ?_
  refine aw_iload_n (i := 2) (q := 70) dX0_init_69 rfl rfl rfl ?_
  refine an_new (a := 36) (ci := 5) (fs := [.int 0, .int 0]) (q := 73) dX0_init_70 ck_5 ⟨w_139, w_141, w_10⟩ hd_5 (Nat.le_of_ble_eq_true rfl) (Nat.le_of_ble_eq_true rfl) rfl rfl ?_
  intro h30 e30 o30
  refine aw_dup (q := 74) dX0_init_73 rfl rfl ?_
  refine aw_callIN (As := []) (rest := [.ref (ev_z E + 36), .int 0, .ref (ev_z E + 35)]) (mc := 0) (ms := 0) (d' := 2) (q := 77) lkX0_30 dX0_init_74 (Nat.le_of_ble_eq_true rfl) rfl rfl (Nat.le_of_ble_eq_true rfl) (Nat.le_of_ble_eq_true rfl) (Nat.le_of_ble_eq_true rfl) rfl ?_
  refine ct_X5_init (n := 37) ?_
  refine an_aast (r := (RX5, TX5, 2)) (t := 5) (q := 78) rfl dX0_init_77 (Nat.le_of_ble_eq_true rfl) ((o30 35 (by decide)).trans ((o29 35 (by decide)).trans e28)) (Nat.le_of_ble_eq_true rfl) e30 rfl (by unfold vp_in; decide) rfl ?_
  intro h31 e31 o31
  refine aw_iinc (w := 1) (q := 81) (lv' := [(2, .int 1), _, _]) dX0_init_78 rfl rfl (Nat.le_of_ble_eq_true rfl) rfl rfl ?_
  refine aw_goto (t := 59) dX0_init_81 rfl ?_
  refine aw_iload_n (i := 2) (q := 60) dX0_init_59 rfl rfl rfl ?_
  refine aw_bipush (v := 6) (q := 62) dX0_init_60 rfl rfl ?_
  refine aw_icmp_ge (t := 84) (q := 65) dX0_init_62 rfl rfl (fun c => absurd c (by decide)) (fun _ => ?_)
  refine aw_aload_n (i := 0) (q := 66) dX0_init_65 rfl rfl rfl ?_
  refine aw_getfield (q := 69) fgX0_26 dX0_init_66 (Nat.le_of_ble_eq_true rfl) ((o31 25 (by decide)).trans ((o30 25 (by decide)).trans e29)) rfl rfl ?_
  refine aw_iload_n (i := 2) (q := 70) dX0_init_69 rfl rfl rfl ?_
  refine an_new (a := 37) (ci := 5) (fs := [.int 0, .int 0]) (q := 73) dX0_init_70 ck_5 ⟨w_139, w_141, w_10⟩ hd_5 (Nat.le_of_ble_eq_true rfl) (Nat.le_of_ble_eq_true rfl) rfl rfl ?_
  intro h32 e32 o32
  refine aw_dup (q := 74) dX0_init_73 rfl rfl ?_
  refine aw_callIN (As := []) (rest := [.ref (ev_z E + 37), .int 1, .ref (ev_z E + 35)]) (mc := 0) (ms := 0) (d' := 2) (q := 77) lkX0_30 dX0_init_74 (Nat.le_of_ble_eq_true rfl) rfl rfl (Nat.le_of_ble_eq_true rfl) (Nat.le_of_ble_eq_true rfl) (Nat.le_of_ble_eq_true rfl) rfl ?_
  refine ct_X5_init (n := 38) ?_
  refine an_aast (r := (RX5, TX5, 2)) (t := 5) (q := 78) rfl dX0_init_77 (Nat.le_of_ble_eq_true rfl) ((o32 35 (by decide)).trans e31) (Nat.le_of_ble_eq_true rfl) e32 rfl (by unfold vp_in; decide) rfl ?_
  intro h33 e33 o33
  refine aw_iinc (w := 1) (q := 81) (lv' := [(2, .int 2), _, _]) dX0_init_78 rfl rfl (Nat.le_of_ble_eq_true rfl) rfl rfl ?_
  refine aw_goto (t := 59) dX0_init_81 rfl ?_
  refine aw_iload_n (i := 2) (q := 60) dX0_init_59 rfl rfl rfl ?_
  refine aw_bipush (v := 6) (q := 62) dX0_init_60 rfl rfl ?_
  refine aw_icmp_ge (t := 84) (q := 65) dX0_init_62 rfl rfl (fun c => absurd c (by decide)) (fun _ => ?_)
  refine aw_aload_n (i := 0) (q := 66) dX0_init_65 rfl rfl rfl ?_
  refine aw_getfield (q := 69) fgX0_26 dX0_init_66 (Nat.le_of_ble_eq_true rfl) ((o33 25 (by decide)).trans ((o32 25 (by decide)).trans ((o31 25 (by decide)).trans ((o30 25 (by decide)).trans e29)))) rfl rfl ?_
  refine aw_iload_n (i := 2) (q := 70) dX0_init_69 rfl rfl rfl ?_
  refine an_new (a := 38) (ci := 5) (fs := [.int 0, .int 0]) (q := 73) dX0_init_70 ck_5 ⟨w_139, w_141, w_10⟩ hd_5 (Nat.le_of_ble_eq_true rfl) (Nat.le_of_ble_eq_true rfl) rfl rfl ?_
  intro h34 e34 o34
  refine aw_dup (q := 74) dX0_init_73 rfl rfl ?_
  refine aw_callIN (As := []) (rest := [.ref (ev_z E + 38), .int 2, .ref (ev_z E + 35)]) (mc := 0) (ms := 0) (d' := 2) (q := 77) lkX0_30 dX0_init_74 (Nat.le_of_ble_eq_true rfl) rfl rfl (Nat.le_of_ble_eq_true rfl) (Nat.le_of_ble_eq_true rfl) (Nat.le_of_ble_eq_true rfl) rfl ?_
  refine ct_X5_init (n := 39) ?_
  refine an_aast (r := (RX5, TX5, 2)) (t := 5) (q := 78) rfl dX0_init_77 (Nat.le_of_ble_eq_true rfl) ((o34 35 (by decide)).trans e33) (Nat.le_of_ble_eq_true rfl) e34 rfl (by unfold vp_in; decide) rfl ?_
  intro h35 e35 o35
  refine aw_iinc (w := 1) (q := 81) (lv' := [(2, .int 3), _, _]) dX0_init_78 rfl rfl (Nat.le_of_ble_eq_true rfl) rfl rfl ?_
  refine aw_goto (t := 59) dX0_init_81 rfl ?_
  refine aw_iload_n (i := 2) (q := 60) dX0_init_59 rfl rfl rfl ?_
  refine aw_bipush (v := 6) (q := 62) dX0_init_60 rfl rfl ?_
  refine aw_icmp_ge (t := 84) (q := 65) dX0_init_62 rfl rfl (fun c => absurd c (by decide)) (fun _ => ?_)
  refine aw_aload_n (i := 0) (q := 66) dX0_init_65 rfl rfl rfl ?_
  refine aw_getfield (q := 69) fgX0_26 dX0_init_66 (Nat.le_of_ble_eq_true rfl) ((o35 25 (by decide)).trans ((o34 25 (by decide)).trans ((o33 25 (by decide)).trans ((o32 25 (by decide)).trans ((o31 25 (by decide)).trans ((o30 25 (by decide)).trans e29)))))) rfl rfl ?_
  refine aw_iload_n (i := 2) (q := 70) dX0_init_69 rfl rfl rfl ?_
  refine an_new (a := 39) (ci := 5) (fs := [.int 0, .int 0]) (q := 73) dX0_init_70 ck_5 ⟨w_139, w_141, w_10⟩ hd_5 (Nat.le_of_ble_eq_true rfl) (Nat.le_of_ble_eq_true rfl) rfl rfl ?_
  intro h36 e36 o36
  refine aw_dup (q := 74) dX0_init_73 rfl rfl ?_
  refine aw_callIN (As := []) (rest := [.ref (ev_z E + 39), .int 3, .ref (ev_z E + 35)]) (mc := 0) (ms := 0) (d' := 2) (q := 77) lkX0_30 dX0_init_74 (Nat.le_of_ble_eq_true rfl) rfl rfl (Nat.le_of_ble_eq_true rfl) (Nat.le_of_ble_eq_true rfl) (Nat.le_of_ble_eq_true rfl) rfl ?_
  refine ct_X5_init (n := 40) ?_
  refine an_aast (r := (RX5, TX5, 2)) (t := 5) (q := 78) rfl dX0_init_77 (Nat.le_of_ble_eq_true rfl) ((o36 35 (by decide)).trans e35) (Nat.le_of_ble_eq_true rfl) e36 rfl (by unfold vp_in; decide) rfl ?_
  intro h37 e37 o37
  refine aw_iinc (w := 1) (q := 81) (lv' := [(2, .int 4), _, _]) dX0_init_78 rfl rfl (Nat.le_of_ble_eq_true rfl) rfl rfl ?_
  refine aw_goto (t := 59) dX0_init_81 rfl ?_
  refine aw_iload_n (i := 2) (q := 60) dX0_init_59 rfl rfl rfl ?_
  refine aw_bipush (v := 6) (q := 62) dX0_init_60 rfl rfl ?_
  refine aw_icmp_ge (t := 84) (q := 65) dX0_init_62 rfl rfl (fun c => absurd c (by decide)) (fun _ => ?_)
  refine aw_aload_n (i := 0) (q := 66) dX0_init_65 rfl rfl rfl ?_
  refine aw_getfield (q := 69) fgX0_26 dX0_init_66 (Nat.le_of_ble_eq_true rfl) ((o37 25 (by decide)).trans ((o36 25 (by decide)).trans ((o35 25 (by decide)).trans ((o34 25 (by decide)).trans ((o33 25 (by decide)).trans ((o32 25 (by decide)).trans ((o31 25 (by decide)).trans ((o30 25 (by decide)).trans e29)))))))) rfl rfl ?_
  refine aw_iload_n (i := 2) (q := 70) dX0_init_69 rfl rfl rfl ?_
  refine an_new (a := 40) (ci := 5) (fs := [.int 0, .int 0]) (q := 73) dX0_init_70 ck_5 ⟨w_139, w_141, w_10⟩ hd_5 (Nat.le_of_ble_eq_true rfl) (Nat.le_of_ble_eq_true rfl) rfl rfl ?_
  intro h38 e38 o38
  refine aw_dup (q := 74) dX0_init_73 rfl rfl ?_
  refine aw_callIN (As := []) (rest := [.ref (ev_z E + 40), .int 4, .ref (ev_z E + 35)]) (mc := 0) (ms := 0) (d' := 2) (q := 77) lkX0_30 dX0_init_74 (Nat.le_of_ble_eq_true rfl) rfl rfl (Nat.le_of_ble_eq_true rfl) (Nat.le_of_ble_eq_true rfl) (Nat.le_of_ble_eq_true rfl) rfl ?_
  refine ct_X5_init (n := 41) ?_
  refine an_aast (r := (RX5, TX5, 2)) (t := 5) (q := 78) rfl dX0_init_77 (Nat.le_of_ble_eq_true rfl) ((o38 35 (by decide)).trans e37) (Nat.le_of_ble_eq_true rfl) e38 rfl (by unfold vp_in; decide) rfl ?_
  intro h39 e39 o39
  refine aw_iinc (w := 1) (q := 81) (lv' := [(2, .int 5), _, _]) dX0_init_78 rfl rfl (Nat.le_of_ble_eq_true rfl) rfl rfl ?_
  refine aw_goto (t := 59) dX0_init_81 rfl ?_
  refine aw_iload_n (i := 2) (q := 60) dX0_init_59 rfl rfl rfl ?_
  refine aw_bipush (v := 6) (q := 62) dX0_init_60 rfl rfl ?_
  refine aw_icmp_ge (t := 84) (q := 65) dX0_init_62 rfl rfl (fun c => absurd c (by decide)) (fun _ => ?_)
  refine aw_aload_n (i := 0) (q := 66) dX0_init_65 rfl rfl rfl ?_
  refine aw_getfield (q := 69) fgX0_26 dX0_init_66 (Nat.le_of_ble_eq_true rfl) ((o39 25 (by decide)).trans ((o38 25 (by decide)).trans ((o37 25 (by decide)).trans ((o36 25 (by decide)).trans ((o35 25 (by decide)).trans ((o34 25 (by decide)).trans ((o33 25 (by decide)).trans ((o32 25 (by decide)).trans ((o31 25 (by decide)).trans ((o30 25 (by decide)).trans e29)))))))))) rfl rfl ?_
  refine aw_iload_n (i := 2) (q := 70) dX0_init_69 rfl rfl rfl ?_
  refine an_new (a := 41) (ci := 5) (fs := [.int 0, .int 0]) (q := 73) dX0_init_70 ck_5 ⟨w_139, w_141, w_10⟩ hd_5 (Nat.le_of_ble_eq_true rfl) (Nat.le_of_ble_eq_true rfl) rfl rfl ?_
  intro h40 e40 o40
  refine aw_dup (q := 74) dX0_init_73 rfl rfl ?_
  refine aw_callIN (As := []) (rest := [.ref (ev_z E + 41), .int 5, .ref (ev_z E + 35)]) (mc := 0) (ms := 0) (d' := 2) (q := 77) lkX0_30 dX0_init_74 (Nat.le_of_ble_eq_true rfl) rfl rfl (Nat.le_of_ble_eq_true rfl) (Nat.le_of_ble_eq_true rfl) (Nat.le_of_ble_eq_true rfl) rfl ?_
  refine ct_X5_init (n := 42) ?_
  refine an_aast (r := (RX5, TX5, 2)) (t := 5) (q := 78) rfl dX0_init_77 (Nat.le_of_ble_eq_true rfl) ((o40 35 (by decide)).trans e39) (Nat.le_of_ble_eq_true rfl) e40 rfl (by unfold vp_in; decide) rfl ?_
  intro h41 e41 o41
  refine aw_iinc (w := 1) (q := 81) (lv' := [(2, .int 6), _, _]) dX0_init_78 rfl rfl (Nat.le_of_ble_eq_true rfl) rfl rfl ?_
  refine aw_goto (t := 59) dX0_init_81 rfl ?_
  refine aw_iload_n (i := 2) (q := 60) dX0_init_59 rfl rfl rfl ?_
  refine aw_bipush (v := 6) (q := 62) dX0_init_60 rfl rfl ?_
  refine aw_icmp_ge (t := 84) (q := 65) dX0_init_62 rfl rfl (fun _ => ?_) (fun c => absurd (by decide) c)
  refine aw_aload_n (i := 0) (q := 85) dX0_init_84 rfl rfl rfl ?_
  refine aw_bipush (v := 40) (q := 87) dX0_init_85 rfl rfl ?_
  refine an_put (q := 90) fpX0_31 dX0_init_87 (Nat.le_of_ble_eq_true rfl) ((o41 25 (by decide)).trans ((o40 25 (by decide)).trans ((o39 25 (by decide)).trans ((o38 25 (by decide)).trans ((o37 25 (by decide)).trans ((o36 25 (by decide)).trans ((o35 25 (by decide)).trans ((o34 25 (by decide)).trans ((o33 25 (by decide)).trans ((o32 25 (by decide)).trans ((o31 25 (by decide)).trans ((o30 25 (by decide)).trans e29)))))))))))) (Nat.le_of_ble_eq_true rfl) rfl rfl rfl ?_
  intro h42 e42 o42
  replace e42 : h42 25 = .inr (0, [.ref (ev_z E + 5), .ref (ev_z E + 26), .ref (ev_z E + 35), .int 0, .int 0, .int 0, .int 40, .int 0]) := e42
  refine AW_cong (h' := fun k => if k < 25 then h k else HP E mI LI k) (fun k hk => ?_) ?_
  · have hk : k < 42 := hk
    by_cases hb : k < 25
    · rw [if_pos hb]
      exact Or.inl ((o42 k (by omega)).trans ((o41 k (by omega)).trans ((o40 k (by omega)).trans ((o39 k (by omega)).trans ((o38 k (by omega)).trans ((o37 k (by omega)).trans ((o36 k (by omega)).trans ((o35 k (by omega)).trans ((o34 k (by omega)).trans ((o33 k (by omega)).trans ((o32 k (by omega)).trans ((o31 k (by omega)).trans ((o30 k (by omega)).trans ((o29 k (by omega)).trans ((o28 k (by omega)).trans ((o27 k (by omega)).trans ((o26 k (by omega)).trans ((o25 k (by omega)).trans ((o24 k (by omega)).trans ((o23 k (by omega)).trans ((o22 k (by omega)).trans ((o21 k (by omega)).trans ((o20 k (by omega)).trans ((o19 k (by omega)).trans ((o18 k (by omega)).trans ((o17 k (by omega)).trans ((o16 k (by omega)).trans ((o15 k (by omega)).trans ((o14 k (by omega)).trans ((o13 k (by omega)).trans ((o12 k (by omega)).trans ((o11 k (by omega)).trans ((o10 k (by omega)).trans ((o9 k (by omega)).trans ((o8 k (by omega)).trans ((o7 k (by omega)).trans ((o6 k (by omega)).trans ((o5 k (by omega)).trans ((o4 k (by omega)).trans ((o3 k (by omega)).trans ((o2 k (by omega)).trans (o1 k (by omega)))))))))))))))))))))))))))))))))))))))))))
    · rw [if_neg hb]
      obtain rfl | rfl | rfl | rfl | rfl | rfl | rfl | rfl | rfl | rfl | rfl | rfl | rfl | rfl | rfl | rfl | rfl : k = 25 ∨ k = 26 ∨ k = 27 ∨ k = 28 ∨ k = 29 ∨ k = 30 ∨ k = 31 ∨ k = 32 ∨ k = 33 ∨ k = 34 ∨ k = 35 ∨ k = 36 ∨ k = 37 ∨ k = 38 ∨ k = 39 ∨ k = 40 ∨ k = 41 := by omega
      · exact Or.inl e42
      · refine Or.inr ⟨_, _, _, _, ((o42 26 (by decide)).trans ((o41 26 (by decide)).trans ((o40 26 (by decide)).trans ((o39 26 (by decide)).trans ((o38 26 (by decide)).trans ((o37 26 (by decide)).trans ((o36 26 (by decide)).trans ((o35 26 (by decide)).trans ((o34 26 (by decide)).trans ((o33 26 (by decide)).trans ((o32 26 (by decide)).trans ((o31 26 (by decide)).trans ((o30 26 (by decide)).trans ((o29 26 (by decide)).trans ((o28 26 (by decide)).trans e27))))))))))))))), rfl, fun i hi => ?_⟩
        obtain rfl | rfl | rfl | rfl | rfl | rfl | rfl | rfl : i = 0 ∨ i = 1 ∨ i = 2 ∨ i = 3 ∨ i = 4 ∨ i = 5 ∨ i = 6 ∨ i = 7 := by omega
        all_goals rfl
      · exact Or.inl ((o42 27 (by decide)).trans ((o41 27 (by decide)).trans ((o40 27 (by decide)).trans ((o39 27 (by decide)).trans ((o38 27 (by decide)).trans ((o37 27 (by decide)).trans ((o36 27 (by decide)).trans ((o35 27 (by decide)).trans ((o34 27 (by decide)).trans ((o33 27 (by decide)).trans ((o32 27 (by decide)).trans ((o31 27 (by decide)).trans ((o30 27 (by decide)).trans ((o29 27 (by decide)).trans ((o28 27 (by decide)).trans ((o27 27 (by decide)).trans ((o26 27 (by decide)).trans ((o25 27 (by decide)).trans ((o24 27 (by decide)).trans ((o23 27 (by decide)).trans ((o22 27 (by decide)).trans ((o21 27 (by decide)).trans ((o20 27 (by decide)).trans ((o19 27 (by decide)).trans ((o18 27 (by decide)).trans ((o17 27 (by decide)).trans ((o16 27 (by decide)).trans ((o15 27 (by decide)).trans ((o14 27 (by decide)).trans ((o13 27 (by decide)).trans ((o12 27 (by decide)).trans ((o11 27 (by decide)).trans ((o10 27 (by decide)).trans ((o9 27 (by decide)).trans ((o8 27 (by decide)).trans ((o7 27 (by decide)).trans ((o6 27 (by decide)).trans e5)))))))))))))))))))))))))))))))))))))
      · exact Or.inl ((o42 28 (by decide)).trans ((o41 28 (by decide)).trans ((o40 28 (by decide)).trans ((o39 28 (by decide)).trans ((o38 28 (by decide)).trans ((o37 28 (by decide)).trans ((o36 28 (by decide)).trans ((o35 28 (by decide)).trans ((o34 28 (by decide)).trans ((o33 28 (by decide)).trans ((o32 28 (by decide)).trans ((o31 28 (by decide)).trans ((o30 28 (by decide)).trans ((o29 28 (by decide)).trans ((o28 28 (by decide)).trans ((o27 28 (by decide)).trans ((o26 28 (by decide)).trans ((o25 28 (by decide)).trans ((o24 28 (by decide)).trans ((o23 28 (by decide)).trans ((o22 28 (by decide)).trans ((o21 28 (by decide)).trans ((o20 28 (by decide)).trans ((o19 28 (by decide)).trans ((o18 28 (by decide)).trans ((o17 28 (by decide)).trans ((o16 28 (by decide)).trans ((o15 28 (by decide)).trans ((o14 28 (by decide)).trans ((o13 28 (by decide)).trans ((o12 28 (by decide)).trans ((o11 28 (by decide)).trans ((o10 28 (by decide)).trans ((o9 28 (by decide)).trans e8))))))))))))))))))))))))))))))))))
      · exact Or.inl ((o42 29 (by decide)).trans ((o41 29 (by decide)).trans ((o40 29 (by decide)).trans ((o39 29 (by decide)).trans ((o38 29 (by decide)).trans ((o37 29 (by decide)).trans ((o36 29 (by decide)).trans ((o35 29 (by decide)).trans ((o34 29 (by decide)).trans ((o33 29 (by decide)).trans ((o32 29 (by decide)).trans ((o31 29 (by decide)).trans ((o30 29 (by decide)).trans ((o29 29 (by decide)).trans ((o28 29 (by decide)).trans ((o27 29 (by decide)).trans ((o26 29 (by decide)).trans ((o25 29 (by decide)).trans ((o24 29 (by decide)).trans ((o23 29 (by decide)).trans ((o22 29 (by decide)).trans ((o21 29 (by decide)).trans ((o20 29 (by decide)).trans ((o19 29 (by decide)).trans ((o18 29 (by decide)).trans ((o17 29 (by decide)).trans ((o16 29 (by decide)).trans ((o15 29 (by decide)).trans ((o14 29 (by decide)).trans ((o13 29 (by decide)).trans ((o12 29 (by decide)).trans e11)))))))))))))))))))))))))))))))
      · exact Or.inl ((o42 30 (by decide)).trans ((o41 30 (by decide)).trans ((o40 30 (by decide)).trans ((o39 30 (by decide)).trans ((o38 30 (by decide)).trans ((o37 30 (by decide)).trans ((o36 30 (by decide)).trans ((o35 30 (by decide)).trans ((o34 30 (by decide)).trans ((o33 30 (by decide)).trans ((o32 30 (by decide)).trans ((o31 30 (by decide)).trans ((o30 30 (by decide)).trans ((o29 30 (by decide)).trans ((o28 30 (by decide)).trans ((o27 30 (by decide)).trans ((o26 30 (by decide)).trans ((o25 30 (by decide)).trans ((o24 30 (by decide)).trans ((o23 30 (by decide)).trans ((o22 30 (by decide)).trans ((o21 30 (by decide)).trans ((o20 30 (by decide)).trans ((o19 30 (by decide)).trans ((o18 30 (by decide)).trans ((o17 30 (by decide)).trans ((o16 30 (by decide)).trans ((o15 30 (by decide)).trans e14))))))))))))))))))))))))))))
      · exact Or.inl ((o42 31 (by decide)).trans ((o41 31 (by decide)).trans ((o40 31 (by decide)).trans ((o39 31 (by decide)).trans ((o38 31 (by decide)).trans ((o37 31 (by decide)).trans ((o36 31 (by decide)).trans ((o35 31 (by decide)).trans ((o34 31 (by decide)).trans ((o33 31 (by decide)).trans ((o32 31 (by decide)).trans ((o31 31 (by decide)).trans ((o30 31 (by decide)).trans ((o29 31 (by decide)).trans ((o28 31 (by decide)).trans ((o27 31 (by decide)).trans ((o26 31 (by decide)).trans ((o25 31 (by decide)).trans ((o24 31 (by decide)).trans ((o23 31 (by decide)).trans ((o22 31 (by decide)).trans ((o21 31 (by decide)).trans ((o20 31 (by decide)).trans ((o19 31 (by decide)).trans ((o18 31 (by decide)).trans e17)))))))))))))))))))))))))
      · exact Or.inl ((o42 32 (by decide)).trans ((o41 32 (by decide)).trans ((o40 32 (by decide)).trans ((o39 32 (by decide)).trans ((o38 32 (by decide)).trans ((o37 32 (by decide)).trans ((o36 32 (by decide)).trans ((o35 32 (by decide)).trans ((o34 32 (by decide)).trans ((o33 32 (by decide)).trans ((o32 32 (by decide)).trans ((o31 32 (by decide)).trans ((o30 32 (by decide)).trans ((o29 32 (by decide)).trans ((o28 32 (by decide)).trans ((o27 32 (by decide)).trans ((o26 32 (by decide)).trans ((o25 32 (by decide)).trans ((o24 32 (by decide)).trans ((o23 32 (by decide)).trans ((o22 32 (by decide)).trans ((o21 32 (by decide)).trans e20))))))))))))))))))))))
      · exact Or.inl ((o42 33 (by decide)).trans ((o41 33 (by decide)).trans ((o40 33 (by decide)).trans ((o39 33 (by decide)).trans ((o38 33 (by decide)).trans ((o37 33 (by decide)).trans ((o36 33 (by decide)).trans ((o35 33 (by decide)).trans ((o34 33 (by decide)).trans ((o33 33 (by decide)).trans ((o32 33 (by decide)).trans ((o31 33 (by decide)).trans ((o30 33 (by decide)).trans ((o29 33 (by decide)).trans ((o28 33 (by decide)).trans ((o27 33 (by decide)).trans ((o26 33 (by decide)).trans ((o25 33 (by decide)).trans ((o24 33 (by decide)).trans e23)))))))))))))))))))
      · exact Or.inl ((o42 34 (by decide)).trans ((o41 34 (by decide)).trans ((o40 34 (by decide)).trans ((o39 34 (by decide)).trans ((o38 34 (by decide)).trans ((o37 34 (by decide)).trans ((o36 34 (by decide)).trans ((o35 34 (by decide)).trans ((o34 34 (by decide)).trans ((o33 34 (by decide)).trans ((o32 34 (by decide)).trans ((o31 34 (by decide)).trans ((o30 34 (by decide)).trans ((o29 34 (by decide)).trans ((o28 34 (by decide)).trans ((o27 34 (by decide)).trans e26))))))))))))))))
      · refine Or.inr ⟨_, _, _, _, ((o42 35 (by decide)).trans e41), rfl, fun i hi => ?_⟩
        obtain rfl | rfl | rfl | rfl | rfl | rfl : i = 0 ∨ i = 1 ∨ i = 2 ∨ i = 3 ∨ i = 4 ∨ i = 5 := by omega
        all_goals rfl
      · exact Or.inl ((o42 36 (by decide)).trans ((o41 36 (by decide)).trans ((o40 36 (by decide)).trans ((o39 36 (by decide)).trans ((o38 36 (by decide)).trans ((o37 36 (by decide)).trans ((o36 36 (by decide)).trans ((o35 36 (by decide)).trans ((o34 36 (by decide)).trans ((o33 36 (by decide)).trans ((o32 36 (by decide)).trans ((o31 36 (by decide)).trans e30))))))))))))
      · exact Or.inl ((o42 37 (by decide)).trans ((o41 37 (by decide)).trans ((o40 37 (by decide)).trans ((o39 37 (by decide)).trans ((o38 37 (by decide)).trans ((o37 37 (by decide)).trans ((o36 37 (by decide)).trans ((o35 37 (by decide)).trans ((o34 37 (by decide)).trans ((o33 37 (by decide)).trans e32))))))))))
      · exact Or.inl ((o42 38 (by decide)).trans ((o41 38 (by decide)).trans ((o40 38 (by decide)).trans ((o39 38 (by decide)).trans ((o38 38 (by decide)).trans ((o37 38 (by decide)).trans ((o36 38 (by decide)).trans ((o35 38 (by decide)).trans e34))))))))
      · exact Or.inl ((o42 39 (by decide)).trans ((o41 39 (by decide)).trans ((o40 39 (by decide)).trans ((o39 39 (by decide)).trans ((o38 39 (by decide)).trans ((o37 39 (by decide)).trans e36))))))
      · exact Or.inl ((o42 40 (by decide)).trans ((o41 40 (by decide)).trans ((o40 40 (by decide)).trans ((o39 40 (by decide)).trans e38))))
      · exact Or.inl ((o42 41 (by decide)).trans ((o41 41 (by decide)).trans e40))
  refine aw_return dX0_init_90 rfl (Nat.le_of_ble_eq_true rfl) rfl ?_
  exact k _ (fun j hj => if_pos hj) (fun j h1 h2 => if_neg (by omega))
theorem ct_X0_init_42 (hh : h 42 = .inr (0, [.null, .null, .null, .int 0, .int 0, .int 0, .int 0, .int 0])) (hk5 : h 5 = HP E mI LI 5) (k : ∀ h1, (∀ j, j < 42 → h1 j = h j) → (∀ j, 42 ≤ j → j < 59 → h1 j = HP E mI LI j) → Q .null h1) : CT E 3 MX0_init (43, 16, 82) [.ref (ev_z E + 42), .ref (ev_z E + 5)] h Q := by
  refine CT.of rfl (Nat.le_of_ble_eq_true rfl) (lv := [(0, _), (1, _)]) rfl ?_
  refine aw_aload_n (i := 0) (q := 1) dX0_init_0 rfl rfl rfl ?_
  refine aw_objInit (q := 4) lkX0_3 dX0_init_1 (Nat.le_of_ble_eq_true rfl) (Nat.le_of_ble_eq_true rfl) rfl ?_
  refine aw_aload_n (i := 0) (q := 5) dX0_init_4 rfl rfl rfl ?_
  refine aw_aload_n (i := 1) (q := 6) dX0_init_5 rfl rfl rfl ?_
  refine an_putF (q := 9) ffX0_9 rfl dX0_init_6 (Nat.le_of_ble_eq_true rfl) hh (Nat.le_of_ble_eq_true rfl) rfl rfl rfl ?_
  intro h1 e1 o1
  replace e1 : h1 42 = .inr (0, [.ref (ev_z E + 5), .null, .null, .int 0, .int 0, .int 0, .int 0, .int 0]) := e1
  refine aw_aload_n (i := 0) (q := 10) dX0_init_9 rfl rfl rfl ?_
  refine aw_bipush (v := 8) (q := 12) dX0_init_10 rfl rfl ?_
  refine an_anew (a := 43) (t := 4) (C := RX2) (N' := 8) (q := 15) dX0_init_12 rfl (List.mem_of_getElem? (i := 1) rfl) w_98 (by decide) (by decide) (by decide) (Nat.le_of_ble_eq_true rfl) (Nat.le_of_ble_eq_true rfl) rfl rfl ?_
  intro h2 e2 o2
  refine an_putF (q := 18) ffX0_17 rfl dX0_init_15 (Nat.le_of_ble_eq_true rfl) ((o2 42 (by decide)).trans e1) (Nat.le_of_ble_eq_true rfl) rfl rfl rfl ?_
  intro h3 e3 o3
  replace e3 : h3 42 = .inr (0, [.ref (ev_z E + 5), .ref (ev_z E + 43), .null, .int 0, .int 0, .int 0, .int 0, .int 0]) := e3
  refine aw_iconst (v := 0) (q := 19) dX0_init_18 rfl rfl ?_
  refine aw_istore_n (i := 2) (q := 20) (lv' := [_, _, _]) dX0_init_19 rfl (Nat.le_of_ble_eq_true rfl) rfl rfl ?_
  refine aw_iload_n (i := 2) (q := 21) dX0_init_20 rfl rfl rfl ?_
  refine aw_bipush (v := 8) (q := 23) dX0_init_21 rfl rfl ?_
  refine aw_icmp_ge (t := 48) (q := 26) dX0_init_23 rfl rfl (fun c => absurd c (by decide)) (fun _ => ?_)
  refine aw_aload_n (i := 0) (q := 27) dX0_init_26 rfl rfl rfl ?_
  refine aw_getfield (q := 30) fgX0_17 dX0_init_27 (Nat.le_of_ble_eq_true rfl) e3 rfl rfl ?_
  refine aw_iload_n (i := 2) (q := 31) dX0_init_30 rfl rfl rfl ?_
  refine an_new (a := 44) (ci := 2) (fs := [.null, .int 0, .int 0, .int 0, .int 0, .int 0, .int 0]) (q := 34) dX0_init_31 ck_2 ⟨w_98, w_100, w_9⟩ hd_2 (Nat.le_of_ble_eq_true rfl) (Nat.le_of_ble_eq_true rfl) rfl rfl ?_
  intro h4 e4 o4
  refine aw_dup (q := 35) dX0_init_34 rfl rfl ?_
  refine aw_aload_n (i := 1) (q := 36) dX0_init_35 rfl rfl rfl ?_
  refine aw_iconst (v := 0) (q := 37) dX0_init_36 rfl rfl ?_
  refine aw_aaload (t := 3) (n := 6) (f := fun i => some (ev_z E + kcl i)) (r := ev_z E + 1) (q := 38) rfl dX0_init_37 (Nat.le_of_ble_eq_true rfl) ((o4 5 (by decide)).trans ((o3 5 (by decide)).trans ((o2 5 (by decide)).trans ((o1 5 (by decide)).trans hk5)))) (by unfold vp_in; decide) rfl rfl ?_
  refine aw_callI (As := [.ref (ev_z E + 1)]) (rest := [.ref (ev_z E + 44), .int 0, .ref (ev_z E + 43)]) (mc := 0) (ms := 0) (d' := 2) (q := 41) lkX0_21 dX0_init_38 (Nat.le_of_ble_eq_true rfl) rfl rfl (Nat.le_of_ble_eq_true rfl) (Nat.le_of_ble_eq_true rfl) (Nat.le_of_ble_eq_true rfl) rfl ?_
  refine ct_X2_init (n := 45) (Nat.le_of_ble_eq_true rfl) e4 ?_
  intro h5 e5 o5
  refine an_aast (r := (RX2, TX2, 7)) (t := 4) (q := 42) rfl dX0_init_41 (Nat.le_of_ble_eq_true rfl) ((o5 43 (by decide)).trans ((o4 43 (by decide)).trans ((o3 43 (by decide)).trans e2))) (Nat.le_of_ble_eq_true rfl) e5 rfl (by unfold vp_in; decide) rfl ?_
  intro h6 e6 o6
  refine aw_iinc (w := 1) (q := 45) (lv' := [(2, .int 1), _, _]) dX0_init_42 rfl rfl (Nat.le_of_ble_eq_true rfl) rfl rfl ?_
  refine aw_goto (t := 20) dX0_init_45 rfl ?_
  refine aw_iload_n (i := 2) (q := 21) dX0_init_20 rfl rfl rfl ?_
  refine aw_bipush (v := 8) (q := 23) dX0_init_21 rfl rfl ?_
  refine aw_icmp_ge (t := 48) (q := 26) dX0_init_23 rfl rfl (fun c => absurd c (by decide)) (fun _ => ?_)
  refine aw_aload_n (i := 0) (q := 27) dX0_init_26 rfl rfl rfl ?_
  refine aw_getfield (q := 30) fgX0_17 dX0_init_27 (Nat.le_of_ble_eq_true rfl) ((o6 42 (by decide)).trans ((o5 42 (by decide)).trans ((o4 42 (by decide)).trans e3))) rfl rfl ?_
  refine aw_iload_n (i := 2) (q := 31) dX0_init_30 rfl rfl rfl ?_
  refine an_new (a := 45) (ci := 2) (fs := [.null, .int 0, .int 0, .int 0, .int 0, .int 0, .int 0]) (q := 34) dX0_init_31 ck_2 ⟨w_98, w_100, w_9⟩ hd_2 (Nat.le_of_ble_eq_true rfl) (Nat.le_of_ble_eq_true rfl) rfl rfl ?_
  intro h7 e7 o7
  refine aw_dup (q := 35) dX0_init_34 rfl rfl ?_
  refine aw_aload_n (i := 1) (q := 36) dX0_init_35 rfl rfl rfl ?_
  refine aw_iconst (v := 0) (q := 37) dX0_init_36 rfl rfl ?_
  refine aw_aaload (t := 3) (n := 6) (f := fun i => some (ev_z E + kcl i)) (r := ev_z E + 1) (q := 38) rfl dX0_init_37 (Nat.le_of_ble_eq_true rfl) ((o7 5 (by decide)).trans ((o6 5 (by decide)).trans ((o5 5 (by decide)).trans ((o4 5 (by decide)).trans ((o3 5 (by decide)).trans ((o2 5 (by decide)).trans ((o1 5 (by decide)).trans hk5))))))) (by unfold vp_in; decide) rfl rfl ?_
  refine aw_callI (As := [.ref (ev_z E + 1)]) (rest := [.ref (ev_z E + 45), .int 1, .ref (ev_z E + 43)]) (mc := 0) (ms := 0) (d' := 2) (q := 41) lkX0_21 dX0_init_38 (Nat.le_of_ble_eq_true rfl) rfl rfl (Nat.le_of_ble_eq_true rfl) (Nat.le_of_ble_eq_true rfl) (Nat.le_of_ble_eq_true rfl) rfl ?_
  refine ct_X2_init (n := 46) (Nat.le_of_ble_eq_true rfl) e7 ?_
  intro h8 e8 o8
  refine an_aast (r := (RX2, TX2, 7)) (t := 4) (q := 42) rfl dX0_init_41 (Nat.le_of_ble_eq_true rfl) ((o8 43 (by decide)).trans ((o7 43 (by decide)).trans e6)) (Nat.le_of_ble_eq_true rfl) e8 rfl (by unfold vp_in; decide) rfl ?_
  intro h9 e9 o9
  refine aw_iinc (w := 1) (q := 45) (lv' := [(2, .int 2), _, _]) dX0_init_42 rfl rfl (Nat.le_of_ble_eq_true rfl) rfl rfl ?_
  refine aw_goto (t := 20) dX0_init_45 rfl ?_
  refine aw_iload_n (i := 2) (q := 21) dX0_init_20 rfl rfl rfl ?_
  refine aw_bipush (v := 8) (q := 23) dX0_init_21 rfl rfl ?_
  refine aw_icmp_ge (t := 48) (q := 26) dX0_init_23 rfl rfl (fun c => absurd c (by decide)) (fun _ => ?_)
  refine aw_aload_n (i := 0) (q := 27) dX0_init_26 rfl rfl rfl ?_
  refine aw_getfield (q := 30) fgX0_17 dX0_init_27 (Nat.le_of_ble_eq_true rfl) ((o9 42 (by decide)).trans ((o8 42 (by decide)).trans ((o7 42 (by decide)).trans ((o6 42 (by decide)).trans ((o5 42 (by decide)).trans ((o4 42 (by decide)).trans e3)))))) rfl rfl ?_
  refine aw_iload_n (i := 2) (q := 31) dX0_init_30 rfl rfl rfl ?_
  refine an_new (a := 46) (ci := 2) (fs := [.null, .int 0, .int 0, .int 0, .int 0, .int 0, .int 0]) (q := 34) dX0_init_31 ck_2 ⟨w_98, w_100, w_9⟩ hd_2 (Nat.le_of_ble_eq_true rfl) (Nat.le_of_ble_eq_true rfl) rfl rfl ?_
  intro h10 e10 o10
  refine aw_dup (q := 35) dX0_init_34 rfl rfl ?_
  refine aw_aload_n (i := 1) (q := 36) dX0_init_35 rfl rfl rfl ?_
  refine aw_iconst (v := 0) (q := 37) dX0_init_36 rfl rfl ?_
  refine aw_aaload (t := 3) (n := 6) (f := fun i => some (ev_z E + kcl i)) (r := ev_z E + 1) (q := 38) rfl dX0_init_37 (Nat.le_of_ble_eq_true rfl) ((o10 5 (by decide)).trans ((o9 5 (by decide)).trans ((o8 5 (by decide)).trans ((o7 5 (by decide)).trans ((o6 5 (by decide)).trans ((o5 5 (by decide)).trans ((o4 5 (by decide)).trans ((o3 5 (by decide)).trans ((o2 5 (by decide)).trans ((o1 5 (by decide)).trans hk5)))))))))) (by unfold vp_in; decide) rfl rfl ?_
  refine aw_callI (As := [.ref (ev_z E + 1)]) (rest := [.ref (ev_z E + 46), .int 2, .ref (ev_z E + 43)]) (mc := 0) (ms := 0) (d' := 2) (q := 41) lkX0_21 dX0_init_38 (Nat.le_of_ble_eq_true rfl) rfl rfl (Nat.le_of_ble_eq_true rfl) (Nat.le_of_ble_eq_true rfl) (Nat.le_of_ble_eq_true rfl) rfl ?_
  refine ct_X2_init (n := 47) (Nat.le_of_ble_eq_true rfl) e10 ?_
  intro h11 e11 o11
  refine an_aast (r := (RX2, TX2, 7)) (t := 4) (q := 42) rfl dX0_init_41 (Nat.le_of_ble_eq_true rfl) ((o11 43 (by decide)).trans ((o10 43 (by decide)).trans e9)) (Nat.le_of_ble_eq_true rfl) e11 rfl (by unfold vp_in; decide) rfl ?_
  intro h12 e12 o12
  refine aw_iinc (w := 1) (q := 45) (lv' := [(2, .int 3), _, _]) dX0_init_42 rfl rfl (Nat.le_of_ble_eq_true rfl) rfl rfl ?_
  refine aw_goto (t := 20) dX0_init_45 rfl ?_
  refine aw_iload_n (i := 2) (q := 21) dX0_init_20 rfl rfl rfl ?_
  refine aw_bipush (v := 8) (q := 23) dX0_init_21 rfl rfl ?_
  refine aw_icmp_ge (t := 48) (q := 26) dX0_init_23 rfl rfl (fun c => absurd c (by decide)) (fun _ => ?_)
  refine aw_aload_n (i := 0) (q := 27) dX0_init_26 rfl rfl rfl ?_
  refine aw_getfield (q := 30) fgX0_17 dX0_init_27 (Nat.le_of_ble_eq_true rfl) ((o12 42 (by decide)).trans ((o11 42 (by decide)).trans ((o10 42 (by decide)).trans ((o9 42 (by decide)).trans ((o8 42 (by decide)).trans ((o7 42 (by decide)).trans ((o6 42 (by decide)).trans ((o5 42 (by decide)).trans ((o4 42 (by decide)).trans e3))))))))) rfl rfl ?_
  refine aw_iload_n (i := 2) (q := 31) dX0_init_30 rfl rfl rfl ?_
  refine an_new (a := 47) (ci := 2) (fs := [.null, .int 0, .int 0, .int 0, .int 0, .int 0, .int 0]) (q := 34) dX0_init_31 ck_2 ⟨w_98, w_100, w_9⟩ hd_2 (Nat.le_of_ble_eq_true rfl) (Nat.le_of_ble_eq_true rfl) rfl rfl ?_
  intro h13 e13 o13
  refine aw_dup (q := 35) dX0_init_34 rfl rfl ?_
  refine aw_aload_n (i := 1) (q := 36) dX0_init_35 rfl rfl rfl ?_
  refine aw_iconst (v := 0) (q := 37) dX0_init_36 rfl rfl ?_
  refine aw_aaload (t := 3) (n := 6) (f := fun i => some (ev_z E + kcl i)) (r := ev_z E + 1) (q := 38) rfl dX0_init_37 (Nat.le_of_ble_eq_true rfl) ((o13 5 (by decide)).trans ((o12 5 (by decide)).trans ((o11 5 (by decide)).trans ((o10 5 (by decide)).trans ((o9 5 (by decide)).trans ((o8 5 (by decide)).trans ((o7 5 (by decide)).trans ((o6 5 (by decide)).trans ((o5 5 (by decide)).trans ((o4 5 (by decide)).trans ((o3 5 (by decide)).trans ((o2 5 (by decide)).trans ((o1 5 (by decide)).trans hk5))))))))))))) (by unfold vp_in; decide) rfl rfl ?_
  refine aw_callI (As := [.ref (ev_z E + 1)]) (rest := [.ref (ev_z E + 47), .int 3, .ref (ev_z E + 43)]) (mc := 0) (ms := 0) (d' := 2) (q := 41) lkX0_21 dX0_init_38 (Nat.le_of_ble_eq_true rfl) rfl rfl (Nat.le_of_ble_eq_true rfl) (Nat.le_of_ble_eq_true rfl) (Nat.le_of_ble_eq_true rfl) rfl ?_
  refine ct_X2_init (n := 48) (Nat.le_of_ble_eq_true rfl) e13 ?_
  intro h14 e14 o14
  refine an_aast (r := (RX2, TX2, 7)) (t := 4) (q := 42) rfl dX0_init_41 (Nat.le_of_ble_eq_true rfl) ((o14 43 (by decide)).trans ((o13 43 (by decide)).trans e12)) (Nat.le_of_ble_eq_true rfl) e14 rfl (by unfold vp_in; decide) rfl ?_
  intro h15 e15 o15
  refine aw_iinc (w := 1) (q := 45) (lv' := [(2, .int 4), _, _]) dX0_init_42 rfl rfl (Nat.le_of_ble_eq_true rfl) rfl rfl ?_
  refine aw_goto (t := 20) dX0_init_45 rfl ?_
  refine aw_iload_n (i := 2) (q := 21) dX0_init_20 rfl rfl rfl ?_
  refine aw_bipush (v := 8) (q := 23) dX0_init_21 rfl rfl ?_
  refine aw_icmp_ge (t := 48) (q := 26) dX0_init_23 rfl rfl (fun c => absurd c (by decide)) (fun _ => ?_)
  refine aw_aload_n (i := 0) (q := 27) dX0_init_26 rfl rfl rfl ?_
  refine aw_getfield (q := 30) fgX0_17 dX0_init_27 (Nat.le_of_ble_eq_true rfl) ((o15 42 (by decide)).trans ((o14 42 (by decide)).trans ((o13 42 (by decide)).trans ((o12 42 (by decide)).trans ((o11 42 (by decide)).trans ((o10 42 (by decide)).trans ((o9 42 (by decide)).trans ((o8 42 (by decide)).trans ((o7 42 (by decide)).trans ((o6 42 (by decide)).trans ((o5 42 (by decide)).trans ((o4 42 (by decide)).trans e3)))))))))))) rfl rfl ?_
  refine aw_iload_n (i := 2) (q := 31) dX0_init_30 rfl rfl rfl ?_
  refine an_new (a := 48) (ci := 2) (fs := [.null, .int 0, .int 0, .int 0, .int 0, .int 0, .int 0]) (q := 34) dX0_init_31 ck_2 ⟨w_98, w_100, w_9⟩ hd_2 (Nat.le_of_ble_eq_true rfl) (Nat.le_of_ble_eq_true rfl) rfl rfl ?_
  intro h16 e16 o16
  refine aw_dup (q := 35) dX0_init_34 rfl rfl ?_
  refine aw_aload_n (i := 1) (q := 36) dX0_init_35 rfl rfl rfl ?_
  refine aw_iconst (v := 0) (q := 37) dX0_init_36 rfl rfl ?_
  refine aw_aaload (t := 3) (n := 6) (f := fun i => some (ev_z E + kcl i)) (r := ev_z E + 1) (q := 38) rfl dX0_init_37 (Nat.le_of_ble_eq_true rfl) ((o16 5 (by decide)).trans ((o15 5 (by decide)).trans ((o14 5 (by decide)).trans ((o13 5 (by decide)).trans ((o12 5 (by decide)).trans ((o11 5 (by decide)).trans ((o10 5 (by decide)).trans ((o9 5 (by decide)).trans ((o8 5 (by decide)).trans ((o7 5 (by decide)).trans ((o6 5 (by decide)).trans ((o5 5 (by decide)).trans ((o4 5 (by decide)).trans ((o3 5 (by decide)).trans ((o2 5 (by decide)).trans ((o1 5 (by decide)).trans hk5)))))))))))))))) (by unfold vp_in; decide) rfl rfl ?_
  refine aw_callI (As := [.ref (ev_z E + 1)]) (rest := [.ref (ev_z E + 48), .int 4, .ref (ev_z E + 43)]) (mc := 0) (ms := 0) (d' := 2) (q := 41) lkX0_21 dX0_init_38 (Nat.le_of_ble_eq_true rfl) rfl rfl (Nat.le_of_ble_eq_true rfl) (Nat.le_of_ble_eq_true rfl) (Nat.le_of_ble_eq_true rfl) rfl ?_
  refine ct_X2_init (n := 49) (Nat.le_of_ble_eq_true rfl) e16 ?_
  intro h17 e17 o17
  refine an_aast (r := (RX2, TX2, 7)) (t := 4) (q := 42) rfl dX0_init_41 (Nat.le_of_ble_eq_true rfl) ((o17 43 (by decide)).trans ((o16 43 (by decide)).trans e15)) (Nat.le_of_ble_eq_true rfl) e17 rfl (by unfold vp_in; decide) rfl ?_
  intro h18 e18 o18
  refine aw_iinc (w := 1) (q := 45) (lv' := [(2, .int 5), _, _]) dX0_init_42 rfl rfl (Nat.le_of_ble_eq_true rfl) rfl rfl ?_
  refine aw_goto (t := 20) dX0_init_45 rfl ?_
  refine aw_iload_n (i := 2) (q := 21) dX0_init_20 rfl rfl rfl ?_
  refine aw_bipush (v := 8) (q := 23) dX0_init_21 rfl rfl ?_
  refine aw_icmp_ge (t := 48) (q := 26) dX0_init_23 rfl rfl (fun c => absurd c (by decide)) (fun _ => ?_)
  refine aw_aload_n (i := 0) (q := 27) dX0_init_26 rfl rfl rfl ?_
  refine aw_getfield (q := 30) fgX0_17 dX0_init_27 (Nat.le_of_ble_eq_true rfl) ((o18 42 (by decide)).trans ((o17 42 (by decide)).trans ((o16 42 (by decide)).trans ((o15 42 (by decide)).trans ((o14 42 (by decide)).trans ((o13 42 (by decide)).trans ((o12 42 (by decide)).trans ((o11 42 (by decide)).trans ((o10 42 (by decide)).trans ((o9 42 (by decide)).trans ((o8 42 (by decide)).trans ((o7 42 (by decide)).trans ((o6 42 (by decide)).trans ((o5 42 (by decide)).trans ((o4 42 (by decide)).trans e3))))))))))))))) rfl rfl ?_
  refine aw_iload_n (i := 2) (q := 31) dX0_init_30 rfl rfl rfl ?_
  refine an_new (a := 49) (ci := 2) (fs := [.null, .int 0, .int 0, .int 0, .int 0, .int 0, .int 0]) (q := 34) dX0_init_31 ck_2 ⟨w_98, w_100, w_9⟩ hd_2 (Nat.le_of_ble_eq_true rfl) (Nat.le_of_ble_eq_true rfl) rfl rfl ?_
  intro h19 e19 o19
  refine aw_dup (q := 35) dX0_init_34 rfl rfl ?_
  refine aw_aload_n (i := 1) (q := 36) dX0_init_35 rfl rfl rfl ?_
  refine aw_iconst (v := 0) (q := 37) dX0_init_36 rfl rfl ?_
  refine aw_aaload (t := 3) (n := 6) (f := fun i => some (ev_z E + kcl i)) (r := ev_z E + 1) (q := 38) rfl dX0_init_37 (Nat.le_of_ble_eq_true rfl) ((o19 5 (by decide)).trans ((o18 5 (by decide)).trans ((o17 5 (by decide)).trans ((o16 5 (by decide)).trans ((o15 5 (by decide)).trans ((o14 5 (by decide)).trans ((o13 5 (by decide)).trans ((o12 5 (by decide)).trans ((o11 5 (by decide)).trans ((o10 5 (by decide)).trans ((o9 5 (by decide)).trans ((o8 5 (by decide)).trans ((o7 5 (by decide)).trans ((o6 5 (by decide)).trans ((o5 5 (by decide)).trans ((o4 5 (by decide)).trans ((o3 5 (by decide)).trans ((o2 5 (by decide)).trans ((o1 5 (by decide)).trans hk5))))))))))))))))))) (by unfold vp_in; decide) rfl rfl ?_
  refine aw_callI (As := [.ref (ev_z E + 1)]) (rest := [.ref (ev_z E + 49), .int 5, .ref (ev_z E + 43)]) (mc := 0) (ms := 0) (d' := 2) (q := 41) lkX0_21 dX0_init_38 (Nat.le_of_ble_eq_true rfl) rfl rfl (Nat.le_of_ble_eq_true rfl) (Nat.le_of_ble_eq_true rfl) (Nat.le_of_ble_eq_true rfl) rfl ?_
  refine ct_X2_init (n := 50) (Nat.le_of_ble_eq_true rfl) e19 ?_
  intro h20 e20 o20
  refine an_aast (r := (RX2, TX2, 7)) (t := 4) (q := 42) rfl dX0_init_41 (Nat.le_of_ble_eq_true rfl) ((o20 43 (by decide)).trans ((o19 43 (by decide)).trans e18)) (Nat.le_of_ble_eq_true rfl) e20 rfl (by unfold vp_in; decide) rfl ?_
  intro h21 e21 o21
  refine aw_iinc (w := 1) (q := 45) (lv' := [(2, .int 6), _, _]) dX0_init_42 rfl rfl (Nat.le_of_ble_eq_true rfl) rfl rfl ?_
  refine aw_goto (t := 20) dX0_init_45 rfl ?_
  refine aw_iload_n (i := 2) (q := 21) dX0_init_20 rfl rfl rfl ?_
  refine aw_bipush (v := 8) (q := 23) dX0_init_21 rfl rfl ?_
  refine aw_icmp_ge (t := 48) (q := 26) dX0_init_23 rfl rfl (fun c => absurd c (by decide)) (fun _ => ?_)
  refine aw_aload_n (i := 0) (q := 27) dX0_init_26 rfl rfl rfl ?_
  refine aw_getfield (q := 30) fgX0_17 dX0_init_27 (Nat.le_of_ble_eq_true rfl) ((o21 42 (by decide)).trans ((o20 42 (by decide)).trans ((o19 42 (by decide)).trans ((o18 42 (by decide)).trans ((o17 42 (by decide)).trans ((o16 42 (by decide)).trans ((o15 42 (by decide)).trans ((o14 42 (by decide)).trans ((o13 42 (by decide)).trans ((o12 42 (by decide)).trans ((o11 42 (by decide)).trans ((o10 42 (by decide)).trans ((o9 42 (by decide)).trans ((o8 42 (by decide)).trans ((o7 42 (by decide)).trans ((o6 42 (by decide)).trans ((o5 42 (by decide)).trans ((o4 42 (by decide)).trans e3)))))))))))))))))) rfl rfl ?_
  refine aw_iload_n (i := 2) (q := 31) dX0_init_30 rfl rfl rfl ?_
  refine an_new (a := 50) (ci := 2) (fs := [.null, .int 0, .int 0, .int 0, .int 0, .int 0, .int 0]) (q := 34) dX0_init_31 ck_2 ⟨w_98, w_100, w_9⟩ hd_2 (Nat.le_of_ble_eq_true rfl) (Nat.le_of_ble_eq_true rfl) rfl rfl ?_
  intro h22 e22 o22
  refine aw_dup (q := 35) dX0_init_34 rfl rfl ?_
  refine aw_aload_n (i := 1) (q := 36) dX0_init_35 rfl rfl rfl ?_
  refine aw_iconst (v := 0) (q := 37) dX0_init_36 rfl rfl ?_
  refine aw_aaload (t := 3) (n := 6) (f := fun i => some (ev_z E + kcl i)) (r := ev_z E + 1) (q := 38) rfl dX0_init_37 (Nat.le_of_ble_eq_true rfl) ((o22 5 (by decide)).trans ((o21 5 (by decide)).trans ((o20 5 (by decide)).trans ((o19 5 (by decide)).trans ((o18 5 (by decide)).trans ((o17 5 (by decide)).trans ((o16 5 (by decide)).trans ((o15 5 (by decide)).trans ((o14 5 (by decide)).trans ((o13 5 (by decide)).trans ((o12 5 (by decide)).trans ((o11 5 (by decide)).trans ((o10 5 (by decide)).trans ((o9 5 (by decide)).trans ((o8 5 (by decide)).trans ((o7 5 (by decide)).trans ((o6 5 (by decide)).trans ((o5 5 (by decide)).trans ((o4 5 (by decide)).trans ((o3 5 (by decide)).trans ((o2 5 (by decide)).trans ((o1 5 (by decide)).trans hk5)))))))))))))))))))))) (by unfold vp_in; decide) rfl rfl ?_
  refine aw_callI (As := [.ref (ev_z E + 1)]) (rest := [.ref (ev_z E + 50), .int 6, .ref (ev_z E + 43)]) (mc := 0) (ms := 0) (d' := 2) (q := 41) lkX0_21 dX0_init_38 (Nat.le_of_ble_eq_true rfl) rfl rfl (Nat.le_of_ble_eq_true rfl) (Nat.le_of_ble_eq_true rfl) (Nat.le_of_ble_eq_true rfl) rfl ?_
  refine ct_X2_init (n := 51) (Nat.le_of_ble_eq_true rfl) e22 ?_
  intro h23 e23 o23
  refine an_aast (r := (RX2, TX2, 7)) (t := 4) (q := 42) rfl dX0_init_41 (Nat.le_of_ble_eq_true rfl) ((o23 43 (by decide)).trans ((o22 43 (by decide)).trans e21)) (Nat.le_of_ble_eq_true rfl) e23 rfl (by unfold vp_in; decide) rfl ?_
  intro h24 e24 o24
  refine aw_iinc (w := 1) (q := 45) (lv' := [(2, .int 7), _, _]) dX0_init_42 rfl rfl (Nat.le_of_ble_eq_true rfl) rfl rfl ?_
  refine aw_goto (t := 20) dX0_init_45 rfl ?_
  refine aw_iload_n (i := 2) (q := 21) dX0_init_20 rfl rfl rfl ?_
  refine aw_bipush (v := 8) (q := 23) dX0_init_21 rfl rfl ?_
  refine aw_icmp_ge (t := 48) (q := 26) dX0_init_23 rfl rfl (fun c => absurd c (by decide)) (fun _ => ?_)
  refine aw_aload_n (i := 0) (q := 27) dX0_init_26 rfl rfl rfl ?_
  refine aw_getfield (q := 30) fgX0_17 dX0_init_27 (Nat.le_of_ble_eq_true rfl) ((o24 42 (by decide)).trans ((o23 42 (by decide)).trans ((o22 42 (by decide)).trans ((o21 42 (by decide)).trans ((o20 42 (by decide)).trans ((o19 42 (by decide)).trans ((o18 42 (by decide)).trans ((o17 42 (by decide)).trans ((o16 42 (by decide)).trans ((o15 42 (by decide)).trans ((o14 42 (by decide)).trans ((o13 42 (by decide)).trans ((o12 42 (by decide)).trans ((o11 42 (by decide)).trans ((o10 42 (by decide)).trans ((o9 42 (by decide)).trans ((o8 42 (by decide)).trans ((o7 42 (by decide)).trans ((o6 42 (by decide)).trans ((o5 42 (by decide)).trans ((o4 42 (by decide)).trans e3))))))))))))))))))))) rfl rfl ?_
  refine aw_iload_n (i := 2) (q := 31) dX0_init_30 rfl rfl rfl ?_
  refine an_new (a := 51) (ci := 2) (fs := [.null, .int 0, .int 0, .int 0, .int 0, .int 0, .int 0]) (q := 34) dX0_init_31 ck_2 ⟨w_98, w_100, w_9⟩ hd_2 (Nat.le_of_ble_eq_true rfl) (Nat.le_of_ble_eq_true rfl) rfl rfl ?_
  intro h25 e25 o25
  refine aw_dup (q := 35) dX0_init_34 rfl rfl ?_
  refine aw_aload_n (i := 1) (q := 36) dX0_init_35 rfl rfl rfl ?_
  refine aw_iconst (v := 0) (q := 37) dX0_init_36 rfl rfl ?_
  refine aw_aaload (t := 3) (n := 6) (f := fun i => some (ev_z E + kcl i)) (r := ev_z E + 1) (q := 38) rfl dX0_init_37 (Nat.le_of_ble_eq_true rfl) ((o25 5 (by decide)).trans ((o24 5 (by decide)).trans ((o23 5 (by decide)).trans ((o22 5 (by decide)).trans ((o21 5 (by decide)).trans ((o20 5 (by decide)).trans ((o19 5 (by decide)).trans ((o18 5 (by decide)).trans ((o17 5 (by decide)).trans ((o16 5 (by decide)).trans ((o15 5 (by decide)).trans ((o14 5 (by decide)).trans ((o13 5 (by decide)).trans ((o12 5 (by decide)).trans ((o11 5 (by decide)).trans ((o10 5 (by decide)).trans ((o9 5 (by decide)).trans ((o8 5 (by decide)).trans ((o7 5 (by decide)).trans ((o6 5 (by decide)).trans ((o5 5 (by decide)).trans ((o4 5 (by decide)).trans ((o3 5 (by decide)).trans ((o2 5 (by decide)).trans ((o1 5 (by decide)).trans hk5))))))))))))))))))))))))) (by unfold vp_in; decide) rfl rfl ?_
  refine aw_callI (As := [.ref (ev_z E + 1)]) (rest := [.ref (ev_z E + 51), .int 7, .ref (ev_z E + 43)]) (mc := 0) (ms := 0) (d' := 2) (q := 41) lkX0_21 dX0_init_38 (Nat.le_of_ble_eq_true rfl) rfl rfl (Nat.le_of_ble_eq_true rfl) (Nat.le_of_ble_eq_true rfl) (Nat.le_of_ble_eq_true rfl) rfl ?_
  refine ct_X2_init (n := 52) (Nat.le_of_ble_eq_true rfl) e25 ?_
  intro h26 e26 o26
  refine an_aast (r := (RX2, TX2, 7)) (t := 4) (q := 42) rfl dX0_init_41 (Nat.le_of_ble_eq_true rfl) ((o26 43 (by decide)).trans ((o25 43 (by decide)).trans e24)) (Nat.le_of_ble_eq_true rfl) e26 rfl (by unfold vp_in; decide) rfl ?_
  intro h27 e27 o27
  refine aw_iinc (w := 1) (q := 45) (lv' := [(2, .int 8), _, _]) dX0_init_42 rfl rfl (Nat.le_of_ble_eq_true rfl) rfl rfl ?_
  refine aw_goto (t := 20) dX0_init_45 rfl ?_
  refine aw_iload_n (i := 2) (q := 21) dX0_init_20 rfl rfl rfl ?_
  refine aw_bipush (v := 8) (q := 23) dX0_init_21 rfl rfl ?_
  refine aw_icmp_ge (t := 48) (q := 26) dX0_init_23 rfl rfl (fun _ => ?_) (fun c => absurd (by decide) c)
  refine aw_aload_n (i := 0) (q := 49) dX0_init_48 rfl rfl rfl ?_
  refine aw_bipush (v := 6) (q := 51) dX0_init_49 rfl rfl ?_
  refine an_anew (a := 52) (t := 5) (C := RX5) (N' := 6) (q := 54) dX0_init_51 rfl (List.mem_of_getElem? (i := 2) rfl) w_139 (by decide) (by decide) (by decide) (Nat.le_of_ble_eq_true rfl) (Nat.le_of_ble_eq_true rfl) rfl rfl ?_
  intro h28 e28 o28
  refine an_putF (q := 57) ffX0_26 rfl dX0_init_54 (Nat.le_of_ble_eq_true rfl) ((o28 42 (by decide)).trans ((o27 42 (by decide)).trans ((o26 42 (by decide)).trans ((o25 42 (by decide)).trans ((o24 42 (by decide)).trans ((o23 42 (by decide)).trans ((o22 42 (by decide)).trans ((o21 42 (by decide)).trans ((o20 42 (by decide)).trans ((o19 42 (by decide)).trans ((o18 42 (by decide)).trans ((o17 42 (by decide)).trans ((o16 42 (by decide)).trans ((o15 42 (by decide)).trans ((o14 42 (by decide)).trans ((o13 42 (by decide)).trans ((o12 42 (by decide)).trans ((o11 42 (by decide)).trans ((o10 42 (by decide)).trans ((o9 42 (by decide)).trans ((o8 42 (by decide)).trans ((o7 42 (by decide)).trans ((o6 42 (by decide)).trans ((o5 42 (by decide)).trans ((o4 42 (by decide)).trans e3))))))))))))))))))))))))) (Nat.le_of_ble_eq_true rfl) rfl rfl rfl ?_
  intro h29 e29 o29
  replace e29 : h29 42 = .inr (0, [.ref (ev_z E + 5), .ref (ev_z E + 43), .ref (ev_z E + 52), .int 0, .int 0, .int 0, .int 0, .int 0]) := e29
  refine aw_iconst (v := 0) (q := 58) dX0_init_57 rfl rfl ?_
  refine aw_istore_n (i := 2) (q := 59) (lv' := [_, _, _]) dX0_init_58 rfl (Nat.le_of_ble_eq_true rfl) rfl rfl ?_
  refine aw_iload_n (i := 2) (q := 60) dX0_init_59 rfl rfl rfl ?_
  refine aw_bipush (v := 6) (q := 62) dX0_init_60 rfl rfl ?_
  refine aw_icmp_ge (t := 84) (q := 65) dX0_init_62 rfl rfl (fun c => absurd c (by decide)) (fun _ => ?_)
  refine aw_aload_n (i := 0) (q := 66) dX0_init_65 rfl rfl rfl ?_
  refine aw_getfield (q := 69) fgX0_26 dX0_init_66 (Nat.le_of_ble_eq_true rfl) e29 rfl rfl ?_
  refine aw_iload_n (i := 2) (q := 70) dX0_init_69 rfl rfl rfl ?_
  refine an_new (a := 53) (ci := 5) (fs := [.int 0, .int 0]) (q := 73) dX0_init_70 ck_5 ⟨w_139, w_141, w_10⟩ hd_5 (Nat.le_of_ble_eq_true rfl) (Nat.le_of_ble_eq_true rfl) rfl rfl ?_
  intro h30 e30 o30
  refine aw_dup (q := 74) dX0_init_73 rfl rfl ?_
  refine aw_callIN (As := []) (rest := [.ref (ev_z E + 53), .int 0, .ref (ev_z E + 52)]) (mc := 0) (ms := 0) (d' := 2) (q := 77) lkX0_30 dX0_init_74 (Nat.le_of_ble_eq_true rfl) rfl rfl (Nat.le_of_ble_eq_true rfl) (Nat.le_of_ble_eq_true rfl) (Nat.le_of_ble_eq_true rfl) rfl ?_
  refine ct_X5_init (n := 54) ?_
  refine an_aast (r := (RX5, TX5, 2)) (t := 5) (q := 78) rfl dX0_init_77 (Nat.le_of_ble_eq_true rfl) ((o30 52 (by decide)).trans ((o29 52 (by decide)).trans e28)) (Nat.le_of_ble_eq_true rfl) e30 rfl (by unfold vp_in; decide) rfl ?_
  intro h31 e31 o31
  refine aw_iinc (w := 1) (q := 81) (lv' := [(2, .int 1), _, _]) dX0_init_78 rfl rfl (Nat.le_of_ble_eq_true rfl) rfl rfl ?_
  refine aw_goto (t := 59) dX0_init_81 rfl ?_
  refine aw_iload_n (i := 2) (q := 60) dX0_init_59 rfl rfl rfl ?_
  refine aw_bipush (v := 6) (q := 62) dX0_init_60 rfl rfl ?_
  refine aw_icmp_ge (t := 84) (q := 65) dX0_init_62 rfl rfl (fun c => absurd c (by decide)) (fun _ => ?_)
  refine aw_aload_n (i := 0) (q := 66) dX0_init_65 rfl rfl rfl ?_
  refine aw_getfield (q := 69) fgX0_26 dX0_init_66 (Nat.le_of_ble_eq_true rfl) ((o31 42 (by decide)).trans ((o30 42 (by decide)).trans e29)) rfl rfl ?_
  refine aw_iload_n (i := 2) (q := 70) dX0_init_69 rfl rfl rfl ?_
  refine an_new (a := 54) (ci := 5) (fs := [.int 0, .int 0]) (q := 73) dX0_init_70 ck_5 ⟨w_139, w_141, w_10⟩ hd_5 (Nat.le_of_ble_eq_true rfl) (Nat.le_of_ble_eq_true rfl) rfl rfl ?_
  intro h32 e32 o32
  refine aw_dup (q := 74) dX0_init_73 rfl rfl ?_
  refine aw_callIN (As := []) (rest := [.ref (ev_z E + 54), .int 1, .ref (ev_z E + 52)]) (mc := 0) (ms := 0) (d' := 2) (q := 77) lkX0_30 dX0_init_74 (Nat.le_of_ble_eq_true rfl) rfl rfl (Nat.le_of_ble_eq_true rfl) (Nat.le_of_ble_eq_true rfl) (Nat.le_of_ble_eq_true rfl) rfl ?_
  refine ct_X5_init (n := 55) ?_
  refine an_aast (r := (RX5, TX5, 2)) (t := 5) (q := 78) rfl dX0_init_77 (Nat.le_of_ble_eq_true rfl) ((o32 52 (by decide)).trans e31) (Nat.le_of_ble_eq_true rfl) e32 rfl (by unfold vp_in; decide) rfl ?_
  intro h33 e33 o33
  refine aw_iinc (w := 1) (q := 81) (lv' := [(2, .int 2), _, _]) dX0_init_78 rfl rfl (Nat.le_of_ble_eq_true rfl) rfl rfl ?_
  refine aw_goto (t := 59) dX0_init_81 rfl ?_
  refine aw_iload_n (i := 2) (q := 60) dX0_init_59 rfl rfl rfl ?_
  refine aw_bipush (v := 6) (q := 62) dX0_init_60 rfl rfl ?_
  refine aw_icmp_ge (t := 84) (q := 65) dX0_init_62 rfl rfl (fun c => absurd c (by decide)) (fun _ => ?_)
  refine aw_aload_n (i := 0) (q := 66) dX0_init_65 rfl rfl rfl ?_
  refine aw_getfield (q := 69) fgX0_26 dX0_init_66 (Nat.le_of_ble_eq_true rfl) ((o33 42 (by decide)).trans ((o32 42 (by decide)).trans ((o31 42 (by decide)).trans ((o30 42 (by decide)).trans e29)))) rfl rfl ?_
  refine aw_iload_n (i := 2) (q := 70) dX0_init_69 rfl rfl rfl ?_
  refine an_new (a := 55) (ci := 5) (fs := [.int 0, .int 0]) (q := 73) dX0_init_70 ck_5 ⟨w_139, w_141, w_10⟩ hd_5 (Nat.le_of_ble_eq_true rfl) (Nat.le_of_ble_eq_true rfl) rfl rfl ?_
  intro h34 e34 o34
  refine aw_dup (q := 74) dX0_init_73 rfl rfl ?_
  refine aw_callIN (As := []) (rest := [.ref (ev_z E + 55), .int 2, .ref (ev_z E + 52)]) (mc := 0) (ms := 0) (d' := 2) (q := 77) lkX0_30 dX0_init_74 (Nat.le_of_ble_eq_true rfl) rfl rfl (Nat.le_of_ble_eq_true rfl) (Nat.le_of_ble_eq_true rfl) (Nat.le_of_ble_eq_true rfl) rfl ?_
  refine ct_X5_init (n := 56) ?_
  refine an_aast (r := (RX5, TX5, 2)) (t := 5) (q := 78) rfl dX0_init_77 (Nat.le_of_ble_eq_true rfl) ((o34 52 (by decide)).trans e33) (Nat.le_of_ble_eq_true rfl) e34 rfl (by unfold vp_in; decide) rfl ?_
  intro h35 e35 o35
  refine aw_iinc (w := 1) (q := 81) (lv' := [(2, .int 3), _, _]) dX0_init_78 rfl rfl (Nat.le_of_ble_eq_true rfl) rfl rfl ?_
  refine aw_goto (t := 59) dX0_init_81 rfl ?_
  refine aw_iload_n (i := 2) (q := 60) dX0_init_59 rfl rfl rfl ?_
  refine aw_bipush (v := 6) (q := 62) dX0_init_60 rfl rfl ?_
  refine aw_icmp_ge (t := 84) (q := 65) dX0_init_62 rfl rfl (fun c => absurd c (by decide)) (fun _ => ?_)
  refine aw_aload_n (i := 0) (q := 66) dX0_init_65 rfl rfl rfl ?_
  refine aw_getfield (q := 69) fgX0_26 dX0_init_66 (Nat.le_of_ble_eq_true rfl) ((o35 42 (by decide)).trans ((o34 42 (by decide)).trans ((o33 42 (by decide)).trans ((o32 42 (by decide)).trans ((o31 42 (by decide)).trans ((o30 42 (by decide)).trans e29)))))) rfl rfl ?_
  refine aw_iload_n (i := 2) (q := 70) dX0_init_69 rfl rfl rfl ?_
  refine an_new (a := 56) (ci := 5) (fs := [.int 0, .int 0]) (q := 73) dX0_init_70 ck_5 ⟨w_139, w_141, w_10⟩ hd_5 (Nat.le_of_ble_eq_true rfl) (Nat.le_of_ble_eq_true rfl) rfl rfl ?_
  intro h36 e36 o36
  refine aw_dup (q := 74) dX0_init_73 rfl rfl ?_
  refine aw_callIN (As := []) (rest := [.ref (ev_z E + 56), .int 3, .ref (ev_z E + 52)]) (mc := 0) (ms := 0) (d' := 2) (q := 77) lkX0_30 dX0_init_74 (Nat.le_of_ble_eq_true rfl) rfl rfl (Nat.le_of_ble_eq_true rfl) (Nat.le_of_ble_eq_true rfl) (Nat.le_of_ble_eq_true rfl) rfl ?_
  refine ct_X5_init (n := 57) ?_
  refine an_aast (r := (RX5, TX5, 2)) (t := 5) (q := 78) rfl dX0_init_77 (Nat.le_of_ble_eq_true rfl) ((o36 52 (by decide)).trans e35) (Nat.le_of_ble_eq_true rfl) e36 rfl (by unfold vp_in; decide) rfl ?_
  intro h37 e37 o37
  refine aw_iinc (w := 1) (q := 81) (lv' := [(2, .int 4), _, _]) dX0_init_78 rfl rfl (Nat.le_of_ble_eq_true rfl) rfl rfl ?_
  refine aw_goto (t := 59) dX0_init_81 rfl ?_
  refine aw_iload_n (i := 2) (q := 60) dX0_init_59 rfl rfl rfl ?_
  refine aw_bipush (v := 6) (q := 62) dX0_init_60 rfl rfl ?_
  refine aw_icmp_ge (t := 84) (q := 65) dX0_init_62 rfl rfl (fun c => absurd c (by decide)) (fun _ => ?_)
  refine aw_aload_n (i := 0) (q := 66) dX0_init_65 rfl rfl rfl ?_
  refine aw_getfield (q := 69) fgX0_26 dX0_init_66 (Nat.le_of_ble_eq_true rfl) ((o37 42 (by decide)).trans ((o36 42 (by decide)).trans ((o35 42 (by decide)).trans ((o34 42 (by decide)).trans ((o33 42 (by decide)).trans ((o32 42 (by decide)).trans ((o31 42 (by decide)).trans ((o30 42 (by decide)).trans e29)))))))) rfl rfl ?_
  refine aw_iload_n (i := 2) (q := 70) dX0_init_69 rfl rfl rfl ?_
  refine an_new (a := 57) (ci := 5) (fs := [.int 0, .int 0]) (q := 73) dX0_init_70 ck_5 ⟨w_139, w_141, w_10⟩ hd_5 (Nat.le_of_ble_eq_true rfl) (Nat.le_of_ble_eq_true rfl) rfl rfl ?_
  intro h38 e38 o38
  refine aw_dup (q := 74) dX0_init_73 rfl rfl ?_
  refine aw_callIN (As := []) (rest := [.ref (ev_z E + 57), .int 4, .ref (ev_z E + 52)]) (mc := 0) (ms := 0) (d' := 2) (q := 77) lkX0_30 dX0_init_74 (Nat.le_of_ble_eq_true rfl) rfl rfl (Nat.le_of_ble_eq_true rfl) (Nat.le_of_ble_eq_true rfl) (Nat.le_of_ble_eq_true rfl) rfl ?_
  refine ct_X5_init (n := 58) ?_
  refine an_aast (r := (RX5, TX5, 2)) (t := 5) (q := 78) rfl dX0_init_77 (Nat.le_of_ble_eq_true rfl) ((o38 52 (by decide)).trans e37) (Nat.le_of_ble_eq_true rfl) e38 rfl (by unfold vp_in; decide) rfl ?_
  intro h39 e39 o39
  refine aw_iinc (w := 1) (q := 81) (lv' := [(2, .int 5), _, _]) dX0_init_78 rfl rfl (Nat.le_of_ble_eq_true rfl) rfl rfl ?_
  refine aw_goto (t := 59) dX0_init_81 rfl ?_
  refine aw_iload_n (i := 2) (q := 60) dX0_init_59 rfl rfl rfl ?_
  refine aw_bipush (v := 6) (q := 62) dX0_init_60 rfl rfl ?_
  refine aw_icmp_ge (t := 84) (q := 65) dX0_init_62 rfl rfl (fun c => absurd c (by decide)) (fun _ => ?_)
  refine aw_aload_n (i := 0) (q := 66) dX0_init_65 rfl rfl rfl ?_
  refine aw_getfield (q := 69) fgX0_26 dX0_init_66 (Nat.le_of_ble_eq_true rfl) ((o39 42 (by decide)).trans ((o38 42 (by decide)).trans ((o37 42 (by decide)).trans ((o36 42 (by decide)).trans ((o35 42 (by decide)).trans ((o34 42 (by decide)).trans ((o33 42 (by decide)).trans ((o32 42 (by decide)).trans ((o31 42 (by decide)).trans ((o30 42 (by decide)).trans e29)))))))))) rfl rfl ?_
  refine aw_iload_n (i := 2) (q := 70) dX0_init_69 rfl rfl rfl ?_
  refine an_new (a := 58) (ci := 5) (fs := [.int 0, .int 0]) (q := 73) dX0_init_70 ck_5 ⟨w_139, w_141, w_10⟩ hd_5 (Nat.le_of_ble_eq_true rfl) (Nat.le_of_ble_eq_true rfl) rfl rfl ?_
  intro h40 e40 o40
  refine aw_dup (q := 74) dX0_init_73 rfl rfl ?_
  refine aw_callIN (As := []) (rest := [.ref (ev_z E + 58), .int 5, .ref (ev_z E + 52)]) (mc := 0) (ms := 0) (d' := 2) (q := 77) lkX0_30 dX0_init_74 (Nat.le_of_ble_eq_true rfl) rfl rfl (Nat.le_of_ble_eq_true rfl) (Nat.le_of_ble_eq_true rfl) (Nat.le_of_ble_eq_true rfl) rfl ?_
  refine ct_X5_init (n := 59) ?_
  refine an_aast (r := (RX5, TX5, 2)) (t := 5) (q := 78) rfl dX0_init_77 (Nat.le_of_ble_eq_true rfl) ((o40 52 (by decide)).trans e39) (Nat.le_of_ble_eq_true rfl) e40 rfl (by unfold vp_in; decide) rfl ?_
  intro h41 e41 o41
  refine aw_iinc (w := 1) (q := 81) (lv' := [(2, .int 6), _, _]) dX0_init_78 rfl rfl (Nat.le_of_ble_eq_true rfl) rfl rfl ?_
  refine aw_goto (t := 59) dX0_init_81 rfl ?_
  refine aw_iload_n (i := 2) (q := 60) dX0_init_59 rfl rfl rfl ?_
  refine aw_bipush (v := 6) (q := 62) dX0_init_60 rfl rfl ?_
  refine aw_icmp_ge (t := 84) (q := 65) dX0_init_62 rfl rfl (fun _ => ?_) (fun c => absurd (by decide) c)
  refine aw_aload_n (i := 0) (q := 85) dX0_init_84 rfl rfl rfl ?_
  refine aw_bipush (v := 40) (q := 87) dX0_init_85 rfl rfl ?_
  refine an_put (q := 90) fpX0_31 dX0_init_87 (Nat.le_of_ble_eq_true rfl) ((o41 42 (by decide)).trans ((o40 42 (by decide)).trans ((o39 42 (by decide)).trans ((o38 42 (by decide)).trans ((o37 42 (by decide)).trans ((o36 42 (by decide)).trans ((o35 42 (by decide)).trans ((o34 42 (by decide)).trans ((o33 42 (by decide)).trans ((o32 42 (by decide)).trans ((o31 42 (by decide)).trans ((o30 42 (by decide)).trans e29)))))))))))) (Nat.le_of_ble_eq_true rfl) rfl rfl rfl ?_
  intro h42 e42 o42
  replace e42 : h42 42 = .inr (0, [.ref (ev_z E + 5), .ref (ev_z E + 43), .ref (ev_z E + 52), .int 0, .int 0, .int 0, .int 40, .int 0]) := e42
  refine AW_cong (h' := fun k => if k < 42 then h k else HP E mI LI k) (fun k hk => ?_) ?_
  · have hk : k < 59 := hk
    by_cases hb : k < 42
    · rw [if_pos hb]
      exact Or.inl ((o42 k (by omega)).trans ((o41 k (by omega)).trans ((o40 k (by omega)).trans ((o39 k (by omega)).trans ((o38 k (by omega)).trans ((o37 k (by omega)).trans ((o36 k (by omega)).trans ((o35 k (by omega)).trans ((o34 k (by omega)).trans ((o33 k (by omega)).trans ((o32 k (by omega)).trans ((o31 k (by omega)).trans ((o30 k (by omega)).trans ((o29 k (by omega)).trans ((o28 k (by omega)).trans ((o27 k (by omega)).trans ((o26 k (by omega)).trans ((o25 k (by omega)).trans ((o24 k (by omega)).trans ((o23 k (by omega)).trans ((o22 k (by omega)).trans ((o21 k (by omega)).trans ((o20 k (by omega)).trans ((o19 k (by omega)).trans ((o18 k (by omega)).trans ((o17 k (by omega)).trans ((o16 k (by omega)).trans ((o15 k (by omega)).trans ((o14 k (by omega)).trans ((o13 k (by omega)).trans ((o12 k (by omega)).trans ((o11 k (by omega)).trans ((o10 k (by omega)).trans ((o9 k (by omega)).trans ((o8 k (by omega)).trans ((o7 k (by omega)).trans ((o6 k (by omega)).trans ((o5 k (by omega)).trans ((o4 k (by omega)).trans ((o3 k (by omega)).trans ((o2 k (by omega)).trans (o1 k (by omega)))))))))))))))))))))))))))))))))))))))))))
    · rw [if_neg hb]
      obtain rfl | rfl | rfl | rfl | rfl | rfl | rfl | rfl | rfl | rfl | rfl | rfl | rfl | rfl | rfl | rfl | rfl : k = 42 ∨ k = 43 ∨ k = 44 ∨ k = 45 ∨ k = 46 ∨ k = 47 ∨ k = 48 ∨ k = 49 ∨ k = 50 ∨ k = 51 ∨ k = 52 ∨ k = 53 ∨ k = 54 ∨ k = 55 ∨ k = 56 ∨ k = 57 ∨ k = 58 := by omega
      · exact Or.inl e42
      · refine Or.inr ⟨_, _, _, _, ((o42 43 (by decide)).trans ((o41 43 (by decide)).trans ((o40 43 (by decide)).trans ((o39 43 (by decide)).trans ((o38 43 (by decide)).trans ((o37 43 (by decide)).trans ((o36 43 (by decide)).trans ((o35 43 (by decide)).trans ((o34 43 (by decide)).trans ((o33 43 (by decide)).trans ((o32 43 (by decide)).trans ((o31 43 (by decide)).trans ((o30 43 (by decide)).trans ((o29 43 (by decide)).trans ((o28 43 (by decide)).trans e27))))))))))))))), rfl, fun i hi => ?_⟩
        obtain rfl | rfl | rfl | rfl | rfl | rfl | rfl | rfl : i = 0 ∨ i = 1 ∨ i = 2 ∨ i = 3 ∨ i = 4 ∨ i = 5 ∨ i = 6 ∨ i = 7 := by omega
        all_goals rfl
      · exact Or.inl ((o42 44 (by decide)).trans ((o41 44 (by decide)).trans ((o40 44 (by decide)).trans ((o39 44 (by decide)).trans ((o38 44 (by decide)).trans ((o37 44 (by decide)).trans ((o36 44 (by decide)).trans ((o35 44 (by decide)).trans ((o34 44 (by decide)).trans ((o33 44 (by decide)).trans ((o32 44 (by decide)).trans ((o31 44 (by decide)).trans ((o30 44 (by decide)).trans ((o29 44 (by decide)).trans ((o28 44 (by decide)).trans ((o27 44 (by decide)).trans ((o26 44 (by decide)).trans ((o25 44 (by decide)).trans ((o24 44 (by decide)).trans ((o23 44 (by decide)).trans ((o22 44 (by decide)).trans ((o21 44 (by decide)).trans ((o20 44 (by decide)).trans ((o19 44 (by decide)).trans ((o18 44 (by decide)).trans ((o17 44 (by decide)).trans ((o16 44 (by decide)).trans ((o15 44 (by decide)).trans ((o14 44 (by decide)).trans ((o13 44 (by decide)).trans ((o12 44 (by decide)).trans ((o11 44 (by decide)).trans ((o10 44 (by decide)).trans ((o9 44 (by decide)).trans ((o8 44 (by decide)).trans ((o7 44 (by decide)).trans ((o6 44 (by decide)).trans e5)))))))))))))))))))))))))))))))))))))
      · exact Or.inl ((o42 45 (by decide)).trans ((o41 45 (by decide)).trans ((o40 45 (by decide)).trans ((o39 45 (by decide)).trans ((o38 45 (by decide)).trans ((o37 45 (by decide)).trans ((o36 45 (by decide)).trans ((o35 45 (by decide)).trans ((o34 45 (by decide)).trans ((o33 45 (by decide)).trans ((o32 45 (by decide)).trans ((o31 45 (by decide)).trans ((o30 45 (by decide)).trans ((o29 45 (by decide)).trans ((o28 45 (by decide)).trans ((o27 45 (by decide)).trans ((o26 45 (by decide)).trans ((o25 45 (by decide)).trans ((o24 45 (by decide)).trans ((o23 45 (by decide)).trans ((o22 45 (by decide)).trans ((o21 45 (by decide)).trans ((o20 45 (by decide)).trans ((o19 45 (by decide)).trans ((o18 45 (by decide)).trans ((o17 45 (by decide)).trans ((o16 45 (by decide)).trans ((o15 45 (by decide)).trans ((o14 45 (by decide)).trans ((o13 45 (by decide)).trans ((o12 45 (by decide)).trans ((o11 45 (by decide)).trans ((o10 45 (by decide)).trans ((o9 45 (by decide)).trans e8))))))))))))))))))))))))))))))))))
      · exact Or.inl ((o42 46 (by decide)).trans ((o41 46 (by decide)).trans ((o40 46 (by decide)).trans ((o39 46 (by decide)).trans ((o38 46 (by decide)).trans ((o37 46 (by decide)).trans ((o36 46 (by decide)).trans ((o35 46 (by decide)).trans ((o34 46 (by decide)).trans ((o33 46 (by decide)).trans ((o32 46 (by decide)).trans ((o31 46 (by decide)).trans ((o30 46 (by decide)).trans ((o29 46 (by decide)).trans ((o28 46 (by decide)).trans ((o27 46 (by decide)).trans ((o26 46 (by decide)).trans ((o25 46 (by decide)).trans ((o24 46 (by decide)).trans ((o23 46 (by decide)).trans ((o22 46 (by decide)).trans ((o21 46 (by decide)).trans ((o20 46 (by decide)).trans ((o19 46 (by decide)).trans ((o18 46 (by decide)).trans ((o17 46 (by decide)).trans ((o16 46 (by decide)).trans ((o15 46 (by decide)).trans ((o14 46 (by decide)).trans ((o13 46 (by decide)).trans ((o12 46 (by decide)).trans e11)))))))))))))))))))))))))))))))
      · exact Or.inl ((o42 47 (by decide)).trans ((o41 47 (by decide)).trans ((o40 47 (by decide)).trans ((o39 47 (by decide)).trans ((o38 47 (by decide)).trans ((o37 47 (by decide)).trans ((o36 47 (by decide)).trans ((o35 47 (by decide)).trans ((o34 47 (by decide)).trans ((o33 47 (by decide)).trans ((o32 47 (by decide)).trans ((o31 47 (by decide)).trans ((o30 47 (by decide)).trans ((o29 47 (by decide)).trans ((o28 47 (by decide)).trans ((o27 47 (by decide)).trans ((o26 47 (by decide)).trans ((o25 47 (by decide)).trans ((o24 47 (by decide)).trans ((o23 47 (by decide)).trans ((o22 47 (by decide)).trans ((o21 47 (by decide)).trans ((o20 47 (by decide)).trans ((o19 47 (by decide)).trans ((o18 47 (by decide)).trans ((o17 47 (by decide)).trans ((o16 47 (by decide)).trans ((o15 47 (by decide)).trans e14))))))))))))))))))))))))))))
      · exact Or.inl ((o42 48 (by decide)).trans ((o41 48 (by decide)).trans ((o40 48 (by decide)).trans ((o39 48 (by decide)).trans ((o38 48 (by decide)).trans ((o37 48 (by decide)).trans ((o36 48 (by decide)).trans ((o35 48 (by decide)).trans ((o34 48 (by decide)).trans ((o33 48 (by decide)).trans ((o32 48 (by decide)).trans ((o31 48 (by decide)).trans ((o30 48 (by decide)).trans ((o29 48 (by decide)).trans ((o28 48 (by decide)).trans ((o27 48 (by decide)).trans ((o26 48 (by decide)).trans ((o25 48 (by decide)).trans ((o24 48 (by decide)).trans ((o23 48 (by decide)).trans ((o22 48 (by decide)).trans ((o21 48 (by decide)).trans ((o20 48 (by decide)).trans ((o19 48 (by decide)).trans ((o18 48 (by decide)).trans e17)))))))))))))))))))))))))
      · exact Or.inl ((o42 49 (by decide)).trans ((o41 49 (by decide)).trans ((o40 49 (by decide)).trans ((o39 49 (by decide)).trans ((o38 49 (by decide)).trans ((o37 49 (by decide)).trans ((o36 49 (by decide)).trans ((o35 49 (by decide)).trans ((o34 49 (by decide)).trans ((o33 49 (by decide)).trans ((o32 49 (by decide)).trans ((o31 49 (by decide)).trans ((o30 49 (by decide)).trans ((o29 49 (by decide)).trans ((o28 49 (by decide)).trans ((o27 49 (by decide)).trans ((o26 49 (by decide)).trans ((o25 49 (by decide)).trans ((o24 49 (by decide)).trans ((o23 49 (by decide)).trans ((o22 49 (by decide)).trans ((o21 49 (by decide)).trans e20))))))))))))))))))))))
      · exact Or.inl ((o42 50 (by decide)).trans ((o41 50 (by decide)).trans ((o40 50 (by decide)).trans ((o39 50 (by decide)).trans ((o38 50 (by decide)).trans ((o37 50 (by decide)).trans ((o36 50 (by decide)).trans ((o35 50 (by decide)).trans ((o34 50 (by decide)).trans ((o33 50 (by decide)).trans ((o32 50 (by decide)).trans ((o31 50 (by decide)).trans ((o30 50 (by decide)).trans ((o29 50 (by decide)).trans ((o28 50 (by decide)).trans ((o27 50 (by decide)).trans ((o26 50 (by decide)).trans ((o25 50 (by decide)).trans ((o24 50 (by decide)).trans e23)))))))))))))))))))
      · exact Or.inl ((o42 51 (by decide)).trans ((o41 51 (by decide)).trans ((o40 51 (by decide)).trans ((o39 51 (by decide)).trans ((o38 51 (by decide)).trans ((o37 51 (by decide)).trans ((o36 51 (by decide)).trans ((o35 51 (by decide)).trans ((o34 51 (by decide)).trans ((o33 51 (by decide)).trans ((o32 51 (by decide)).trans ((o31 51 (by decide)).trans ((o30 51 (by decide)).trans ((o29 51 (by decide)).trans ((o28 51 (by decide)).trans ((o27 51 (by decide)).trans e26))))))))))))))))
      · refine Or.inr ⟨_, _, _, _, ((o42 52 (by decide)).trans e41), rfl, fun i hi => ?_⟩
        obtain rfl | rfl | rfl | rfl | rfl | rfl : i = 0 ∨ i = 1 ∨ i = 2 ∨ i = 3 ∨ i = 4 ∨ i = 5 := by omega
        all_goals rfl
      · exact Or.inl ((o42 53 (by decide)).trans ((o41 53 (by decide)).trans ((o40 53 (by decide)).trans ((o39 53 (by decide)).trans ((o38 53 (by decide)).trans ((o37 53 (by decide)).trans ((o36 53 (by decide)).trans ((o35 53 (by decide)).trans ((o34 53 (by decide)).trans ((o33 53 (by decide)).trans ((o32 53 (by decide)).trans ((o31 53 (by decide)).trans e30))))))))))))
      · exact Or.inl ((o42 54 (by decide)).trans ((o41 54 (by decide)).trans ((o40 54 (by decide)).trans ((o39 54 (by decide)).trans ((o38 54 (by decide)).trans ((o37 54 (by decide)).trans ((o36 54 (by decide)).trans ((o35 54 (by decide)).trans ((o34 54 (by decide)).trans ((o33 54 (by decide)).trans e32))))))))))
      · exact Or.inl ((o42 55 (by decide)).trans ((o41 55 (by decide)).trans ((o40 55 (by decide)).trans ((o39 55 (by decide)).trans ((o38 55 (by decide)).trans ((o37 55 (by decide)).trans ((o36 55 (by decide)).trans ((o35 55 (by decide)).trans e34))))))))
      · exact Or.inl ((o42 56 (by decide)).trans ((o41 56 (by decide)).trans ((o40 56 (by decide)).trans ((o39 56 (by decide)).trans ((o38 56 (by decide)).trans ((o37 56 (by decide)).trans e36))))))
      · exact Or.inl ((o42 57 (by decide)).trans ((o41 57 (by decide)).trans ((o40 57 (by decide)).trans ((o39 57 (by decide)).trans e38))))
      · exact Or.inl ((o42 58 (by decide)).trans ((o41 58 (by decide)).trans e40))
  refine aw_return dX0_init_90 rfl (Nat.le_of_ble_eq_true rfl) rfl ?_
  exact k _ (fun j hj => if_pos hj) (fun j h1 h2 => if_neg (by omega))
end CT2
