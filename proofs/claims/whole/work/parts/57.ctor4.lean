/-! the reference made -/
section CT4
variable {E : EVt} {h : AHt} {Q : Value → AHt → Prop}
theorem mI_73 : upd (fun _ => (0 : Int32)) (3 : Int32).toNatClampNeg 40 = mI 73 := by
  funext j
  show (if j = 3 then (40 : Int32) else 0) = _
  unfold mI
  by_cases e : j = 3
  · rw [if_pos e, if_pos (by omega)]
  · rw [if_neg e, if_neg (by omega)]
theorem ct_X12_init (hh : h 72 = .inr (12, [.null, .null, .null, .null, .null, .int 0, .null, .int 0, .int 0, .int 0, .int 0, .int 0, .null, .null, .null, .null])) (k : ∀ h1, (∀ j, j < 72 → h1 j = h j) → (∀ j, 72 ≤ j → j < 83 → h1 j = HP E mI LI j) → Q .null h1) : CT E 2 MX12_init (73, 10, 627) [.ref (ev_z E + 72)] h Q := by
  refine CT.of rfl (Nat.le_of_ble_eq_true rfl) (lv := [(0, _)]) rfl ?_
  refine aw_aload_n (i := 0) (q := 1) dX12_init_0 rfl rfl rfl ?_
  refine aw_objInit (q := 4) lkX12_1 dX12_init_1 (Nat.le_of_ble_eq_true rfl) (Nat.le_of_ble_eq_true rfl) rfl ?_
  refine aw_aload_n (i := 0) (q := 5) dX12_init_4 rfl rfl rfl ?_
  refine aw_bipush (v := 73) (q := 7) dX12_init_5 rfl rfl ?_
  refine an_newa (a := 73) (atype := .int) (t := 0) (N' := 73) (a0 := (73, .inl (fun _ => 0))) (q := 9) dX12_init_7 rfl rfl (fun C q => by cases q) w_271 (fun _ => rfl) (by decide) (by decide) (by decide) (Nat.le_of_ble_eq_true rfl) (Nat.le_of_ble_eq_true rfl) rfl rfl ?_
  intro h1 e1 o1
  refine an_putF (q := 12) ffX12_7 rfl dX12_init_9 (Nat.le_of_ble_eq_true rfl) ((o1 72 (by decide)).trans hh) (Nat.le_of_ble_eq_true rfl) rfl rfl rfl ?_
  intro h2 e2 o2
  replace e2 : h2 72 = .inr (12, [.ref (ev_z E + 73), .null, .null, .null, .null, .int 0, .null, .int 0, .int 0, .int 0, .int 0, .int 0, .null, .null, .null, .null]) := e2
  refine aw_aload_n (i := 0) (q := 13) dX12_init_12 rfl rfl rfl ?_
  refine aw_bipush (v := 73) (q := 15) dX12_init_13 rfl rfl ?_
  refine an_newa (a := 74) (atype := .int) (t := 0) (N' := 73) (a0 := (73, .inl (fun _ => 0))) (q := 17) dX12_init_15 rfl rfl (fun C q => by cases q) w_271 (fun _ => rfl) (by decide) (by decide) (by decide) (Nat.le_of_ble_eq_true rfl) (Nat.le_of_ble_eq_true rfl) rfl rfl ?_
  intro h3 e3 o3
  refine an_putF (q := 20) ffX12_13 rfl dX12_init_17 (Nat.le_of_ble_eq_true rfl) ((o3 72 (by decide)).trans e2) (Nat.le_of_ble_eq_true rfl) rfl rfl rfl ?_
  intro h4 e4 o4
  replace e4 : h4 72 = .inr (12, [.ref (ev_z E + 73), .ref (ev_z E + 74), .null, .null, .null, .int 0, .null, .int 0, .int 0, .int 0, .int 0, .int 0, .null, .null, .null, .null]) := e4
  refine aw_aload_n (i := 0) (q := 21) dX12_init_20 rfl rfl rfl ?_
  refine aw_bipush (v := 73) (q := 23) dX12_init_21 rfl rfl ?_
  refine an_newa (a := 75) (atype := .int) (t := 0) (N' := 73) (a0 := (73, .inl (fun _ => 0))) (q := 25) dX12_init_23 rfl rfl (fun C q => by cases q) w_271 (fun _ => rfl) (by decide) (by decide) (by decide) (Nat.le_of_ble_eq_true rfl) (Nat.le_of_ble_eq_true rfl) rfl rfl ?_
  intro h5 e5 o5
  refine an_putF (q := 28) ffX12_16 rfl dX12_init_25 (Nat.le_of_ble_eq_true rfl) ((o5 72 (by decide)).trans e4) (Nat.le_of_ble_eq_true rfl) rfl rfl rfl ?_
  intro h6 e6 o6
  replace e6 : h6 72 = .inr (12, [.ref (ev_z E + 73), .ref (ev_z E + 74), .ref (ev_z E + 75), .null, .null, .int 0, .null, .int 0, .int 0, .int 0, .int 0, .int 0, .null, .null, .null, .null]) := e6
  refine aw_aload_n (i := 0) (q := 29) dX12_init_28 rfl rfl rfl ?_
  refine aw_bipush (v := 73) (q := 31) dX12_init_29 rfl rfl ?_
  refine an_newa (a := 76) (atype := .int) (t := 0) (N' := 73) (a0 := (73, .inl (fun _ => 0))) (q := 33) dX12_init_31 rfl rfl (fun C q => by cases q) w_271 (fun _ => rfl) (by decide) (by decide) (by decide) (Nat.le_of_ble_eq_true rfl) (Nat.le_of_ble_eq_true rfl) rfl rfl ?_
  intro h7 e7 o7
  refine an_putF (q := 36) ffX12_19 rfl dX12_init_33 (Nat.le_of_ble_eq_true rfl) ((o7 72 (by decide)).trans e6) (Nat.le_of_ble_eq_true rfl) rfl rfl rfl ?_
  intro h8 e8 o8
  replace e8 : h8 72 = .inr (12, [.ref (ev_z E + 73), .ref (ev_z E + 74), .ref (ev_z E + 75), .ref (ev_z E + 76), .null, .int 0, .null, .int 0, .int 0, .int 0, .int 0, .int 0, .null, .null, .null, .null]) := e8
  refine aw_aload_n (i := 0) (q := 37) dX12_init_36 rfl rfl rfl ?_
  refine aw_bipush (v := 7) (q := 39) dX12_init_37 rfl rfl ?_
  refine an_newa (a := 77) (atype := .int) (t := 0) (N' := 7) (a0 := (7, .inl (fun _ => 0))) (q := 41) dX12_init_39 rfl rfl (fun C q => by cases q) w_271 (fun _ => rfl) (by decide) (by decide) (by decide) (Nat.le_of_ble_eq_true rfl) (Nat.le_of_ble_eq_true rfl) rfl rfl ?_
  intro h9 e9 o9
  refine an_putF (q := 44) ffX12_22 rfl dX12_init_41 (Nat.le_of_ble_eq_true rfl) ((o9 72 (by decide)).trans e8) (Nat.le_of_ble_eq_true rfl) rfl rfl rfl ?_
  intro h10 e10 o10
  replace e10 : h10 72 = .inr (12, [.ref (ev_z E + 73), .ref (ev_z E + 74), .ref (ev_z E + 75), .ref (ev_z E + 76), .ref (ev_z E + 77), .int 0, .null, .int 0, .int 0, .int 0, .int 0, .int 0, .null, .null, .null, .null]) := e10
  refine aw_aload_n (i := 0) (q := 45) dX12_init_44 rfl rfl rfl ?_
  refine aw_bipush (v := 120) (q := 47) dX12_init_45 rfl rfl ?_
  refine an_newa (a := 78) (atype := .int) (t := 0) (N' := 120) (a0 := (120, .inl (fun _ => 0))) (q := 49) dX12_init_47 rfl rfl (fun C q => by cases q) w_271 (fun _ => rfl) (by decide) (by decide) (by decide) (Nat.le_of_ble_eq_true rfl) (Nat.le_of_ble_eq_true rfl) rfl rfl ?_
  intro h11 e11 o11
  refine an_putF (q := 52) ffX12_25 rfl dX12_init_49 (Nat.le_of_ble_eq_true rfl) ((o11 72 (by decide)).trans e10) (Nat.le_of_ble_eq_true rfl) rfl rfl rfl ?_
  intro h12 e12 o12
  replace e12 : h12 72 = .inr (12, [.ref (ev_z E + 73), .ref (ev_z E + 74), .ref (ev_z E + 75), .ref (ev_z E + 76), .ref (ev_z E + 77), .int 0, .ref (ev_z E + 78), .int 0, .int 0, .int 0, .int 0, .int 0, .null, .null, .null, .null]) := e12
  refine aw_aload_n (i := 0) (q := 53) dX12_init_52 rfl rfl rfl ?_
  refine aw_iconst (v := 4) (q := 54) dX12_init_53 rfl rfl ?_
  refine an_newa (a := 79) (atype := .int) (t := 0) (N' := 4) (a0 := (4, .inl (fun _ => 0))) (q := 56) dX12_init_54 rfl rfl (fun C q => by cases q) w_271 (fun _ => rfl) (by decide) (by decide) (by decide) (Nat.le_of_ble_eq_true rfl) (Nat.le_of_ble_eq_true rfl) rfl rfl ?_
  intro h13 e13 o13
  refine an_putF (q := 59) ffX12_28 rfl dX12_init_56 (Nat.le_of_ble_eq_true rfl) ((o13 72 (by decide)).trans e12) (Nat.le_of_ble_eq_true rfl) rfl rfl rfl ?_
  intro h14 e14 o14
  replace e14 : h14 72 = .inr (12, [.ref (ev_z E + 73), .ref (ev_z E + 74), .ref (ev_z E + 75), .ref (ev_z E + 76), .ref (ev_z E + 77), .int 0, .ref (ev_z E + 78), .int 0, .int 0, .int 0, .int 0, .int 0, .ref (ev_z E + 79), .null, .null, .null]) := e14
  refine aw_aload_n (i := 0) (q := 60) dX12_init_59 rfl rfl rfl ?_
  refine aw_iconst (v := 4) (q := 61) dX12_init_60 rfl rfl ?_
  refine an_newa (a := 80) (atype := .int) (t := 0) (N' := 4) (a0 := (4, .inl (fun _ => 0))) (q := 63) dX12_init_61 rfl rfl (fun C q => by cases q) w_271 (fun _ => rfl) (by decide) (by decide) (by decide) (Nat.le_of_ble_eq_true rfl) (Nat.le_of_ble_eq_true rfl) rfl rfl ?_
  intro h15 e15 o15
  refine an_putF (q := 66) ffX12_31 rfl dX12_init_63 (Nat.le_of_ble_eq_true rfl) ((o15 72 (by decide)).trans e14) (Nat.le_of_ble_eq_true rfl) rfl rfl rfl ?_
  intro h16 e16 o16
  replace e16 : h16 72 = .inr (12, [.ref (ev_z E + 73), .ref (ev_z E + 74), .ref (ev_z E + 75), .ref (ev_z E + 76), .ref (ev_z E + 77), .int 0, .ref (ev_z E + 78), .int 0, .int 0, .int 0, .int 0, .int 0, .ref (ev_z E + 79), .ref (ev_z E + 80), .null, .null]) := e16
  refine aw_aload_n (i := 0) (q := 67) dX12_init_66 rfl rfl rfl ?_
  refine aw_sipush (v := 160) (q := 70) dX12_init_67 rfl rfl ?_
  refine an_newa (a := 81) (atype := .long) (t := 1) (N' := 160) (a0 := (160, .inr (.inl (fun _ => 0)))) (q := 72) dX12_init_70 rfl rfl (fun C q => by cases q) w_245 (fun _ => rfl) (by decide) (by decide) (by decide) (Nat.le_of_ble_eq_true rfl) (Nat.le_of_ble_eq_true rfl) rfl rfl ?_
  intro h17 e17 o17
  refine an_putF (q := 75) ffX12_34 rfl dX12_init_72 (Nat.le_of_ble_eq_true rfl) ((o17 72 (by decide)).trans e16) (Nat.le_of_ble_eq_true rfl) rfl rfl rfl ?_
  intro h18 e18 o18
  replace e18 : h18 72 = .inr (12, [.ref (ev_z E + 73), .ref (ev_z E + 74), .ref (ev_z E + 75), .ref (ev_z E + 76), .ref (ev_z E + 77), .int 0, .ref (ev_z E + 78), .int 0, .int 0, .int 0, .int 0, .int 0, .ref (ev_z E + 79), .ref (ev_z E + 80), .ref (ev_z E + 81), .null]) := e18
  refine aw_aload_n (i := 0) (q := 76) dX12_init_75 rfl rfl rfl ?_
  refine aw_bipush (v := 40) (q := 78) dX12_init_76 rfl rfl ?_
  refine an_newa (a := 82) (atype := .long) (t := 1) (N' := 40) (a0 := (40, .inr (.inl (fun _ => 0)))) (q := 80) dX12_init_78 rfl rfl (fun C q => by cases q) w_245 (fun _ => rfl) (by decide) (by decide) (by decide) (Nat.le_of_ble_eq_true rfl) (Nat.le_of_ble_eq_true rfl) rfl rfl ?_
  intro h19 e19 o19
  refine an_putF (q := 83) ffX12_38 rfl dX12_init_80 (Nat.le_of_ble_eq_true rfl) ((o19 72 (by decide)).trans e18) (Nat.le_of_ble_eq_true rfl) rfl rfl rfl ?_
  intro h20 e20 o20
  replace e20 : h20 72 = .inr (12, [.ref (ev_z E + 73), .ref (ev_z E + 74), .ref (ev_z E + 75), .ref (ev_z E + 76), .ref (ev_z E + 77), .int 0, .ref (ev_z E + 78), .int 0, .int 0, .int 0, .int 0, .int 0, .ref (ev_z E + 79), .ref (ev_z E + 80), .ref (ev_z E + 81), .ref (ev_z E + 82)]) := e20
  refine aw_aload_n (i := 0) (q := 84) dX12_init_83 rfl rfl rfl ?_
  refine aw_getfield (q := 87) fgX12_7 dX12_init_84 (Nat.le_of_ble_eq_true rfl) e20 rfl rfl ?_
  refine aw_iconst (v := 3) (q := 88) dX12_init_87 rfl rfl ?_
  refine aw_bipush (v := 40) (q := 90) dX12_init_88 rfl rfl ?_
  refine an_iast (n := 73) (f := fun _ => 0) (q := 91) dX12_init_90 (Nat.le_of_ble_eq_true rfl) ((o20 73 (by decide)).trans ((o19 73 (by decide)).trans ((o18 73 (by decide)).trans ((o17 73 (by decide)).trans ((o16 73 (by decide)).trans ((o15 73 (by decide)).trans ((o14 73 (by decide)).trans ((o13 73 (by decide)).trans ((o12 73 (by decide)).trans ((o11 73 (by decide)).trans ((o10 73 (by decide)).trans ((o9 73 (by decide)).trans ((o8 73 (by decide)).trans ((o7 73 (by decide)).trans ((o6 73 (by decide)).trans ((o5 73 (by decide)).trans ((o4 73 (by decide)).trans ((o3 73 (by decide)).trans ((o2 73 (by decide)).trans e1))))))))))))))))))) (by unfold vp_in; decide) rfl ?_
  intro h21 e21 o21
  refine AW_cong (h' := fun k => if k < 72 then h k else HP E mI LI k) (fun k hk => ?_) ?_
  · have hk : k < 83 := hk
    by_cases hb : k < 72
    · rw [if_pos hb]
      exact Or.inl ((o21 k (by omega)).trans ((o20 k (by omega)).trans ((o19 k (by omega)).trans ((o18 k (by omega)).trans ((o17 k (by omega)).trans ((o16 k (by omega)).trans ((o15 k (by omega)).trans ((o14 k (by omega)).trans ((o13 k (by omega)).trans ((o12 k (by omega)).trans ((o11 k (by omega)).trans ((o10 k (by omega)).trans ((o9 k (by omega)).trans ((o8 k (by omega)).trans ((o7 k (by omega)).trans ((o6 k (by omega)).trans ((o5 k (by omega)).trans ((o4 k (by omega)).trans ((o3 k (by omega)).trans ((o2 k (by omega)).trans (o1 k (by omega))))))))))))))))))))))
    · rw [if_neg hb]
      obtain rfl | rfl | rfl | rfl | rfl | rfl | rfl | rfl | rfl | rfl | rfl : k = 72 ∨ k = 73 ∨ k = 74 ∨ k = 75 ∨ k = 76 ∨ k = 77 ∨ k = 78 ∨ k = 79 ∨ k = 80 ∨ k = 81 ∨ k = 82 := by omega
      · exact Or.inl ((o21 72 (by decide)).trans e20)
      · refine Or.inl (e21.trans ?_)
        show aI (ev_cy E 0) 73 (upd (fun _ => 0) (3 : Int32).toNatClampNeg 40) = aI (ev_cy E 0) 73 (mI 73)
        rw [show upd (fun _ => (0 : Int32)) (3 : Int32).toNatClampNeg 40 = mI 73 from mI_73]
      · exact Or.inl ((o21 74 (by decide)).trans ((o20 74 (by decide)).trans ((o19 74 (by decide)).trans ((o18 74 (by decide)).trans ((o17 74 (by decide)).trans ((o16 74 (by decide)).trans ((o15 74 (by decide)).trans ((o14 74 (by decide)).trans ((o13 74 (by decide)).trans ((o12 74 (by decide)).trans ((o11 74 (by decide)).trans ((o10 74 (by decide)).trans ((o9 74 (by decide)).trans ((o8 74 (by decide)).trans ((o7 74 (by decide)).trans ((o6 74 (by decide)).trans ((o5 74 (by decide)).trans ((o4 74 (by decide)).trans e3))))))))))))))))))
      · exact Or.inl ((o21 75 (by decide)).trans ((o20 75 (by decide)).trans ((o19 75 (by decide)).trans ((o18 75 (by decide)).trans ((o17 75 (by decide)).trans ((o16 75 (by decide)).trans ((o15 75 (by decide)).trans ((o14 75 (by decide)).trans ((o13 75 (by decide)).trans ((o12 75 (by decide)).trans ((o11 75 (by decide)).trans ((o10 75 (by decide)).trans ((o9 75 (by decide)).trans ((o8 75 (by decide)).trans ((o7 75 (by decide)).trans ((o6 75 (by decide)).trans e5))))))))))))))))
      · exact Or.inl ((o21 76 (by decide)).trans ((o20 76 (by decide)).trans ((o19 76 (by decide)).trans ((o18 76 (by decide)).trans ((o17 76 (by decide)).trans ((o16 76 (by decide)).trans ((o15 76 (by decide)).trans ((o14 76 (by decide)).trans ((o13 76 (by decide)).trans ((o12 76 (by decide)).trans ((o11 76 (by decide)).trans ((o10 76 (by decide)).trans ((o9 76 (by decide)).trans ((o8 76 (by decide)).trans e7))))))))))))))
      · exact Or.inl ((o21 77 (by decide)).trans ((o20 77 (by decide)).trans ((o19 77 (by decide)).trans ((o18 77 (by decide)).trans ((o17 77 (by decide)).trans ((o16 77 (by decide)).trans ((o15 77 (by decide)).trans ((o14 77 (by decide)).trans ((o13 77 (by decide)).trans ((o12 77 (by decide)).trans ((o11 77 (by decide)).trans ((o10 77 (by decide)).trans e9))))))))))))
      · exact Or.inl ((o21 78 (by decide)).trans ((o20 78 (by decide)).trans ((o19 78 (by decide)).trans ((o18 78 (by decide)).trans ((o17 78 (by decide)).trans ((o16 78 (by decide)).trans ((o15 78 (by decide)).trans ((o14 78 (by decide)).trans ((o13 78 (by decide)).trans ((o12 78 (by decide)).trans e11))))))))))
      · exact Or.inl ((o21 79 (by decide)).trans ((o20 79 (by decide)).trans ((o19 79 (by decide)).trans ((o18 79 (by decide)).trans ((o17 79 (by decide)).trans ((o16 79 (by decide)).trans ((o15 79 (by decide)).trans ((o14 79 (by decide)).trans e13))))))))
      · exact Or.inl ((o21 80 (by decide)).trans ((o20 80 (by decide)).trans ((o19 80 (by decide)).trans ((o18 80 (by decide)).trans ((o17 80 (by decide)).trans ((o16 80 (by decide)).trans e15))))))
      · exact Or.inl ((o21 81 (by decide)).trans ((o20 81 (by decide)).trans ((o19 81 (by decide)).trans ((o18 81 (by decide)).trans e17))))
      · exact Or.inl ((o21 82 (by decide)).trans ((o20 82 (by decide)).trans e19))
  refine aw_return dX12_init_91 rfl (Nat.le_of_ble_eq_true rfl) rfl ?_
  exact k _ (fun j hj => if_pos hj) (fun j h1 h2 => if_neg (by omega))
end CT4
