/-! the class made -/
section CT3
variable {E : EVt} {h : AHt} {Q : Value → AHt → Prop}
theorem ct_X11_init (hh : h 0 = .inr (11, [.null, .null, .null, .null, .null, .null, .null, .int 0])) (k : ∀ h1, (∀ j, j < 72 → h1 j = HP E mI LI j) → Q .null h1) : CT E 6 MX11_init (1, 71, 606) [.ref (ev_z E + 0)] h Q := by
  refine CT.of rfl (Nat.le_of_ble_eq_true rfl) (lv := [(0, _)]) rfl ?_
  refine aw_aload_n (i := 0) (q := 1) dX11_init_0 rfl rfl rfl ?_
  refine aw_objInit (q := 4) lkX11_1 dX11_init_1 (Nat.le_of_ble_eq_true rfl) (Nat.le_of_ble_eq_true rfl) rfl ?_
  refine aw_callS (As := []) (rest := []) (mc := 7) (ms := 18) (d' := 5) (q := 7) lkX11_7 dX11_init_4 (Nat.le_of_ble_eq_true rfl) rfl rfl (Nat.le_of_ble_eq_true rfl) (Nat.le_of_ble_eq_true rfl) (Nat.le_of_ble_eq_true rfl) rfl ?_
  refine ct_X4_inOrder ?_
  intro h1 o1 r1
  refine aw_astore_n (i := 1) (q := 8) (lv' := [_, _]) dX11_init_7 rfl (Nat.le_of_ble_eq_true rfl) rfl rfl ?_
  refine aw_aload_n (i := 0) (q := 9) dX11_init_8 rfl rfl rfl ?_
  refine an_new (a := 8) (ci := 0) (fs := [.null, .null, .null, .int 0, .int 0, .int 0, .int 0, .int 0]) (q := 12) dX11_init_9 ck_0 ⟨w_92, w_93, w_8⟩ hd_0 (Nat.le_of_ble_eq_true rfl) (Nat.le_of_ble_eq_true rfl) rfl rfl ?_
  intro h2 e2 o2
  refine aw_dup (q := 13) dX11_init_12 rfl rfl ?_
  refine aw_aload_n (i := 1) (q := 14) dX11_init_13 rfl rfl rfl ?_
  refine aw_callI (As := [.ref (ev_z E + 5)]) (rest := [.ref (ev_z E + 8), .ref (ev_z E + 0)]) (mc := 16) (ms := 82) (d' := 3) (q := 17) lkX11_15 dX11_init_14 (Nat.le_of_ble_eq_true rfl) rfl rfl (Nat.le_of_ble_eq_true rfl) (Nat.le_of_ble_eq_true rfl) (Nat.le_of_ble_eq_true rfl) rfl ?_
  refine ct_X0_init_8 e2 ((o2 5 (by decide)).trans (r1 5 (by decide) (by decide))) ?_
  intro h3 o3 r3
  refine an_putF (q := 20) ffX11_18 rfl dX11_init_17 (Nat.le_of_ble_eq_true rfl) ((o3 0 (by decide)).trans ((o2 0 (by decide)).trans ((o1 0 (by decide)).trans hh))) (Nat.le_of_ble_eq_true rfl) rfl rfl rfl ?_
  intro h4 e4 o4
  replace e4 : h4 0 = .inr (11, [.ref (ev_z E + 8), .null, .null, .null, .null, .null, .null, .int 0]) := e4
  refine aw_aload_n (i := 0) (q := 21) dX11_init_20 rfl rfl rfl ?_
  refine an_new (a := 25) (ci := 0) (fs := [.null, .null, .null, .int 0, .int 0, .int 0, .int 0, .int 0]) (q := 24) dX11_init_21 ck_0 ⟨w_92, w_93, w_8⟩ hd_0 (Nat.le_of_ble_eq_true rfl) (Nat.le_of_ble_eq_true rfl) rfl rfl ?_
  intro h5 e5 o5
  refine aw_dup (q := 25) dX11_init_24 rfl rfl ?_
  refine aw_aload_n (i := 1) (q := 26) dX11_init_25 rfl rfl rfl ?_
  refine aw_callI (As := [.ref (ev_z E + 5)]) (rest := [.ref (ev_z E + 25), .ref (ev_z E + 0)]) (mc := 16) (ms := 82) (d' := 3) (q := 29) lkX11_15 dX11_init_26 (Nat.le_of_ble_eq_true rfl) rfl rfl (Nat.le_of_ble_eq_true rfl) (Nat.le_of_ble_eq_true rfl) (Nat.le_of_ble_eq_true rfl) rfl ?_
  refine ct_X0_init_25 e5 ((o5 5 (by decide)).trans ((o4 5 (by decide)).trans ((o3 5 (by decide)).trans ((o2 5 (by decide)).trans (r1 5 (by decide) (by decide)))))) ?_
  intro h6 o6 r6
  refine an_putF (q := 32) ffX11_24 rfl dX11_init_29 (Nat.le_of_ble_eq_true rfl) ((o6 0 (by decide)).trans ((o5 0 (by decide)).trans e4)) (Nat.le_of_ble_eq_true rfl) rfl rfl rfl ?_
  intro h7 e7 o7
  replace e7 : h7 0 = .inr (11, [.ref (ev_z E + 8), .ref (ev_z E + 25), .null, .null, .null, .null, .null, .int 0]) := e7
  refine aw_aload_n (i := 0) (q := 33) dX11_init_32 rfl rfl rfl ?_
  refine an_new (a := 42) (ci := 0) (fs := [.null, .null, .null, .int 0, .int 0, .int 0, .int 0, .int 0]) (q := 36) dX11_init_33 ck_0 ⟨w_92, w_93, w_8⟩ hd_0 (Nat.le_of_ble_eq_true rfl) (Nat.le_of_ble_eq_true rfl) rfl rfl ?_
  intro h8 e8 o8
  refine aw_dup (q := 37) dX11_init_36 rfl rfl ?_
  refine aw_aload_n (i := 1) (q := 38) dX11_init_37 rfl rfl rfl ?_
  refine aw_callI (As := [.ref (ev_z E + 5)]) (rest := [.ref (ev_z E + 42), .ref (ev_z E + 0)]) (mc := 16) (ms := 82) (d' := 3) (q := 41) lkX11_15 dX11_init_38 (Nat.le_of_ble_eq_true rfl) rfl rfl (Nat.le_of_ble_eq_true rfl) (Nat.le_of_ble_eq_true rfl) (Nat.le_of_ble_eq_true rfl) rfl ?_
  refine ct_X0_init_42 e8 ((o8 5 (by decide)).trans ((o7 5 (by decide)).trans ((o6 5 (by decide)).trans ((o5 5 (by decide)).trans ((o4 5 (by decide)).trans ((o3 5 (by decide)).trans ((o2 5 (by decide)).trans (r1 5 (by decide) (by decide))))))))) ?_
  intro h9 o9 r9
  refine an_putF (q := 44) ffX11_27 rfl dX11_init_41 (Nat.le_of_ble_eq_true rfl) ((o9 0 (by decide)).trans ((o8 0 (by decide)).trans e7)) (Nat.le_of_ble_eq_true rfl) rfl rfl rfl ?_
  intro h10 e10 o10
  replace e10 : h10 0 = .inr (11, [.ref (ev_z E + 8), .ref (ev_z E + 25), .ref (ev_z E + 42), .null, .null, .null, .null, .int 0]) := e10
  refine aw_aload_n (i := 0) (q := 45) dX11_init_44 rfl rfl rfl ?_
  refine an_new (a := 59) (ci := 2) (fs := [.null, .int 0, .int 0, .int 0, .int 0, .int 0, .int 0]) (q := 48) dX11_init_45 ck_2 ⟨w_190, w_100, w_9⟩ hd_2 (Nat.le_of_ble_eq_true rfl) (Nat.le_of_ble_eq_true rfl) rfl rfl ?_
  intro h11 e11 o11
  refine aw_dup (q := 49) dX11_init_48 rfl rfl ?_
  refine aw_aload_n (i := 1) (q := 50) dX11_init_49 rfl rfl rfl ?_
  refine aw_iconst (v := 0) (q := 51) dX11_init_50 rfl rfl ?_
  refine aw_aaload (t := 3) (n := 6) (f := fun i => some (ev_z E + kcl i)) (r := ev_z E + 1) (q := 52) rfl dX11_init_51 (Nat.le_of_ble_eq_true rfl) ((o11 5 (by decide)).trans ((o10 5 (by decide)).trans ((o9 5 (by decide)).trans ((o8 5 (by decide)).trans ((o7 5 (by decide)).trans ((o6 5 (by decide)).trans ((o5 5 (by decide)).trans ((o4 5 (by decide)).trans ((o3 5 (by decide)).trans ((o2 5 (by decide)).trans (r1 5 (by decide) (by decide)))))))))))) (by unfold vp_in; decide) rfl rfl ?_
  refine aw_callI (As := [.ref (ev_z E + 1)]) (rest := [.ref (ev_z E + 59), .ref (ev_z E + 0)]) (mc := 0) (ms := 0) (d' := 2) (q := 55) lkX11_32 dX11_init_52 (Nat.le_of_ble_eq_true rfl) rfl rfl (Nat.le_of_ble_eq_true rfl) (Nat.le_of_ble_eq_true rfl) (Nat.le_of_ble_eq_true rfl) rfl ?_
  refine ct_X2_init (n := 60) (Nat.le_of_ble_eq_true rfl) e11 ?_
  intro h12 e12 o12
  refine an_putF (q := 58) ffX11_35 rfl dX11_init_55 (Nat.le_of_ble_eq_true rfl) ((o12 0 (by decide)).trans ((o11 0 (by decide)).trans e10)) (Nat.le_of_ble_eq_true rfl) rfl rfl rfl ?_
  intro h13 e13 o13
  replace e13 : h13 0 = .inr (11, [.ref (ev_z E + 8), .ref (ev_z E + 25), .ref (ev_z E + 42), .ref (ev_z E + 59), .null, .null, .null, .int 0]) := e13
  refine aw_aload_n (i := 0) (q := 59) dX11_init_58 rfl rfl rfl ?_
  refine an_new (a := 60) (ci := 9) (fs := [.null, .int 0, .int 0, .int 0, .int 0, .int 0, .int 0, .int 0]) (q := 62) dX11_init_59 ck_9 ⟨w_192, w_193, w_11⟩ hd_9 (Nat.le_of_ble_eq_true rfl) (Nat.le_of_ble_eq_true rfl) rfl rfl ?_
  intro h14 e14 o14
  refine aw_dup (q := 63) dX11_init_62 rfl rfl ?_
  refine aw_callIN (As := []) (rest := [.ref (ev_z E + 60), .ref (ev_z E + 0)]) (mc := 1) (ms := 120) (d' := 2) (q := 66) lkX11_41 dX11_init_63 (Nat.le_of_ble_eq_true rfl) rfl rfl (Nat.le_of_ble_eq_true rfl) (Nat.le_of_ble_eq_true rfl) (Nat.le_of_ble_eq_true rfl) rfl ?_
  refine ct_X9_init (n := 61) (Nat.le_of_ble_eq_true rfl) e14 ?_
  intro h15 e15 f15 o15
  refine an_putF (q := 69) ffX11_42 rfl dX11_init_66 (Nat.le_of_ble_eq_true rfl) ((o15 0 (by decide) (by decide)).trans ((o14 0 (by decide)).trans e13)) (Nat.le_of_ble_eq_true rfl) rfl rfl rfl ?_
  intro h16 e16 o16
  replace e16 : h16 0 = .inr (11, [.ref (ev_z E + 8), .ref (ev_z E + 25), .ref (ev_z E + 42), .ref (ev_z E + 59), .ref (ev_z E + 60), .null, .null, .int 0]) := e16
  refine aw_aload_n (i := 0) (q := 70) dX11_init_69 rfl rfl rfl ?_
  refine aw_iconst (v := 4) (q := 71) dX11_init_70 rfl rfl ?_
  refine an_anew (a := 62) (t := 6) (C := RX6) (N' := 4) (q := 74) dX11_init_71 rfl (List.mem_of_getElem? (i := 3) rfl) w_225 (by decide) (by decide) (by decide) (Nat.le_of_ble_eq_true rfl) (Nat.le_of_ble_eq_true rfl) rfl rfl ?_
  intro h17 e17 o17
  refine an_putF (q := 77) ffX11_48 rfl dX11_init_74 (Nat.le_of_ble_eq_true rfl) ((o17 0 (by decide)).trans e16) (Nat.le_of_ble_eq_true rfl) rfl rfl rfl ?_
  intro h18 e18 o18
  replace e18 : h18 0 = .inr (11, [.ref (ev_z E + 8), .ref (ev_z E + 25), .ref (ev_z E + 42), .ref (ev_z E + 59), .ref (ev_z E + 60), .ref (ev_z E + 62), .null, .int 0]) := e18
  refine aw_iconst (v := 0) (q := 78) dX11_init_77 rfl rfl ?_
  refine aw_istore_n (i := 2) (q := 79) (lv' := [_, _, _]) dX11_init_78 rfl (Nat.le_of_ble_eq_true rfl) rfl rfl ?_
  refine aw_iload_n (i := 2) (q := 80) dX11_init_79 rfl rfl rfl ?_
  refine aw_iconst (v := 4) (q := 81) dX11_init_80 rfl rfl ?_
  refine aw_icmp_ge (t := 103) (q := 84) dX11_init_81 rfl rfl (fun c => absurd c (by decide)) (fun _ => ?_)
  refine aw_aload_n (i := 0) (q := 85) dX11_init_84 rfl rfl rfl ?_
  refine aw_getfield (q := 88) fgX11_48 dX11_init_85 (Nat.le_of_ble_eq_true rfl) e18 rfl rfl ?_
  refine aw_iload_n (i := 2) (q := 89) dX11_init_88 rfl rfl rfl ?_
  refine an_new (a := 63) (ci := 6) (fs := [.null, .int 0, .int 0]) (q := 92) dX11_init_89 ck_6 ⟨w_225, w_227, w_12⟩ hd_6 (Nat.le_of_ble_eq_true rfl) (Nat.le_of_ble_eq_true rfl) rfl rfl ?_
  intro h19 e19 o19
  refine aw_dup (q := 93) dX11_init_92 rfl rfl ?_
  refine aw_callIN (As := []) (rest := [.ref (ev_z E + 63), .int 0, .ref (ev_z E + 62)]) (mc := 1) (ms := 40) (d' := 2) (q := 96) lkX11_52 dX11_init_93 (Nat.le_of_ble_eq_true rfl) rfl rfl (Nat.le_of_ble_eq_true rfl) (Nat.le_of_ble_eq_true rfl) (Nat.le_of_ble_eq_true rfl) rfl ?_
  refine ct_X6_init (n := 64) (Nat.le_of_ble_eq_true rfl) e19 ?_
  intro h20 e20 f20 o20
  refine an_aast (r := (RX6, TX6, 3)) (t := 6) (q := 97) rfl dX11_init_96 (Nat.le_of_ble_eq_true rfl) ((o20 62 (by decide) (by decide)).trans ((o19 62 (by decide)).trans ((o18 62 (by decide)).trans e17))) (Nat.le_of_ble_eq_true rfl) e20 rfl (by unfold vp_in; decide) rfl ?_
  intro h21 e21 o21
  refine aw_iinc (w := 1) (q := 100) (lv' := [(2, .int 1), _, _]) dX11_init_97 rfl rfl (Nat.le_of_ble_eq_true rfl) rfl rfl ?_
  refine aw_goto (t := 79) dX11_init_100 rfl ?_
  refine aw_iload_n (i := 2) (q := 80) dX11_init_79 rfl rfl rfl ?_
  refine aw_iconst (v := 4) (q := 81) dX11_init_80 rfl rfl ?_
  refine aw_icmp_ge (t := 103) (q := 84) dX11_init_81 rfl rfl (fun c => absurd c (by decide)) (fun _ => ?_)
  refine aw_aload_n (i := 0) (q := 85) dX11_init_84 rfl rfl rfl ?_
  refine aw_getfield (q := 88) fgX11_48 dX11_init_85 (Nat.le_of_ble_eq_true rfl) ((o21 0 (by decide)).trans ((o20 0 (by decide) (by decide)).trans ((o19 0 (by decide)).trans e18))) rfl rfl ?_
  refine aw_iload_n (i := 2) (q := 89) dX11_init_88 rfl rfl rfl ?_
  refine an_new (a := 65) (ci := 6) (fs := [.null, .int 0, .int 0]) (q := 92) dX11_init_89 ck_6 ⟨w_225, w_227, w_12⟩ hd_6 (Nat.le_of_ble_eq_true rfl) (Nat.le_of_ble_eq_true rfl) rfl rfl ?_
  intro h22 e22 o22
  refine aw_dup (q := 93) dX11_init_92 rfl rfl ?_
  refine aw_callIN (As := []) (rest := [.ref (ev_z E + 65), .int 1, .ref (ev_z E + 62)]) (mc := 1) (ms := 40) (d' := 2) (q := 96) lkX11_52 dX11_init_93 (Nat.le_of_ble_eq_true rfl) rfl rfl (Nat.le_of_ble_eq_true rfl) (Nat.le_of_ble_eq_true rfl) (Nat.le_of_ble_eq_true rfl) rfl ?_
  refine ct_X6_init (n := 66) (Nat.le_of_ble_eq_true rfl) e22 ?_
  intro h23 e23 f23 o23
  refine an_aast (r := (RX6, TX6, 3)) (t := 6) (q := 97) rfl dX11_init_96 (Nat.le_of_ble_eq_true rfl) ((o23 62 (by decide) (by decide)).trans ((o22 62 (by decide)).trans e21)) (Nat.le_of_ble_eq_true rfl) e23 rfl (by unfold vp_in; decide) rfl ?_
  intro h24 e24 o24
  refine aw_iinc (w := 1) (q := 100) (lv' := [(2, .int 2), _, _]) dX11_init_97 rfl rfl (Nat.le_of_ble_eq_true rfl) rfl rfl ?_
  refine aw_goto (t := 79) dX11_init_100 rfl ?_
  refine aw_iload_n (i := 2) (q := 80) dX11_init_79 rfl rfl rfl ?_
  refine aw_iconst (v := 4) (q := 81) dX11_init_80 rfl rfl ?_
  refine aw_icmp_ge (t := 103) (q := 84) dX11_init_81 rfl rfl (fun c => absurd c (by decide)) (fun _ => ?_)
  refine aw_aload_n (i := 0) (q := 85) dX11_init_84 rfl rfl rfl ?_
  refine aw_getfield (q := 88) fgX11_48 dX11_init_85 (Nat.le_of_ble_eq_true rfl) ((o24 0 (by decide)).trans ((o23 0 (by decide) (by decide)).trans ((o22 0 (by decide)).trans ((o21 0 (by decide)).trans ((o20 0 (by decide) (by decide)).trans ((o19 0 (by decide)).trans e18)))))) rfl rfl ?_
  refine aw_iload_n (i := 2) (q := 89) dX11_init_88 rfl rfl rfl ?_
  refine an_new (a := 67) (ci := 6) (fs := [.null, .int 0, .int 0]) (q := 92) dX11_init_89 ck_6 ⟨w_225, w_227, w_12⟩ hd_6 (Nat.le_of_ble_eq_true rfl) (Nat.le_of_ble_eq_true rfl) rfl rfl ?_
  intro h25 e25 o25
  refine aw_dup (q := 93) dX11_init_92 rfl rfl ?_
  refine aw_callIN (As := []) (rest := [.ref (ev_z E + 67), .int 2, .ref (ev_z E + 62)]) (mc := 1) (ms := 40) (d' := 2) (q := 96) lkX11_52 dX11_init_93 (Nat.le_of_ble_eq_true rfl) rfl rfl (Nat.le_of_ble_eq_true rfl) (Nat.le_of_ble_eq_true rfl) (Nat.le_of_ble_eq_true rfl) rfl ?_
  refine ct_X6_init (n := 68) (Nat.le_of_ble_eq_true rfl) e25 ?_
  intro h26 e26 f26 o26
  refine an_aast (r := (RX6, TX6, 3)) (t := 6) (q := 97) rfl dX11_init_96 (Nat.le_of_ble_eq_true rfl) ((o26 62 (by decide) (by decide)).trans ((o25 62 (by decide)).trans e24)) (Nat.le_of_ble_eq_true rfl) e26 rfl (by unfold vp_in; decide) rfl ?_
  intro h27 e27 o27
  refine aw_iinc (w := 1) (q := 100) (lv' := [(2, .int 3), _, _]) dX11_init_97 rfl rfl (Nat.le_of_ble_eq_true rfl) rfl rfl ?_
  refine aw_goto (t := 79) dX11_init_100 rfl ?_
  refine aw_iload_n (i := 2) (q := 80) dX11_init_79 rfl rfl rfl ?_
  refine aw_iconst (v := 4) (q := 81) dX11_init_80 rfl rfl ?_
  refine aw_icmp_ge (t := 103) (q := 84) dX11_init_81 rfl rfl (fun c => absurd c (by decide)) (fun _ => ?_)
  refine aw_aload_n (i := 0) (q := 85) dX11_init_84 rfl rfl rfl ?_
  refine aw_getfield (q := 88) fgX11_48 dX11_init_85 (Nat.le_of_ble_eq_true rfl) ((o27 0 (by decide)).trans ((o26 0 (by decide) (by decide)).trans ((o25 0 (by decide)).trans ((o24 0 (by decide)).trans ((o23 0 (by decide) (by decide)).trans ((o22 0 (by decide)).trans ((o21 0 (by decide)).trans ((o20 0 (by decide) (by decide)).trans ((o19 0 (by decide)).trans e18))))))))) rfl rfl ?_
  refine aw_iload_n (i := 2) (q := 89) dX11_init_88 rfl rfl rfl ?_
  refine an_new (a := 69) (ci := 6) (fs := [.null, .int 0, .int 0]) (q := 92) dX11_init_89 ck_6 ⟨w_225, w_227, w_12⟩ hd_6 (Nat.le_of_ble_eq_true rfl) (Nat.le_of_ble_eq_true rfl) rfl rfl ?_
  intro h28 e28 o28
  refine aw_dup (q := 93) dX11_init_92 rfl rfl ?_
  refine aw_callIN (As := []) (rest := [.ref (ev_z E + 69), .int 3, .ref (ev_z E + 62)]) (mc := 1) (ms := 40) (d' := 2) (q := 96) lkX11_52 dX11_init_93 (Nat.le_of_ble_eq_true rfl) rfl rfl (Nat.le_of_ble_eq_true rfl) (Nat.le_of_ble_eq_true rfl) (Nat.le_of_ble_eq_true rfl) rfl ?_
  refine ct_X6_init (n := 70) (Nat.le_of_ble_eq_true rfl) e28 ?_
  intro h29 e29 f29 o29
  refine an_aast (r := (RX6, TX6, 3)) (t := 6) (q := 97) rfl dX11_init_96 (Nat.le_of_ble_eq_true rfl) ((o29 62 (by decide) (by decide)).trans ((o28 62 (by decide)).trans e27)) (Nat.le_of_ble_eq_true rfl) e29 rfl (by unfold vp_in; decide) rfl ?_
  intro h30 e30 o30
  refine aw_iinc (w := 1) (q := 100) (lv' := [(2, .int 4), _, _]) dX11_init_97 rfl rfl (Nat.le_of_ble_eq_true rfl) rfl rfl ?_
  refine aw_goto (t := 79) dX11_init_100 rfl ?_
  refine aw_iload_n (i := 2) (q := 80) dX11_init_79 rfl rfl rfl ?_
  refine aw_iconst (v := 4) (q := 81) dX11_init_80 rfl rfl ?_
  refine aw_icmp_ge (t := 103) (q := 84) dX11_init_81 rfl rfl (fun _ => ?_) (fun c => absurd (by decide) c)
  refine aw_aload_n (i := 0) (q := 104) dX11_init_103 rfl rfl rfl ?_
  refine aw_bipush (v := 7) (q := 106) dX11_init_104 rfl rfl ?_
  refine an_newa (a := 71) (atype := .int) (t := 0) (N' := 7) (a0 := (7, .inl (fun _ => 0))) (q := 108) dX11_init_106 rfl rfl (fun C q => by cases q) w_271 (fun _ => rfl) (by decide) (by decide) (by decide) (Nat.le_of_ble_eq_true rfl) (Nat.le_of_ble_eq_true rfl) rfl rfl ?_
  intro h31 e31 o31
  refine an_putF (q := 111) ffX11_53 rfl dX11_init_108 (Nat.le_of_ble_eq_true rfl) ((o31 0 (by decide)).trans ((o30 0 (by decide)).trans ((o29 0 (by decide) (by decide)).trans ((o28 0 (by decide)).trans ((o27 0 (by decide)).trans ((o26 0 (by decide) (by decide)).trans ((o25 0 (by decide)).trans ((o24 0 (by decide)).trans ((o23 0 (by decide) (by decide)).trans ((o22 0 (by decide)).trans ((o21 0 (by decide)).trans ((o20 0 (by decide) (by decide)).trans ((o19 0 (by decide)).trans e18))))))))))))) (Nat.le_of_ble_eq_true rfl) rfl rfl rfl ?_
  intro h32 e32 o32
  replace e32 : h32 0 = .inr (11, [.ref (ev_z E + 8), .ref (ev_z E + 25), .ref (ev_z E + 42), .ref (ev_z E + 59), .ref (ev_z E + 60), .ref (ev_z E + 62), .ref (ev_z E + 71), .int 0]) := e32
  refine aw_aload_n (i := 0) (q := 112) dX11_init_111 rfl rfl rfl ?_
  refine aw_iconst (v := 0) (q := 113) dX11_init_112 rfl rfl ?_
  refine an_put (q := 116) fpX11_57 dX11_init_113 (Nat.le_of_ble_eq_true rfl) e32 (Nat.le_of_ble_eq_true rfl) rfl rfl rfl ?_
  intro h33 e33 o33
  replace e33 : h33 0 = .inr (11, [.ref (ev_z E + 8), .ref (ev_z E + 25), .ref (ev_z E + 42), .ref (ev_z E + 59), .ref (ev_z E + 60), .ref (ev_z E + 62), .ref (ev_z E + 71), .int 0]) := e33
  refine AW_cong (h' := HP E mI LI) (fun k hk => ?_) ?_
  · have hk : k < 72 := hk
    by_cases c0 : k = 0
    · subst c0
      exact Or.inl e33
    by_cases c1 : k < 8
    · exact Or.inl ((o33 k (by omega)).trans ((o32 k (by omega)).trans ((o31 k (by omega)).trans ((o30 k (by omega)).trans ((o29 k (by omega) (by omega)).trans ((o28 k (by omega)).trans ((o27 k (by omega)).trans ((o26 k (by omega) (by omega)).trans ((o25 k (by omega)).trans ((o24 k (by omega)).trans ((o23 k (by omega) (by omega)).trans ((o22 k (by omega)).trans ((o21 k (by omega)).trans ((o20 k (by omega) (by omega)).trans ((o19 k (by omega)).trans ((o18 k (by omega)).trans ((o17 k (by omega)).trans ((o16 k (by omega)).trans ((o15 k (by omega) (by omega)).trans ((o14 k (by omega)).trans ((o13 k (by omega)).trans ((o12 k (by omega)).trans ((o11 k (by omega)).trans ((o10 k (by omega)).trans ((o9 k (by omega)).trans ((o8 k (by omega)).trans ((o7 k (by omega)).trans ((o6 k (by omega)).trans ((o5 k (by omega)).trans ((o4 k (by omega)).trans ((o3 k (by omega)).trans ((o2 k (by omega)).trans (r1 k (by omega) (by omega))))))))))))))))))))))))))))))))))
    by_cases c8 : k < 25
    · exact Or.inl ((o33 k (by omega)).trans ((o32 k (by omega)).trans ((o31 k (by omega)).trans ((o30 k (by omega)).trans ((o29 k (by omega) (by omega)).trans ((o28 k (by omega)).trans ((o27 k (by omega)).trans ((o26 k (by omega) (by omega)).trans ((o25 k (by omega)).trans ((o24 k (by omega)).trans ((o23 k (by omega) (by omega)).trans ((o22 k (by omega)).trans ((o21 k (by omega)).trans ((o20 k (by omega) (by omega)).trans ((o19 k (by omega)).trans ((o18 k (by omega)).trans ((o17 k (by omega)).trans ((o16 k (by omega)).trans ((o15 k (by omega) (by omega)).trans ((o14 k (by omega)).trans ((o13 k (by omega)).trans ((o12 k (by omega)).trans ((o11 k (by omega)).trans ((o10 k (by omega)).trans ((o9 k (by omega)).trans ((o8 k (by omega)).trans ((o7 k (by omega)).trans ((o6 k (by omega)).trans ((o5 k (by omega)).trans ((o4 k (by omega)).trans (r3 k (by omega) (by omega))))))))))))))))))))))))))))))))
    by_cases c25 : k < 42
    · exact Or.inl ((o33 k (by omega)).trans ((o32 k (by omega)).trans ((o31 k (by omega)).trans ((o30 k (by omega)).trans ((o29 k (by omega) (by omega)).trans ((o28 k (by omega)).trans ((o27 k (by omega)).trans ((o26 k (by omega) (by omega)).trans ((o25 k (by omega)).trans ((o24 k (by omega)).trans ((o23 k (by omega) (by omega)).trans ((o22 k (by omega)).trans ((o21 k (by omega)).trans ((o20 k (by omega) (by omega)).trans ((o19 k (by omega)).trans ((o18 k (by omega)).trans ((o17 k (by omega)).trans ((o16 k (by omega)).trans ((o15 k (by omega) (by omega)).trans ((o14 k (by omega)).trans ((o13 k (by omega)).trans ((o12 k (by omega)).trans ((o11 k (by omega)).trans ((o10 k (by omega)).trans ((o9 k (by omega)).trans ((o8 k (by omega)).trans ((o7 k (by omega)).trans (r6 k (by omega) (by omega)))))))))))))))))))))))))))))
    by_cases c42 : k < 59
    · exact Or.inl ((o33 k (by omega)).trans ((o32 k (by omega)).trans ((o31 k (by omega)).trans ((o30 k (by omega)).trans ((o29 k (by omega) (by omega)).trans ((o28 k (by omega)).trans ((o27 k (by omega)).trans ((o26 k (by omega) (by omega)).trans ((o25 k (by omega)).trans ((o24 k (by omega)).trans ((o23 k (by omega) (by omega)).trans ((o22 k (by omega)).trans ((o21 k (by omega)).trans ((o20 k (by omega) (by omega)).trans ((o19 k (by omega)).trans ((o18 k (by omega)).trans ((o17 k (by omega)).trans ((o16 k (by omega)).trans ((o15 k (by omega) (by omega)).trans ((o14 k (by omega)).trans ((o13 k (by omega)).trans ((o12 k (by omega)).trans ((o11 k (by omega)).trans ((o10 k (by omega)).trans (r9 k (by omega) (by omega))))))))))))))))))))))))))
    obtain rfl | rfl | rfl | rfl | rfl | rfl | rfl | rfl | rfl | rfl | rfl | rfl | rfl : k = 59 ∨ k = 60 ∨ k = 61 ∨ k = 62 ∨ k = 63 ∨ k = 64 ∨ k = 65 ∨ k = 66 ∨ k = 67 ∨ k = 68 ∨ k = 69 ∨ k = 70 ∨ k = 71 := by omega
    · exact Or.inl ((o33 59 (by decide)).trans ((o32 59 (by decide)).trans ((o31 59 (by decide)).trans ((o30 59 (by decide)).trans ((o29 59 (by decide) (by decide)).trans ((o28 59 (by decide)).trans ((o27 59 (by decide)).trans ((o26 59 (by decide) (by decide)).trans ((o25 59 (by decide)).trans ((o24 59 (by decide)).trans ((o23 59 (by decide) (by decide)).trans ((o22 59 (by decide)).trans ((o21 59 (by decide)).trans ((o20 59 (by decide) (by decide)).trans ((o19 59 (by decide)).trans ((o18 59 (by decide)).trans ((o17 59 (by decide)).trans ((o16 59 (by decide)).trans ((o15 59 (by decide) (by decide)).trans ((o14 59 (by decide)).trans ((o13 59 (by decide)).trans e12)))))))))))))))))))))
    · exact Or.inl ((o33 60 (by decide)).trans ((o32 60 (by decide)).trans ((o31 60 (by decide)).trans ((o30 60 (by decide)).trans ((o29 60 (by decide) (by decide)).trans ((o28 60 (by decide)).trans ((o27 60 (by decide)).trans ((o26 60 (by decide) (by decide)).trans ((o25 60 (by decide)).trans ((o24 60 (by decide)).trans ((o23 60 (by decide) (by decide)).trans ((o22 60 (by decide)).trans ((o21 60 (by decide)).trans ((o20 60 (by decide) (by decide)).trans ((o19 60 (by decide)).trans ((o18 60 (by decide)).trans ((o17 60 (by decide)).trans ((o16 60 (by decide)).trans e15))))))))))))))))))
    · exact Or.inl ((o33 61 (by decide)).trans ((o32 61 (by decide)).trans ((o31 61 (by decide)).trans ((o30 61 (by decide)).trans ((o29 61 (by decide) (by decide)).trans ((o28 61 (by decide)).trans ((o27 61 (by decide)).trans ((o26 61 (by decide) (by decide)).trans ((o25 61 (by decide)).trans ((o24 61 (by decide)).trans ((o23 61 (by decide) (by decide)).trans ((o22 61 (by decide)).trans ((o21 61 (by decide)).trans ((o20 61 (by decide) (by decide)).trans ((o19 61 (by decide)).trans ((o18 61 (by decide)).trans ((o17 61 (by decide)).trans ((o16 61 (by decide)).trans f15))))))))))))))))))
    · refine Or.inr ⟨_, _, _, _, ((o33 62 (by decide)).trans ((o32 62 (by decide)).trans ((o31 62 (by decide)).trans e30))), rfl, fun i hi => ?_⟩
      obtain rfl | rfl | rfl | rfl : i = 0 ∨ i = 1 ∨ i = 2 ∨ i = 3 := by omega
      all_goals rfl
    · exact Or.inl ((o33 63 (by decide)).trans ((o32 63 (by decide)).trans ((o31 63 (by decide)).trans ((o30 63 (by decide)).trans ((o29 63 (by decide) (by decide)).trans ((o28 63 (by decide)).trans ((o27 63 (by decide)).trans ((o26 63 (by decide) (by decide)).trans ((o25 63 (by decide)).trans ((o24 63 (by decide)).trans ((o23 63 (by decide) (by decide)).trans ((o22 63 (by decide)).trans ((o21 63 (by decide)).trans e20)))))))))))))
    · exact Or.inl ((o33 64 (by decide)).trans ((o32 64 (by decide)).trans ((o31 64 (by decide)).trans ((o30 64 (by decide)).trans ((o29 64 (by decide) (by decide)).trans ((o28 64 (by decide)).trans ((o27 64 (by decide)).trans ((o26 64 (by decide) (by decide)).trans ((o25 64 (by decide)).trans ((o24 64 (by decide)).trans ((o23 64 (by decide) (by decide)).trans ((o22 64 (by decide)).trans ((o21 64 (by decide)).trans f20)))))))))))))
    · exact Or.inl ((o33 65 (by decide)).trans ((o32 65 (by decide)).trans ((o31 65 (by decide)).trans ((o30 65 (by decide)).trans ((o29 65 (by decide) (by decide)).trans ((o28 65 (by decide)).trans ((o27 65 (by decide)).trans ((o26 65 (by decide) (by decide)).trans ((o25 65 (by decide)).trans ((o24 65 (by decide)).trans e23))))))))))
    · exact Or.inl ((o33 66 (by decide)).trans ((o32 66 (by decide)).trans ((o31 66 (by decide)).trans ((o30 66 (by decide)).trans ((o29 66 (by decide) (by decide)).trans ((o28 66 (by decide)).trans ((o27 66 (by decide)).trans ((o26 66 (by decide) (by decide)).trans ((o25 66 (by decide)).trans ((o24 66 (by decide)).trans f23))))))))))
    · exact Or.inl ((o33 67 (by decide)).trans ((o32 67 (by decide)).trans ((o31 67 (by decide)).trans ((o30 67 (by decide)).trans ((o29 67 (by decide) (by decide)).trans ((o28 67 (by decide)).trans ((o27 67 (by decide)).trans e26)))))))
    · exact Or.inl ((o33 68 (by decide)).trans ((o32 68 (by decide)).trans ((o31 68 (by decide)).trans ((o30 68 (by decide)).trans ((o29 68 (by decide) (by decide)).trans ((o28 68 (by decide)).trans ((o27 68 (by decide)).trans f26)))))))
    · exact Or.inl ((o33 69 (by decide)).trans ((o32 69 (by decide)).trans ((o31 69 (by decide)).trans ((o30 69 (by decide)).trans e29))))
    · exact Or.inl ((o33 70 (by decide)).trans ((o32 70 (by decide)).trans ((o31 70 (by decide)).trans ((o30 70 (by decide)).trans f29))))
    · exact Or.inl ((o33 71 (by decide)).trans ((o32 71 (by decide)).trans e31))
  refine aw_return dX11_init_116 rfl (Nat.le_of_ble_eq_true rfl) rfl ?_
  exact k _ (fun j hj => rfl)
end CT3
