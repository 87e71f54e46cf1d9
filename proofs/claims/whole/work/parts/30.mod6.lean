/-! the reference's calls, fourth part: lays, book, read -/
theorem lyS_up {A : Nat → Int32} {F : Nat → Int64} {k : Nat} (h : ¬ (10 ≤ F k ∧ F k ≤ 200)) : (upd (lyS A F k).1 (5 + 7 * k + 1) ((lyS A F k).1 (5 + 7 * k + 1)), (lyS A F k).2 + 0) = lyS A F (k + 1) := by
  rw [lyS_f h, upd_same, Int32.add_zero]
theorem lyS_up1 {A : Nat → Int32} {F : Nat → Int64} {k : Nat} (h : 10 ≤ F k ∧ F k ≤ 200) : (upd (lyS A F k).1 (5 + 7 * k + 1) (F k).toInt32, (lyS A F k).2 + 1) = lyS A F (k + 1) := (lyS_t h).symm
section MR1
variable {E : EVt} {m : Mm} {L : Ml} {Q : Value → Mm → Ml → Prop} {A : Nat → Int32} {D : Nat}
theorem lp_X12_lays {s c : Nat} {y : Int32} (hs : s < 4) (hc : m 80 s = nI c) (hc4 : c ≤ 40) (hO : okA D A) (hQ : Q (.int (lyS A (fun i => L 81 (40 * s + i)) (min c (cA A))).2) (wr m 73 (lyS A (fun i => L 81 (40 * s + i)) (min c (cA A))).1) L) : ∀ (r j : Nat) (ca : Int32) (R : Nat → Int32), j + r = min c (cA A) → (R, ca) = lyS A (fun i => L 81 (40 * s + i)) j → ∀ lv', (lv' = [(0, Value.ref (ev_z E + 72)), (1, .int (nI s)), (2, .int y), (3, .int ca), (4, .int (nI j))]) → WK E 4 MX12_lays 21 lv' [] (wr m 73 R) L Q := by
  have hc8 := hO.1.2.1
  intro r
  induction r with
  | zero =>
    intro j ca R hj hR lv' hlv
    subst hlv
    have hR1 : R 1 = nI (cA A) := by
      rw [show R = (lyS A (fun i => L 81 (40 * s + i)) j).1 from congrArg Prod.fst hR, lyS_hd _ 1 (by decide)]
      exact hO.1.1
    have e : j = min c (cA A) := by omega
    refine wk_iload (i := 4) (q := 23) dX12_lays_21 rfl rfl ?_
    refine wk_aload_n (i := 0) (q := 24) dX12_lays_23 rfl rfl rfl ?_
    refine wk_get (q := 27) fgX12_31 dX12_lays_24 rfl rfl rfl rfl ?_
    refine wk_iload_n (i := 1) (q := 28) dX12_lays_27 rfl rfl rfl ?_
    refine wk_iald (n := s) (q := 29) dX12_lays_28 rfl rfl (by show _ < 4; omega) rfl ?_
    rw [wr_n (show (80 : Nat) ≠ 73 by decide), hc]
    refine wk_icmp_ge (t := 118) (q := 32) dX12_lays_29 rfl rfl (fun c29 => ?_) (fun c29 => ?_)
    · skip
      refine wk_iload_n (i := 3) (q := 119) dX12_lays_118 rfl rfl rfl ?_
      refine wk_ireturn dX12_lays_119 rfl rfl ?_
      rw [← e, ← hR] at hQ
      exact hQ
    · skip
      have hjc : j < c := by (rcases Nat.lt_or_ge j c with h | h; exact h; exact absurd (nI_le h (by omega)) c29)
      refine wk_iload (i := 4) (q := 34) dX12_lays_32 rfl rfl ?_
      refine wk_aload_n (i := 0) (q := 35) dX12_lays_34 rfl rfl rfl ?_
      refine wk_get (q := 38) fgX12_7 dX12_lays_35 rfl rfl rfl rfl ?_
      refine wk_iconst (v := 1) (q := 39) dX12_lays_38 rfl rfl ?_
      refine wk_sld (n := 1) (q := 40) dX12_lays_39 rfl (by decide) rfl ?_
      rw [hR1]
      refine wk_icmp_ge (t := 118) (q := 43) dX12_lays_40 rfl rfl (fun c40 => ?_) (fun h => absurd (nI_le (by omega) (by omega)) h)
      refine wk_iload_n (i := 3) (q := 119) dX12_lays_118 rfl rfl rfl ?_
      refine wk_ireturn dX12_lays_119 rfl rfl ?_
      rw [← e, ← hR] at hQ
      exact hQ
  | succ r ih =>
    intro j ca R hj hR lv' hlv
    subst hlv
    have hR1 : R 1 = nI (cA A) := by
      rw [show R = (lyS A (fun i => L 81 (40 * s + i)) j).1 from congrArg Prod.fst hR, lyS_hd _ 1 (by decide)]
      exact hO.1.1
    have eR : R = (lyS A (fun i => L 81 (40 * s + i)) j).1 := congrArg Prod.fst hR
    have eC : ca = (lyS A (fun i => L 81 (40 * s + i)) j).2 := congrArg Prod.snd hR
    refine wk_iload (i := 4) (q := 23) dX12_lays_21 rfl rfl ?_
    refine wk_aload_n (i := 0) (q := 24) dX12_lays_23 rfl rfl rfl ?_
    refine wk_get (q := 27) fgX12_31 dX12_lays_24 rfl rfl rfl rfl ?_
    refine wk_iload_n (i := 1) (q := 28) dX12_lays_27 rfl rfl rfl ?_
    refine wk_iald (n := s) (q := 29) dX12_lays_28 rfl rfl (by show _ < 4; omega) rfl ?_
    rw [wr_n (show (80 : Nat) ≠ 73 by decide), hc]
    refine wk_icmp_ge (t := 118) (q := 32) dX12_lays_29 rfl rfl (fun h => absurd h (nI_ge (by omega) (by omega))) (fun c29 => ?_)
    refine wk_iload (i := 4) (q := 34) dX12_lays_32 rfl rfl ?_
    refine wk_aload_n (i := 0) (q := 35) dX12_lays_34 rfl rfl rfl ?_
    refine wk_get (q := 38) fgX12_7 dX12_lays_35 rfl rfl rfl rfl ?_
    refine wk_iconst (v := 1) (q := 39) dX12_lays_38 rfl rfl ?_
    refine wk_sld (n := 1) (q := 40) dX12_lays_39 rfl (by decide) rfl ?_
    rw [hR1]
    refine wk_icmp_ge (t := 118) (q := 43) dX12_lays_40 rfl rfl (fun h => absurd h (nI_ge (by omega) (by omega))) (fun c40 => ?_)
    refine wk_aload_n (i := 0) (q := 44) dX12_lays_43 rfl rfl rfl ?_
    refine wk_get (q := 47) fgX12_34 dX12_lays_44 rfl rfl rfl rfl ?_
    refine wk_bipush (v := 40) (q := 49) dX12_lays_47 rfl rfl ?_
    refine wk_iload_n (i := 1) (q := 50) dX12_lays_49 rfl rfl rfl ?_
    refine wk_imul (q := 51) dX12_lays_50 rfl ?_
    refine wk_iload (i := 4) (q := 53) dX12_lays_51 rfl rfl ?_
    refine wk_iadd (q := 54) dX12_lays_53 rfl ?_
    refine wk_lald (n := (40 * s + j)) (q := 55) dX12_lays_54 rfl (n40 s j) (by show _ < 160; omega) rfl ?_
    refine wk_S1r (d' := 2) (q := 58) lkX12_115 dX12_lays_55 rfl rfl rfl rfl ?_
    refine ck_X12_isSize64 (fun hz => ?_) (fun hz => ?_)
    · skip
      refine wk_istore (i := 5) (q := 60) (lv' := [_, _, _, _, _, _]) dX12_lays_58 rfl rfl rfl ?_
      refine wk_aload_n (i := 0) (q := 61) dX12_lays_60 rfl rfl rfl ?_
      refine wk_get (q := 64) fgX12_7 dX12_lays_61 rfl rfl rfl rfl ?_
      refine wk_iload (i := 4) (q := 66) dX12_lays_64 rfl rfl ?_
      refine wk_iconst (v := 1) (q := 67) dX12_lays_66 rfl rfl ?_
      refine wk_S2r (d' := 1) (q := 70) lkX12_42 dX12_lays_67 rfl rfl rfl rfl ?_
      refine ck_X12_spot (g := j) (w := 1) ?_
      refine wk_iload (i := 5) (q := 72) dX12_lays_70 rfl rfl ?_
      refine wk_if_eq (t := 91) (q := 75) dX12_lays_72 rfl rfl (fun h => absurd h (by decide)) (fun _ => ?_)
      refine wk_aload_n (i := 0) (q := 76) dX12_lays_75 rfl rfl rfl ?_
      refine wk_get (q := 79) fgX12_34 dX12_lays_76 rfl rfl rfl rfl ?_
      refine wk_bipush (v := 40) (q := 81) dX12_lays_79 rfl rfl ?_
      refine wk_iload_n (i := 1) (q := 82) dX12_lays_81 rfl rfl rfl ?_
      refine wk_imul (q := 83) dX12_lays_82 rfl ?_
      refine wk_iload (i := 4) (q := 85) dX12_lays_83 rfl rfl ?_
      refine wk_iadd (q := 86) dX12_lays_85 rfl ?_
      refine wk_lald (n := (40 * s + j)) (q := 87) dX12_lays_86 rfl (n40 s j) (by show _ < 160; omega) rfl ?_
      refine wk_l2i (q := 88) dX12_lays_87 rfl ?_
      refine wk_goto (t := 98) dX12_lays_88 rfl ?_
      refine wk_sst (n := (5 + 7 * j + 1)) (q := 99) dX12_lays_98 rfl (by omega) rfl ?_
      refine wk_iload_n (i := 3) (q := 100) dX12_lays_99 rfl rfl rfl ?_
      refine wk_iload (i := 5) (q := 102) dX12_lays_100 rfl rfl ?_
      refine wk_if_eq (t := 109) (q := 105) dX12_lays_102 rfl rfl (fun h => absurd h (by decide)) (fun _ => ?_)
      refine wk_iconst (v := 1) (q := 106) dX12_lays_105 rfl rfl ?_
      refine wk_goto (t := 110) dX12_lays_106 rfl ?_
      refine wk_iadd (q := 111) dX12_lays_110 rfl ?_
      refine wk_istore_n (i := 3) (q := 112) (lv' := [_, _, _, _, _, _]) dX12_lays_111 rfl rfl rfl rfl ?_
      refine wk_iinc (w := 1) (q := 115) (lv' := [_, _, _, _, _, _]) dX12_lays_112 rfl rfl rfl rfl rfl ?_
      rw [nI_1]
      refine wk_goto (t := 21) dX12_lays_115 rfl ?_
      refine wk_pick [0, 1, 2, 3, 4] (lv' := [_, _, _, _, _]) rfl ?_
      first | exact ih (j + 1) _ _ (by omega) (by rw [eR, eC]; exact lyS_up1 (F := fun i => L 81 (40 * s + i)) hz) _ rfl | exact ih (j + 1) _ _ (by omega) (by rw [eR, eC]; exact lyS_up (F := fun i => L 81 (40 * s + i)) hz) _ rfl
    · skip
      refine wk_istore (i := 5) (q := 60) (lv' := [_, _, _, _, _, _]) dX12_lays_58 rfl rfl rfl ?_
      refine wk_aload_n (i := 0) (q := 61) dX12_lays_60 rfl rfl rfl ?_
      refine wk_get (q := 64) fgX12_7 dX12_lays_61 rfl rfl rfl rfl ?_
      refine wk_iload (i := 4) (q := 66) dX12_lays_64 rfl rfl ?_
      refine wk_iconst (v := 1) (q := 67) dX12_lays_66 rfl rfl ?_
      refine wk_S2r (d' := 1) (q := 70) lkX12_42 dX12_lays_67 rfl rfl rfl rfl ?_
      refine ck_X12_spot (g := j) (w := 1) ?_
      refine wk_iload (i := 5) (q := 72) dX12_lays_70 rfl rfl ?_
      refine wk_if_eq (t := 91) (q := 75) dX12_lays_72 rfl rfl (fun _ => ?_) (fun h => absurd (by decide) h)
      refine wk_aload_n (i := 0) (q := 92) dX12_lays_91 rfl rfl rfl ?_
      refine wk_iload (i := 4) (q := 94) dX12_lays_92 rfl rfl ?_
      refine wk_iconst (v := 1) (q := 95) dX12_lays_94 rfl rfl ?_
      refine wk_V2r (d' := 2) (q := 98) lkX12_67 dX12_lays_95 rfl rfl rfl rfl rfl rfl rfl ?_
      refine ck_X12_its (g := j) (w := 1) (by omega) (by omega) ?_
      refine wk_sst (n := (5 + 7 * j + 1)) (q := 99) dX12_lays_98 rfl (by omega) rfl ?_
      refine wk_iload_n (i := 3) (q := 100) dX12_lays_99 rfl rfl rfl ?_
      refine wk_iload (i := 5) (q := 102) dX12_lays_100 rfl rfl ?_
      refine wk_if_eq (t := 109) (q := 105) dX12_lays_102 rfl rfl (fun _ => ?_) (fun h => absurd (by decide) h)
      refine wk_iconst (v := 0) (q := 110) dX12_lays_109 rfl rfl ?_
      refine wk_iadd (q := 111) dX12_lays_110 rfl ?_
      refine wk_istore_n (i := 3) (q := 112) (lv' := [_, _, _, _, _, _]) dX12_lays_111 rfl rfl rfl rfl ?_
      refine wk_iinc (w := 1) (q := 115) (lv' := [_, _, _, _, _, _]) dX12_lays_112 rfl rfl rfl rfl rfl ?_
      rw [nI_1]
      refine wk_goto (t := 21) dX12_lays_115 rfl ?_
      refine wk_pick [0, 1, 2, 3, 4] (lv' := [_, _, _, _, _]) rfl ?_
      first | exact ih (j + 1) _ _ (by omega) (by rw [eR, eC]; exact lyS_up1 (F := fun i => L 81 (40 * s + i)) hz) _ rfl | exact ih (j + 1) _ _ (by omega) (by rw [eR, eC]; exact lyS_up (F := fun i => L 81 (40 * s + i)) hz) _ rfl
theorem ck_X12_lays {si : Int32} {c : Nat → Nat} (hc : ∀ s, s < 4 → m 80 s = nI (c s) ∧ c s ≤ 40) (hO : okA D A) (h1 : ∀ s, s < 4 → si = nI s → ¬ m 79 s = 0 → Q (.int (lyS A (fun i => L 81 (40 * s + i)) (min (c s) (cA A))).2) (wr m 73 (lyS A (fun i => L 81 (40 * s + i)) (min (c s) (cA A))).1) L) (h2 : ∀ s, s < 4 → si = nI s → m 79 s = 0 → Q (.int (-1000000006)) (rfA (wr m 73 A) 5) L) (h0 : (∀ s, s < 4 → ¬ si = nI s) → Q (.int (-1000000001)) (rfA (wr m 73 A) 0) L) : CK E 4 MX12_lays [.ref (ev_z E + 72), .int si] (wr m 73 A) L Q := by
  refine CK.of rfl rfl (lv := [(0, _), (1, _)]) rfl ?_
  refine wk_aload_n (i := 0) (q := 1) dX12_lays_0 rfl rfl rfl ?_
  refine wk_iload_n (i := 1) (q := 2) dX12_lays_1 rfl rfl rfl ?_
  refine wk_V1r (d' := 3) (q := 5) lkX12_305 dX12_lays_2 rfl rfl rfl rfl rfl rfl rfl ?_
  refine ck_X12_wrongSheet (fun hno => ?_) (fun s hs e hm => ?_) (fun s hs e hm => ?_)
  · skip
    refine wk_istore_n (i := 2) (q := 6) (lv' := [_, _, _]) dX12_lays_5 rfl rfl rfl rfl ?_
    refine wk_iload_n (i := 2) (q := 7) dX12_lays_6 rfl rfl rfl ?_
    refine wk_if_eq (t := 16) (q := 10) dX12_lays_7 rfl rfl (fun h => absurd h (by decide)) (fun _ => ?_)
    refine wk_aload_n (i := 0) (q := 11) dX12_lays_10 rfl rfl rfl ?_
    refine wk_iload_n (i := 2) (q := 12) dX12_lays_11 rfl rfl rfl ?_
    refine wk_V1r (d' := 1) (q := 15) lkX12_63 dX12_lays_12 rfl rfl rfl rfl rfl rfl rfl ?_
    refine ck_X12_finds (i := 0) (by decide) (by decide) ?_
    refine wk_ireturn dX12_lays_15 rfl rfl ?_
    first | exact h0 hno | exact h2 s hs rfl hm
  · skip
    subst e
    rw [wr_n (show (79 : Nat) ≠ 73 by decide)] at hm
    refine wk_istore_n (i := 2) (q := 6) (lv' := [_, _, _]) dX12_lays_5 rfl rfl rfl rfl ?_
    refine wk_iload_n (i := 2) (q := 7) dX12_lays_6 rfl rfl rfl ?_
    refine wk_if_eq (t := 16) (q := 10) dX12_lays_7 rfl rfl (fun h => absurd h (by decide)) (fun _ => ?_)
    refine wk_aload_n (i := 0) (q := 11) dX12_lays_10 rfl rfl rfl ?_
    refine wk_iload_n (i := 2) (q := 12) dX12_lays_11 rfl rfl rfl ?_
    refine wk_V1r (d' := 1) (q := 15) lkX12_63 dX12_lays_12 rfl rfl rfl rfl rfl rfl rfl ?_
    refine ck_X12_finds (i := 5) (by decide) (by decide) ?_
    refine wk_ireturn dX12_lays_15 rfl rfl ?_
    first | exact h0 hno | exact h2 s hs rfl hm
  · skip
    subst e
    rw [wr_n (show (79 : Nat) ≠ 73 by decide)] at hm
    obtain ⟨q1, q2⟩ := hc s hs
    refine wk_istore_n (i := 2) (q := 6) (lv' := [_, _, _]) dX12_lays_5 rfl rfl rfl rfl ?_
    refine wk_iload_n (i := 2) (q := 7) dX12_lays_6 rfl rfl rfl ?_
    refine wk_if_eq (t := 16) (q := 10) dX12_lays_7 rfl rfl (fun _ => ?_) (fun h => absurd (by decide) h)
    refine wk_iconst (v := 0) (q := 17) dX12_lays_16 rfl rfl ?_
    refine wk_istore_n (i := 3) (q := 18) (lv' := [_, _, _, _]) dX12_lays_17 rfl rfl rfl rfl ?_
    refine wk_iconst (v := 0) (q := 19) dX12_lays_18 rfl rfl ?_
    refine wk_istore (i := 4) (q := 21) (lv' := [_, _, _, _, _]) dX12_lays_19 rfl rfl rfl ?_
    exact lp_X12_lays hs q1 q2 hO (h1 s hs rfl hm) (min (c s) (cA A)) 0 0 A (by omega) rfl _ rfl
theorem bkR_s {b d t : Int32} {v : Nat → Int32} {F : Nat → Int64} {s j : Nat} : vp_updL (bkR b d t v F s j) (40 * s + j) (narF b (wshN d t v j 1).toInt64) = bkR b d t v F s (j + 1) := by
  funext x
  unfold vp_updL bkR
  by_cases e : x = 40 * s + j
  · rw [if_pos e, if_pos (by omega), show x - 40 * s = j by omega]
  · rw [if_neg e]
    by_cases e2 : 40 * s ≤ x ∧ x < 40 * s + j
    · rw [if_pos e2, if_pos (by omega)]
    · rw [if_neg e2, if_neg (by omega)]
theorem bkR_0 {b d t : Int32} {v : Nat → Int32} {F : Nat → Int64} {s : Nat} : bkR b d t v F s 0 = F := by
  funext x
  unfold bkR
  rw [if_neg (by omega)]
theorem lp_X12_book {s g c : Nat} {y : Int32} {B : Nat → Int32} (hs : s < 4) (hg : g < 8) (hc : m 80 s = nI c) (hc4 : c ≤ 40) (hBA : eq73 B A) (hQ : Q (.int (nI c)) (wr (wr m 76 B) 73 A) (wrL L 81 (bkR (m 79 s) (A 3) (A 4) (gv A g) (L 81) s c))) : ∀ (r j : Nat), j + r = c → WK E 6 MX12_book 38 [(0, .ref (ev_z E + 72)), (1, .int (nI s)), (2, .int (nI g)), (3, .int y), (4, .int (nI j))] [] (wr (wr m 76 B) 73 (gput A g (wshN (A 3) (A 4) (gv A g) j))) (wrL L 81 (bkR (m 79 s) (A 3) (A 4) (gv A g) (L 81) s j)) Q := by
  intro r
  induction r with
  | zero =>
    intro j hj
    refine wk_iload (i := 4) (q := 40) dX12_book_38 rfl rfl ?_
    refine wk_aload_n (i := 0) (q := 41) dX12_book_40 rfl rfl rfl ?_
    refine wk_get (q := 44) fgX12_31 dX12_book_41 rfl rfl rfl rfl ?_
    refine wk_iload_n (i := 1) (q := 45) dX12_book_44 rfl rfl rfl ?_
    refine wk_iald (n := s) (q := 46) dX12_book_45 rfl rfl (by show _ < 4; omega) rfl ?_
    rw [wr_n (show (80 : Nat) ≠ 73 by decide), wr_n (show (80 : Nat) ≠ 76 by decide), hc]
    refine wk_icmp_ge (t := 89) (q := 49) dX12_book_46 rfl rfl (fun c46 => ?_) (fun h => absurd (nI_le (by omega) (by omega)) h)
    refine wk_aload_n (i := 0) (q := 90) dX12_book_89 rfl rfl rfl ?_
    refine wk_aload_n (i := 0) (q := 91) dX12_book_90 rfl rfl rfl ?_
    refine wk_get (q := 94) fgX12_31 dX12_book_91 rfl rfl rfl rfl ?_
    refine wk_iload_n (i := 1) (q := 95) dX12_book_94 rfl rfl rfl ?_
    refine wk_iald (n := s) (q := 96) dX12_book_95 rfl rfl (by show _ < 4; omega) rfl ?_
    rw [wr_n (show (80 : Nat) ≠ 73 by decide), wr_n (show (80 : Nat) ≠ 76 by decide), hc]
    refine wk_V1r (d' := 1) (q := 99) lkX12_171 dX12_book_96 rfl rfl rfl rfl rfl rfl rfl ?_
    refine ck_X12_takesBack hBA (fun i hi => gput_n (by omega)) ?_
    refine wk_ireturn dX12_book_99 rfl rfl ?_
    have e : j = c := by omega
    subst e
    exact hQ
  | succ r ih =>
    intro j hj
    refine wk_iload (i := 4) (q := 40) dX12_book_38 rfl rfl ?_
    refine wk_aload_n (i := 0) (q := 41) dX12_book_40 rfl rfl rfl ?_
    refine wk_get (q := 44) fgX12_31 dX12_book_41 rfl rfl rfl rfl ?_
    refine wk_iload_n (i := 1) (q := 45) dX12_book_44 rfl rfl rfl ?_
    refine wk_iald (n := s) (q := 46) dX12_book_45 rfl rfl (by show _ < 4; omega) rfl ?_
    rw [wr_n (show (80 : Nat) ≠ 73 by decide), wr_n (show (80 : Nat) ≠ 76 by decide), hc]
    refine wk_icmp_ge (t := 89) (q := 49) dX12_book_46 rfl rfl (fun h => absurd h (nI_ge (by omega) (by omega))) (fun c46 => ?_)
    refine wk_aload_n (i := 0) (q := 50) dX12_book_49 rfl rfl rfl ?_
    refine wk_get (q := 53) fgX12_34 dX12_book_50 rfl rfl rfl rfl ?_
    refine wk_bipush (v := 40) (q := 55) dX12_book_53 rfl rfl ?_
    refine wk_iload_n (i := 1) (q := 56) dX12_book_55 rfl rfl rfl ?_
    refine wk_imul (q := 57) dX12_book_56 rfl ?_
    refine wk_iload (i := 4) (q := 59) dX12_book_57 rfl rfl ?_
    refine wk_iadd (q := 60) dX12_book_59 rfl ?_
    refine wk_aload_n (i := 0) (q := 61) dX12_book_60 rfl rfl rfl ?_
    refine wk_get (q := 64) fgX12_28 dX12_book_61 rfl rfl rfl rfl ?_
    refine wk_iload_n (i := 1) (q := 65) dX12_book_64 rfl rfl rfl ?_
    refine wk_iald (n := s) (q := 66) dX12_book_65 rfl rfl (by show _ < 4; omega) rfl ?_
    rw [wr_n (show (79 : Nat) ≠ 73 by decide), wr_n (show (79 : Nat) ≠ 76 by decide)]
    refine wk_aload_n (i := 0) (q := 67) dX12_book_66 rfl rfl rfl ?_
    refine wk_iload_n (i := 2) (q := 68) dX12_book_67 rfl rfl rfl ?_
    refine wk_iconst (v := 1) (q := 69) dX12_book_68 rfl rfl ?_
    refine wk_V2r (d' := 2) (q := 72) lkX12_67 dX12_book_69 rfl rfl rfl rfl rfl rfl rfl ?_
    refine ck_X12_its (g := g) (w := 1) (by omega) (by omega) ?_
    rw [gput_s (by decide)]
    refine wk_i2l (q := 73) dX12_book_72 rfl ?_
    refine wk_S2r (d' := 1) (q := 76) lkX12_308 dX12_book_73 rfl rfl rfl rfl ?_
    refine ck_X12_narrowed ?_
    refine wk_last (n := (40 * s + j)) (q := 77) dX12_book_76 rfl (n40 s j) (by show _ < 160; omega) rfl ?_
    rw [wrL_wrL, wrL_s, bkR_s]
    refine wk_aload_n (i := 0) (q := 78) dX12_book_77 rfl rfl rfl ?_
    refine wk_iload_n (i := 2) (q := 79) dX12_book_78 rfl rfl rfl ?_
    refine wk_V1r (d' := 5) (q := 82) lkX12_134 dX12_book_79 rfl rfl rfl rfl rfl rfl rfl ?_
    refine ck_X12_washed (g := g) (by omega) ?_
    rw [gput_n (show (3 : Nat) < 5 + 7 * g ∨ 12 + 7 * g ≤ 3 by omega), gput_n (show (4 : Nat) < 5 + 7 * g ∨ 12 + 7 * g ≤ 4 by omega), gput_gput, gput_cong (E7.wsh gv_gput)]
    refine wk_pop (q := 83) dX12_book_82 rfl rfl ?_
    refine wk_iinc (w := 1) (q := 86) (lv' := [_, _, _, _, _]) dX12_book_83 rfl rfl rfl rfl rfl ?_
    rw [nI_1]
    refine wk_goto (t := 38) dX12_book_86 rfl ?_
    exact ih (j + 1) (by omega)
theorem ck_X12_book {si gi : Int32} {c : Nat → Nat} (hc : ∀ s, s < 4 → m 80 s = nI (c s) ∧ c s ≤ 40) (hO : okA D A) (h1 : ∀ s g, s < 4 → g < cA A → si = nI s → gi = nI g → ¬ m 79 s = 0 → ∀ B, Q (.int (nI (c s))) (wr (wr m 76 B) 73 A) (wrL L 81 (bkR (m 79 s) (A 3) (A 4) (gv A g) (L 81) s (c s)))) (h2 : ∀ s, s < 4 → si = nI s → m 79 s = 0 → Q (.int (-1000000006)) (rfA (wr m 73 A) 5) L) (h3 : ∀ s, s < 4 → si = nI s → ¬ m 79 s = 0 → (∀ g, g < cA A → ¬ gi = nI g) → Q (.int (-1000000001)) (rfA (wr m 73 A) 0) L) (h0 : (∀ s, s < 4 → ¬ si = nI s) → Q (.int (-1000000001)) (rfA (wr m 73 A) 0) L) : CK E 6 MX12_book [.ref (ev_z E + 72), .int si, .int gi] (wr m 73 A) L Q := by
  have hc8 := hO.1.2.1
  refine CK.of rfl rfl (lv := [(0, _), (1, _), (2, _)]) rfl ?_
  refine wk_aload_n (i := 0) (q := 1) dX12_book_0 rfl rfl rfl ?_
  refine wk_iload_n (i := 1) (q := 2) dX12_book_1 rfl rfl rfl ?_
  refine wk_V1r (d' := 3) (q := 5) lkX12_305 dX12_book_2 rfl rfl rfl rfl rfl rfl rfl ?_
  refine ck_X12_wrongSheet (fun hno => ?_) (fun s hs e hm => ?_) (fun s hs e hm => ?_)
  · skip
    refine wk_istore_n (i := 3) (q := 6) (lv' := [_, _, _, _]) dX12_book_5 rfl rfl rfl rfl ?_
    refine wk_iload_n (i := 3) (q := 7) dX12_book_6 rfl rfl rfl ?_
    refine wk_if_eq (t := 16) (q := 10) dX12_book_7 rfl rfl (fun h => absurd h (by decide)) (fun _ => ?_)
    refine wk_aload_n (i := 0) (q := 11) dX12_book_10 rfl rfl rfl ?_
    refine wk_iload_n (i := 3) (q := 12) dX12_book_11 rfl rfl rfl ?_
    refine wk_V1r (d' := 1) (q := 15) lkX12_63 dX12_book_12 rfl rfl rfl rfl rfl rfl rfl ?_
    refine ck_X12_finds (i := 0) (by decide) (by decide) ?_
    refine wk_ireturn dX12_book_15 rfl rfl ?_
    first | exact h0 hno | exact h2 s hs rfl hm
  · skip
    subst e
    rw [wr_n (show (79 : Nat) ≠ 73 by decide)] at hm
    refine wk_istore_n (i := 3) (q := 6) (lv' := [_, _, _, _]) dX12_book_5 rfl rfl rfl rfl ?_
    refine wk_iload_n (i := 3) (q := 7) dX12_book_6 rfl rfl rfl ?_
    refine wk_if_eq (t := 16) (q := 10) dX12_book_7 rfl rfl (fun h => absurd h (by decide)) (fun _ => ?_)
    refine wk_aload_n (i := 0) (q := 11) dX12_book_10 rfl rfl rfl ?_
    refine wk_iload_n (i := 3) (q := 12) dX12_book_11 rfl rfl rfl ?_
    refine wk_V1r (d' := 1) (q := 15) lkX12_63 dX12_book_12 rfl rfl rfl rfl rfl rfl rfl ?_
    refine ck_X12_finds (i := 5) (by decide) (by decide) ?_
    refine wk_ireturn dX12_book_15 rfl rfl ?_
    first | exact h0 hno | exact h2 s hs rfl hm
  · skip
    subst e
    rw [wr_n (show (79 : Nat) ≠ 73 by decide)] at hm
    obtain ⟨q1, q2⟩ := hc s hs
    refine wk_istore_n (i := 3) (q := 6) (lv' := [_, _, _, _]) dX12_book_5 rfl rfl rfl rfl ?_
    refine wk_iload_n (i := 3) (q := 7) dX12_book_6 rfl rfl rfl ?_
    refine wk_if_eq (t := 16) (q := 10) dX12_book_7 rfl rfl (fun _ => ?_) (fun h => absurd (by decide) h)
    refine wk_aload_n (i := 0) (q := 17) dX12_book_16 rfl rfl rfl ?_
    refine wk_iload_n (i := 2) (q := 18) dX12_book_17 rfl rfl rfl ?_
    refine wk_V1r (d' := 2) (q := 21) lkX12_103 dX12_book_18 rfl rfl rfl rfl rfl rfl rfl ?_
    refine ck_X12_isGarment hO (fun g hg e => ?_) (fun hng => ?_)
    · skip
      subst e
      refine wk_if_ne (t := 31) (q := 24) dX12_book_21 rfl rfl (fun _ => ?_) (fun h => absurd h (by decide))
      refine wk_aload_n (i := 0) (q := 32) dX12_book_31 rfl rfl rfl ?_
      refine wk_V0v (d' := 1) (q := 35) lkX12_168 dX12_book_32 rfl rfl rfl rfl rfl rfl rfl ?_
      refine ck_X12_laysAside (fun B hBA => ?_)
      refine wk_iconst (v := 0) (q := 36) dX12_book_35 rfl rfl ?_
      refine wk_istore (i := 4) (q := 38) (lv' := [_, _, _, _, _]) dX12_book_36 rfl rfl rfl ?_
      have hl := lp_X12_book (E := E) (m := m) (L := L) (A := A) (y := 0) hs (by omega) q1 q2 hBA (h1 s g hs hg rfl rfl hm B) (c s) 0 (by omega)
      rw [bkR_0, wrL_self, show wshN (A 3) (A 4) (gv A g) 0 = gv A g from rfl, gput_gv] at hl
      exact hl
    · skip
      refine wk_if_ne (t := 31) (q := 24) dX12_book_21 rfl rfl (fun h => absurd (by decide) h) (fun _ => ?_)
      refine wk_aload_n (i := 0) (q := 25) dX12_book_24 rfl rfl rfl ?_
      refine wk_ldc (q := 27) dX12_book_25 kX12_41 rfl ?_
      refine wk_V1r (d' := 1) (q := 30) lkX12_63 dX12_book_27 rfl rfl rfl rfl rfl rfl rfl ?_
      refine ck_X12_finds (i := 0) (by decide) (by decide) ?_
      refine wk_ireturn dX12_book_30 rfl rfl ?_
      exact h3 s hs rfl hm hng
theorem lp_X12_isBook {s g c : Nat} (hs : s < 4) (hg : g < 8) (hc : m 80 s = nI c) (hc4 : c ≤ 40) (h1 : exB (A 3) (A 4) (gv A g) (fun i => L 81 (40 * s + i)) c = true → ∀ v, Q (.int 1) (wr m 73 (gput A g v)) L) (h0 : ¬ exB (A 3) (A 4) (gv A g) (fun i => L 81 (40 * s + i)) c = true → ∀ v, Q (.int 0) (wr m 73 (gput A g v)) L) : ∀ (r j : Nat), j + r = c → exB (A 3) (A 4) (gv A g) (fun i => L 81 (40 * s + i)) j = true → WK E 6 MX12_isBook 2 [(0, .ref (ev_z E + 72)), (1, .int (nI s)), (2, .int (nI g)), (3, .int (nI j))] [] (wr m 73 (gput A g (wshN (A 3) (A 4) (gv A g) j))) L Q := by
  intro r
  induction r with
  | zero =>
    intro j hj hx
    refine wk_iload_n (i := 3) (q := 3) dX12_isBook_2 rfl rfl rfl ?_
    refine wk_aload_n (i := 0) (q := 4) dX12_isBook_3 rfl rfl rfl ?_
    refine wk_get (q := 7) fgX12_31 dX12_isBook_4 rfl rfl rfl rfl ?_
    refine wk_iload_n (i := 1) (q := 8) dX12_isBook_7 rfl rfl rfl ?_
    refine wk_iald (n := s) (q := 9) dX12_isBook_8 rfl rfl (by show _ < 4; omega) rfl ?_
    rw [wr_n (show (80 : Nat) ≠ 73 by decide), hc]
    refine wk_icmp_ge (t := 48) (q := 12) dX12_isBook_9 rfl rfl (fun c9 => ?_) (fun h => absurd (nI_le (by omega) (by omega)) h)
    refine wk_iconst (v := 1) (q := 49) dX12_isBook_48 rfl rfl ?_
    refine wk_ireturn dX12_isBook_49 rfl rfl ?_
    have e : j = c := by omega
    subst e
    exact h1 hx _
  | succ r ih =>
    intro j hj hx
    refine wk_iload_n (i := 3) (q := 3) dX12_isBook_2 rfl rfl rfl ?_
    refine wk_aload_n (i := 0) (q := 4) dX12_isBook_3 rfl rfl rfl ?_
    refine wk_get (q := 7) fgX12_31 dX12_isBook_4 rfl rfl rfl rfl ?_
    refine wk_iload_n (i := 1) (q := 8) dX12_isBook_7 rfl rfl rfl ?_
    refine wk_iald (n := s) (q := 9) dX12_isBook_8 rfl rfl (by show _ < 4; omega) rfl ?_
    rw [wr_n (show (80 : Nat) ≠ 73 by decide), hc]
    refine wk_icmp_ge (t := 48) (q := 12) dX12_isBook_9 rfl rfl (fun h => absurd h (nI_ge (by omega) (by omega))) (fun c9 => ?_)
    refine wk_aload_n (i := 0) (q := 13) dX12_isBook_12 rfl rfl rfl ?_
    refine wk_get (q := 16) fgX12_34 dX12_isBook_13 rfl rfl rfl rfl ?_
    refine wk_bipush (v := 40) (q := 18) dX12_isBook_16 rfl rfl ?_
    refine wk_iload_n (i := 1) (q := 19) dX12_isBook_18 rfl rfl rfl ?_
    refine wk_imul (q := 20) dX12_isBook_19 rfl ?_
    refine wk_iload_n (i := 3) (q := 21) dX12_isBook_20 rfl rfl rfl ?_
    refine wk_iadd (q := 22) dX12_isBook_21 rfl ?_
    refine wk_lald (n := (40 * s + j)) (q := 23) dX12_isBook_22 rfl (n40 s j) (by show _ < 160; omega) rfl ?_
    refine wk_aload_n (i := 0) (q := 24) dX12_isBook_23 rfl rfl rfl ?_
    refine wk_iload_n (i := 2) (q := 25) dX12_isBook_24 rfl rfl rfl ?_
    refine wk_iconst (v := 1) (q := 26) dX12_isBook_25 rfl rfl ?_
    refine wk_V2r (d' := 2) (q := 29) lkX12_67 dX12_isBook_26 rfl rfl rfl rfl rfl rfl rfl ?_
    refine ck_X12_its (g := g) (w := 1) (by omega) (by omega) ?_
    rw [gput_s (by decide)]
    refine wk_i2l (q := 30) dX12_isBook_29 rfl ?_
    refine wk_lcmp (q := 31) dX12_isBook_30 rfl ?_
    refine wk_if_eq (t := 36) (q := 34) dX12_isBook_31 rfl rfl (fun c31 => ?_) (fun c31 => ?_)
    · skip
      rw [lg_cmp_eq] at c31
      refine wk_aload_n (i := 0) (q := 37) dX12_isBook_36 rfl rfl rfl ?_
      refine wk_iload_n (i := 2) (q := 38) dX12_isBook_37 rfl rfl rfl ?_
      refine wk_V1r (d' := 5) (q := 41) lkX12_134 dX12_isBook_38 rfl rfl rfl rfl rfl rfl rfl ?_
      refine ck_X12_washed (g := g) (by omega) ?_
      rw [gput_n (show (3 : Nat) < 5 + 7 * g ∨ 12 + 7 * g ≤ 3 by omega), gput_n (show (4 : Nat) < 5 + 7 * g ∨ 12 + 7 * g ≤ 4 by omega), gput_gput, gput_cong (E7.wsh gv_gput)]
      refine wk_pop (q := 42) dX12_isBook_41 rfl rfl ?_
      refine wk_iinc (w := 1) (q := 45) (lv' := [_, _, _, _]) dX12_isBook_42 rfl rfl rfl rfl rfl ?_
      rw [nI_1]
      refine wk_goto (t := 2) dX12_isBook_45 rfl ?_
      exact ih (j + 1) (by omega) (by show (exB _ _ _ _ j && decide _) = true; rw [hx, Bool.true_and, decide_eq_true_iff]; exact c31)
    · skip
      rw [lg_cmp_eq] at c31
      refine wk_iconst (v := 0) (q := 35) dX12_isBook_34 rfl rfl ?_
      refine wk_ireturn dX12_isBook_35 rfl rfl ?_
      exact h0 (exB_f (F := fun i => L 81 (40 * s + i)) c31 _ (by omega)) _
theorem ck_X12_isBook {s g c : Nat} (hs : s < 4) (hg : g < 8) (hc : m 80 s = nI c) (hc4 : c ≤ 40) (h1 : exB (A 3) (A 4) (gv A g) (fun i => L 81 (40 * s + i)) c = true → ∀ v, Q (.int 1) (wr m 73 (gput A g v)) L) (h0 : ¬ exB (A 3) (A 4) (gv A g) (fun i => L 81 (40 * s + i)) c = true → ∀ v, Q (.int 0) (wr m 73 (gput A g v)) L) : CK E 6 MX12_isBook [.ref (ev_z E + 72), .int (nI s), .int (nI g)] (wr m 73 A) L Q := by
  refine CK.of rfl rfl (lv := [(0, _), (1, _), (2, _)]) rfl ?_
  refine wk_iconst (v := 0) (q := 1) dX12_isBook_0 rfl rfl ?_
  refine wk_istore_n (i := 3) (q := 2) (lv' := [_, _, _, _]) dX12_isBook_1 rfl rfl rfl rfl ?_
  have hl := lp_X12_isBook (E := E) (m := m) hs hg hc hc4 h1 h0 c 0 (by omega) rfl
  rw [show wshN (A 3) (A 4) (gv A g) 0 = gv A g from rfl, gput_gv] at hl
  exact hl
theorem lp_X12_read {s g c : Nat} {y : Int32} {B : Nat → Int32} (hs : s < 4) (hg : g < 8) (hc : m 80 s = nI c) (hc4 : c ≤ 40) (hBA : eq73 B A) (hQ : Q (.int (rdS (A 4) (gv A g) (fun i => L 81 (40 * s + i)) c 456)) (wr (wr m 76 B) 73 A) L) : ∀ (r q : Nat) (n : Int32), q + r = 456 → n = rdS (A 4) (gv A g) (fun i => L 81 (40 * s + i)) c q → WK E 7 MX12_read 41 [(0, .ref (ev_z E + 72)), (1, .int (nI s)), (2, .int (nI g)), (3, .int y), (4, .int n), (5, .int (nI q))] [] (wr (wr m 76 B) 73 A) L Q := by
  intro r
  induction r with
  | zero =>
    intro q n hq hn
    refine wk_iload (i := 5) (q := 43) dX12_read_41 rfl rfl ?_
    refine wk_sipush (v := 456) (q := 46) dX12_read_43 rfl rfl ?_
    refine wk_icmp_ge (t := 107) (q := 49) dX12_read_46 rfl rfl (fun c46 => ?_) (fun h => absurd (nI_le (a := 456) (by omega) (by omega)) h)
    refine wk_iload (i := 4) (q := 109) dX12_read_107 rfl rfl ?_
    refine wk_ireturn dX12_read_109 rfl rfl ?_
    have e : q = 456 := by omega
    subst e
    rw [hn]
    exact hQ
  | succ r ih =>
    intro q n hq hn
    have eg : gv (upd (upd A (5 + 7 * g + 0) (nI (q / 76))) 3 (nI (q % 76 + 20))) g = upd (gv A g) 0 (nI (q / 76)) := by rw [gv_deg, gv_upd0]
    have e4 : upd (upd A (5 + 7 * g + 0) (nI (q / 76))) 3 (nI (q % 76 + 20)) 4 = A 4 := (upd_n (by decide)).trans (upd_n (by omega))
    have e3 : upd (upd A (5 + 7 * g + 0) (nI (q / 76))) 3 (nI (q % 76 + 20)) 3 = nI (q % 76 + 20) := upd_s
    have hrd := rdS_s (t := A 4) (v := gv A g) (F := fun i => L 81 (40 * s + i)) (sz := c) (q := q)
    have hhi : ∀ v j, 73 ≤ j → gput (upd (upd A (5 + 7 * g + 0) (nI (q / 76))) 3 (nI (q % 76 + 20))) g v j = A j := fun v j hj => by rw [gput_n (by omega), upd_n (by omega), upd_n (by omega)]
    refine wk_iload (i := 5) (q := 43) dX12_read_41 rfl rfl ?_
    refine wk_sipush (v := 456) (q := 46) dX12_read_43 rfl rfl ?_
    refine wk_icmp_ge (t := 107) (q := 49) dX12_read_46 rfl rfl (fun h => absurd h (nI_ge (b := 456) (by omega) (by omega))) (fun c46 => ?_)
    refine wk_aload_n (i := 0) (q := 50) dX12_read_49 rfl rfl rfl ?_
    refine wk_get (q := 53) fgX12_7 dX12_read_50 rfl rfl rfl rfl ?_
    refine wk_iload_n (i := 2) (q := 54) dX12_read_53 rfl rfl rfl ?_
    refine wk_iconst (v := 0) (q := 55) dX12_read_54 rfl rfl ?_
    refine wk_S2r (d' := 1) (q := 58) lkX12_42 dX12_read_55 rfl rfl rfl rfl ?_
    refine ck_X12_spot (g := g) (w := 0) ?_
    refine wk_iload (i := 5) (q := 60) dX12_read_58 rfl rfl ?_
    refine wk_bipush (v := 76) (q := 62) dX12_read_60 rfl rfl ?_
    refine wk_idiv (q := 63) dX12_read_62 (by decide) rfl ?_
    rw [show nI q / 76 = nI (q / 76) from nI_dv (c := 76) (by omega) (by decide) (by decide)]
    refine wk_sst (n := (5 + 7 * g + 0)) (q := 64) dX12_read_63 rfl (by omega) rfl ?_
    refine wk_aload_n (i := 0) (q := 65) dX12_read_64 rfl rfl rfl ?_
    refine wk_get (q := 68) fgX12_7 dX12_read_65 rfl rfl rfl rfl ?_
    refine wk_iconst (v := 3) (q := 69) dX12_read_68 rfl rfl ?_
    refine wk_iload (i := 5) (q := 71) dX12_read_69 rfl rfl ?_
    refine wk_bipush (v := 76) (q := 73) dX12_read_71 rfl rfl ?_
    refine wk_irem (q := 74) dX12_read_73 (by decide) rfl ?_
    refine wk_bipush (v := 20) (q := 76) dX12_read_74 rfl rfl ?_
    refine wk_iadd (q := 77) dX12_read_76 rfl ?_
    rw [nI_rm (by omega), show (20 : Int32) = nI 20 from rfl, nI_add]
    refine wk_sst (n := 3) (q := 78) dX12_read_77 rfl (by decide) rfl ?_
    refine wk_aload_n (i := 0) (q := 79) dX12_read_78 rfl rfl rfl ?_
    refine wk_iload (i := 4) (q := 81) dX12_read_79 rfl rfl ?_
    refine wk_aload_n (i := 0) (q := 82) dX12_read_81 rfl rfl rfl ?_
    refine wk_iload_n (i := 1) (q := 83) dX12_read_82 rfl rfl rfl ?_
    refine wk_iload_n (i := 2) (q := 84) dX12_read_83 rfl rfl rfl ?_
    refine wk_V2r (d' := 6) (q := 87) lkX12_312 dX12_read_84 rfl rfl rfl rfl rfl rfl rfl ?_
    refine ck_X12_isBook (s := s) (g := g) (c := c) hs hg (by rw [wr_n (show (80 : Nat) ≠ 76 by decide)]; exact hc) hc4 (fun hx v1 => ?_) (fun hx v1 => ?_)
    · skip
      rw [eg, e3, e4] at hx
      rw [if_pos hx] at hrd
      refine wk_if_eq (t := 94) (q := 90) dX12_read_87 rfl rfl (fun h => absurd h (by decide)) (fun _ => ?_)
      refine wk_iconst (v := 1) (q := 91) dX12_read_90 rfl rfl ?_
      refine wk_goto (t := 95) dX12_read_91 rfl ?_
      refine wk_iadd (q := 96) dX12_read_95 rfl ?_
      refine wk_V1r (d' := 1) (q := 99) lkX12_171 dX12_read_96 rfl rfl rfl rfl rfl rfl rfl ?_
      refine ck_X12_takesBack hBA (hhi v1) ?_
      refine wk_istore (i := 4) (q := 101) (lv' := [_, _, _, _, _, _]) dX12_read_99 rfl rfl rfl ?_
      refine wk_iinc (w := 1) (q := 104) (lv' := [_, _, _, _, _, _]) dX12_read_101 rfl rfl rfl rfl rfl ?_
      rw [nI_1]
      refine wk_goto (t := 41) dX12_read_104 rfl ?_
      exact ih (q + 1) _ (by omega) (by rw [hrd, hn])
    · skip
      rw [eg, e3, e4] at hx
      rw [if_neg hx] at hrd
      refine wk_if_eq (t := 94) (q := 90) dX12_read_87 rfl rfl (fun _ => ?_) (fun h => absurd (by decide) h)
      refine wk_iconst (v := 0) (q := 95) dX12_read_94 rfl rfl ?_
      refine wk_iadd (q := 96) dX12_read_95 rfl ?_
      refine wk_V1r (d' := 1) (q := 99) lkX12_171 dX12_read_96 rfl rfl rfl rfl rfl rfl rfl ?_
      refine ck_X12_takesBack hBA (hhi v1) ?_
      refine wk_istore (i := 4) (q := 101) (lv' := [_, _, _, _, _, _]) dX12_read_99 rfl rfl rfl ?_
      refine wk_iinc (w := 1) (q := 104) (lv' := [_, _, _, _, _, _]) dX12_read_101 rfl rfl rfl rfl rfl ?_
      rw [nI_1]
      refine wk_goto (t := 41) dX12_read_104 rfl ?_
      exact ih (q + 1) _ (by omega) (by rw [hrd, hn])
theorem ck_X12_read {si gi : Int32} {c : Nat → Nat} (hc : ∀ s, s < 4 → m 80 s = nI (c s) ∧ c s ≤ 40) (hO : okA D A) (h1 : ∀ s g, s < 4 → g < cA A → si = nI s → gi = nI g → ¬ m 79 s = 0 → ∀ B, Q (.int (rdS (A 4) (gv A g) (fun i => L 81 (40 * s + i)) (c s) 456)) (wr (wr m 76 B) 73 A) L) (h2 : ∀ s, s < 4 → si = nI s → m 79 s = 0 → Q (.int (-1000000006)) (rfA (wr m 73 A) 5) L) (h3 : ∀ s, s < 4 → si = nI s → ¬ m 79 s = 0 → (∀ g, g < cA A → ¬ gi = nI g) → Q (.int (-1000000001)) (rfA (wr m 73 A) 0) L) (h0 : (∀ s, s < 4 → ¬ si = nI s) → Q (.int (-1000000001)) (rfA (wr m 73 A) 0) L) : CK E 7 MX12_read [.ref (ev_z E + 72), .int si, .int gi] (wr m 73 A) L Q := by
  have hc8 := hO.1.2.1
  refine CK.of rfl rfl (lv := [(0, _), (1, _), (2, _)]) rfl ?_
  refine wk_aload_n (i := 0) (q := 1) dX12_read_0 rfl rfl rfl ?_
  refine wk_iload_n (i := 1) (q := 2) dX12_read_1 rfl rfl rfl ?_
  refine wk_V1r (d' := 3) (q := 5) lkX12_305 dX12_read_2 rfl rfl rfl rfl rfl rfl rfl ?_
  refine ck_X12_wrongSheet (fun hno => ?_) (fun s hs e hm => ?_) (fun s hs e hm => ?_)
  · skip
    refine wk_istore_n (i := 3) (q := 6) (lv' := [_, _, _, _]) dX12_read_5 rfl rfl rfl rfl ?_
    refine wk_iload_n (i := 3) (q := 7) dX12_read_6 rfl rfl rfl ?_
    refine wk_if_eq (t := 16) (q := 10) dX12_read_7 rfl rfl (fun h => absurd h (by decide)) (fun _ => ?_)
    refine wk_aload_n (i := 0) (q := 11) dX12_read_10 rfl rfl rfl ?_
    refine wk_iload_n (i := 3) (q := 12) dX12_read_11 rfl rfl rfl ?_
    refine wk_V1r (d' := 1) (q := 15) lkX12_63 dX12_read_12 rfl rfl rfl rfl rfl rfl rfl ?_
    refine ck_X12_finds (i := 0) (by decide) (by decide) ?_
    refine wk_ireturn dX12_read_15 rfl rfl ?_
    first | exact h0 hno | exact h2 s hs rfl hm
  · skip
    subst e
    rw [wr_n (show (79 : Nat) ≠ 73 by decide)] at hm
    refine wk_istore_n (i := 3) (q := 6) (lv' := [_, _, _, _]) dX12_read_5 rfl rfl rfl rfl ?_
    refine wk_iload_n (i := 3) (q := 7) dX12_read_6 rfl rfl rfl ?_
    refine wk_if_eq (t := 16) (q := 10) dX12_read_7 rfl rfl (fun h => absurd h (by decide)) (fun _ => ?_)
    refine wk_aload_n (i := 0) (q := 11) dX12_read_10 rfl rfl rfl ?_
    refine wk_iload_n (i := 3) (q := 12) dX12_read_11 rfl rfl rfl ?_
    refine wk_V1r (d' := 1) (q := 15) lkX12_63 dX12_read_12 rfl rfl rfl rfl rfl rfl rfl ?_
    refine ck_X12_finds (i := 5) (by decide) (by decide) ?_
    refine wk_ireturn dX12_read_15 rfl rfl ?_
    first | exact h0 hno | exact h2 s hs rfl hm
  · skip
    subst e
    rw [wr_n (show (79 : Nat) ≠ 73 by decide)] at hm
    obtain ⟨q1, q2⟩ := hc s hs
    refine wk_istore_n (i := 3) (q := 6) (lv' := [_, _, _, _]) dX12_read_5 rfl rfl rfl rfl ?_
    refine wk_iload_n (i := 3) (q := 7) dX12_read_6 rfl rfl rfl ?_
    refine wk_if_eq (t := 16) (q := 10) dX12_read_7 rfl rfl (fun _ => ?_) (fun h => absurd (by decide) h)
    refine wk_aload_n (i := 0) (q := 17) dX12_read_16 rfl rfl rfl ?_
    refine wk_iload_n (i := 2) (q := 18) dX12_read_17 rfl rfl rfl ?_
    refine wk_V1r (d' := 2) (q := 21) lkX12_103 dX12_read_18 rfl rfl rfl rfl rfl rfl rfl ?_
    refine ck_X12_isGarment hO (fun g hg e => ?_) (fun hng => ?_)
    · skip
      subst e
      refine wk_if_ne (t := 31) (q := 24) dX12_read_21 rfl rfl (fun _ => ?_) (fun h => absurd h (by decide))
      refine wk_aload_n (i := 0) (q := 32) dX12_read_31 rfl rfl rfl ?_
      refine wk_V0v (d' := 1) (q := 35) lkX12_168 dX12_read_32 rfl rfl rfl rfl rfl rfl rfl ?_
      refine ck_X12_laysAside (fun B hBA => ?_)
      refine wk_iconst (v := 0) (q := 36) dX12_read_35 rfl rfl ?_
      refine wk_istore (i := 4) (q := 38) (lv' := [_, _, _, _, _]) dX12_read_36 rfl rfl rfl ?_
      refine wk_iconst (v := 0) (q := 39) dX12_read_38 rfl rfl ?_
      refine wk_istore (i := 5) (q := 41) (lv' := [_, _, _, _, _, _]) dX12_read_39 rfl rfl rfl ?_
      exact lp_X12_read hs (by omega) q1 q2 hBA (h1 s g hs hg rfl rfl hm B) 456 0 0 (by omega) rfl
    · skip
      refine wk_if_ne (t := 31) (q := 24) dX12_read_21 rfl rfl (fun h => absurd (by decide) h) (fun _ => ?_)
      refine wk_aload_n (i := 0) (q := 25) dX12_read_24 rfl rfl rfl ?_
      refine wk_ldc (q := 27) dX12_read_25 kX12_41 rfl ?_
      refine wk_V1r (d' := 1) (q := 30) lkX12_63 dX12_read_27 rfl rfl rfl rfl rfl rfl rfl ?_
      refine ck_X12_finds (i := 0) (by decide) (by decide) ?_
      refine wk_ireturn dX12_read_30 rfl rfl ?_
      exact h3 s hs rfl hm hng
end MR1
