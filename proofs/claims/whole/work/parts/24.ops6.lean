/-! the class's sheets: lays, book, read -/
theorem lyS_hd {A : Nat → Int32} {F : Nat → Int64} : ∀ k j, j < 5 → (lyS A F k).1 j = A j
  | 0, _, _ => rfl
  | k + 1, j, hj => by
    have ih := lyS_hd (A := A) (F := F) k j hj
    show (if _ then _ else _ : (Nat → Int32) × Int32).1 j = _
    split
    · show upd _ _ _ j = _
      rw [upd_n (by omega)]; exact ih
    · exact ih
theorem lyS_t {A : Nat → Int32} {F : Nat → Int64} {k : Nat} (h : 10 ≤ F k ∧ F k ≤ 200) : lyS A F (k + 1) = (upd (lyS A F k).1 (5 + 7 * k + 1) (F k).toInt32, (lyS A F k).2 + 1) := if_pos h
theorem lyS_f {A : Nat → Int32} {F : Nat → Int64} {k : Nat} (h : ¬ (10 ≤ F k ∧ F k ≤ 200)) : lyS A F (k + 1) = lyS A F k := if_neg h
theorem rdS_s {t : Int32} {v : Nat → Int32} {F : Nat → Int64} {sz q : Nat} : rdS t v F sz (q + 1) = rdS t v F sz q + (if exB (nI (q % 76 + 20)) t (upd v 0 (nI (q / 76))) F sz = true then 1 else 0) := rfl
section CR1
variable {E : EVt} {m : Mm} {L : Ml} {Q : Value → Mm → Ml → Prop} {a : Mm} {aL : Ml} {D : Nat}
theorem lp_X11_lays {si : Int32} {s : Nat} (hC : CR m L a aL) (hO : OK D a) (hs : s < 4) (hQ : Po m L (wr a 73 (lyS (a 73) (fun i => aL 81 (40 * s + i)) (min (szA a s) (cA (a 73)))).1) aL Q (.int (lyS (a 73) (fun i => aL 81 (40 * s + i)) (min (szA a s) (cA (a 73)))).2)) : ∀ (r j : Nat) (m' : Mm) (ca : Int32), j + r = szA a s → hasB m' 8 (lyS (a 73) (fun i => aL 81 (40 * s + i)) (min j (cA (a 73)))).1 → frB m m' 8 → ca = (lyS (a 73) (fun i => aL 81 (40 * s + i)) (min j (cA (a 73)))).2 → ∀ lv', lv' = [(0, Value.ref (ev_z E + 0)), (1, .int si), (2, .ref (ev_z E + (63 + 2 * s))), (3, .int ca), (4, .int (nI j))] → WK E 2 MX11_lays 36 lv' [] m' L Q := by
  have hB := hC.1
  have hA := hO.1
  have hc8 := hA.1.2.1
  obtain ⟨q1, q2, q3⟩ := hC.2.2.2.1 s hs
  obtain ⟨-, k1, k2⟩ := hO.2.2.2.1 s hs
  intro r
  induction r with
  | zero =>
    intro j m' ca hj hB' hf hca lv' hlv
    subst hlv
    have e2 : m' (63 + 2 * s) 2 = nI (szA a s) := by rw [hf _ (by omega), q2, k1]
    refine wk_iload (i := 4) (q := 38) dX11_lays_36 rfl rfl ?_
    refine wk_aload_n (i := 2) (q := 39) dX11_lays_38 rfl rfl rfl ?_
    refine wk_get (q := 42) fgX11_242 dX11_lays_39 (sh_s hs) rfl rfl rfl ?_
    refine wk_icmp_ge (t := 105) (q := 45) dX11_lays_42 rfl rfl (fun c42 => ?_) (fun h => absurd (by rw [e2]; exact nI_le (by omega) (by omega)) h)
    refine wk_iload_n (i := 3) (q := 106) dX11_lays_105 rfl rfl rfl ?_
    refine wk_ireturn dX11_lays_106 rfl rfl ?_
    have e : j = szA a s := by omega
    subst e
    rw [hca]
    exact hQ _ _ (hC.b8 hB' hf) (FC.rf.bk sb_8 hf)
  | succ r ih =>
    intro j m' ca hj hB' hf hca lv' hlv
    subst hlv
    have e2 : m' (63 + 2 * s) 2 = nI (szA a s) := by rw [hf _ (by omega), q2, k1]
    have e3 : m' 8 3 = nI (cA (a 73)) := by rw [hB'.1, lyS_hd _ 1 (by decide)]; exact hA.1.1
    have eL := q3 j (by omega)
    have z10 : (10 : Int64).toInt = 10 := by decide
    refine wk_iload (i := 4) (q := 38) dX11_lays_36 rfl rfl ?_
    refine wk_aload_n (i := 2) (q := 39) dX11_lays_38 rfl rfl rfl ?_
    refine wk_get (q := 42) fgX11_242 dX11_lays_39 (sh_s hs) rfl rfl rfl ?_
    refine wk_icmp_ge (t := 105) (q := 45) dX11_lays_42 rfl rfl (fun h => absurd h (by rw [e2]; exact nI_ge (by omega) (by omega))) (fun c42 => ?_)
    refine wk_aload_n (i := 2) (q := 46) dX11_lays_45 rfl rfl rfl ?_
    refine wk_get (q := 49) fgX11_248 dX11_lays_46 (sh_s hs) rfl rfl rfl ?_
    refine wk_iload (i := 4) (q := 51) dX11_lays_49 rfl rfl ?_
    refine wk_lald (n := j) (q := 52) dX11_lays_51 (sh_nu (sh_s hs)) rfl (by rw [show llen (63 + 2 * s + 1) = 40 from if_neg (by omega)]; omega) rfl ?_
    refine wk_lstore (i := 5) (q := 54) (lv' := [_, _, _, _, _, _]) dX11_lays_52 rfl rfl rfl ?_
    refine wk_aload_n (i := 0) (q := 55) dX11_lays_54 rfl rfl rfl ?_
    refine wk_get (q := 58) fgX11_18 dX11_lays_55 rfl rfl rfl rfl ?_
    refine wk_iload (i := 4) (q := 60) dX11_lays_58 rfl rfl ?_
    refine wk_V1r (d' := 1) (q := 63) lkX11_102 dX11_lays_60 rfl rfl rfl rfl rfl rfl rfl ?_
    refine ck_X0_garmentAt (b := 8) (c := cA (a 73)) rfl e3 hc8 (fun n hn e => ?_) (fun hno => ?_)
    · skip
      have e := nI_inj (by omega) (by omega) e
      subst e
      have hmn : min (j + 1) (cA (a 73)) = j + 1 := by omega
      have hmj : min j (cA (a 73)) = j := by omega
      rw [hmj] at hB' hca
      refine wk_astore (i := 7) (q := 65) (lv' := [_, _, _, _, _, _, _]) dX11_lays_63 rfl rfl rfl ?_
      refine wk_aload (i := 7) (q := 67) dX11_lays_65 rfl rfl ?_
      refine wk_ifnull (q := 70) dX11_lays_67 rfl ?_
      refine wk_lload (i := 5) (q := 72) dX11_lays_70 rfl rfl ?_
      refine wk_ldc2 (q := 75) dX11_lays_72 kX11_268 rfl ?_
      refine wk_lcmp (q := 76) dX11_lays_75 rfl ?_
      refine wk_if_lt (t := 99) (q := 79) dX11_lays_76 rfl rfl (fun c76 => ?_) (fun c76 => ?_)
      · skip
        rw [lg_cmp_lt] at c76
        have hly : lyS (a 73) (fun i => aL 81 (40 * s + i)) (j + 1) = lyS (a 73) (fun i => aL 81 (40 * s + i)) j := lyS_f (fun hh => by rw [eL] at c76; have h1 : 10 ≤ aL 81 (40 * s + j) := hh.1; rw [fa_le64] at h1; rw [fa_lt64] at c76; omega)
        refine wk_iinc (w := 1) (q := 102) (lv' := [_, _, _, _, _, _, _]) dX11_lays_99 rfl rfl rfl rfl rfl ?_
        rw [nI_1]
        refine wk_goto (t := 36) dX11_lays_102 rfl ?_
        refine wk_pick [0, 1, 2, 3, 4] (lv' := [_, _, _, _, _]) rfl ?_
        first | exact ih (j + 1) _ _ (by omega) (by rw [hmn, hly]; exact hr) (hf.trans (frB_row (by omega))) (by rw [hmn, hly, hca]) _ rfl | exact ih (j + 1) _ _ (by omega) (by rw [hmn, hly]; exact hB') hf (by rw [hmn, hly]; exact hca) _ rfl | exact ih (j + 1) _ _ (by omega) (by rw [hmn]; exact hB') hf (by rw [hmn]; exact hca) _ rfl
      · skip
        rw [lg_cmp_lt] at c76
        refine wk_lload (i := 5) (q := 81) dX11_lays_79 rfl rfl ?_
        refine wk_ldc2 (q := 84) dX11_lays_81 kX11_270 rfl ?_
        refine wk_lcmp (q := 85) dX11_lays_84 rfl ?_
        refine wk_if_gt (t := 99) (q := 88) dX11_lays_85 rfl rfl (fun c85 => ?_) (fun c85 => ?_)
        · skip
          rw [lg_cmp_gt] at c85
          have hly : lyS (a 73) (fun i => aL 81 (40 * s + i)) (j + 1) = lyS (a 73) (fun i => aL 81 (40 * s + i)) j := lyS_f (fun hh => by rw [eL] at c85; have h1 : aL 81 (40 * s + j) ≤ 200 := hh.2; rw [fa_le64] at h1; rw [fa_lt64] at c85; omega)
          refine wk_iinc (w := 1) (q := 102) (lv' := [_, _, _, _, _, _, _]) dX11_lays_99 rfl rfl rfl rfl rfl ?_
          rw [nI_1]
          refine wk_goto (t := 36) dX11_lays_102 rfl ?_
          refine wk_pick [0, 1, 2, 3, 4] (lv' := [_, _, _, _, _]) rfl ?_
          first | exact ih (j + 1) _ _ (by omega) (by rw [hmn, hly]; exact hr) (hf.trans (frB_row (by omega))) (by rw [hmn, hly, hca]) _ rfl | exact ih (j + 1) _ _ (by omega) (by rw [hmn, hly]; exact hB') hf (by rw [hmn, hly]; exact hca) _ rfl | exact ih (j + 1) _ _ (by omega) (by rw [hmn]; exact hB') hf (by rw [hmn]; exact hca) _ rfl
        · skip
          rw [lg_cmp_gt] at c85
          have hly : lyS (a 73) (fun i => aL 81 (40 * s + i)) (j + 1) = (upd (lyS (a 73) (fun i => aL 81 (40 * s + i)) j).1 (5 + 7 * j + 1) (L (63 + 2 * s + 1) j).toInt32, (lyS (a 73) (fun i => aL 81 (40 * s + i)) j).2 + 1) := by (rw [eL] at c76 c85 ⊢; exact lyS_t ⟨by show 10 ≤ aL 81 (40 * s + j); rw [fa_le64]; rw [fa_lt64] at c76; omega, by show aL 81 (40 * s + j) ≤ 200; rw [fa_le64]; rw [fa_lt64] at c85; omega⟩)
          have hr := hB'.row (g := j) (by omega) (E7_upd (f := 1) (x := (L (63 + 2 * s + 1) j).toInt32) (hB'.e7 (g := j) (by omega)))
          rw [gput_upd (by decide)] at hr
          refine wk_aload (i := 7) (q := 90) dX11_lays_88 rfl rfl ?_
          refine wk_lload (i := 5) (q := 92) dX11_lays_90 rfl rfl ?_
          refine wk_l2i (q := 93) dX11_lays_92 rfl ?_
          refine wk_put (q := 96) fpX11_116 dX11_lays_93 (sh_g sb_8 (by omega)) rfl rfl rfl rfl rfl ?_
          refine wk_iinc (w := 1) (q := 99) (lv' := [_, _, _, _, _, _, _]) dX11_lays_96 rfl rfl rfl rfl rfl ?_
          refine wk_iinc (w := 1) (q := 102) (lv' := [_, _, _, _, _, _, _]) dX11_lays_99 rfl rfl rfl rfl rfl ?_
          rw [nI_1]
          refine wk_goto (t := 36) dX11_lays_102 rfl ?_
          refine wk_pick [0, 1, 2, 3, 4] (lv' := [_, _, _, _, _]) rfl ?_
          first | exact ih (j + 1) _ _ (by omega) (by rw [hmn, hly]; exact hr) (hf.trans (frB_row (by omega))) (by rw [hmn, hly, hca]) _ rfl | exact ih (j + 1) _ _ (by omega) (by rw [hmn, hly]; exact hB') hf (by rw [hmn, hly]; exact hca) _ rfl | exact ih (j + 1) _ _ (by omega) (by rw [hmn]; exact hB') hf (by rw [hmn]; exact hca) _ rfl
    · skip
      have hge : cA (a 73) ≤ j := by (rcases Nat.lt_or_ge j (cA (a 73)) with h | h; exact absurd rfl (hno j h); exact h)
      have hmn : min (j + 1) (cA (a 73)) = min j (cA (a 73)) := by omega
      refine wk_astoreN (i := 7) (q := 65) (lv' := [_, _, _, _, _, _, _]) dX11_lays_63 rfl rfl rfl ?_
      refine wk_aloadN (i := 7) (q := 67) dX11_lays_65 rfl rfl ?_
      refine wk_ifnullN (t := 99) dX11_lays_67 rfl ?_
      refine wk_iinc (w := 1) (q := 102) (lv' := [_, _, _, _, _, _, _]) dX11_lays_99 rfl rfl rfl rfl rfl ?_
      rw [nI_1]
      refine wk_goto (t := 36) dX11_lays_102 rfl ?_
      refine wk_pick [0, 1, 2, 3, 4] (lv' := [_, _, _, _, _]) rfl ?_
      first | exact ih (j + 1) _ _ (by omega) (by rw [hmn, hly]; exact hr) (hf.trans (frB_row (by omega))) (by rw [hmn, hly, hca]) _ rfl | exact ih (j + 1) _ _ (by omega) (by rw [hmn, hly]; exact hB') hf (by rw [hmn, hly]; exact hca) _ rfl | exact ih (j + 1) _ _ (by omega) (by rw [hmn]; exact hB') hf (by rw [hmn]; exact hca) _ rfl
theorem ck_X11_lays {si : Int32} (hC : CR m L a aL) (hO : OK D a) (h1 : ∀ s, s < 4 → si = nI s → ¬ a 79 s = 0 → Po m L (wr a 73 (lyS (a 73) (fun i => aL 81 (40 * s + i)) (min (szA a s) (cA (a 73)))).1) aL Q (.int (lyS (a 73) (fun i => aL 81 (40 * s + i)) (min (szA a s) (cA (a 73)))).2)) (h2 : ∀ s, s < 4 → si = nI s → a 79 s = 0 → Po m L (rfA a 5) aL Q (.int (-1000000006))) (h0 : (∀ s, s < 4 → ¬ si = nI s) → Po m L (rfA a 0) aL Q (.int (-1000000001))) : CK E 2 MX11_lays [.ref (ev_z E + 0), .int si] m L Q := by
  refine CK.of rfl rfl (lv := [(0, _), (1, _)]) rfl ?_
  refine wk_aload_n (i := 0) (q := 1) dX11_lays_0 rfl rfl rfl ?_
  refine wk_iload_n (i := 1) (q := 2) dX11_lays_1 rfl rfl rfl ?_
  refine wk_V1r (d' := 1) (q := 5) lkX11_234 dX11_lays_2 rfl rfl rfl rfl rfl rfl rfl ?_
  refine ck_X11_sheetAt (fun s hs e => ?_) (fun hno => ?_)
  · skip
    subst e
    obtain ⟨q1, q2, q3⟩ := hC.2.2.2.1 s hs
    refine wk_astore_n (i := 2) (q := 6) (lv' := [_, _, _]) dX11_lays_5 rfl rfl rfl rfl ?_
    refine wk_aload_n (i := 2) (q := 7) dX11_lays_6 rfl rfl rfl ?_
    refine wk_ifnonnull (t := 17) dX11_lays_7 rfl ?_
    refine wk_aload_n (i := 2) (q := 18) dX11_lays_17 rfl rfl rfl ?_
    refine wk_V0r (d' := 1) (q := 21) lkX11_243 dX11_lays_18 (sh_s hs) rfl rfl rfl rfl rfl rfl ?_
    refine ck_X6_isMissing (sh_s hs) (fun hm => ?_) (fun hm => ?_)
    · skip
      rw [q1] at hm
      refine wk_if_eq (t := 31) (q := 24) dX11_lays_21 rfl rfl (fun h => absurd h (by decide)) (fun _ => ?_)
      refine wk_aload_n (i := 0) (q := 25) dX11_lays_24 rfl rfl rfl ?_
      refine wk_ldc (q := 27) dX11_lays_25 kX11_247 rfl ?_
      refine wk_V1r (d' := 1) (q := 30) lkX11_73 dX11_lays_27 rfl rfl rfl rfl rfl rfl rfl ?_
      refine ck_X11_refuse (i := 5) (by decide) (by decide) ?_
      refine wk_ireturn dX11_lays_30 rfl rfl ?_
      exact h2 s hs rfl hm _ _ hC.found (FC.rf.wr rfl)
    · skip
      rw [q1] at hm
      refine wk_if_eq (t := 31) (q := 24) dX11_lays_21 rfl rfl (fun _ => ?_) (fun h => absurd (by decide) h)
      refine wk_iconst (v := 0) (q := 32) dX11_lays_31 rfl rfl ?_
      refine wk_istore_n (i := 3) (q := 33) (lv' := [_, _, _, _]) dX11_lays_32 rfl rfl rfl rfl ?_
      refine wk_iconst (v := 0) (q := 34) dX11_lays_33 rfl rfl ?_
      refine wk_istore (i := 4) (q := 36) (lv' := [_, _, _, _, _]) dX11_lays_34 rfl rfl rfl ?_
      exact lp_X11_lays hC hO hs (h1 s hs rfl hm) (szA a s) 0 m 0 (by omega) (by rw [Nat.zero_min]; exact hC.1) frB.rf (by rw [Nat.zero_min]; rfl) _ rfl
  · skip
    refine wk_astore_nN (i := 2) (q := 6) (lv' := [_, _, _]) dX11_lays_5 rfl rfl rfl rfl ?_
    refine wk_aload_nN (i := 2) (q := 7) dX11_lays_6 rfl rfl rfl ?_
    refine wk_ifnonnullN (q := 10) dX11_lays_7 rfl ?_
    refine wk_aload_n (i := 0) (q := 11) dX11_lays_10 rfl rfl rfl ?_
    refine wk_ldc (q := 13) dX11_lays_11 kX11_72 rfl ?_
    refine wk_V1r (d' := 1) (q := 16) lkX11_73 dX11_lays_13 rfl rfl rfl rfl rfl rfl rfl ?_
    refine ck_X11_refuse (i := 0) (by decide) (by decide) ?_
    refine wk_ireturn dX11_lays_16 rfl rfl ?_
    exact h0 hno _ _ hC.found (FC.rf.wr rfl)
theorem lp_X11_book {si gi : Int32} {s g : Nat} (hC : CR m L a aL) (hO : OK D a) (hs : s < 4) (hg : g < cA (a 73)) (hQ : Po m L a (wrL aL 81 (bkR (a 79 s) (a 73 3) (a 73 4) (gv (a 73) g) (aL 81) s (szA a s))) Q (.int (nI (szA a s)))) : ∀ (r j : Nat) (v : Nat → Int32) (w : Nat → Int64), j + r = szA a s → E7 v (wshN (a 73 3) (a 73 4) (gv (a 73) g) j) → (∀ i, i < 40 → w i = bkR (a 79 s) (a 73 3) (a 73 4) (gv (a 73) g) (aL 81) s j (40 * s + i)) → WK E 4 MX11_book 65 [(0, .ref (ev_z E + 0)), (1, .int si), (2, .int gi), (3, .ref (ev_z E + (63 + 2 * s))), (4, .ref (ev_z E + (8 + 1 + 1 + g))), (5, .int (nI j))] [] (wr m 59 v) (wrL L (63 + 2 * s + 1) w) Q := by
  have hB := hC.1
  have hA := hO.1
  have hc8 := hA.1.2.1
  have e3 : m 8 6 = a 73 3 := hB.2.2.2.1
  have e4 : m 8 7 = a 73 4 := hB.2.2.2.2.1
  have hdg := hA.2.2.2.1
  have ho := hA.1.2.2 g hg
  obtain ⟨q1, q2, q3⟩ := hC.2.2.2.1 s hs
  obtain ⟨-, k1, k2⟩ := hO.2.2.2.1 s hs
  have n9 : 63 + 2 * s ≠ 59 := by omega
  have e2 : ∀ v, (wr m 59 v) (63 + 2 * s) 2 = nI (szA a s) := fun v => by rw [wr_n n9, q2, k1]
  have n8 : (8 : Nat) ≠ 59 := by decide
  intro r
  induction r with
  | zero =>
    intro j v w hj hv hw
    refine wk_iload (i := 5) (q := 67) dX11_book_65 rfl rfl ?_
    refine wk_aload_n (i := 3) (q := 68) dX11_book_67 rfl rfl rfl ?_
    refine wk_get (q := 71) fgX11_242 dX11_book_68 (sh_s hs) rfl rfl rfl ?_
    refine wk_icmp_ge (t := 115) (q := 74) dX11_book_71 rfl rfl (fun c71 => ?_) (fun h => absurd (by rw [e2]; exact nI_le (by omega) (by omega)) h)
    refine wk_aload_n (i := 3) (q := 116) dX11_book_115 rfl rfl rfl ?_
    refine wk_get (q := 119) fgX11_242 dX11_book_116 (sh_s hs) rfl rfl rfl ?_
    refine wk_ireturn dX11_book_119 rfl rfl ?_
    have e : j = szA a s := by omega
    rw [e2]
    rw [e] at hw
    exact hQ _ _ (CR_L hC.t59 hs hw (fun x hx => by unfold bkR; rw [if_neg (by omega)])) (FC_L (FC.rf.wr rfl) (by omega))
  | succ r ih =>
    intro j v w hj hv hw
    have hok : okG D v := hv.ok (ok_wshN ho (by omega) (by omega) j)
    refine wk_iload (i := 5) (q := 67) dX11_book_65 rfl rfl ?_
    refine wk_aload_n (i := 3) (q := 68) dX11_book_67 rfl rfl rfl ?_
    refine wk_get (q := 71) fgX11_242 dX11_book_68 (sh_s hs) rfl rfl rfl ?_
    refine wk_icmp_ge (t := 115) (q := 74) dX11_book_71 rfl rfl (fun h => absurd h (by rw [e2]; exact nI_ge (by omega) (by omega))) (fun c71 => ?_)
    refine wk_aload_n (i := 3) (q := 75) dX11_book_74 rfl rfl rfl ?_
    refine wk_iload (i := 5) (q := 77) dX11_book_75 rfl rfl ?_
    refine wk_aload_n (i := 0) (q := 78) dX11_book_77 rfl rfl rfl ?_
    refine wk_get (q := 81) fgX11_35 dX11_book_78 rfl rfl rfl rfl ?_
    refine wk_get (q := 84) fgX11_116 dX11_book_81 rfl rfl rfl rfl ?_
    rw [wr_s, hv 1 (by decide)]
    refine wk_i2l (q := 85) dX11_book_84 rfl ?_
    refine wk_V2v (d' := 2) (q := 88) lkX11_252 dX11_book_85 (sh_s hs) rfl rfl rfl rfl rfl rfl ?_
    refine ck_X6_put (n := j) (c := szA a s) (sh_s hs) (e2 v) k2 (by omega) ?_
    rw [wrL_wrL, wrL_s, wr_n n9, q1]
    refine wk_aload_n (i := 0) (q := 89) dX11_book_88 rfl rfl rfl ?_
    refine wk_get (q := 92) fgX11_35 dX11_book_89 rfl rfl rfl rfl ?_
    refine wk_aload_n (i := 0) (q := 93) dX11_book_92 rfl rfl rfl ?_
    refine wk_get (q := 96) fgX11_18 dX11_book_93 rfl rfl rfl rfl ?_
    refine wk_get (q := 99) fgX11_65 dX11_book_96 rfl rfl rfl rfl ?_
    refine wk_aload_n (i := 0) (q := 100) dX11_book_99 rfl rfl rfl ?_
    refine wk_get (q := 103) fgX11_18 dX11_book_100 rfl rfl rfl rfl ?_
    refine wk_get (q := 106) fgX11_69 dX11_book_103 rfl rfl rfl rfl ?_
    rw [wr_n n8, e3, e4]
    refine wk_V2v (d' := 3) (q := 109) lkX11_147 dX11_book_106 rfl rfl rfl rfl rfl rfl rfl ?_
    refine ck_X2_goThroughWash (D := D) rfl (by rw [wr_s]; exact hok) (by omega) (by omega) ?_
    rw [wr_wr, wr_s]
    refine wk_iinc (w := 1) (q := 112) (lv' := [_, _, _, _, _, _]) dX11_book_109 rfl rfl rfl rfl rfl ?_
    rw [nI_1]
    refine wk_goto (t := 65) dX11_book_112 rfl ?_
    refine ih (j + 1) _ _ (by omega) hv.wsh (fun i hi => ?_)
    unfold vp_updL
    by_cases e : i = j
    · (subst e; rw [if_pos rfl]; unfold bkR; rw [if_pos (by omega), show 40 * s + i - 40 * s = i by omega])
    · (rw [if_neg e, hw i hi]; unfold bkR; by_cases e2 : i < j; (rw [if_pos (by omega), if_pos (by omega)]); (rw [if_neg (by omega), if_neg (by omega)]))
theorem ck_X11_book {si gi : Int32} (hC : CR m L a aL) (hO : OK D a) (h1 : ∀ s g, s < 4 → g < cA (a 73) → si = nI s → gi = nI g → ¬ a 79 s = 0 → Po m L a (wrL aL 81 (bkR (a 79 s) (a 73 3) (a 73 4) (gv (a 73) g) (aL 81) s (szA a s))) Q (.int (nI (szA a s)))) (h2 : ∀ s, s < 4 → si = nI s → a 79 s = 0 → Po m L (rfA a 5) aL Q (.int (-1000000006))) (h3 : ∀ s, s < 4 → si = nI s → ¬ a 79 s = 0 → (∀ g, g < cA (a 73) → ¬ gi = nI g) → Po m L (rfA a 0) aL Q (.int (-1000000001))) (h0 : (∀ s, s < 4 → ¬ si = nI s) → Po m L (rfA a 0) aL Q (.int (-1000000001))) : CK E 4 MX11_book [.ref (ev_z E + 0), .int si, .int gi] m L Q := by
  have hB := hC.1
  have hA := hO.1
  have hc8 := hA.1.2.1
  refine CK.of rfl rfl (lv := [(0, _), (1, _), (2, _)]) rfl ?_
  refine wk_aload_n (i := 0) (q := 1) dX11_book_0 rfl rfl rfl ?_
  refine wk_iload_n (i := 1) (q := 2) dX11_book_1 rfl rfl rfl ?_
  refine wk_V1r (d' := 1) (q := 5) lkX11_234 dX11_book_2 rfl rfl rfl rfl rfl rfl rfl ?_
  refine ck_X11_sheetAt (fun s hs e => ?_) (fun hno => ?_)
  · skip
    subst e
    obtain ⟨q1, q2, q3⟩ := hC.2.2.2.1 s hs
    refine wk_astore_n (i := 3) (q := 6) (lv' := [_, _, _, _]) dX11_book_5 rfl rfl rfl rfl ?_
    refine wk_aload_n (i := 3) (q := 7) dX11_book_6 rfl rfl rfl ?_
    refine wk_ifnonnull (t := 17) dX11_book_7 rfl ?_
    refine wk_aload_n (i := 3) (q := 18) dX11_book_17 rfl rfl rfl ?_
    refine wk_V0r (d' := 1) (q := 21) lkX11_243 dX11_book_18 (sh_s hs) rfl rfl rfl rfl rfl rfl ?_
    refine ck_X6_isMissing (sh_s hs) (fun hm => ?_) (fun hm => ?_)
    · skip
      rw [q1] at hm
      refine wk_if_eq (t := 31) (q := 24) dX11_book_21 rfl rfl (fun h => absurd h (by decide)) (fun _ => ?_)
      refine wk_aload_n (i := 0) (q := 25) dX11_book_24 rfl rfl rfl ?_
      refine wk_ldc (q := 27) dX11_book_25 kX11_247 rfl ?_
      refine wk_V1r (d' := 1) (q := 30) lkX11_73 dX11_book_27 rfl rfl rfl rfl rfl rfl rfl ?_
      refine ck_X11_refuse (i := 5) (by decide) (by decide) ?_
      refine wk_ireturn dX11_book_30 rfl rfl ?_
      exact h2 s hs rfl hm _ _ hC.found (FC.rf.wr rfl)
    · skip
      rw [q1] at hm
      refine wk_if_eq (t := 31) (q := 24) dX11_book_21 rfl rfl (fun _ => ?_) (fun h => absurd (by decide) h)
      refine wk_aload_n (i := 0) (q := 32) dX11_book_31 rfl rfl rfl ?_
      refine wk_get (q := 35) fgX11_18 dX11_book_32 rfl rfl rfl rfl ?_
      refine wk_iload_n (i := 2) (q := 36) dX11_book_35 rfl rfl rfl ?_
      refine wk_V1r (d' := 1) (q := 39) lkX11_102 dX11_book_36 rfl rfl rfl rfl rfl rfl rfl ?_
      refine ck_X0_garmentAt (b := 8) (c := cA (a 73)) rfl (hB.1.trans hA.1.1) hc8 (fun g hg e => ?_) (fun hng => ?_)
      · skip
        subst e
        have hE := hB.e7 (g := g) (by omega)
        refine wk_astore (i := 4) (q := 41) (lv' := [_, _, _, _, _]) dX11_book_39 rfl rfl rfl ?_
        refine wk_aload (i := 4) (q := 43) dX11_book_41 rfl rfl ?_
        refine wk_ifnonnull (t := 53) dX11_book_43 rfl ?_
        refine wk_aload_n (i := 0) (q := 54) dX11_book_53 rfl rfl rfl ?_
        refine wk_get (q := 57) fgX11_35 dX11_book_54 rfl rfl rfl rfl ?_
        refine wk_aload (i := 4) (q := 59) dX11_book_57 rfl rfl ?_
        refine wk_V1v (d' := 1) (q := 62) lkX11_190 dX11_book_59 rfl rfl rfl rfl rfl rfl rfl ?_
        refine ck_X2_become rfl (sh_g sb_8 (by omega)) (by omega) ?_
        refine wk_iconst (v := 0) (q := 63) dX11_book_62 rfl rfl ?_
        refine wk_istore (i := 5) (q := 65) (lv' := [_, _, _, _, _, _]) dX11_book_63 rfl rfl rfl ?_
        have hl := lp_X11_book (E := E) (si := nI s) (gi := nI g) hC hO hs hg (h1 s g hs hg rfl rfl hm) (szA a s) 0 (cpG (m (8 + 1 + 1 + g)) (m 59)) (L (63 + 2 * s + 1)) (by omega) (E7.cp.trans hE) (fun i hi => by rw [q3 i hi]; unfold bkR; rw [if_neg (by omega)])
        rw [show wrL L (63 + 2 * s + 1) (L (63 + 2 * s + 1)) = L from by funext x; unfold wrL; split; (rename_i h; rw [h]); rfl] at hl
        exact hl
      · skip
        refine wk_astoreN (i := 4) (q := 41) (lv' := [_, _, _, _, _]) dX11_book_39 rfl rfl rfl ?_
        refine wk_aloadN (i := 4) (q := 43) dX11_book_41 rfl rfl ?_
        refine wk_ifnonnullN (q := 46) dX11_book_43 rfl ?_
        refine wk_aload_n (i := 0) (q := 47) dX11_book_46 rfl rfl rfl ?_
        refine wk_ldc (q := 49) dX11_book_47 kX11_72 rfl ?_
        refine wk_V1r (d' := 1) (q := 52) lkX11_73 dX11_book_49 rfl rfl rfl rfl rfl rfl rfl ?_
        refine ck_X11_refuse (i := 0) (by decide) (by decide) ?_
        refine wk_ireturn dX11_book_52 rfl rfl ?_
        exact h3 s hs rfl hm hng _ _ hC.found (FC.rf.wr rfl)
  · skip
    refine wk_astore_nN (i := 3) (q := 6) (lv' := [_, _, _, _]) dX11_book_5 rfl rfl rfl rfl ?_
    refine wk_aload_nN (i := 3) (q := 7) dX11_book_6 rfl rfl rfl ?_
    refine wk_ifnonnullN (q := 10) dX11_book_7 rfl ?_
    refine wk_aload_n (i := 0) (q := 11) dX11_book_10 rfl rfl rfl ?_
    refine wk_ldc (q := 13) dX11_book_11 kX11_72 rfl ?_
    refine wk_V1r (d' := 1) (q := 16) lkX11_73 dX11_book_13 rfl rfl rfl rfl rfl rfl rfl ?_
    refine ck_X11_refuse (i := 0) (by decide) (by decide) ?_
    refine wk_ireturn dX11_book_16 rfl rfl ?_
    exact h0 hno _ _ hC.found (FC.rf.wr rfl)
theorem lp_X11_explains {k dg : Int32} {s g : Nat} {u : Nat → Int32} (hC : CR m L a aL) (hO : OK D a) (hs : s < 4) (hg : g < cA (a 73)) (hu : okG D u) (d1 : 0 ≤ dg.toInt) (d2 : dg.toInt ≤ 95) (h1 : exB dg (a 73 4) u (fun i => aL 81 (40 * s + i)) (szA a s) = true → ∀ v, Q (.int 1) (wr m 59 v) L) (h0 : ¬ exB dg (a 73 4) u (fun i => aL 81 (40 * s + i)) (szA a s) = true → ∀ v, Q (.int 0) (wr m 59 v) L) : ∀ (r j : Nat) (v : Nat → Int32), j + r = szA a s → E7 v (wshN dg (a 73 4) u j) → exB dg (a 73 4) u (fun i => aL 81 (40 * s + i)) j = true → WK E 4 MX11_explains 14 [(0, .ref (ev_z E + 0)), (1, .ref (ev_z E + (63 + 2 * s))), (2, .ref (ev_z E + (8 + 1 + 1 + g))), (3, .int k), (4, .int dg), (5, .int (nI j))] [] (wr m 59 v) L Q := by
  have hB := hC.1
  have hA := hO.1
  have hc8 := hA.1.2.1
  have e4 : m 8 7 = a 73 4 := hB.2.2.2.2.1
  obtain ⟨q1, q2, q3⟩ := hC.2.2.2.1 s hs
  obtain ⟨-, k1, k2⟩ := hO.2.2.2.1 s hs
  have n9 : 63 + 2 * s ≠ 59 := by omega
  have e2 : ∀ v, (wr m 59 v) (63 + 2 * s) 2 = nI (szA a s) := fun v => by rw [wr_n n9, q2, k1]
  have n8 : (8 : Nat) ≠ 59 := by decide
  intro r
  induction r with
  | zero =>
    intro j v hj hv hx
    refine wk_iload (i := 5) (q := 16) dX11_explains_14 rfl rfl ?_
    refine wk_aload_n (i := 1) (q := 17) dX11_explains_16 rfl rfl rfl ?_
    refine wk_get (q := 20) fgX11_242 dX11_explains_17 (sh_s hs) rfl rfl rfl ?_
    refine wk_icmp_ge (t := 66) (q := 23) dX11_explains_20 rfl rfl (fun c20 => ?_) (fun h => absurd (by rw [e2]; exact nI_le (by omega) (by omega)) h)
    refine wk_iconst (v := 1) (q := 67) dX11_explains_66 rfl rfl ?_
    refine wk_ireturn dX11_explains_67 rfl rfl ?_
    have e : j = szA a s := by omega
    subst e
    exact h1 hx _
  | succ r ih =>
    intro j v hj hv hx
    have hok : okG D v := hv.ok (ok_wshN hu d1 d2 j)
    refine wk_iload (i := 5) (q := 16) dX11_explains_14 rfl rfl ?_
    refine wk_aload_n (i := 1) (q := 17) dX11_explains_16 rfl rfl rfl ?_
    refine wk_get (q := 20) fgX11_242 dX11_explains_17 (sh_s hs) rfl rfl rfl ?_
    refine wk_icmp_ge (t := 66) (q := 23) dX11_explains_20 rfl rfl (fun h => absurd h (by rw [e2]; exact nI_ge (by omega) (by omega))) (fun c20 => ?_)
    refine wk_aload_n (i := 1) (q := 24) dX11_explains_23 rfl rfl rfl ?_
    refine wk_get (q := 27) fgX11_248 dX11_explains_24 (sh_s hs) rfl rfl rfl ?_
    refine wk_iload (i := 5) (q := 29) dX11_explains_27 rfl rfl ?_
    refine wk_lald (n := j) (q := 30) dX11_explains_29 (sh_nu (sh_s hs)) rfl (by rw [show llen (63 + 2 * s + 1) = 40 from if_neg (by omega)]; omega) rfl ?_
    refine wk_aload_n (i := 0) (q := 31) dX11_explains_30 rfl rfl rfl ?_
    refine wk_get (q := 34) fgX11_35 dX11_explains_31 rfl rfl rfl rfl ?_
    refine wk_get (q := 37) fgX11_116 dX11_explains_34 rfl rfl rfl rfl ?_
    rw [wr_s, hv 1 (by decide), q3 j (by omega)]
    refine wk_i2l (q := 38) dX11_explains_37 rfl ?_
    refine wk_lcmp (q := 39) dX11_explains_38 rfl ?_
    refine wk_if_eq (t := 44) (q := 42) dX11_explains_39 rfl rfl (fun c39 => ?_) (fun c39 => ?_)
    · skip
      rw [lg_cmp_eq] at c39
      refine wk_aload_n (i := 0) (q := 45) dX11_explains_44 rfl rfl rfl ?_
      refine wk_get (q := 48) fgX11_35 dX11_explains_45 rfl rfl rfl rfl ?_
      refine wk_iload (i := 4) (q := 50) dX11_explains_48 rfl rfl ?_
      refine wk_aload_n (i := 0) (q := 51) dX11_explains_50 rfl rfl rfl ?_
      refine wk_get (q := 54) fgX11_18 dX11_explains_51 rfl rfl rfl rfl ?_
      refine wk_get (q := 57) fgX11_69 dX11_explains_54 rfl rfl rfl rfl ?_
      rw [wr_n n8, e4]
      refine wk_V2v (d' := 3) (q := 60) lkX11_147 dX11_explains_57 rfl rfl rfl rfl rfl rfl rfl ?_
      refine ck_X2_goThroughWash (D := D) rfl (by rw [wr_s]; exact hok) d1 d2 ?_
      rw [wr_wr, wr_s]
      refine wk_iinc (w := 1) (q := 63) (lv' := [_, _, _, _, _, _]) dX11_explains_60 rfl rfl rfl rfl rfl ?_
      rw [nI_1]
      refine wk_goto (t := 14) dX11_explains_63 rfl ?_
      exact ih (j + 1) _ (by omega) hv.wsh (by show (exB _ _ _ _ j && decide _) = true; rw [hx, Bool.true_and, decide_eq_true_iff]; exact c39)
    · skip
      rw [lg_cmp_eq] at c39
      refine wk_iconst (v := 0) (q := 43) dX11_explains_42 rfl rfl ?_
      refine wk_ireturn dX11_explains_43 rfl rfl ?_
      exact h0 (exB_f (F := fun i => aL 81 (40 * s + i)) c39 _ (by omega)) _
theorem ck_X11_explains {s g k N : Nat} (hC : CR m L a aL) (hO : OK D a) (hs : s < 4) (hg : g < cA (a 73)) (hk : k ≤ 5) (d1 : 20 ≤ N) (d2 : N ≤ 95) (h1 : exB (nI N) (a 73 4) (upd (gv (a 73) g) 0 (nI k)) (fun i => aL 81 (40 * s + i)) (szA a s) = true → ∀ v, Q (.int 1) (wr m 59 v) L) (h0 : ¬ exB (nI N) (a 73 4) (upd (gv (a 73) g) 0 (nI k)) (fun i => aL 81 (40 * s + i)) (szA a s) = true → ∀ v, Q (.int 0) (wr m 59 v) L) : CK E 4 MX11_explains [.ref (ev_z E + 0), .ref (ev_z E + (63 + 2 * s)), .ref (ev_z E + (8 + 1 + 1 + g)), .int (nI k), .int (nI N)] m L Q := by
  have hB := hC.1
  have hA := hO.1
  have hc8 := hA.1.2.1
  have hE := hB.e7 (g := g) (by omega)
  have ho := hA.1.2.2 g hg
  have hi := nI_toInt (n := k) (by omega)
  have hiN := nI_toInt (n := N) (by omega)
  have hok : okG D (upd (gv (a 73) g) 0 (nI k)) := by
    obtain ⟨o0, o1, o2, o3, o4, o5, o6⟩ := ho
    refine ⟨?_, ?_, ?_, ?_, ?_, ?_, ?_⟩
    · rw [upd_s, hi]; omega
    · rw [upd_n (by decide)]; exact o1
    · rw [upd_n (by decide)]; exact o2
    · rw [upd_n (by decide)]; exact o3
    · rw [upd_n (by decide)]; exact o4
    · rw [upd_n (by decide)]; exact o5
    · rw [upd_n (by decide)]; exact o6
  refine CK.of rfl rfl (lv := [(0, _), (1, _), (2, _), (3, _), (4, _)]) rfl ?_
  refine wk_aload_n (i := 0) (q := 1) dX11_explains_0 rfl rfl rfl ?_
  refine wk_aload_n (i := 2) (q := 2) dX11_explains_1 rfl rfl rfl ?_
  refine wk_iload_n (i := 3) (q := 3) dX11_explains_2 rfl rfl rfl ?_
  refine wk_V2r (d' := 2) (q := 6) lkX11_206 dX11_explains_3 rfl rfl rfl rfl rfl rfl rfl ?_
  refine ck_X11_tryAs (c := nI k) (sh_g sb_8 (by omega)) (by omega) (rng' (lo := 0) (hi := 5) (by omega) (by omega) hk) ?_
  refine wk_if_ne (t := 11) (q := 9) dX11_explains_6 rfl rfl (fun _ => ?_) (fun h => absurd h (by decide))
  refine wk_iconst (v := 0) (q := 12) dX11_explains_11 rfl rfl ?_
  refine wk_istore (i := 5) (q := 14) (lv' := [_, _, _, _, _, _]) dX11_explains_12 rfl rfl rfl ?_
  exact lp_X11_explains hC hO hs hg hok (by omega) (by omega) h1 h0 (szA a s) 0 _ (by omega) (E7_upd (E7.cp.trans hE)) rfl
theorem lp_X11_read {si gi : Int32} {s g : Nat} (hC : CR m L a aL) (hO : OK D a) (hs : s < 4) (hg : g < cA (a 73)) (hQ : Po m L a aL Q (.int (rdS (a 73 4) (gv (a 73) g) (fun i => aL 81 (40 * s + i)) (szA a s) 456))) : ∀ (r k : Nat), k + r = 6 → ∀ (r2 n : Nat) (v : Nat → Int32) (c : Int32) , n + r2 = 76 → k < 6 → c = rdS (a 73 4) (gv (a 73) g) (fun i => aL 81 (40 * s + i)) (szA a s) (76 * k + n) → WK E 5 MX11_read 70 [(0, .ref (ev_z E + 0)), (1, .int si), (2, .int gi), (3, .ref (ev_z E + (63 + 2 * s))), (4, .ref (ev_z E + (8 + 1 + 1 + g))), (5, .int c), (6, .int (nI k)), (7, .int (nI (n + 20)))] [] (wr m 59 v) L Q := by
  have hB := hC.1
  have hA := hO.1
  have hc8 := hA.1.2.1
  intro r
  induction r with
  | zero => intro k hk r2 n v c hn hk6; omega
  | succ r ihk =>
    intro k hk r2
    induction r2 with
    | zero =>
      intro n v c hn hk6 hc
      have e76 : n = 76 := by omega
      subst e76
      refine wk_iload (i := 7) (q := 72) dX11_read_70 rfl rfl ?_
      refine wk_bipush (v := 95) (q := 74) dX11_read_72 rfl rfl ?_
      refine wk_icmp_gt (t := 100) (q := 77) dX11_read_74 rfl rfl (fun c74 => ?_) (fun h => absurd (by decide) h)
      refine wk_iinc (w := 1) (q := 103) (lv' := [_, _, _, _, _, _, _, _]) dX11_read_100 rfl rfl rfl rfl rfl ?_
      rw [nI_1]
      refine wk_goto (t := 59) dX11_read_103 rfl ?_
      refine wk_iload (i := 6) (q := 61) dX11_read_59 rfl rfl ?_
      refine wk_bipush (v := 6) (q := 63) dX11_read_61 rfl rfl ?_
      refine wk_icmp_ge (t := 106) (q := 66) dX11_read_63 rfl rfl (fun c63 => ?_) (fun c63 => ?_)
      · skip
        have e6 : k + 1 = 6 := by (rcases Nat.lt_or_ge (k + 1) 6 with h | h; exact absurd c63 (nI_ge (b := 6) h (by omega)); omega)
        refine wk_iload (i := 5) (q := 108) dX11_read_106 rfl rfl ?_
        refine wk_ireturn dX11_read_108 rfl rfl ?_
        rw [hc, show 76 * k + 76 = 456 by omega]
        exact hQ _ _ hC.t59 (FC.rf.wr rfl)
      · skip
        have e6 : k + 1 < 6 := by (rcases Nat.lt_or_ge (k + 1) 6 with h | h; exact h; exact absurd (nI_le (a := 6) h (by omega)) c63)
        refine wk_bipush (v := 20) (q := 68) dX11_read_66 rfl rfl ?_
        refine wk_istore (i := 7) (q := 70) (lv' := [_, _, _, _, _, _, _, _]) dX11_read_68 rfl rfl rfl ?_
        exact ihk (k + 1) (by omega) 76 0 v c (by omega) e6 (by rw [hc, show 76 * k + 76 = 76 * (k + 1) + 0 by omega])
    | succ r2 ih =>
      intro n v c hn hk6 hc
      have hq : rdS (a 73 4) (gv (a 73) g) (fun i => aL 81 (40 * s + i)) (szA a s) (76 * k + (n + 1)) = rdS (a 73 4) (gv (a 73) g) (fun i => aL 81 (40 * s + i)) (szA a s) (76 * k + n) + (if exB (nI (n + 20)) (a 73 4) (upd (gv (a 73) g) 0 (nI k)) (fun i => aL 81 (40 * s + i)) (szA a s) = true then 1 else 0) := by
        rw [show 76 * k + (n + 1) = (76 * k + n) + 1 by omega, rdS_s, show (76 * k + n) % 76 = n by omega, show (76 * k + n) / 76 = k by omega]
      have hC9 : CR (wr m 59 v) L a aL := hC.t59
      refine wk_iload (i := 7) (q := 72) dX11_read_70 rfl rfl ?_
      refine wk_bipush (v := 95) (q := 74) dX11_read_72 rfl rfl ?_
      refine wk_icmp_gt (t := 100) (q := 77) dX11_read_74 rfl rfl (fun h => absurd h (nI_nlt (a := 95) (by omega) (by omega))) (fun c74 => ?_)
      refine wk_aload_n (i := 0) (q := 78) dX11_read_77 rfl rfl rfl ?_
      refine wk_aload_n (i := 3) (q := 79) dX11_read_78 rfl rfl rfl ?_
      refine wk_aload (i := 4) (q := 81) dX11_read_79 rfl rfl ?_
      refine wk_iload (i := 6) (q := 83) dX11_read_81 rfl rfl ?_
      refine wk_iload (i := 7) (q := 85) dX11_read_83 rfl rfl ?_
      refine wk_V4r (d' := 4) (q := 88) lkX11_272 dX11_read_85 rfl rfl rfl rfl rfl rfl rfl ?_
      refine ck_X11_explains (s := s) (g := g) (k := k) (N := n + 20) hC9 hO hs hg (by omega) (by omega) (by omega) (fun hx v1 => ?_) (fun hx v1 => ?_)
      · skip
        rw [wr_wr]
        rw [if_pos hx] at hq
        refine wk_if_eq (t := 94) (q := 91) dX11_read_88 rfl rfl (fun h => absurd h (by decide)) (fun _ => ?_)
        refine wk_iinc (w := 1) (q := 94) (lv' := [_, _, _, _, _, _, _, _]) dX11_read_91 rfl rfl rfl rfl rfl ?_
        refine wk_iinc (w := 1) (q := 97) (lv' := [_, _, _, _, _, _, _, _]) dX11_read_94 rfl rfl rfl rfl rfl ?_
        rw [nI_1]
        refine wk_goto (t := 70) dX11_read_97 rfl ?_
        rw [show n + 20 + 1 = (n + 1) + 20 by omega]
        exact ih (n + 1) v1 _ (by omega) hk6 (by rw [hq, hc])
      · skip
        rw [wr_wr]
        rw [if_neg hx, Int32.add_zero] at hq
        refine wk_if_eq (t := 94) (q := 91) dX11_read_88 rfl rfl (fun _ => ?_) (fun h => absurd (by decide) h)
        refine wk_iinc (w := 1) (q := 97) (lv' := [_, _, _, _, _, _, _, _]) dX11_read_94 rfl rfl rfl rfl rfl ?_
        rw [nI_1]
        refine wk_goto (t := 70) dX11_read_97 rfl ?_
        rw [show n + 20 + 1 = (n + 1) + 20 by omega]
        exact ih (n + 1) v1 _ (by omega) hk6 (by rw [hq, hc])
theorem ck_X11_read {si gi : Int32} (hC : CR m L a aL) (hO : OK D a) (h1 : ∀ s g, s < 4 → g < cA (a 73) → si = nI s → gi = nI g → ¬ a 79 s = 0 → Po m L a aL Q (.int (rdS (a 73 4) (gv (a 73) g) (fun i => aL 81 (40 * s + i)) (szA a s) 456))) (h2 : ∀ s, s < 4 → si = nI s → a 79 s = 0 → Po m L (rfA a 5) aL Q (.int (-1000000006))) (h3 : ∀ s, s < 4 → si = nI s → ¬ a 79 s = 0 → (∀ g, g < cA (a 73) → ¬ gi = nI g) → Po m L (rfA a 0) aL Q (.int (-1000000001))) (h0 : (∀ s, s < 4 → ¬ si = nI s) → Po m L (rfA a 0) aL Q (.int (-1000000001))) : CK E 5 MX11_read [.ref (ev_z E + 0), .int si, .int gi] m L Q := by
  have hB := hC.1
  have hA := hO.1
  have hc8 := hA.1.2.1
  refine CK.of rfl rfl (lv := [(0, _), (1, _), (2, _)]) rfl ?_
  refine wk_aload_n (i := 0) (q := 1) dX11_read_0 rfl rfl rfl ?_
  refine wk_iload_n (i := 1) (q := 2) dX11_read_1 rfl rfl rfl ?_
  refine wk_V1r (d' := 1) (q := 5) lkX11_234 dX11_read_2 rfl rfl rfl rfl rfl rfl rfl ?_
  refine ck_X11_sheetAt (fun s hs e => ?_) (fun hno => ?_)
  · skip
    subst e
    obtain ⟨q1, q2, q3⟩ := hC.2.2.2.1 s hs
    refine wk_astore_n (i := 3) (q := 6) (lv' := [_, _, _, _]) dX11_read_5 rfl rfl rfl rfl ?_
    refine wk_aload_n (i := 3) (q := 7) dX11_read_6 rfl rfl rfl ?_
    refine wk_ifnonnull (t := 17) dX11_read_7 rfl ?_
    refine wk_aload_n (i := 3) (q := 18) dX11_read_17 rfl rfl rfl ?_
    refine wk_V0r (d' := 1) (q := 21) lkX11_243 dX11_read_18 (sh_s hs) rfl rfl rfl rfl rfl rfl ?_
    refine ck_X6_isMissing (sh_s hs) (fun hm => ?_) (fun hm => ?_)
    · skip
      rw [q1] at hm
      refine wk_if_eq (t := 31) (q := 24) dX11_read_21 rfl rfl (fun h => absurd h (by decide)) (fun _ => ?_)
      refine wk_aload_n (i := 0) (q := 25) dX11_read_24 rfl rfl rfl ?_
      refine wk_ldc (q := 27) dX11_read_25 kX11_247 rfl ?_
      refine wk_V1r (d' := 1) (q := 30) lkX11_73 dX11_read_27 rfl rfl rfl rfl rfl rfl rfl ?_
      refine ck_X11_refuse (i := 5) (by decide) (by decide) ?_
      refine wk_ireturn dX11_read_30 rfl rfl ?_
      exact h2 s hs rfl hm _ _ hC.found (FC.rf.wr rfl)
    · skip
      rw [q1] at hm
      refine wk_if_eq (t := 31) (q := 24) dX11_read_21 rfl rfl (fun _ => ?_) (fun h => absurd (by decide) h)
      refine wk_aload_n (i := 0) (q := 32) dX11_read_31 rfl rfl rfl ?_
      refine wk_get (q := 35) fgX11_18 dX11_read_32 rfl rfl rfl rfl ?_
      refine wk_iload_n (i := 2) (q := 36) dX11_read_35 rfl rfl rfl ?_
      refine wk_V1r (d' := 1) (q := 39) lkX11_102 dX11_read_36 rfl rfl rfl rfl rfl rfl rfl ?_
      refine ck_X0_garmentAt (b := 8) (c := cA (a 73)) rfl (hB.1.trans hA.1.1) hc8 (fun g hg e => ?_) (fun hng => ?_)
      · skip
        subst e
        refine wk_astore (i := 4) (q := 41) (lv' := [_, _, _, _, _]) dX11_read_39 rfl rfl rfl ?_
        refine wk_aload (i := 4) (q := 43) dX11_read_41 rfl rfl ?_
        refine wk_ifnonnull (t := 53) dX11_read_43 rfl ?_
        refine wk_iconst (v := 0) (q := 54) dX11_read_53 rfl rfl ?_
        refine wk_istore (i := 5) (q := 56) (lv' := [_, _, _, _, _, _]) dX11_read_54 rfl rfl rfl ?_
        refine wk_iconst (v := 0) (q := 57) dX11_read_56 rfl rfl ?_
        refine wk_istore (i := 6) (q := 59) (lv' := [_, _, _, _, _, _, _]) dX11_read_57 rfl rfl rfl ?_
        refine wk_iload (i := 6) (q := 61) dX11_read_59 rfl rfl ?_
        refine wk_bipush (v := 6) (q := 63) dX11_read_61 rfl rfl ?_
        refine wk_icmp_ge (t := 106) (q := 66) dX11_read_63 rfl rfl (fun h => absurd h (by decide)) (fun _ => ?_)
        refine wk_bipush (v := 20) (q := 68) dX11_read_66 rfl rfl ?_
        refine wk_istore (i := 7) (q := 70) (lv' := [_, _, _, _, _, _, _, _]) dX11_read_68 rfl rfl rfl ?_
        have hl := lp_X11_read (E := E) (si := nI s) (gi := nI g) hC hO hs hg (h1 s g hs hg rfl rfl hm) 6 0 (by omega) 76 0 (m 59) 0 (by omega) (by omega) rfl
        rw [wr_self] at hl
        exact hl
      · skip
        refine wk_astoreN (i := 4) (q := 41) (lv' := [_, _, _, _, _]) dX11_read_39 rfl rfl rfl ?_
        refine wk_aloadN (i := 4) (q := 43) dX11_read_41 rfl rfl ?_
        refine wk_ifnonnullN (q := 46) dX11_read_43 rfl ?_
        refine wk_aload_n (i := 0) (q := 47) dX11_read_46 rfl rfl rfl ?_
        refine wk_ldc (q := 49) dX11_read_47 kX11_72 rfl ?_
        refine wk_V1r (d' := 1) (q := 52) lkX11_73 dX11_read_49 rfl rfl rfl rfl rfl rfl rfl ?_
        refine ck_X11_refuse (i := 0) (by decide) (by decide) ?_
        refine wk_ireturn dX11_read_52 rfl rfl ?_
        exact h3 s hs rfl hm hng _ _ hC.found (FC.rf.wr rfl)
  · skip
    refine wk_astore_nN (i := 3) (q := 6) (lv' := [_, _, _, _]) dX11_read_5 rfl rfl rfl rfl ?_
    refine wk_aload_nN (i := 3) (q := 7) dX11_read_6 rfl rfl rfl ?_
    refine wk_ifnonnullN (q := 10) dX11_read_7 rfl ?_
    refine wk_aload_n (i := 0) (q := 11) dX11_read_10 rfl rfl rfl ?_
    refine wk_ldc (q := 13) dX11_read_11 kX11_72 rfl ?_
    refine wk_V1r (d' := 1) (q := 16) lkX11_73 dX11_read_13 rfl rfl rfl rfl rfl rfl rfl ?_
    refine ck_X11_refuse (i := 0) (by decide) (by decide) ?_
    refine wk_ireturn dX11_read_16 rfl rfl ?_
    exact h0 hno _ _ hC.found (FC.rf.wr rfl)
end CR1
