/-! the class's calls, third part: what is best -/
theorem nI_dec (n : Nat) : nI (n + 1) + (-1) = nI n := by
  rw [nI_succ, Int32.add_assoc, show (1 : Int32) + (-1) = 0 from by decide, Int32.add_zero]
def lenK (d t : Int32) (v : Nat → Int32) (N k : Nat) : Int32 := wshN d t (upd v 0 (nI k)) N 1
def bkS (d t : Int32) (v : Nat → Int32) (N : Nat) : Nat → Int32 × Int32
  | 0 => (0, -1)
  | k + 1 => if (bkS d t v N k).2 < lenK d t v N k then (nI k, lenK d t v N k) else bkS d t v N k
def shS (A : Nat → Int32) (N : Nat) : Nat → Int32 × Int32
  | 0 => (-1, 999)
  | g + 1 => if wshN (A 3) (A 4) (gv A g) N 1 < (shS A N g).2 then (nI g, wshN (A 3) (A 4) (gv A g) N 1) else shS A N g
theorem shS_b {A : Nat → Int32} {N c : Nat} (h : ∀ g, g < c → 10 ≤ (wshN (A 3) (A 4) (gv A g) N 1).toInt ∧ (wshN (A 3) (A 4) (gv A g) N 1).toInt ≤ 200) : ∀ g, 0 < g → g ≤ c → (∃ j, j < g ∧ (shS A N g).1 = nI j) ∧ (shS A N g).2.toInt ≤ 200
  | 0, h0, _ => absurd h0 (Nat.lt_irrefl 0)
  | 1, _, hc => by
    have h1 := h 0 (by omega)
    have e : shS A N 1 = (nI 0, wshN (A 3) (A 4) (gv A 0) N 1) := by
      have key : wshN (A 3) (A 4) (gv A 0) N 1 < (999 : Int32) := by rw [fa_lt, show (999 : Int32).toInt = 999 by decide]; omega
      show (if wshN (A 3) (A 4) (gv A 0) N 1 < (999 : Int32) then (nI 0, wshN (A 3) (A 4) (gv A 0) N 1) else (-1, 999)) = _
      rw [if_pos key]
    rw [e]
    exact ⟨⟨0, by omega, rfl⟩, h1.2⟩
  | g + 2, _, hc => by
    have ih := shS_b h (g + 1) (by omega) (by omega)
    have h1 := h (g + 1) (by omega)
    have e : shS A N (g + 2) = if wshN (A 3) (A 4) (gv A (g + 1)) N 1 < (shS A N (g + 1)).2 then (nI (g + 1), wshN (A 3) (A 4) (gv A (g + 1)) N 1) else shS A N (g + 1) := rfl
    rw [e]
    split
    · exact ⟨⟨g + 1, by omega, rfl⟩, h1.2⟩
    · obtain ⟨⟨j, hj, e⟩, h2⟩ := ih
      exact ⟨⟨j, by omega, e⟩, h2⟩
section CO
variable {E : EVt} {m : Mm} {L : Ml} {Q : Value → Mm → Ml → Prop} {a : Mm} {aL : Ml} {D : Nat}
theorem lp_X11_washes {i pi : Int32} {g p : Nat} (hC : CR m L a aL) (hO : OK D a) (hD : D ≤ 10000000) (hg : g < cA (a 73)) (hp : p < pA (a 73)) (h1 : ∀ N, 1 ≤ N → N ≤ 40 → fitP (wsd (a 73 3) (a 73 4) (gv (a 73) g) N 0) (a 73 (61 + 2 * p)) (a 73 (61 + 2 * p + 1)) → (∀ k, 1 ≤ k → k < N → ¬ fitP (wsd (a 73 3) (a 73 4) (gv (a 73) g) k 0) (a 73 (61 + 2 * p)) (a 73 (61 + 2 * p + 1))) → Po m L a aL Q (.int (nI N))) (h0 : (∀ k, 1 ≤ k → k ≤ 40 → ¬ fitP (wsd (a 73 3) (a 73 4) (gv (a 73) g) k 0) (a 73 (61 + 2 * p)) (a 73 (61 + 2 * p + 1))) → Po m L (rfA a 3) aL Q (.int (-1000000004))) : ∀ (r j : Nat) (v : Nat → Int32), j + r = 41 → 1 ≤ j → (∀ k, 1 ≤ k → k < j → ¬ fitP (wsd (a 73 3) (a 73 4) (gv (a 73) g) k 0) (a 73 (61 + 2 * p)) (a 73 (61 + 2 * p + 1))) → WK E 6 MX11_washes 38 [(0, .ref (ev_z E + 0)), (1, .int i), (2, .int pi), (3, .ref (ev_z E + (8 + 1 + 1 + g))), (4, .ref (ev_z E + (8 + 10 + 1 + p))), (5, .int (nI j))] [] (wr m 59 v) L Q := by
  have hB := hC.1
  have hA := hO.1
  have hc8 := hA.1.2.1
  have hp6 := hA.2.1.2.1
  have e3 : m 8 6 = a 73 3 := hB.2.2.2.1
  have hdg := hA.2.2.2.1
  intro r
  induction r with
  | zero =>
    intro j v hj hj1 hno
    refine wk_iload (i := 5) (q := 40) dX11_washes_38 rfl rfl ?_
    refine wk_bipush (v := 40) (q := 42) dX11_washes_40 rfl rfl ?_
    refine wk_icmp_gt (t := 74) (q := 45) dX11_washes_42 rfl rfl (fun c42 => ?_) (fun h => absurd (nI_lt (a := 40) (by omega) (by omega)) h)
    refine wk_aload_n (i := 0) (q := 75) dX11_washes_74 rfl rfl rfl ?_
    refine wk_ldc (q := 77) dX11_washes_75 kX11_205 rfl ?_
    refine wk_V1r (d' := 1) (q := 80) lkX11_73 dX11_washes_77 rfl rfl rfl rfl rfl rfl rfl ?_
    refine ck_X11_refuse (i := 3) (by decide) (by decide) ?_
    refine wk_ireturn dX11_washes_80 rfl rfl ?_
    exact h0 (fun k h1 h2 => hno k h1 (by omega)) _ _ hC.t59.found ((FC.rf.wr rfl).wr rfl)
  | succ r ih =>
    intro j v hj hj1 hno
    refine wk_iload (i := 5) (q := 40) dX11_washes_38 rfl rfl ?_
    refine wk_bipush (v := 40) (q := 42) dX11_washes_40 rfl rfl ?_
    refine wk_icmp_gt (t := 74) (q := 45) dX11_washes_42 rfl rfl (fun h => absurd h (nI_nlt (a := 40) (by omega) (by omega))) (fun c42 => ?_)
    refine wk_aload_n (i := 0) (q := 46) dX11_washes_45 rfl rfl rfl ?_
    refine wk_aload_n (i := 3) (q := 47) dX11_washes_46 rfl rfl rfl ?_
    refine wk_aload (i := 4) (q := 49) dX11_washes_47 rfl rfl ?_
    refine wk_iload (i := 5) (q := 51) dX11_washes_49 rfl rfl ?_
    refine wk_aload_n (i := 0) (q := 52) dX11_washes_51 rfl rfl rfl ?_
    refine wk_get (q := 55) fgX11_18 dX11_washes_52 rfl rfl rfl rfl ?_
    refine wk_get (q := 58) fgX11_65 dX11_washes_55 rfl rfl rfl rfl ?_
    rw [wr_n (show (8 : Nat) ≠ 59 by decide), e3]
    refine wk_iconst (v := 0) (q := 59) dX11_washes_58 rfl rfl ?_
    refine wk_V5r (d' := 5) (q := 62) lkX11_201 dX11_washes_59 rfl rfl rfl rfl rfl rfl rfl ?_
    refine ck_X11_wouldSuit (g := g) (p := p) (N := j) (A := a 73) (D := D) (by omega) hD (hB.mov (fun k _ _ => wr_n (by omega))) hA hg hp (by omega) (by omega) (by decide) (by decide) (fun hf v1 => ?_) (fun hf v1 => ?_)
    · skip
      rw [wr_wr]
      refine wk_if_eq (t := 68) (q := 65) dX11_washes_62 rfl rfl (fun h => absurd h (by decide)) (fun _ => ?_)
      refine wk_iload (i := 5) (q := 67) dX11_washes_65 rfl rfl ?_
      refine wk_ireturn dX11_washes_67 rfl rfl ?_
      exact h1 j hj1 (by omega) hf hno _ _ hC.t59 (FC.rf.wr rfl)
    · skip
      rw [wr_wr]
      refine wk_if_eq (t := 68) (q := 65) dX11_washes_62 rfl rfl (fun _ => ?_) (fun h => absurd (by decide) h)
      refine wk_iinc (w := 1) (q := 71) (lv' := [_, _, _, _, _, _]) dX11_washes_68 rfl rfl rfl rfl rfl ?_
      rw [nI_1]
      refine wk_goto (t := 38) dX11_washes_71 rfl ?_
      refine ih (j + 1) v1 (by omega) (by omega) (fun k h1 h2 => ?_)
      rcases Nat.lt_or_ge k j with h | h
      · exact hno k h1 h
      · (have e : k = j := (by omega); subst e; exact hf)
theorem ck_X11_washes {i pi : Int32} (hC : CR m L a aL) (hO : OK D a) (hD : D ≤ 10000000) (h1 : ∀ g p N, g < cA (a 73) → p < pA (a 73) → i = nI g → pi = nI p → 1 ≤ N → N ≤ 40 → fitP (wsd (a 73 3) (a 73 4) (gv (a 73) g) N 0) (a 73 (61 + 2 * p)) (a 73 (61 + 2 * p + 1)) → (∀ k, 1 ≤ k → k < N → ¬ fitP (wsd (a 73 3) (a 73 4) (gv (a 73) g) k 0) (a 73 (61 + 2 * p)) (a 73 (61 + 2 * p + 1))) → Po m L a aL Q (.int (nI N))) (h2 : ∀ g p, g < cA (a 73) → p < pA (a 73) → i = nI g → pi = nI p → (∀ k, 1 ≤ k → k ≤ 40 → ¬ fitP (wsd (a 73 3) (a 73 4) (gv (a 73) g) k 0) (a 73 (61 + 2 * p)) (a 73 (61 + 2 * p + 1))) → Po m L (rfA a 3) aL Q (.int (-1000000004))) (h0 : (∀ g p, g < cA (a 73) → p < pA (a 73) → ¬ (i = nI g ∧ pi = nI p)) → Po m L (rfA a 0) aL Q (.int (-1000000001))) : CK E 6 MX11_washes [.ref (ev_z E + 0), .int i, .int pi] m L Q := by
  have hB := hC.1
  have hA := hO.1
  have hc8 := hA.1.2.1
  have hp6 := hA.2.1.2.1
  refine CK.of rfl rfl (lv := [(0, _), (1, _), (2, _)]) rfl ?_
  refine wk_aload_n (i := 0) (q := 1) dX11_washes_0 rfl rfl rfl ?_
  refine wk_get (q := 4) fgX11_18 dX11_washes_1 rfl rfl rfl rfl ?_
  refine wk_iload_n (i := 1) (q := 5) dX11_washes_4 rfl rfl rfl ?_
  refine wk_V1r (d' := 1) (q := 8) lkX11_102 dX11_washes_5 rfl rfl rfl rfl rfl rfl rfl ?_
  refine ck_X0_garmentAt (b := 8) (c := cA (a 73)) rfl (hB.1.trans hA.1.1) hc8 (fun g hg e => ?_) (fun hno => ?_)
  · skip
    subst e
    refine wk_astore_n (i := 3) (q := 9) (lv' := [_, _, _, _]) dX11_washes_8 rfl rfl rfl rfl ?_
    refine wk_aload_n (i := 0) (q := 10) dX11_washes_9 rfl rfl rfl ?_
    refine wk_get (q := 13) fgX11_18 dX11_washes_10 rfl rfl rfl rfl ?_
    refine wk_iload_n (i := 2) (q := 14) dX11_washes_13 rfl rfl rfl ?_
    refine wk_V1r (d' := 1) (q := 17) lkX11_174 dX11_washes_14 rfl rfl rfl rfl rfl rfl rfl ?_
    refine ck_X0_personAt (b := 8) (c := pA (a 73)) rfl (hB.2.1.trans hA.2.1.1) hp6 (fun p hp e => ?_) (fun hnp => ?_)
    · skip
      subst e
      refine wk_astore (i := 4) (q := 19) (lv' := [_, _, _, _, _]) dX11_washes_17 rfl rfl rfl ?_
      refine wk_aload_n (i := 3) (q := 20) dX11_washes_19 rfl rfl rfl ?_
      refine wk_ifnull (q := 23) dX11_washes_20 rfl ?_
      refine wk_aload (i := 4) (q := 25) dX11_washes_23 rfl rfl ?_
      refine wk_ifnonnull (t := 35) dX11_washes_25 rfl ?_
      refine wk_iconst (v := 1) (q := 36) dX11_washes_35 rfl rfl ?_
      refine wk_istore (i := 5) (q := 38) (lv' := [_, _, _, _, _, _]) dX11_washes_36 rfl rfl rfl ?_
      have hl := lp_X11_washes (E := E) (i := nI g) (pi := nI p) hC hO hD hg hp (fun N => h1 g p N hg hp rfl rfl) (h2 g p hg hp rfl rfl) 40 1 (m 59) (by omega) (by omega) (fun k q1 q2 => absurd q1 (by omega))
      rw [wr_self] at hl
      exact hl
    · skip
      refine wk_astoreN (i := 4) (q := 19) (lv' := [_, _, _, _, _]) dX11_washes_17 rfl rfl rfl ?_
      refine wk_aload_n (i := 3) (q := 20) dX11_washes_19 rfl rfl rfl ?_
      refine wk_ifnull (q := 23) dX11_washes_20 rfl ?_
      refine wk_aloadN (i := 4) (q := 25) dX11_washes_23 rfl rfl ?_
      refine wk_ifnonnullN (q := 28) dX11_washes_25 rfl ?_
      refine wk_aload_n (i := 0) (q := 29) dX11_washes_28 rfl rfl rfl ?_
      refine wk_ldc (q := 31) dX11_washes_29 kX11_72 rfl ?_
      refine wk_V1r (d' := 1) (q := 34) lkX11_73 dX11_washes_31 rfl rfl rfl rfl rfl rfl rfl ?_
      refine ck_X11_refuse (i := 0) (by decide) (by decide) ?_
      refine wk_ireturn dX11_washes_34 rfl rfl ?_
      refine h0 (fun g' p' hg' hp' h => ?_) _ _ hC.found (FC.rf.wr rfl)
      first | exact hno g' hg' h.1 | exact hnp p' hp' h.2
  · skip
    refine wk_astore_nN (i := 3) (q := 9) (lv' := [_, _, _, _]) dX11_washes_8 rfl rfl rfl rfl ?_
    refine wk_aload_n (i := 0) (q := 10) dX11_washes_9 rfl rfl rfl ?_
    refine wk_get (q := 13) fgX11_18 dX11_washes_10 rfl rfl rfl rfl ?_
    refine wk_iload_n (i := 2) (q := 14) dX11_washes_13 rfl rfl rfl ?_
    refine wk_V1r (d' := 1) (q := 17) lkX11_174 dX11_washes_14 rfl rfl rfl rfl rfl rfl rfl ?_
    refine ck_X0_personAt (b := 8) (c := pA (a 73)) rfl (hB.2.1.trans hA.2.1.1) hp6 (fun p hp e => ?_) (fun hnp => ?_)
    · skip
      subst e
      refine wk_astore (i := 4) (q := 19) (lv' := [_, _, _, _, _]) dX11_washes_17 rfl rfl rfl ?_
      refine wk_aload_nN (i := 3) (q := 20) dX11_washes_19 rfl rfl rfl ?_
      refine wk_ifnullN (t := 28) dX11_washes_20 rfl ?_
      refine wk_aload_n (i := 0) (q := 29) dX11_washes_28 rfl rfl rfl ?_
      refine wk_ldc (q := 31) dX11_washes_29 kX11_72 rfl ?_
      refine wk_V1r (d' := 1) (q := 34) lkX11_73 dX11_washes_31 rfl rfl rfl rfl rfl rfl rfl ?_
      refine ck_X11_refuse (i := 0) (by decide) (by decide) ?_
      refine wk_ireturn dX11_washes_34 rfl rfl ?_
      refine h0 (fun g' p' hg' hp' h => ?_) _ _ hC.found (FC.rf.wr rfl)
      first | exact hno g' hg' h.1 | exact hnp p' hp' h.2
    · skip
      refine wk_astoreN (i := 4) (q := 19) (lv' := [_, _, _, _, _]) dX11_washes_17 rfl rfl rfl ?_
      refine wk_aload_nN (i := 3) (q := 20) dX11_washes_19 rfl rfl rfl ?_
      refine wk_ifnullN (t := 28) dX11_washes_20 rfl ?_
      refine wk_aload_n (i := 0) (q := 29) dX11_washes_28 rfl rfl rfl ?_
      refine wk_ldc (q := 31) dX11_washes_29 kX11_72 rfl ?_
      refine wk_V1r (d' := 1) (q := 34) lkX11_73 dX11_washes_31 rfl rfl rfl rfl rfl rfl rfl ?_
      refine ck_X11_refuse (i := 0) (by decide) (by decide) ?_
      refine wk_ireturn dX11_washes_34 rfl rfl ?_
      refine h0 (fun g' p' hg' hp' h => ?_) _ _ hC.found (FC.rf.wr rfl)
      first | exact hno g' hg' h.1 | exact hnp p' hp' h.2
theorem lp_X11_pull {i pi : Int32} {g p : Nat} (hC : CR m L a aL) (hO : OK D a) (hD : D ≤ 10000000) (hg : g < cA (a 73)) (hp : p < pA (a 73)) (h1 : ∀ N, N ≤ 50 → fitP (wsd (a 73 3) (a 73 4) (gv (a 73) g) 1 (nI N)) (a 73 (61 + 2 * p)) (a 73 (61 + 2 * p + 1)) → (∀ k, k < N → ¬ fitP (wsd (a 73 3) (a 73 4) (gv (a 73) g) 1 (nI k)) (a 73 (61 + 2 * p)) (a 73 (61 + 2 * p + 1))) → Po m L a aL Q (.int (nI N))) (h0 : (∀ k, k ≤ 50 → ¬ fitP (wsd (a 73 3) (a 73 4) (gv (a 73) g) 1 (nI k)) (a 73 (61 + 2 * p)) (a 73 (61 + 2 * p + 1))) → Po m L (rfA a 3) aL Q (.int (-1000000004))) : ∀ (r j : Nat) (v : Nat → Int32), j + r = 51 → (∀ k, k < j → ¬ fitP (wsd (a 73 3) (a 73 4) (gv (a 73) g) 1 (nI k)) (a 73 (61 + 2 * p)) (a 73 (61 + 2 * p + 1))) → WK E 6 MX11_pull 38 [(0, .ref (ev_z E + 0)), (1, .int i), (2, .int pi), (3, .ref (ev_z E + (8 + 1 + 1 + g))), (4, .ref (ev_z E + (8 + 10 + 1 + p))), (5, .int (nI j))] [] (wr m 59 v) L Q := by
  have hB := hC.1
  have hA := hO.1
  have hc8 := hA.1.2.1
  have hp6 := hA.2.1.2.1
  have e3 : m 8 6 = a 73 3 := hB.2.2.2.1
  have hdg := hA.2.2.2.1
  intro r
  induction r with
  | zero =>
    intro j v hj hno
    refine wk_iload (i := 5) (q := 40) dX11_pull_38 rfl rfl ?_
    refine wk_bipush (v := 50) (q := 42) dX11_pull_40 rfl rfl ?_
    refine wk_icmp_gt (t := 74) (q := 45) dX11_pull_42 rfl rfl (fun c42 => ?_) (fun h => absurd (nI_lt (a := 50) (by omega) (by omega)) h)
    refine wk_aload_n (i := 0) (q := 75) dX11_pull_74 rfl rfl rfl ?_
    refine wk_ldc (q := 77) dX11_pull_75 kX11_205 rfl ?_
    refine wk_V1r (d' := 1) (q := 80) lkX11_73 dX11_pull_77 rfl rfl rfl rfl rfl rfl rfl ?_
    refine ck_X11_refuse (i := 3) (by decide) (by decide) ?_
    refine wk_ireturn dX11_pull_80 rfl rfl ?_
    exact h0 (fun k h2 => hno k (by omega)) _ _ hC.t59.found ((FC.rf.wr rfl).wr rfl)
  | succ r ih =>
    intro j v hj hno
    have hi := nI_toInt (n := j) (by omega)
    refine wk_iload (i := 5) (q := 40) dX11_pull_38 rfl rfl ?_
    refine wk_bipush (v := 50) (q := 42) dX11_pull_40 rfl rfl ?_
    refine wk_icmp_gt (t := 74) (q := 45) dX11_pull_42 rfl rfl (fun h => absurd h (nI_nlt (a := 50) (by omega) (by omega))) (fun c42 => ?_)
    refine wk_aload_n (i := 0) (q := 46) dX11_pull_45 rfl rfl rfl ?_
    refine wk_aload_n (i := 3) (q := 47) dX11_pull_46 rfl rfl rfl ?_
    refine wk_aload (i := 4) (q := 49) dX11_pull_47 rfl rfl ?_
    refine wk_iconst (v := 1) (q := 50) dX11_pull_49 rfl rfl ?_
    refine wk_aload_n (i := 0) (q := 51) dX11_pull_50 rfl rfl rfl ?_
    refine wk_get (q := 54) fgX11_18 dX11_pull_51 rfl rfl rfl rfl ?_
    refine wk_get (q := 57) fgX11_65 dX11_pull_54 rfl rfl rfl rfl ?_
    rw [wr_n (show (8 : Nat) ≠ 59 by decide), e3]
    refine wk_iload (i := 5) (q := 59) dX11_pull_57 rfl rfl ?_
    refine wk_V5r (d' := 5) (q := 62) lkX11_201 dX11_pull_59 rfl rfl rfl rfl rfl rfl rfl ?_
    refine ck_X11_wouldSuit (g := g) (p := p) (N := 1) (A := a 73) (D := D) (by omega) hD (hB.mov (fun k _ _ => wr_n (by omega))) hA hg hp (by omega) (by omega) (by omega) (by omega) (fun hf v1 => ?_) (fun hf v1 => ?_)
    · skip
      rw [wr_wr]
      refine wk_if_eq (t := 68) (q := 65) dX11_pull_62 rfl rfl (fun h => absurd h (by decide)) (fun _ => ?_)
      refine wk_iload (i := 5) (q := 67) dX11_pull_65 rfl rfl ?_
      refine wk_ireturn dX11_pull_67 rfl rfl ?_
      exact h1 j (by omega) hf hno _ _ hC.t59 (FC.rf.wr rfl)
    · skip
      rw [wr_wr]
      refine wk_if_eq (t := 68) (q := 65) dX11_pull_62 rfl rfl (fun _ => ?_) (fun h => absurd (by decide) h)
      refine wk_iinc (w := 1) (q := 71) (lv' := [_, _, _, _, _, _]) dX11_pull_68 rfl rfl rfl rfl rfl ?_
      rw [nI_1]
      refine wk_goto (t := 38) dX11_pull_71 rfl ?_
      refine ih (j + 1) v1 (by omega) (fun k h2 => ?_)
      rcases Nat.lt_or_ge k j with h | h
      · exact hno k h
      · (have e : k = j := (by omega); subst e; exact hf)
theorem ck_X11_pull {i pi : Int32} (hC : CR m L a aL) (hO : OK D a) (hD : D ≤ 10000000) (h1 : ∀ g p N, g < cA (a 73) → p < pA (a 73) → i = nI g → pi = nI p → N ≤ 50 → fitP (wsd (a 73 3) (a 73 4) (gv (a 73) g) 1 (nI N)) (a 73 (61 + 2 * p)) (a 73 (61 + 2 * p + 1)) → (∀ k, k < N → ¬ fitP (wsd (a 73 3) (a 73 4) (gv (a 73) g) 1 (nI k)) (a 73 (61 + 2 * p)) (a 73 (61 + 2 * p + 1))) → Po m L a aL Q (.int (nI N))) (h2 : ∀ g p, g < cA (a 73) → p < pA (a 73) → i = nI g → pi = nI p → (∀ k, k ≤ 50 → ¬ fitP (wsd (a 73 3) (a 73 4) (gv (a 73) g) 1 (nI k)) (a 73 (61 + 2 * p)) (a 73 (61 + 2 * p + 1))) → Po m L (rfA a 3) aL Q (.int (-1000000004))) (h0 : (∀ g p, g < cA (a 73) → p < pA (a 73) → ¬ (i = nI g ∧ pi = nI p)) → Po m L (rfA a 0) aL Q (.int (-1000000001))) : CK E 6 MX11_pull [.ref (ev_z E + 0), .int i, .int pi] m L Q := by
  have hB := hC.1
  have hA := hO.1
  have hc8 := hA.1.2.1
  have hp6 := hA.2.1.2.1
  refine CK.of rfl rfl (lv := [(0, _), (1, _), (2, _)]) rfl ?_
  refine wk_aload_n (i := 0) (q := 1) dX11_pull_0 rfl rfl rfl ?_
  refine wk_get (q := 4) fgX11_18 dX11_pull_1 rfl rfl rfl rfl ?_
  refine wk_iload_n (i := 1) (q := 5) dX11_pull_4 rfl rfl rfl ?_
  refine wk_V1r (d' := 1) (q := 8) lkX11_102 dX11_pull_5 rfl rfl rfl rfl rfl rfl rfl ?_
  refine ck_X0_garmentAt (b := 8) (c := cA (a 73)) rfl (hB.1.trans hA.1.1) hc8 (fun g hg e => ?_) (fun hno => ?_)
  · skip
    subst e
    refine wk_astore_n (i := 3) (q := 9) (lv' := [_, _, _, _]) dX11_pull_8 rfl rfl rfl rfl ?_
    refine wk_aload_n (i := 0) (q := 10) dX11_pull_9 rfl rfl rfl ?_
    refine wk_get (q := 13) fgX11_18 dX11_pull_10 rfl rfl rfl rfl ?_
    refine wk_iload_n (i := 2) (q := 14) dX11_pull_13 rfl rfl rfl ?_
    refine wk_V1r (d' := 1) (q := 17) lkX11_174 dX11_pull_14 rfl rfl rfl rfl rfl rfl rfl ?_
    refine ck_X0_personAt (b := 8) (c := pA (a 73)) rfl (hB.2.1.trans hA.2.1.1) hp6 (fun p hp e => ?_) (fun hnp => ?_)
    · skip
      subst e
      refine wk_astore (i := 4) (q := 19) (lv' := [_, _, _, _, _]) dX11_pull_17 rfl rfl rfl ?_
      refine wk_aload_n (i := 3) (q := 20) dX11_pull_19 rfl rfl rfl ?_
      refine wk_ifnull (q := 23) dX11_pull_20 rfl ?_
      refine wk_aload (i := 4) (q := 25) dX11_pull_23 rfl rfl ?_
      refine wk_ifnonnull (t := 35) dX11_pull_25 rfl ?_
      refine wk_iconst (v := 0) (q := 36) dX11_pull_35 rfl rfl ?_
      refine wk_istore (i := 5) (q := 38) (lv' := [_, _, _, _, _, _]) dX11_pull_36 rfl rfl rfl ?_
      have hl := lp_X11_pull (E := E) (i := nI g) (pi := nI p) hC hO hD hg hp (fun N => h1 g p N hg hp rfl rfl) (h2 g p hg hp rfl rfl) 51 0 (m 59) (by omega) (fun k q1 => absurd q1 (by omega))
      rw [wr_self] at hl
      exact hl
    · skip
      refine wk_astoreN (i := 4) (q := 19) (lv' := [_, _, _, _, _]) dX11_pull_17 rfl rfl rfl ?_
      refine wk_aload_n (i := 3) (q := 20) dX11_pull_19 rfl rfl rfl ?_
      refine wk_ifnull (q := 23) dX11_pull_20 rfl ?_
      refine wk_aloadN (i := 4) (q := 25) dX11_pull_23 rfl rfl ?_
      refine wk_ifnonnullN (q := 28) dX11_pull_25 rfl ?_
      refine wk_aload_n (i := 0) (q := 29) dX11_pull_28 rfl rfl rfl ?_
      refine wk_ldc (q := 31) dX11_pull_29 kX11_72 rfl ?_
      refine wk_V1r (d' := 1) (q := 34) lkX11_73 dX11_pull_31 rfl rfl rfl rfl rfl rfl rfl ?_
      refine ck_X11_refuse (i := 0) (by decide) (by decide) ?_
      refine wk_ireturn dX11_pull_34 rfl rfl ?_
      refine h0 (fun g' p' hg' hp' h => ?_) _ _ hC.found (FC.rf.wr rfl)
      first | exact hno g' hg' h.1 | exact hnp p' hp' h.2
  · skip
    refine wk_astore_nN (i := 3) (q := 9) (lv' := [_, _, _, _]) dX11_pull_8 rfl rfl rfl rfl ?_
    refine wk_aload_n (i := 0) (q := 10) dX11_pull_9 rfl rfl rfl ?_
    refine wk_get (q := 13) fgX11_18 dX11_pull_10 rfl rfl rfl rfl ?_
    refine wk_iload_n (i := 2) (q := 14) dX11_pull_13 rfl rfl rfl ?_
    refine wk_V1r (d' := 1) (q := 17) lkX11_174 dX11_pull_14 rfl rfl rfl rfl rfl rfl rfl ?_
    refine ck_X0_personAt (b := 8) (c := pA (a 73)) rfl (hB.2.1.trans hA.2.1.1) hp6 (fun p hp e => ?_) (fun hnp => ?_)
    · skip
      subst e
      refine wk_astore (i := 4) (q := 19) (lv' := [_, _, _, _, _]) dX11_pull_17 rfl rfl rfl ?_
      refine wk_aload_nN (i := 3) (q := 20) dX11_pull_19 rfl rfl rfl ?_
      refine wk_ifnullN (t := 28) dX11_pull_20 rfl ?_
      refine wk_aload_n (i := 0) (q := 29) dX11_pull_28 rfl rfl rfl ?_
      refine wk_ldc (q := 31) dX11_pull_29 kX11_72 rfl ?_
      refine wk_V1r (d' := 1) (q := 34) lkX11_73 dX11_pull_31 rfl rfl rfl rfl rfl rfl rfl ?_
      refine ck_X11_refuse (i := 0) (by decide) (by decide) ?_
      refine wk_ireturn dX11_pull_34 rfl rfl ?_
      refine h0 (fun g' p' hg' hp' h => ?_) _ _ hC.found (FC.rf.wr rfl)
      first | exact hno g' hg' h.1 | exact hnp p' hp' h.2
    · skip
      refine wk_astoreN (i := 4) (q := 19) (lv' := [_, _, _, _, _]) dX11_pull_17 rfl rfl rfl ?_
      refine wk_aload_nN (i := 3) (q := 20) dX11_pull_19 rfl rfl rfl ?_
      refine wk_ifnullN (t := 28) dX11_pull_20 rfl ?_
      refine wk_aload_n (i := 0) (q := 29) dX11_pull_28 rfl rfl rfl ?_
      refine wk_ldc (q := 31) dX11_pull_29 kX11_72 rfl ?_
      refine wk_V1r (d' := 1) (q := 34) lkX11_73 dX11_pull_31 rfl rfl rfl rfl rfl rfl rfl ?_
      refine ck_X11_refuse (i := 0) (by decide) (by decide) ?_
      refine wk_ireturn dX11_pull_34 rfl rfl ?_
      refine h0 (fun g' p' hg' hp' h => ?_) _ _ hC.found (FC.rf.wr rfl)
      first | exact hno g' hg' h.1 | exact hnp p' hp' h.2
theorem lp_X11_warmest {i pi : Int32} {g p : Nat} (hC : CR m L a aL) (hO : OK D a) (hD : D ≤ 10000000) (hg : g < cA (a 73)) (hp : p < pA (a 73)) (h1 : ∀ N, 20 ≤ N → N ≤ 95 → fitP (wsd (nI N) (a 73 4) (gv (a 73) g) 1 0) (a 73 (61 + 2 * p)) (a 73 (61 + 2 * p + 1)) → (∀ k, N < k → k ≤ 95 → ¬ fitP (wsd (nI k) (a 73 4) (gv (a 73) g) 1 0) (a 73 (61 + 2 * p)) (a 73 (61 + 2 * p + 1))) → Po m L a aL Q (.int (nI N))) (h0 : (∀ k, 20 ≤ k → k ≤ 95 → ¬ fitP (wsd (nI k) (a 73 4) (gv (a 73) g) 1 0) (a 73 (61 + 2 * p)) (a 73 (61 + 2 * p + 1))) → Po m L (rfA a 3) aL Q (.int (-1000000004))) : ∀ (r : Nat) (v : Nat → Int32), 19 + r ≤ 95 → (∀ k, 19 + r < k → k ≤ 95 → ¬ fitP (wsd (nI k) (a 73 4) (gv (a 73) g) 1 0) (a 73 (61 + 2 * p)) (a 73 (61 + 2 * p + 1))) → WK E 6 MX11_warmest 39 [(0, .ref (ev_z E + 0)), (1, .int i), (2, .int pi), (3, .ref (ev_z E + (8 + 1 + 1 + g))), (4, .ref (ev_z E + (8 + 10 + 1 + p))), (5, .int (nI (19 + r)))] [] (wr m 59 v) L Q := by
  have hB := hC.1
  have hA := hO.1
  have hc8 := hA.1.2.1
  have hp6 := hA.2.1.2.1
  intro r
  induction r with
  | zero =>
    intro v hj hno
    refine wk_iload (i := 5) (q := 41) dX11_warmest_39 rfl rfl ?_
    refine wk_bipush (v := 20) (q := 43) dX11_warmest_41 rfl rfl ?_
    refine wk_icmp_lt (t := 69) (q := 46) dX11_warmest_43 rfl rfl (fun c43 => ?_) (fun h => absurd (by decide) h)
    refine wk_aload_n (i := 0) (q := 70) dX11_warmest_69 rfl rfl rfl ?_
    refine wk_ldc (q := 72) dX11_warmest_70 kX11_205 rfl ?_
    refine wk_V1r (d' := 1) (q := 75) lkX11_73 dX11_warmest_72 rfl rfl rfl rfl rfl rfl rfl ?_
    refine ck_X11_refuse (i := 3) (by decide) (by decide) ?_
    refine wk_ireturn dX11_warmest_75 rfl rfl ?_
    exact h0 (fun k q1 q2 => hno k (by omega) q2) _ _ hC.t59.found ((FC.rf.wr rfl).wr rfl)
  | succ r ih =>
    intro v hj hno
    have hi := nI_toInt (n := 19 + (r + 1)) (by omega)
    refine wk_iload (i := 5) (q := 41) dX11_warmest_39 rfl rfl ?_
    refine wk_bipush (v := 20) (q := 43) dX11_warmest_41 rfl rfl ?_
    refine wk_icmp_lt (t := 69) (q := 46) dX11_warmest_43 rfl rfl (fun h => absurd h (nI_nlt (b := 20) (by omega) (by omega))) (fun c43 => ?_)
    refine wk_aload_n (i := 0) (q := 47) dX11_warmest_46 rfl rfl rfl ?_
    refine wk_aload_n (i := 3) (q := 48) dX11_warmest_47 rfl rfl rfl ?_
    refine wk_aload (i := 4) (q := 50) dX11_warmest_48 rfl rfl ?_
    refine wk_iconst (v := 1) (q := 51) dX11_warmest_50 rfl rfl ?_
    refine wk_iload (i := 5) (q := 53) dX11_warmest_51 rfl rfl ?_
    refine wk_iconst (v := 0) (q := 54) dX11_warmest_53 rfl rfl ?_
    refine wk_V5r (d' := 5) (q := 57) lkX11_201 dX11_warmest_54 rfl rfl rfl rfl rfl rfl rfl ?_
    refine ck_X11_wouldSuit (g := g) (p := p) (N := 1) (A := a 73) (D := D) (by omega) hD (hB.mov (fun k _ _ => wr_n (by omega))) hA hg hp (by omega) (by omega) (by decide) (by decide) (fun hf v1 => ?_) (fun hf v1 => ?_)
    · skip
      rw [wr_wr]
      refine wk_if_eq (t := 63) (q := 60) dX11_warmest_57 rfl rfl (fun h => absurd h (by decide)) (fun _ => ?_)
      refine wk_iload (i := 5) (q := 62) dX11_warmest_60 rfl rfl ?_
      refine wk_ireturn dX11_warmest_62 rfl rfl ?_
      exact h1 (19 + (r + 1)) (by omega) (by omega) hf hno _ _ hC.t59 (FC.rf.wr rfl)
    · skip
      rw [wr_wr]
      refine wk_if_eq (t := 63) (q := 60) dX11_warmest_57 rfl rfl (fun _ => ?_) (fun h => absurd (by decide) h)
      refine wk_iinc (w := -1) (q := 66) (lv' := [_, _, _, _, _, _]) dX11_warmest_63 rfl rfl rfl rfl rfl ?_
      refine wk_goto (t := 39) dX11_warmest_66 rfl ?_
      rw [show 19 + (r + 1) = (19 + r) + 1 from rfl, nI_dec]
      refine ih v1 (by omega) (fun k h2 h3 => ?_)
      rcases Nat.lt_or_ge (19 + (r + 1)) k with h | h
      · exact hno k h h3
      · (have e : k = 19 + (r + 1) := (by omega); subst e; exact hf)
theorem ck_X11_warmest {i pi : Int32} (hC : CR m L a aL) (hO : OK D a) (hD : D ≤ 10000000) (h1 : ∀ g p N, g < cA (a 73) → p < pA (a 73) → i = nI g → pi = nI p → 20 ≤ N → N ≤ 95 → fitP (wsd (nI N) (a 73 4) (gv (a 73) g) 1 0) (a 73 (61 + 2 * p)) (a 73 (61 + 2 * p + 1)) → (∀ k, N < k → k ≤ 95 → ¬ fitP (wsd (nI k) (a 73 4) (gv (a 73) g) 1 0) (a 73 (61 + 2 * p)) (a 73 (61 + 2 * p + 1))) → Po m L a aL Q (.int (nI N))) (h2 : ∀ g p, g < cA (a 73) → p < pA (a 73) → i = nI g → pi = nI p → (∀ k, 20 ≤ k → k ≤ 95 → ¬ fitP (wsd (nI k) (a 73 4) (gv (a 73) g) 1 0) (a 73 (61 + 2 * p)) (a 73 (61 + 2 * p + 1))) → Po m L (rfA a 3) aL Q (.int (-1000000004))) (h0 : (∀ g p, g < cA (a 73) → p < pA (a 73) → ¬ (i = nI g ∧ pi = nI p)) → Po m L (rfA a 0) aL Q (.int (-1000000001))) : CK E 6 MX11_warmest [.ref (ev_z E + 0), .int i, .int pi] m L Q := by
  have hB := hC.1
  have hA := hO.1
  have hc8 := hA.1.2.1
  have hp6 := hA.2.1.2.1
  refine CK.of rfl rfl (lv := [(0, _), (1, _), (2, _)]) rfl ?_
  refine wk_aload_n (i := 0) (q := 1) dX11_warmest_0 rfl rfl rfl ?_
  refine wk_get (q := 4) fgX11_18 dX11_warmest_1 rfl rfl rfl rfl ?_
  refine wk_iload_n (i := 1) (q := 5) dX11_warmest_4 rfl rfl rfl ?_
  refine wk_V1r (d' := 1) (q := 8) lkX11_102 dX11_warmest_5 rfl rfl rfl rfl rfl rfl rfl ?_
  refine ck_X0_garmentAt (b := 8) (c := cA (a 73)) rfl (hB.1.trans hA.1.1) hc8 (fun g hg e => ?_) (fun hno => ?_)
  · skip
    subst e
    refine wk_astore_n (i := 3) (q := 9) (lv' := [_, _, _, _]) dX11_warmest_8 rfl rfl rfl rfl ?_
    refine wk_aload_n (i := 0) (q := 10) dX11_warmest_9 rfl rfl rfl ?_
    refine wk_get (q := 13) fgX11_18 dX11_warmest_10 rfl rfl rfl rfl ?_
    refine wk_iload_n (i := 2) (q := 14) dX11_warmest_13 rfl rfl rfl ?_
    refine wk_V1r (d' := 1) (q := 17) lkX11_174 dX11_warmest_14 rfl rfl rfl rfl rfl rfl rfl ?_
    refine ck_X0_personAt (b := 8) (c := pA (a 73)) rfl (hB.2.1.trans hA.2.1.1) hp6 (fun p hp e => ?_) (fun hnp => ?_)
    · skip
      subst e
      refine wk_astore (i := 4) (q := 19) (lv' := [_, _, _, _, _]) dX11_warmest_17 rfl rfl rfl ?_
      refine wk_aload_n (i := 3) (q := 20) dX11_warmest_19 rfl rfl rfl ?_
      refine wk_ifnull (q := 23) dX11_warmest_20 rfl ?_
      refine wk_aload (i := 4) (q := 25) dX11_warmest_23 rfl rfl ?_
      refine wk_ifnonnull (t := 35) dX11_warmest_25 rfl ?_
      refine wk_bipush (v := 95) (q := 37) dX11_warmest_35 rfl rfl ?_
      refine wk_istore (i := 5) (q := 39) (lv' := [_, _, _, _, _, _]) dX11_warmest_37 rfl rfl rfl ?_
      have hl := lp_X11_warmest (E := E) (i := nI g) (pi := nI p) hC hO hD hg hp (fun N => h1 g p N hg hp rfl rfl) (h2 g p hg hp rfl rfl) 76 (m 59) (by omega) (fun k q1 q2 => absurd q1 (by omega))
      rw [wr_self] at hl
      exact hl
    · skip
      refine wk_astoreN (i := 4) (q := 19) (lv' := [_, _, _, _, _]) dX11_warmest_17 rfl rfl rfl ?_
      refine wk_aload_n (i := 3) (q := 20) dX11_warmest_19 rfl rfl rfl ?_
      refine wk_ifnull (q := 23) dX11_warmest_20 rfl ?_
      refine wk_aloadN (i := 4) (q := 25) dX11_warmest_23 rfl rfl ?_
      refine wk_ifnonnullN (q := 28) dX11_warmest_25 rfl ?_
      refine wk_aload_n (i := 0) (q := 29) dX11_warmest_28 rfl rfl rfl ?_
      refine wk_ldc (q := 31) dX11_warmest_29 kX11_72 rfl ?_
      refine wk_V1r (d' := 1) (q := 34) lkX11_73 dX11_warmest_31 rfl rfl rfl rfl rfl rfl rfl ?_
      refine ck_X11_refuse (i := 0) (by decide) (by decide) ?_
      refine wk_ireturn dX11_warmest_34 rfl rfl ?_
      refine h0 (fun g' p' hg' hp' h => ?_) _ _ hC.found (FC.rf.wr rfl)
      first | exact hno g' hg' h.1 | exact hnp p' hp' h.2
  · skip
    refine wk_astore_nN (i := 3) (q := 9) (lv' := [_, _, _, _]) dX11_warmest_8 rfl rfl rfl rfl ?_
    refine wk_aload_n (i := 0) (q := 10) dX11_warmest_9 rfl rfl rfl ?_
    refine wk_get (q := 13) fgX11_18 dX11_warmest_10 rfl rfl rfl rfl ?_
    refine wk_iload_n (i := 2) (q := 14) dX11_warmest_13 rfl rfl rfl ?_
    refine wk_V1r (d' := 1) (q := 17) lkX11_174 dX11_warmest_14 rfl rfl rfl rfl rfl rfl rfl ?_
    refine ck_X0_personAt (b := 8) (c := pA (a 73)) rfl (hB.2.1.trans hA.2.1.1) hp6 (fun p hp e => ?_) (fun hnp => ?_)
    · skip
      subst e
      refine wk_astore (i := 4) (q := 19) (lv' := [_, _, _, _, _]) dX11_warmest_17 rfl rfl rfl ?_
      refine wk_aload_nN (i := 3) (q := 20) dX11_warmest_19 rfl rfl rfl ?_
      refine wk_ifnullN (t := 28) dX11_warmest_20 rfl ?_
      refine wk_aload_n (i := 0) (q := 29) dX11_warmest_28 rfl rfl rfl ?_
      refine wk_ldc (q := 31) dX11_warmest_29 kX11_72 rfl ?_
      refine wk_V1r (d' := 1) (q := 34) lkX11_73 dX11_warmest_31 rfl rfl rfl rfl rfl rfl rfl ?_
      refine ck_X11_refuse (i := 0) (by decide) (by decide) ?_
      refine wk_ireturn dX11_warmest_34 rfl rfl ?_
      refine h0 (fun g' p' hg' hp' h => ?_) _ _ hC.found (FC.rf.wr rfl)
      first | exact hno g' hg' h.1 | exact hnp p' hp' h.2
    · skip
      refine wk_astoreN (i := 4) (q := 19) (lv' := [_, _, _, _, _]) dX11_warmest_17 rfl rfl rfl ?_
      refine wk_aload_nN (i := 3) (q := 20) dX11_warmest_19 rfl rfl rfl ?_
      refine wk_ifnullN (t := 28) dX11_warmest_20 rfl ?_
      refine wk_aload_n (i := 0) (q := 29) dX11_warmest_28 rfl rfl rfl ?_
      refine wk_ldc (q := 31) dX11_warmest_29 kX11_72 rfl ?_
      refine wk_V1r (d' := 1) (q := 34) lkX11_73 dX11_warmest_31 rfl rfl rfl rfl rfl rfl rfl ?_
      refine ck_X11_refuse (i := 0) (by decide) (by decide) ?_
      refine wk_ireturn dX11_warmest_34 rfl rfl ?_
      refine h0 (fun g' p' hg' hp' h => ?_) _ _ hC.found (FC.rf.wr rfl)
      first | exact hno g' hg' h.1 | exact hnp p' hp' h.2
theorem lp_X11_kind {i : Int32} {g N : Nat} (hC : CR m L a aL) (hO : OK D a) (hg : g < cA (a 73)) (hN : N ≤ 40) (hQ : Po m L a aL Q (.int (bkS (a 73 3) (a 73 4) (gv (a 73) g) N 6).1)) : ∀ (r j : Nat) (v : Nat → Int32) (be lo : Int32), j + r = 6 → (be, lo) = bkS (a 73 3) (a 73 4) (gv (a 73) g) N j → WK E 5 MX11_kind 39 [(0, .ref (ev_z E + 0)), (1, .int i), (2, .int (nI N)), (3, .ref (ev_z E + (8 + 1 + 1 + g))), (4, .int be), (5, .int lo), (6, .int (nI j))] [] (wr m 59 v) L Q := by
  have hB := hC.1
  have hA := hO.1
  have hc8 := hA.1.2.1
  have e3 : m 8 6 = a 73 3 := hB.2.2.2.1
  have e4 : m 8 7 = a 73 4 := hB.2.2.2.2.1
  have hdg := hA.2.2.2.1
  have hE := hB.e7 (g := g) (by omega)
  have ho := hA.1.2.2 g hg
  have n9 : 8 + 1 + 1 + g ≠ 59 := by omega
  intro r
  induction r with
  | zero =>
    intro j v be lo hj hb
    refine wk_iload (i := 6) (q := 41) dX11_kind_39 rfl rfl ?_
    refine wk_bipush (v := 6) (q := 43) dX11_kind_41 rfl rfl ?_
    refine wk_icmp_ge (t := 109) (q := 46) dX11_kind_43 rfl rfl (fun c43 => ?_) (fun h => absurd (nI_le (a := 6) (by omega) (by omega)) h)
    refine wk_iload (i := 4) (q := 111) dX11_kind_109 rfl rfl ?_
    refine wk_ireturn dX11_kind_111 rfl rfl ?_
    have e : j = 6 := by omega
    subst e
    rw [← hb] at hQ
    exact hQ _ _ hC.t59 (FC.rf.wr rfl)
  | succ r ih =>
    intro j v be lo hj hb
    have hi := nI_toInt (n := j) (by omega)
    have hcp : E7 (upd (cpG (m (8 + 1 + 1 + g)) v) 0 (nI j)) (upd (gv (a 73) g) 0 (nI j)) := E7_upd (E7.cp.trans hE)
    have hok : okG D (upd (cpG (m (8 + 1 + 1 + g)) v) 0 (nI j)) := hcp.ok (by
      obtain ⟨o0, o1, o2, o3, o4, o5, o6⟩ := ho
      refine ⟨?_, ?_, ?_, ?_, ?_, ?_, ?_⟩
      · rw [upd_s, hi]; omega
      · rw [upd_n (by decide)]; exact o1
      · rw [upd_n (by decide)]; exact o2
      · rw [upd_n (by decide)]; exact o3
      · rw [upd_n (by decide)]; exact o4
      · rw [upd_n (by decide)]; exact o5
      · rw [upd_n (by decide)]; exact o6)
    have hlen : wshN (a 73 3) (a 73 4) (upd (cpG (m (8 + 1 + 1 + g)) v) 0 (nI j)) N 1 = lenK (a 73 3) (a 73 4) (gv (a 73) g) N j := (hcp.wshN N) 1 (by decide)
    have hbs : bkS (a 73 3) (a 73 4) (gv (a 73) g) N (j + 1) = if lo < lenK (a 73 3) (a 73 4) (gv (a 73) g) N j then (nI j, lenK (a 73 3) (a 73 4) (gv (a 73) g) N j) else (be, lo) := by
      show (if (bkS (a 73 3) (a 73 4) (gv (a 73) g) N j).2 < _ then _ else bkS (a 73 3) (a 73 4) (gv (a 73) g) N j) = _
      rw [← hb]
    refine wk_iload (i := 6) (q := 41) dX11_kind_39 rfl rfl ?_
    refine wk_bipush (v := 6) (q := 43) dX11_kind_41 rfl rfl ?_
    refine wk_icmp_ge (t := 109) (q := 46) dX11_kind_43 rfl rfl (fun h => absurd h (nI_ge (b := 6) (by omega) (by omega))) (fun c43 => ?_)
    refine wk_aload_n (i := 0) (q := 47) dX11_kind_46 rfl rfl rfl ?_
    refine wk_aload_n (i := 3) (q := 48) dX11_kind_47 rfl rfl rfl ?_
    refine wk_iload (i := 6) (q := 50) dX11_kind_48 rfl rfl ?_
    refine wk_V2r (d' := 2) (q := 53) lkX11_206 dX11_kind_50 rfl rfl rfl rfl rfl rfl rfl ?_
    refine ck_X11_tryAs (c := nI j) (sh_g sb_8 (by omega)) n9 (rng' (lo := 0) (hi := 5) (by omega) (by omega) (by omega)) ?_
    rw [wr_s, wr_n n9, wr_wr]
    refine wk_if_eq (t := 103) (q := 56) dX11_kind_53 rfl rfl (fun h => absurd h (by decide)) (fun _ => ?_)
    refine wk_aload_n (i := 0) (q := 57) dX11_kind_56 rfl rfl rfl ?_
    refine wk_get (q := 60) fgX11_35 dX11_kind_57 rfl rfl rfl rfl ?_
    refine wk_iload_n (i := 2) (q := 61) dX11_kind_60 rfl rfl rfl ?_
    refine wk_aload_n (i := 0) (q := 62) dX11_kind_61 rfl rfl rfl ?_
    refine wk_get (q := 65) fgX11_18 dX11_kind_62 rfl rfl rfl rfl ?_
    refine wk_get (q := 68) fgX11_65 dX11_kind_65 rfl rfl rfl rfl ?_
    refine wk_aload_n (i := 0) (q := 69) dX11_kind_68 rfl rfl rfl ?_
    refine wk_get (q := 72) fgX11_18 dX11_kind_69 rfl rfl rfl rfl ?_
    refine wk_get (q := 75) fgX11_69 dX11_kind_72 rfl rfl rfl rfl ?_
    rw [wr_n (show (8 : Nat) ≠ 59 by decide), e3, e4]
    refine wk_V3v (d' := 4) (q := 78) lkX11_210 dX11_kind_75 rfl rfl rfl rfl rfl rfl rfl ?_
    refine ck_X2_goThroughWashes (N := N) (D := D) (by omega) rfl (by rw [wr_s]; exact hok) (by omega) (by omega) ?_
    rw [wr_wr, wr_s]
    refine wk_aload_n (i := 0) (q := 79) dX11_kind_78 rfl rfl rfl ?_
    refine wk_get (q := 82) fgX11_35 dX11_kind_79 rfl rfl rfl rfl ?_
    refine wk_get (q := 85) fgX11_116 dX11_kind_82 rfl rfl rfl rfl ?_
    refine wk_iload (i := 5) (q := 87) dX11_kind_85 rfl rfl ?_
    rw [wr_s, hlen]
    refine wk_icmp_le (t := 103) (q := 90) dX11_kind_87 rfl rfl (fun c87 => ?_) (fun c87 => ?_)
    · skip
      rw [if_neg (by rw [fa_lt]; rw [fa_le] at c87; omega)] at hbs
      refine wk_iinc (w := 1) (q := 106) (lv' := [_, _, _, _, _, _, _]) dX11_kind_103 rfl rfl rfl rfl rfl ?_
      rw [nI_1]
      refine wk_goto (t := 39) dX11_kind_106 rfl ?_
      exact ih (j + 1) _ _ _ (by omega) hbs.symm
    · skip
      rw [if_pos (by rw [fa_lt]; rw [fa_le] at c87; omega)] at hbs
      refine wk_aload_n (i := 0) (q := 91) dX11_kind_90 rfl rfl rfl ?_
      refine wk_get (q := 94) fgX11_35 dX11_kind_91 rfl rfl rfl rfl ?_
      refine wk_get (q := 97) fgX11_116 dX11_kind_94 rfl rfl rfl rfl ?_
      rw [wr_s, hlen]
      refine wk_istore (i := 5) (q := 99) (lv' := [_, _, _, _, _, _, _]) dX11_kind_97 rfl rfl rfl ?_
      refine wk_iload (i := 6) (q := 101) dX11_kind_99 rfl rfl ?_
      refine wk_istore (i := 4) (q := 103) (lv' := [_, _, _, _, _, _, _]) dX11_kind_101 rfl rfl rfl ?_
      refine wk_iinc (w := 1) (q := 106) (lv' := [_, _, _, _, _, _, _]) dX11_kind_103 rfl rfl rfl rfl rfl ?_
      rw [nI_1]
      refine wk_goto (t := 39) dX11_kind_106 rfl ?_
      exact ih (j + 1) _ _ _ (by omega) hbs.symm
theorem ck_X11_kind {i n : Int32} (hC : CR m L a aL) (hO : OK D a) (h1 : ∀ g N, g < cA (a 73) → 1 ≤ N → N ≤ 40 → i = nI g → n = nI N → Po m L a aL Q (.int (bkS (a 73 3) (a 73 4) (gv (a 73) g) N 6).1)) (h0 : (∀ g N, g < cA (a 73) → 1 ≤ N → N ≤ 40 → ¬ (i = nI g ∧ n = nI N)) → Po m L (rfA a 0) aL Q (.int (-1000000001))) : CK E 5 MX11_kind [.ref (ev_z E + 0), .int i, .int n] m L Q := by
  have hB := hC.1
  have hA := hO.1
  have hc8 := hA.1.2.1
  refine CK.of rfl rfl (lv := [(0, _), (1, _), (2, _)]) rfl ?_
  refine wk_aload_n (i := 0) (q := 1) dX11_kind_0 rfl rfl rfl ?_
  refine wk_get (q := 4) fgX11_18 dX11_kind_1 rfl rfl rfl rfl ?_
  refine wk_iload_n (i := 1) (q := 5) dX11_kind_4 rfl rfl rfl ?_
  refine wk_V1r (d' := 1) (q := 8) lkX11_102 dX11_kind_5 rfl rfl rfl rfl rfl rfl rfl ?_
  refine ck_X0_garmentAt (b := 8) (c := cA (a 73)) rfl (hB.1.trans hA.1.1) hc8 (fun g hg e => ?_) (fun hno => ?_)
  · skip
    subst e
    refine wk_astore_n (i := 3) (q := 9) (lv' := [_, _, _, _]) dX11_kind_8 rfl rfl rfl rfl ?_
    refine wk_aload_n (i := 3) (q := 10) dX11_kind_9 rfl rfl rfl ?_
    refine wk_ifnull (q := 13) dX11_kind_10 rfl ?_
    refine wk_iload_n (i := 2) (q := 14) dX11_kind_13 rfl rfl rfl ?_
    refine wk_iconst (v := 1) (q := 15) dX11_kind_14 rfl rfl ?_
    refine wk_bipush (v := 40) (q := 17) dX11_kind_15 rfl rfl ?_
    refine wk_S3r (d' := 1) (q := 20) lkX11_61 dX11_kind_17 rfl rfl rfl rfl ?_
    refine ck_X11_within (fun hw => ?_) (fun hw => ?_)
    · skip
      obtain ⟨N, hN1, hN2, rfl⟩ := rng (lo := 1) (hi := 40) (by omega) (by omega) hw
      refine wk_if_ne (t := 30) (q := 23) dX11_kind_20 rfl rfl (fun _ => ?_) (fun h => absurd h (by decide))
      refine wk_iconst (v := 0) (q := 31) dX11_kind_30 rfl rfl ?_
      refine wk_istore (i := 4) (q := 33) (lv' := [_, _, _, _, _]) dX11_kind_31 rfl rfl rfl ?_
      refine wk_iconst (v := -1) (q := 34) dX11_kind_33 rfl rfl ?_
      refine wk_istore (i := 5) (q := 36) (lv' := [_, _, _, _, _, _]) dX11_kind_34 rfl rfl rfl ?_
      refine wk_iconst (v := 0) (q := 37) dX11_kind_36 rfl rfl ?_
      refine wk_istore (i := 6) (q := 39) (lv' := [_, _, _, _, _, _, _]) dX11_kind_37 rfl rfl rfl ?_
      have hl := lp_X11_kind (E := E) (i := nI g) hC hO hg hN2 (h1 g N hg hN1 hN2 rfl rfl) 6 0 (m 59) 0 (-1) (by omega) rfl
      rw [wr_self] at hl
      exact hl
    · skip
      refine wk_if_ne (t := 30) (q := 23) dX11_kind_20 rfl rfl (fun h => absurd (by decide) h) (fun _ => ?_)
      refine wk_aload_n (i := 0) (q := 24) dX11_kind_23 rfl rfl rfl ?_
      refine wk_ldc (q := 26) dX11_kind_24 kX11_72 rfl ?_
      refine wk_V1r (d' := 1) (q := 29) lkX11_73 dX11_kind_26 rfl rfl rfl rfl rfl rfl rfl ?_
      refine ck_X11_refuse (i := 0) (by decide) (by decide) ?_
      refine wk_ireturn dX11_kind_29 rfl rfl ?_
      refine h0 (fun g' N q1 q2 q3 h => ?_) _ _ hC.found (FC.rf.wr rfl)
      first | exact hno g' q1 h.1 | (have h2 := h.2; subst h2; exact hw (rng' (lo := 1) (hi := 40) (by omega) q2 q3))
  · skip
    refine wk_astore_nN (i := 3) (q := 9) (lv' := [_, _, _, _]) dX11_kind_8 rfl rfl rfl rfl ?_
    refine wk_aload_nN (i := 3) (q := 10) dX11_kind_9 rfl rfl rfl ?_
    refine wk_ifnullN (t := 23) dX11_kind_10 rfl ?_
    refine wk_aload_n (i := 0) (q := 24) dX11_kind_23 rfl rfl rfl ?_
    refine wk_ldc (q := 26) dX11_kind_24 kX11_72 rfl ?_
    refine wk_V1r (d' := 1) (q := 29) lkX11_73 dX11_kind_26 rfl rfl rfl rfl rfl rfl rfl ?_
    refine ck_X11_refuse (i := 0) (by decide) (by decide) ?_
    refine wk_ireturn dX11_kind_29 rfl rfl ?_
    refine h0 (fun g' N q1 q2 q3 h => ?_) _ _ hC.found (FC.rf.wr rfl)
    first | exact hno g' q1 h.1 | (have h2 := h.2; subst h2; exact hw (rng' (lo := 1) (hi := 40) (by omega) q2 q3))
theorem okA_day {A : Nat → Int32} {N : Nat} (h : okA D A) : okA D (dayA A N) ∧ cA (dayA A N) = cA A ∧ pA (dayA A N) = pA A := by
  obtain ⟨⟨h1, h2, h3⟩, ⟨h4, h5, h6⟩, h7, h8, h9⟩ := h
  have e1 : dayA A N 1 = A 1 := (upd_n (by decide)).trans (gmapA_n (by omega))
  have e2 : dayA A N 2 = A 2 := (upd_n (by decide)).trans (gmapA_n (by omega))
  have e3 : dayA A N 3 = A 3 := (upd_n (by decide)).trans (gmapA_n (by omega))
  have e4 : dayA A N 4 = A 4 := (upd_n (by decide)).trans (gmapA_n (by omega))
  have c1 : cA (dayA A N) = cA A := by unfold cA; rw [e1]
  have c2 : pA (dayA A N) = pA A := by unfold pA; rw [e2]
  refine ⟨⟨⟨by rw [e1, c1]; exact h1, by rw [c1]; exact h2, fun g hg => ?_⟩, ⟨by rw [e2, c2]; exact h4, by rw [c2]; exact h5, fun p hp => ?_⟩, h7, by rw [e3]; exact h8, by rw [e4]; exact h9⟩, c1, c2⟩
  · rw [c1] at hg
    refine (ok_dryN (h3 g hg) N).cong (fun f hf => ?_)
    show dayA A N (5 + 7 * g + f) = _
    unfold dayA
    rw [upd_n (by omega), gmapA_s hg hf]
  · rw [c2] at hp
    have q0 : dayA A N (61 + 2 * p) = A (61 + 2 * p) := (upd_n (by omega)).trans (gmapA_n (by omega))
    have q1 : dayA A N (61 + 2 * p + 1) = A (61 + 2 * p + 1) := (upd_n (by omega)).trans (gmapA_n (by omega))
    rw [q0, q1]
    exact h6 p hp
theorem ck_X11_dressed {n : Int32} (hC : CR m L a aL) (hO : OK D a) (hD : D ≤ 10000000) (h1 : ∀ N, N ≤ 100 → n = nI N → 0 < pA (a 73) → Po m L a aL Q (.int (nI (bst (dayA (a 73) N) (cA (a 73)) (pA (a 73)))))) (h2 : ∀ N, N ≤ 100 → n = nI N → pA (a 73) = 0 → Po m L (rfA a 3) aL Q (.int (-1000000004))) (h0 : ¬ (0 ≤ n ∧ n ≤ 100) → Po m L (rfA a 0) aL Q (.int (-1000000001))) : CK E 6 MX11_dressed [.ref (ev_z E + 0), .int n] m L Q := by
  have hB := hC.1
  have hA := hO.1
  have hp4 : m 8 4 = nI (pA (a 73)) := hB.2.1.trans hA.2.1.1
  have hp6 := hA.2.1.2.1
  refine CK.of rfl rfl (lv := [(0, _), (1, _)]) rfl ?_
  refine wk_iload_n (i := 1) (q := 1) dX11_dressed_0 rfl rfl rfl ?_
  refine wk_iconst (v := 0) (q := 2) dX11_dressed_1 rfl rfl ?_
  refine wk_bipush (v := 100) (q := 4) dX11_dressed_2 rfl rfl ?_
  refine wk_S3r (d' := 1) (q := 7) lkX11_61 dX11_dressed_4 rfl rfl rfl rfl ?_
  refine ck_X11_within (fun hw => ?_) (fun hw => ?_)
  · skip
    obtain ⟨N, hN1, hN2, rfl⟩ := rng (lo := 0) (hi := 100) (by omega) (by omega) hw
    have hdy := okA_day (N := N) hA
    refine wk_if_ne (t := 17) (q := 10) dX11_dressed_7 rfl rfl (fun _ => ?_) (fun h => absurd h (by decide))
    refine wk_aload_n (i := 0) (q := 18) dX11_dressed_17 rfl rfl rfl ?_
    refine wk_get (q := 21) fgX11_18 dX11_dressed_18 rfl rfl rfl rfl ?_
    refine wk_get (q := 24) fgX11_171 dX11_dressed_21 rfl rfl rfl rfl ?_
    rw [hp4]
    refine wk_if_ne (t := 34) (q := 27) dX11_dressed_24 rfl rfl (fun c24 => ?_) (fun c24 => ?_)
    · skip
      have hp0 : 0 < pA (a 73) := by (rcases Nat.eq_zero_or_pos (pA (a 73)) with h | h; (rw [h] at c24; exact absurd rfl c24); exact h)
      refine wk_aload_n (i := 0) (q := 35) dX11_dressed_34 rfl rfl rfl ?_
      refine wk_get (q := 38) fgX11_27 dX11_dressed_35 rfl rfl rfl rfl ?_
      refine wk_aload_n (i := 0) (q := 39) dX11_dressed_38 rfl rfl rfl ?_
      refine wk_get (q := 42) fgX11_18 dX11_dressed_39 rfl rfl rfl rfl ?_
      refine wk_V1v (d' := 2) (q := 45) lkX11_214 dX11_dressed_42 rfl rfl rfl rfl rfl rfl rfl ?_
      refine ck_X0_become (b := 42) (b2 := 8) rfl rfl (by decide) hB (fun m1 hB1 hf1 => ?_)
      refine wk_aload_n (i := 0) (q := 46) dX11_dressed_45 rfl rfl rfl ?_
      refine wk_get (q := 49) fgX11_27 dX11_dressed_46 rfl rfl rfl rfl ?_
      refine wk_iload_n (i := 1) (q := 50) dX11_dressed_49 rfl rfl rfl ?_
      refine wk_V1v (d' := 5) (q := 53) lkX11_187 dX11_dressed_50 rfl rfl rfl rfl rfl rfl rfl ?_
      refine ck_X0_letDaysGo (b := 42) (A := a 73) (by omega) rfl hB1 hA (by omega) (fun m2 hB2 hf2 => ?_)
      refine wk_aload_n (i := 0) (q := 54) dX11_dressed_53 rfl rfl rfl ?_
      refine wk_get (q := 57) fgX11_27 dX11_dressed_54 rfl rfl rfl rfl ?_
      refine wk_V0r (d' := 4) (q := 60) lkX11_217 dX11_dressed_57 rfl rfl rfl rfl rfl rfl rfl ?_
      refine ck_X0_bestDressed (b := 42) (A := dayA (a 73) N) rfl hB2 hdy.1 hdy.2.1.symm hdy.2.2.symm ?_
      refine wk_ireturn dX11_dressed_60 rfl rfl ?_
      exact h1 N hN2 rfl hp0 _ _ ((hC.b42 hf1).b42 hf2) ((FC.rf.bk sb_42 hf1).bk sb_42 hf2)
    · skip
      have hp0 : pA (a 73) = 0 := by (rcases Nat.eq_zero_or_pos (pA (a 73)) with h | h; exact h; exact absurd c24 (nI_ne0 h (by omega)))
      refine wk_aload_n (i := 0) (q := 28) dX11_dressed_27 rfl rfl rfl ?_
      refine wk_ldc (q := 30) dX11_dressed_28 kX11_205 rfl ?_
      refine wk_V1r (d' := 1) (q := 33) lkX11_73 dX11_dressed_30 rfl rfl rfl rfl rfl rfl rfl ?_
      refine ck_X11_refuse (i := 3) (by decide) (by decide) ?_
      refine wk_ireturn dX11_dressed_33 rfl rfl ?_
      exact h2 N hN2 rfl hp0 _ _ hC.found (FC.rf.wr rfl)
  · skip
    refine wk_if_ne (t := 17) (q := 10) dX11_dressed_7 rfl rfl (fun h => absurd (by decide) h) (fun _ => ?_)
    refine wk_aload_n (i := 0) (q := 11) dX11_dressed_10 rfl rfl rfl ?_
    refine wk_ldc (q := 13) dX11_dressed_11 kX11_72 rfl ?_
    refine wk_V1r (d' := 1) (q := 16) lkX11_73 dX11_dressed_13 rfl rfl rfl rfl rfl rfl rfl ?_
    refine ck_X11_refuse (i := 0) (by decide) (by decide) ?_
    refine wk_ireturn dX11_dressed_16 rfl rfl ?_
    exact h0 hw _ _ hC.found (FC.rf.wr rfl)
theorem lp_X11_shortest {N : Nat} (hC : CR m L a aL) (hO : OK D a) (hN : N ≤ 40) (h1 : ∀ j, j < cA (a 73) → (shS (a 73) N (cA (a 73))).1 = nI j → Po m L a aL Q (.int (nI j))) (h0 : cA (a 73) = 0 → Po m L (rfA a 3) aL Q (.int (-1000000004))) : ∀ (r j : Nat) (v : Nat → Int32) (be le : Int32), j + r = cA (a 73) → ((j = 0 ∧ be = -1 ∧ le = 201) ∨ (0 < j ∧ (be, le) = shS (a 73) N j)) → ∀ lv', (lv' = [(0, Value.ref (ev_z E + 0)), (1, .int (nI N)), (2, .int be), (3, .int le), (4, .int (nI j))]) → WK E 6 MX11_shortest 26 lv' [] (wr m 59 v) L Q := by
  have hB := hC.1
  have hA := hO.1
  have hc8 := hA.1.2.1
  have hc3 : m 8 3 = nI (cA (a 73)) := hB.1.trans hA.1.1
  have e3 : m 8 6 = a 73 3 := hB.2.2.2.1
  have e4 : m 8 7 = a 73 4 := hB.2.2.2.2.1
  have hdg := hA.2.2.2.1
  have n89 : (8 : Nat) ≠ 59 := by decide
  have hb : ∀ g, g < cA (a 73) → 10 ≤ (wshN (a 73 3) (a 73 4) (gv (a 73) g) N 1).toInt ∧ (wshN (a 73 3) (a 73 4) (gv (a 73) g) N 1).toInt ≤ 200 := fun g hg => (ok_wshN (t := a 73 4) (hA.1.2.2 g hg) (by omega) (by omega) N).2.1
  intro r
  induction r with
  | zero =>
    intro j v be le hj hi lv' hlv
    subst hlv
    refine wk_iload (i := 4) (q := 28) dX11_shortest_26 rfl rfl ?_
    refine wk_aload_n (i := 0) (q := 29) dX11_shortest_28 rfl rfl rfl ?_
    refine wk_get (q := 32) fgX11_18 dX11_shortest_29 rfl rfl rfl rfl ?_
    refine wk_get (q := 35) fgX11_99 dX11_shortest_32 rfl rfl rfl rfl ?_
    refine wk_icmp_ge (t := 89) (q := 38) dX11_shortest_35 rfl rfl (fun c35 => ?_) (fun h => absurd (by rw [wr_n n89, hc3]; exact nI_le (by omega) (by omega)) h)
    refine wk_iload_n (i := 2) (q := 90) dX11_shortest_89 rfl rfl rfl ?_
    refine wk_if_ge (t := 102) (q := 93) dX11_shortest_90 rfl rfl (fun c90 => ?_) (fun c90 => ?_)
    · skip
      rcases hi with ⟨q1, q2, q3⟩ | ⟨q1, q2⟩
      · (subst q2; exact absurd c90 (by decide))
      obtain ⟨⟨jj, hjj, ejj⟩, -⟩ := shS_b hb j q1 (by omega)
      rw [← q2] at ejj
      refine wk_iload_n (i := 2) (q := 103) dX11_shortest_102 rfl rfl rfl ?_
      refine wk_ireturn dX11_shortest_103 rfl rfl ?_
      first | exact h0 (by omega) _ _ hC.t59.found ((FC.rf.wr rfl).wr rfl) | (have e : j = cA (a 73) := (by omega); rw [show be = nI jj from ejj]; exact h1 jj (by omega) (by rw [← e, ← q2]; exact ejj) _ _ hC.t59 (FC.rf.wr rfl))
    · skip
      rcases hi with ⟨q1, q2, q3⟩ | ⟨q1, q2⟩
      rotate_left
      · (obtain ⟨⟨jj, hjj, ejj⟩, -⟩ := shS_b hb j q1 (by omega); rw [← q2] at ejj; have ejj : be = nI jj := ejj; rw [ejj] at c90; exact absurd (nI_pos' (by omega)) c90)
      refine wk_aload_n (i := 0) (q := 94) dX11_shortest_93 rfl rfl rfl ?_
      refine wk_ldc (q := 96) dX11_shortest_94 kX11_205 rfl ?_
      refine wk_V1r (d' := 1) (q := 99) lkX11_73 dX11_shortest_96 rfl rfl rfl rfl rfl rfl rfl ?_
      refine ck_X11_refuse (i := 3) (by decide) (by decide) ?_
      refine wk_goto (t := 103) dX11_shortest_99 rfl ?_
      refine wk_ireturn dX11_shortest_103 rfl rfl ?_
      first | exact h0 (by omega) _ _ hC.t59.found ((FC.rf.wr rfl).wr rfl) | (have e : j = cA (a 73) := (by omega); rw [show be = nI jj from ejj]; exact h1 jj (by omega) (by rw [← e, ← q2]; exact ejj) _ _ hC.t59 (FC.rf.wr rfl))
  | succ r ih =>
    intro j v be le hj hi lv' hlv
    subst hlv
    have hE := hB.e7 (g := j) (by omega)
    have ho := hA.1.2.2 j (by omega)
    have hbj := hb j (by omega)
    have n9 : 8 + 1 + 1 + j ≠ 59 := by omega
    have hlen : wshN (a 73 3) (a 73 4) (cpG (m (8 + 1 + 1 + j)) v) N 1 = wshN (a 73 3) (a 73 4) (gv (a 73) j) N 1 := ((E7.cp.trans hE).wshN N) 1 (by decide)
    have hnx : shS (a 73) N (j + 1) = if wshN (a 73 3) (a 73 4) (gv (a 73) j) N 1 < le then (nI j, wshN (a 73 3) (a 73 4) (gv (a 73) j) N 1) else (be, le) := by
      show (if _ < (shS (a 73) N j).2 then _ else shS (a 73) N j) = _
      rcases hi with ⟨q1, q2, q3⟩ | ⟨q1, q2⟩
      · subst q1; subst q3
        rw [if_pos (by rw [fa_lt]; show _ < (999 : Int32).toInt; rw [show (999 : Int32).toInt = 999 by decide]; omega), if_pos (by rw [fa_lt, show (201 : Int32).toInt = 201 by decide]; omega)]
      · rw [← q2]
    have hj0 : ¬ wshN (a 73 3) (a 73 4) (gv (a 73) j) N 1 < le → 0 < j := fun hh => by
      rcases hi with ⟨q1, q2, q3⟩ | ⟨q1, q2⟩
      · subst q3
        exact absurd (by rw [fa_lt, show (201 : Int32).toInt = 201 by decide]; omega) hh
      · exact q1
    refine wk_iload (i := 4) (q := 28) dX11_shortest_26 rfl rfl ?_
    refine wk_aload_n (i := 0) (q := 29) dX11_shortest_28 rfl rfl rfl ?_
    refine wk_get (q := 32) fgX11_18 dX11_shortest_29 rfl rfl rfl rfl ?_
    refine wk_get (q := 35) fgX11_99 dX11_shortest_32 rfl rfl rfl rfl ?_
    refine wk_icmp_ge (t := 89) (q := 38) dX11_shortest_35 rfl rfl (fun h => absurd h (by rw [wr_n n89, hc3]; exact nI_ge (by omega) (by omega))) (fun c35 => ?_)
    refine wk_aload_n (i := 0) (q := 39) dX11_shortest_38 rfl rfl rfl ?_
    refine wk_get (q := 42) fgX11_18 dX11_shortest_39 rfl rfl rfl rfl ?_
    refine wk_iload (i := 4) (q := 44) dX11_shortest_42 rfl rfl ?_
    refine wk_V1r (d' := 1) (q := 47) lkX11_102 dX11_shortest_44 rfl rfl rfl rfl rfl rfl rfl ?_
    refine ck_X0_garmentAt (b := 8) (c := cA (a 73)) rfl (by rw [wr_n n89]; exact hc3) hc8 (fun n hn e => ?_) (fun hno => ?_)
    · skip
      have e := nI_inj (by omega) (by omega) e
      subst e
      refine wk_astore (i := 5) (q := 49) (lv' := [_, _, _, _, _, _]) dX11_shortest_47 rfl rfl rfl ?_
      refine wk_aload (i := 5) (q := 51) dX11_shortest_49 rfl rfl ?_
      refine wk_ifnull (q := 54) dX11_shortest_51 rfl ?_
      refine wk_aload_n (i := 0) (q := 55) dX11_shortest_54 rfl rfl rfl ?_
      refine wk_aload (i := 5) (q := 57) dX11_shortest_55 rfl rfl ?_
      refine wk_iload_n (i := 1) (q := 58) dX11_shortest_57 rfl rfl rfl ?_
      refine wk_V2v (d' := 5) (q := 61) lkX11_197 dX11_shortest_58 rfl rfl rfl rfl rfl rfl rfl ?_
      refine ck_X11_tryWashes (N := N) (D := D) (by omega) (sh_g sb_8 (by omega)) n9 (by rw [wr_n n9]; exact hE.ok ho) (by rw [wr_n n89, e3]; omega) (by rw [wr_n n89, e3]; omega) ?_
      rw [wr_wr, wr_s, wr_n n9, wr_n n89, e3, e4]
      refine wk_aload_n (i := 0) (q := 62) dX11_shortest_61 rfl rfl rfl ?_
      refine wk_get (q := 65) fgX11_35 dX11_shortest_62 rfl rfl rfl rfl ?_
      refine wk_get (q := 68) fgX11_116 dX11_shortest_65 rfl rfl rfl rfl ?_
      refine wk_iload_n (i := 3) (q := 69) dX11_shortest_68 rfl rfl rfl ?_
      rw [wr_s, hlen]
      refine wk_icmp_ge (t := 83) (q := 72) dX11_shortest_69 rfl rfl (fun c69 => ?_) (fun c69 => ?_)
      · skip
        rw [if_neg (by rw [fa_lt]; rw [fa_le] at c69; omega)] at hnx
        have hp := hj0 (by rw [fa_lt]; rw [fa_le] at c69; omega)
        refine wk_iinc (w := 1) (q := 86) (lv' := [_, _, _, _, _, _]) dX11_shortest_83 rfl rfl rfl rfl rfl ?_
        rw [nI_1]
        refine wk_goto (t := 26) dX11_shortest_86 rfl ?_
        refine wk_pick [0, 1, 2, 3, 4] (lv' := [_, _, _, _, _]) rfl ?_
        exact ih (j + 1) _ _ _ (by omega) (Or.inr ⟨by omega, hnx.symm⟩) _ rfl
      · skip
        rw [if_pos (by rw [fa_lt]; rw [fa_le] at c69; omega)] at hnx
        refine wk_aload_n (i := 0) (q := 73) dX11_shortest_72 rfl rfl rfl ?_
        refine wk_get (q := 76) fgX11_35 dX11_shortest_73 rfl rfl rfl rfl ?_
        refine wk_get (q := 79) fgX11_116 dX11_shortest_76 rfl rfl rfl rfl ?_
        rw [wr_s, hlen]
        refine wk_istore_n (i := 3) (q := 80) (lv' := [_, _, _, _, _, _]) dX11_shortest_79 rfl rfl rfl rfl ?_
        refine wk_iload (i := 4) (q := 82) dX11_shortest_80 rfl rfl ?_
        refine wk_istore_n (i := 2) (q := 83) (lv' := [_, _, _, _, _, _]) dX11_shortest_82 rfl rfl rfl rfl ?_
        refine wk_iinc (w := 1) (q := 86) (lv' := [_, _, _, _, _, _]) dX11_shortest_83 rfl rfl rfl rfl rfl ?_
        rw [nI_1]
        refine wk_goto (t := 26) dX11_shortest_86 rfl ?_
        refine wk_pick [0, 1, 2, 3, 4] (lv' := [_, _, _, _, _]) rfl ?_
        exact ih (j + 1) _ _ _ (by omega) (Or.inr ⟨by omega, hnx.symm⟩) _ rfl
    · skip
      exact absurd rfl (hno j (by omega))
theorem ck_X11_shortest {n : Int32} (hC : CR m L a aL) (hO : OK D a) (h1 : ∀ N j, N ≤ 40 → n = nI N → j < cA (a 73) → (shS (a 73) N (cA (a 73))).1 = nI j → Po m L a aL Q (.int (nI j))) (h2 : ∀ N, N ≤ 40 → n = nI N → cA (a 73) = 0 → Po m L (rfA a 3) aL Q (.int (-1000000004))) (h0 : ¬ (0 ≤ n ∧ n ≤ 40) → Po m L (rfA a 0) aL Q (.int (-1000000001))) : CK E 6 MX11_shortest [.ref (ev_z E + 0), .int n] m L Q := by
  refine CK.of rfl rfl (lv := [(0, _), (1, _)]) rfl ?_
  refine wk_iload_n (i := 1) (q := 1) dX11_shortest_0 rfl rfl rfl ?_
  refine wk_iconst (v := 0) (q := 2) dX11_shortest_1 rfl rfl ?_
  refine wk_bipush (v := 40) (q := 4) dX11_shortest_2 rfl rfl ?_
  refine wk_S3r (d' := 1) (q := 7) lkX11_61 dX11_shortest_4 rfl rfl rfl rfl ?_
  refine ck_X11_within (fun hw => ?_) (fun hw => ?_)
  · skip
    obtain ⟨N, hN1, hN2, rfl⟩ := rng (lo := 0) (hi := 40) (by omega) (by omega) hw
    refine wk_if_ne (t := 17) (q := 10) dX11_shortest_7 rfl rfl (fun _ => ?_) (fun h => absurd h (by decide))
    refine wk_iconst (v := -1) (q := 18) dX11_shortest_17 rfl rfl ?_
    refine wk_istore_n (i := 2) (q := 19) (lv' := [_, _, _]) dX11_shortest_18 rfl rfl rfl rfl ?_
    refine wk_sipush (v := 201) (q := 22) dX11_shortest_19 rfl rfl ?_
    refine wk_istore_n (i := 3) (q := 23) (lv' := [_, _, _, _]) dX11_shortest_22 rfl rfl rfl rfl ?_
    refine wk_iconst (v := 0) (q := 24) dX11_shortest_23 rfl rfl ?_
    refine wk_istore (i := 4) (q := 26) (lv' := [_, _, _, _, _]) dX11_shortest_24 rfl rfl rfl ?_
    have hl := lp_X11_shortest (E := E) hC hO hN2 (fun j => h1 N j hN2 rfl) (h2 N hN2 rfl) (cA (a 73)) 0 (m 59) (-1) 201 (by omega) (Or.inl ⟨rfl, rfl, rfl⟩) _ rfl
    rw [wr_self] at hl
    exact hl
  · skip
    refine wk_if_ne (t := 17) (q := 10) dX11_shortest_7 rfl rfl (fun h => absurd (by decide) h) (fun _ => ?_)
    refine wk_aload_n (i := 0) (q := 11) dX11_shortest_10 rfl rfl rfl ?_
    refine wk_ldc (q := 13) dX11_shortest_11 kX11_72 rfl ?_
    refine wk_V1r (d' := 1) (q := 16) lkX11_73 dX11_shortest_13 rfl rfl rfl rfl rfl rfl rfl ?_
    refine ck_X11_refuse (i := 0) (by decide) (by decide) ?_
    refine wk_ireturn dX11_shortest_16 rfl rfl ?_
    exact h0 hw _ _ hC.found (FC.rf.wr rfl)
end CO
