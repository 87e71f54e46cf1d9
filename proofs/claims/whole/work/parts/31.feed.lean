/-! the tape: bytes come to its end; wiping (fa_and, fa_mask as kit/laws/NUMBERS has them) -/
theorem fa_and (a b : Nat) : nI a &&& nI b = nI (a &&& b) := by
  apply Int32.toBitVec_inj.1
  show BitVec.ofNat 32 a &&& BitVec.ofNat 32 b = BitVec.ofNat 32 (a &&& b)
  apply BitVec.eq_of_getLsbD_eq
  intro i hi
  simp [hi]
theorem fa_mask (n k : Nat) : nI n &&& nI (2 ^ k - 1) = nI (n % 2 ^ k) := by rw [fa_and, Nat.and_two_pow_sub_one_eq_mod]
theorem nI_ex (x : Int32) : ∃ n : Nat, x = nI n := ⟨x.toBitVec.toNat, Int32.toBitVec_inj.1 (by
  show x.toBitVec = BitVec.ofNat 32 x.toBitVec.toNat
  simp)⟩
theorem byRel_of (x : Int32) : byRel x.toInt8.toInt32.toInt8.toInt32 (x &&& 255) := by
  obtain ⟨n, rfl⟩ := nI_ex x
  have e : nI n &&& 255 = nI (n % 256) := fa_mask n 8
  have ht : (nI (n % 256)).toInt = ((n % 256 : Nat) : Int) := nI_toInt (by omega)
  have hc : (nI n).toInt8.toInt32.toInt8.toInt32.toInt = (((n : Int).bmod 4294967296).bmod 256).bmod 256 := by
    rw [Int8.toInt_toInt32, Int32.toInt_toInt8, Int8.toInt_toInt32, Int32.toInt_toInt8]
    show ((Int32.ofNat n).toInt.bmod 256).bmod 256 = _
    rw [Int32.toInt_ofNat']
  rw [e]
  unfold byRel
  rw [ht, hc, Int.bmod_def, Int.bmod_def, Int.bmod_def]
  refine ⟨by omega, ?_⟩
  repeat' split
  all_goals omega
def fdV (y : Int32) (k : Nat) : Int32 := y >>> (8 * nI k &&& 31)
def fdR (v : Nat → Int32) (R : Nat → Int32) (tn N j : Nat) : Nat → Int32 := fun x => if tn ≤ x ∧ x < tn + j then v (N - 1 - (x - tn)) else R x
theorem fdR_s {v R : Nat → Int32} {tn N j : Nat} : upd (fdR v R tn N j) (tn + j) (v (N - 1 - j)) = fdR v R tn N (j + 1) := by
  funext x
  unfold upd fdR
  by_cases e : x = tn + j
  · rw [if_pos e, if_pos (by omega), show N - 1 - (x - tn) = N - 1 - j by omega]
  · rw [if_neg e]
    by_cases e2 : tn ≤ x ∧ x < tn + j
    · rw [if_pos e2, if_pos (by omega)]
    · rw [if_neg e2, if_neg (by omega)]
theorem fdR_0 {v R : Nat → Int32} {tn N : Nat} : fdR v R tn N 0 = R := by
  funext x
  unfold fdR
  rw [if_neg (by omega)]
section FD
variable {E : EVt} {m : Mm} {L : Ml} {Q : Value → Mm → Ml → Prop} {a : Mm} {aL : Ml} {D : Nat}
theorem ck_X9_append {c : Nat} {b : Int32} {R S : Nat → Int32} (hc : S 1 = nI c) (hc2 : c < 120) (hQ : Q .null (wr (wr m 61 (upd R c b.toInt8.toInt32)) 60 (upd S 1 (nI (c + 1)))) L) : CK E 1 MX9_append [.ref (ev_z E + 60), .int b] (wr (wr m 61 R) 60 S) L Q := by
  have h60 : wr (wr m 61 R) 60 S 60 1 = nI c := by rw [wr_s]; exact hc
  refine CK.of rfl rfl (lv := [(0, _), (1, _)]) rfl ?_
  refine wk_aload_n (i := 0) (q := 1) dX9_append_0 rfl rfl rfl ?_
  refine wk_get (q := 4) fgX9_15 dX9_append_1 rfl rfl rfl rfl ?_
  refine wk_bipush (v := 120) (q := 6) dX9_append_4 rfl rfl ?_
  rw [h60]
  refine wk_icmp_ge (t := 29) (q := 9) dX9_append_6 rfl rfl (fun h => absurd h (nI_ge (b := 120) hc2 (by omega))) (fun c6 => ?_)
  refine wk_aload_n (i := 0) (q := 10) dX9_append_9 rfl rfl rfl ?_
  refine wk_get (q := 13) fgX9_9 dX9_append_10 rfl rfl rfl rfl ?_
  refine wk_aload_n (i := 0) (q := 14) dX9_append_13 rfl rfl rfl ?_
  refine wk_get (q := 17) fgX9_15 dX9_append_14 rfl rfl rfl rfl ?_
  refine wk_iload_n (i := 1) (q := 18) dX9_append_17 rfl rfl rfl ?_
  refine wk_bast (n := c) (q := 19) dX9_append_18 rfl h60 hc2 rfl ?_
  rw [wr_n (show (61 : Nat) ≠ 60 by decide), wr_s, wr_comm (show (60 : Nat) ≠ 61 by decide), wr_wr]
  refine wk_aload_n (i := 0) (q := 20) dX9_append_19 rfl rfl rfl ?_
  refine wk_dup (q := 21) dX9_append_20 rfl rfl ?_
  refine wk_get (q := 24) fgX9_15 dX9_append_21 rfl rfl rfl rfl ?_
  rw [wr_s, hc]
  refine wk_iconst (v := 1) (q := 25) dX9_append_24 rfl rfl ?_
  refine wk_iadd (q := 26) dX9_append_25 rfl ?_
  refine wk_put (q := 29) fpX9_15 dX9_append_26 rfl rfl rfl rfl rfl rfl ?_
  rw [nI_1, wr_wr, wr_s]
  refine wk_return dX9_append_29 rfl ?_
  exact hQ
theorem lp_X11_feed {y n : Int32} {tn N : Nat} (hN : tn + N ≤ 120) (hQ : Q (.int (nI (tn + N))) (wr (wr m 61 (fdR (fun k => (fdV y k).toInt8.toInt32.toInt8.toInt32) (m 61) tn N N)) 60 (upd (m 60) 1 (nI (tn + N)))) L) : ∀ (r j : Nat), j + r = N → WK E 2 MX11_feed 41 [(0, .ref (ev_z E + 0)), (1, .int y), (2, .int n), (3, .int (nI r - 1))] [] (wr (wr m 61 (fdR (fun k => (fdV y k).toInt8.toInt32.toInt8.toInt32) (m 61) tn N j)) 60 (upd (m 60) 1 (nI (tn + j)))) L Q := by
  intro r
  induction r with
  | zero =>
    intro j hj
    refine wk_iload_n (i := 3) (q := 42) dX11_feed_41 rfl rfl rfl ?_
    refine wk_if_lt (t := 65) (q := 45) dX11_feed_42 rfl rfl (fun c42 => ?_) (fun h => absurd (by decide) h)
    refine wk_aload_n (i := 0) (q := 66) dX11_feed_65 rfl rfl rfl ?_
    refine wk_get (q := 69) fgX11_42 dX11_feed_66 rfl rfl rfl rfl ?_
    refine wk_get (q := 72) fgX11_220 dX11_feed_69 rfl rfl rfl rfl ?_
    refine wk_ireturn dX11_feed_72 rfl rfl ?_
    rw [wr_s, upd_s]
    have e : j = N := by omega
    subst e
    exact hQ
  | succ r ih =>
    intro j hj
    rw [nI_pred]
    have hst := fdR_s (v := fun k => (fdV y k).toInt8.toInt32.toInt8.toInt32) (R := m 61) (tn := tn) (N := N) (j := j)
    rw [show N - 1 - j = r by omega] at hst
    refine wk_iload_n (i := 3) (q := 42) dX11_feed_41 rfl rfl rfl ?_
    refine wk_if_lt (t := 65) (q := 45) dX11_feed_42 rfl rfl (fun h => absurd h (nI_pos (by omega))) (fun c42 => ?_)
    refine wk_aload_n (i := 0) (q := 46) dX11_feed_45 rfl rfl rfl ?_
    refine wk_get (q := 49) fgX11_42 dX11_feed_46 rfl rfl rfl rfl ?_
    refine wk_iload_n (i := 1) (q := 50) dX11_feed_49 rfl rfl rfl ?_
    refine wk_bipush (v := 8) (q := 52) dX11_feed_50 rfl rfl ?_
    refine wk_iload_n (i := 3) (q := 53) dX11_feed_52 rfl rfl rfl ?_
    refine wk_imul (q := 54) dX11_feed_53 rfl ?_
    refine wk_ishr (q := 55) dX11_feed_54 rfl ?_
    refine wk_i2b (q := 56) dX11_feed_55 rfl ?_
    refine wk_V1v (d' := 1) (q := 59) lkX11_223 dX11_feed_56 rfl rfl rfl rfl rfl rfl rfl ?_
    refine ck_X9_append (c := tn + j) upd_s (by omega) ?_
    rw [show upd (upd (m 60) 1 (nI (tn + j))) 1 (nI (tn + j + 1)) = upd (m 60) 1 (nI (tn + (j + 1))) from upd_upd]
    rw [show upd (fdR (fun k => (fdV y k).toInt8.toInt32.toInt8.toInt32) (m 61) tn N j) (tn + j) ((y >>> (8 * nI r &&& 31)).toInt8.toInt32.toInt8.toInt32) = fdR (fun k => (fdV y k).toInt8.toInt32.toInt8.toInt32) (m 61) tn N (j + 1) from hst]
    refine wk_iinc (w := -1) (q := 62) (lv' := [_, _, _, _]) dX11_feed_59 rfl rfl rfl rfl rfl ?_
    skip
    refine wk_goto (t := 41) dX11_feed_62 rfl ?_
    rw [show nI r + (-1) = nI r - 1 from (Int32.sub_eq_add_neg _ _).symm]
    exact ih (j + 1) (by omega)
theorem CR_tape {m : Mm} {L : Ml} {a : Mm} {aL : Ml} {R S T : Nat → Int32} {tn : Nat} (h : CR m L a aL) (h2 : tn ≤ 120) (hS : S 1 = nI tn) (hb : ∀ i, i < 120 → i < tn → byRel (R i) (T i)) : CR (wr (wr m 61 R) 60 S) L (wr (wr a 78 T) 72 (upd (a 72) 7 (nI tn))) aL := by
  obtain ⟨h1, ⟨g2, g3⟩, ⟨g4, g5⟩, g6, g7⟩ := h
  refine ⟨?_, ⟨?_, fun q => ?_⟩, ⟨?_, fun i hi hj => ?_⟩, fun s hs => ?_, fun i hi => ?_⟩
  · rw [wr_n (by decide), wr_n (by decide)]; exact h1.mov (fun k _ _ => by rw [wr_n (by omega), wr_n (by omega)])
  · rw [wr_s, upd_n (by decide), wr_n (by decide), wr_n (by decide)]; exact g2
  · rw [wr_s, upd_n (by decide)] at q
    rw [wr_n (by decide), wr_n (by decide)]; exact (g3 q).mov (fun k _ _ => by rw [wr_n (by omega), wr_n (by omega)])
  · rw [wr_s, wr_s, upd_s]; exact hS
  · rw [wr_s, upd_s, nI_clamp (by omega)] at hj
    rw [wr_n (show (61 : Nat) ≠ 60 by decide), wr_s, wr_n (show (78 : Nat) ≠ 72 by decide), wr_s]
    exact hb i hi hj
  · rw [wr_n (by omega), wr_n (by omega), wr_n (by decide), wr_n (by decide), wr_n (by decide), wr_n (by decide)]; exact g6 s hs
  · rw [wr_n (by decide), wr_n (by decide), wr_n (by decide), wr_n (by decide)]; exact g7 i hi
theorem fd_rel {R T : Nat → Int32} {y : Int32} {tn N : Nat} (h : ∀ i, i < 120 → i < tn → byRel (R i) (T i)) : ∀ i, i < 120 → i < tn + N → byRel (fdR (fun k => (fdV y k).toInt8.toInt32.toInt8.toInt32) R tn N N i) (fdR (fun k => fdV y k &&& 255) T tn N N i) := by
  intro i hi hj
  unfold fdR
  by_cases e : tn ≤ i ∧ i < tn + N
  · rw [if_pos e, if_pos e]; exact byRel_of _
  · rw [if_neg e, if_neg e]; exact h i hi (by omega)
theorem ck_X11_feed {y n : Int32} (hC : CR m L a aL) (hO : OK D a) (h1 : ∀ N, 1 ≤ N → N ≤ 4 → n = nI N → tnA a + N ≤ 120 → Po m L (wr (wr a 78 (fdR (fun k => fdV y k &&& 255) (a 78) (tnA a) N N)) 72 (upd (a 72) 7 (nI (tnA a + N)))) aL Q (.int (nI (tnA a + N)))) (h2 : ∀ N, 1 ≤ N → N ≤ 4 → n = nI N → ¬ tnA a + N ≤ 120 → Po m L (rfA a 1) aL Q (.int (-1000000002))) (h0 : ¬ (1 ≤ n ∧ n ≤ 4) → Po m L (rfA a 0) aL Q (.int (-1000000001))) : CK E 2 MX11_feed [.ref (ev_z E + 0), .int y, .int n] m L Q := by
  have ht := hO.2.2.1
  have e1 : m 60 1 = nI (tnA a) := hC.2.2.1.1.trans ht.1
  refine CK.of rfl rfl (lv := [(0, _), (1, _), (2, _)]) rfl ?_
  refine wk_iload_n (i := 2) (q := 1) dX11_feed_0 rfl rfl rfl ?_
  refine wk_iconst (v := 1) (q := 2) dX11_feed_1 rfl rfl ?_
  refine wk_iconst (v := 4) (q := 3) dX11_feed_2 rfl rfl ?_
  refine wk_S3r (d' := 1) (q := 6) lkX11_61 dX11_feed_3 rfl rfl rfl rfl ?_
  refine ck_X11_within (fun hw => ?_) (fun hw => ?_)
  · skip
    obtain ⟨N, hN1, hN2, rfl⟩ := rng (lo := 1) (hi := 4) (by omega) (by omega) hw
    have hs : 120 - nI N = nI (120 - N) := by (rw [fa_eq, sb_i (by rw [nI_toInt (by omega), show (120 : Int32).toInt = 120 by decide]; omega) (by rw [nI_toInt (by omega), show (120 : Int32).toInt = 120 by decide]; omega), nI_toInt (by omega), nI_toInt (by omega), show (120 : Int32).toInt = 120 by decide]; omega)
    refine wk_if_ne (t := 16) (q := 9) dX11_feed_6 rfl rfl (fun _ => ?_) (fun h => absurd h (by decide))
    refine wk_aload_n (i := 0) (q := 17) dX11_feed_16 rfl rfl rfl ?_
    refine wk_get (q := 20) fgX11_42 dX11_feed_17 rfl rfl rfl rfl ?_
    refine wk_get (q := 23) fgX11_220 dX11_feed_20 rfl rfl rfl rfl ?_
    refine wk_bipush (v := 120) (q := 25) dX11_feed_23 rfl rfl ?_
    refine wk_iload_n (i := 2) (q := 26) dX11_feed_25 rfl rfl rfl ?_
    refine wk_isub (q := 27) dX11_feed_26 rfl ?_
    rw [e1, hs]
    refine wk_icmp_le (t := 37) (q := 30) dX11_feed_27 rfl rfl (fun c27 => ?_) (fun c27 => ?_)
    · skip
      have hfit : tnA a + N ≤ 120 := by (rcases Nat.lt_or_ge (120 - N) (tnA a) with h | h; exact absurd c27 (nI_ge h (by omega)); omega)
      refine wk_iload_n (i := 2) (q := 38) dX11_feed_37 rfl rfl rfl ?_
      refine wk_iconst (v := 1) (q := 39) dX11_feed_38 rfl rfl ?_
      refine wk_isub (q := 40) dX11_feed_39 rfl ?_
      refine wk_istore_n (i := 3) (q := 41) (lv' := [_, _, _, _]) dX11_feed_40 rfl rfl rfl rfl ?_
      have hq := h1 N hN1 hN2 rfl hfit _ _ (CR_tape hC hfit upd_s (fd_rel (y := y) (N := N) (fun i hi hj => hC.2.2.1.2 i hi hj))) ((FC.rf.wr (v := fdR (fun k => (fdV y k).toInt8.toInt32.toInt8.toInt32) (m 61) (tnA a) N N) rfl).wr (v := upd (m 60) 1 (nI (tnA a + N))) rfl)
      have hl := lp_X11_feed (E := E) (n := nI N) hfit hq N 0 (by omega)
      rw [fdR_0, wr_self, show nI (tnA a + 0) = m 60 1 from e1.symm, upd_same, wr_self] at hl
      exact hl
    · skip
      have hfit : ¬ tnA a + N ≤ 120 := fun h => c27 (nI_le (by omega) (by omega))
      refine wk_aload_n (i := 0) (q := 31) dX11_feed_30 rfl rfl rfl ?_
      refine wk_ldc (q := 33) dX11_feed_31 kX11_98 rfl ?_
      refine wk_V1r (d' := 1) (q := 36) lkX11_73 dX11_feed_33 rfl rfl rfl rfl rfl rfl rfl ?_
      refine ck_X11_refuse (i := 1) (by decide) (by decide) ?_
      refine wk_ireturn dX11_feed_36 rfl rfl ?_
      exact h2 N hN1 hN2 rfl hfit _ _ hC.found (FC.rf.wr rfl)
  · skip
    refine wk_if_ne (t := 16) (q := 9) dX11_feed_6 rfl rfl (fun h => absurd (by decide) h) (fun _ => ?_)
    refine wk_aload_n (i := 0) (q := 10) dX11_feed_9 rfl rfl rfl ?_
    refine wk_ldc (q := 12) dX11_feed_10 kX11_72 rfl ?_
    refine wk_V1r (d' := 1) (q := 15) lkX11_73 dX11_feed_12 rfl rfl rfl rfl rfl rfl rfl ?_
    refine ck_X11_refuse (i := 0) (by decide) (by decide) ?_
    refine wk_ireturn dX11_feed_15 rfl rfl ?_
    exact h0 hw _ _ hC.found (FC.rf.wr rfl)
theorem ck_X9_clear (hQ : Q (.int (m 60 1)) (wr m 60 (upd (m 60) 1 0)) L) : CK E 1 MX9_clear [.ref (ev_z E + 60)] m L Q := by
  refine CK.of rfl rfl (lv := [(0, _)]) rfl ?_
  refine wk_aload_n (i := 0) (q := 1) dX9_clear_0 rfl rfl rfl ?_
  refine wk_get (q := 4) fgX9_15 dX9_clear_1 rfl rfl rfl rfl ?_
  refine wk_istore_n (i := 1) (q := 5) (lv' := [_, _]) dX9_clear_4 rfl rfl rfl rfl ?_
  refine wk_aload_n (i := 0) (q := 6) dX9_clear_5 rfl rfl rfl ?_
  refine wk_iconst (v := 0) (q := 7) dX9_clear_6 rfl rfl ?_
  refine wk_put (q := 10) fpX9_15 dX9_clear_7 rfl rfl rfl rfl rfl rfl ?_
  refine wk_iload_n (i := 1) (q := 11) dX9_clear_10 rfl rfl rfl ?_
  refine wk_ireturn dX9_clear_11 rfl rfl ?_
  exact hQ
theorem CR_wipe {m : Mm} {L : Ml} {a : Mm} {aL : Ml} (h : CR m L a aL) : CR (wr m 60 (upd (m 60) 1 0)) L (wr a 72 (upd (a 72) 7 0)) aL := by
  have hx := CR_tape (R := m 61) (S := upd (m 60) 1 0) (T := a 78) (tn := 0) h (by omega) upd_s (fun i _ hj => absurd hj (by omega))
  rw [wr_self, wr_self] at hx
  exact hx
theorem ck_X11_wipe (hC : CR m L a aL) (hQ : Po m L (wr a 72 (upd (a 72) 7 0)) aL Q (.int (a 72 7))) : CK E 2 MX11_wipe [.ref (ev_z E + 0)] m L Q := by
  refine CK.of rfl rfl (lv := [(0, _)]) rfl ?_
  refine wk_aload_n (i := 0) (q := 1) dX11_wipe_0 rfl rfl rfl ?_
  refine wk_get (q := 4) fgX11_42 dX11_wipe_1 rfl rfl rfl rfl ?_
  refine wk_V0r (d' := 1) (q := 7) lkX11_227 dX11_wipe_4 rfl rfl rfl rfl rfl rfl rfl ?_
  refine ck_X9_clear ?_
  refine wk_ireturn dX11_wipe_7 rfl rfl ?_
  rw [hC.2.2.1.1]
  exact hQ _ _ (CR_wipe hC) (FC.rf.wr rfl)
theorem lp_X12_feed {y n : Int32} {tn N : Nat} (hN : tn + N ≤ 120) (hQ : Q (.int (nI (tn + N))) (wr (wr m 78 (fdR (fun k => fdV y k &&& 255) (m 78) tn N N)) 72 (upd (m 72) 7 (nI (tn + N)))) L) : ∀ (r j : Nat), j + r = N → WK E 2 MX12_feed 41 [(0, .ref (ev_z E + 72)), (1, .int y), (2, .int n), (3, .int (nI r - 1))] [] (wr (wr m 78 (fdR (fun k => fdV y k &&& 255) (m 78) tn N j)) 72 (upd (m 72) 7 (nI (tn + j)))) L Q := by
  intro r
  induction r with
  | zero =>
    intro j hj
    refine wk_iload_n (i := 3) (q := 42) dX12_feed_41 rfl rfl rfl ?_
    refine wk_if_lt (t := 80) (q := 45) dX12_feed_42 rfl rfl (fun c42 => ?_) (fun h => absurd (by decide) h)
    refine wk_aload_n (i := 0) (q := 81) dX12_feed_80 rfl rfl rfl ?_
    refine wk_get (q := 84) fgX12_193 dX12_feed_81 rfl rfl rfl rfl ?_
    refine wk_ireturn dX12_feed_84 rfl rfl ?_
    rw [wr_s, upd_s]
    have e : j = N := by omega
    subst e
    exact hQ
  | succ r ih =>
    intro j hj
    rw [nI_pred]
    have hst := fdR_s (v := fun k => fdV y k &&& 255) (R := m 78) (tn := tn) (N := N) (j := j)
    rw [show N - 1 - j = r by omega] at hst
    have h72 : ∀ R, wr (wr m 78 R) 72 (upd (m 72) 7 (nI (tn + j))) 72 7 = nI (tn + j) := fun R => by rw [wr_s, upd_s]
    refine wk_iload_n (i := 3) (q := 42) dX12_feed_41 rfl rfl rfl ?_
    refine wk_if_lt (t := 80) (q := 45) dX12_feed_42 rfl rfl (fun h => absurd h (nI_pos (by omega))) (fun c42 => ?_)
    refine wk_aload_n (i := 0) (q := 46) dX12_feed_45 rfl rfl rfl ?_
    refine wk_get (q := 49) fgX12_25 dX12_feed_46 rfl rfl rfl rfl ?_
    refine wk_aload_n (i := 0) (q := 50) dX12_feed_49 rfl rfl rfl ?_
    refine wk_get (q := 53) fgX12_193 dX12_feed_50 rfl rfl rfl rfl ?_
    refine wk_iload_n (i := 1) (q := 54) dX12_feed_53 rfl rfl rfl ?_
    refine wk_bipush (v := 8) (q := 56) dX12_feed_54 rfl rfl ?_
    refine wk_iload_n (i := 3) (q := 57) dX12_feed_56 rfl rfl rfl ?_
    refine wk_imul (q := 58) dX12_feed_57 rfl ?_
    refine wk_ishr (q := 59) dX12_feed_58 rfl ?_
    refine wk_sipush (v := 255) (q := 62) dX12_feed_59 rfl rfl ?_
    refine wk_iand (q := 63) dX12_feed_62 rfl ?_
    refine wk_iast (n := (tn + j)) (q := 64) dX12_feed_63 rfl (h72 _) (by show _ < 120; omega) rfl ?_
    rw [wr_n (show (78 : Nat) ≠ 72 by decide), wr_s, wr_comm (show (72 : Nat) ≠ 78 by decide), wr_wr]
    rw [show upd (fdR (fun k => fdV y k &&& 255) (m 78) tn N j) (tn + j) (y >>> (8 * nI r &&& 31) &&& 255) = fdR (fun k => fdV y k &&& 255) (m 78) tn N (j + 1) from hst]
    refine wk_aload_n (i := 0) (q := 65) dX12_feed_64 rfl rfl rfl ?_
    refine wk_dup (q := 66) dX12_feed_65 rfl rfl ?_
    refine wk_get (q := 69) fgX12_193 dX12_feed_66 rfl rfl rfl rfl ?_
    rw [h72]
    refine wk_iconst (v := 1) (q := 70) dX12_feed_69 rfl rfl ?_
    refine wk_iadd (q := 71) dX12_feed_70 rfl ?_
    refine wk_put (q := 74) fpX12_193 dX12_feed_71 rfl rfl rfl rfl rfl rfl ?_
    rw [nI_1, wr_wr, wr_s, upd_upd]
    refine wk_iinc (w := -1) (q := 77) (lv' := [_, _, _, _]) dX12_feed_74 rfl rfl rfl rfl rfl ?_
    skip
    refine wk_goto (t := 41) dX12_feed_77 rfl ?_
    rw [show nI r + (-1) = nI r - 1 from (Int32.sub_eq_add_neg _ _).symm]
    exact ih (j + 1) (by omega)
theorem ck_X12_feed {y n : Int32} {tn : Nat} (ht : m 72 7 = nI tn) (ht2 : tn ≤ 120) (h1 : ∀ N, 1 ≤ N → N ≤ 4 → n = nI N → tn + N ≤ 120 → Q (.int (nI (tn + N))) (wr (wr m 78 (fdR (fun k => fdV y k &&& 255) (m 78) tn N N)) 72 (upd (m 72) 7 (nI (tn + N)))) L) (h2 : ∀ N, 1 ≤ N → N ≤ 4 → n = nI N → ¬ tn + N ≤ 120 → Q (.int (-1000000002)) (rfA m 1) L) (h0 : ¬ (1 ≤ n ∧ n ≤ 4) → Q (.int (-1000000001)) (rfA m 0) L) : CK E 2 MX12_feed [.ref (ev_z E + 72), .int y, .int n] m L Q := by
  refine CK.of rfl rfl (lv := [(0, _), (1, _), (2, _)]) rfl ?_
  refine wk_iload_n (i := 2) (q := 1) dX12_feed_0 rfl rfl rfl ?_
  refine wk_i2l (q := 2) dX12_feed_1 rfl ?_
  refine wk_lconst (v := 1) (q := 3) dX12_feed_2 rfl rfl ?_
  refine wk_ldc2 (q := 6) dX12_feed_3 kX12_191 rfl ?_
  refine wk_S3r (d' := 1) (q := 9) lkX12_46 dX12_feed_6 rfl rfl rfl rfl ?_
  refine ck_X12_in (lo := 1) (hi := 4) (fun hw => ?_) (fun hw => ?_)
  · skip
    obtain ⟨N, hN1, hN2, rfl⟩ := rng (lo := 1) (hi := 4) (by omega) (by omega) hw
    refine wk_if_ne (t := 19) (q := 12) dX12_feed_9 rfl rfl (fun _ => ?_) (fun h => absurd h (by decide))
    refine wk_aload_n (i := 0) (q := 20) dX12_feed_19 rfl rfl rfl ?_
    refine wk_get (q := 23) fgX12_193 dX12_feed_20 rfl rfl rfl rfl ?_
    refine wk_iload_n (i := 2) (q := 24) dX12_feed_23 rfl rfl rfl ?_
    refine wk_iadd (q := 25) dX12_feed_24 rfl ?_
    refine wk_bipush (v := 120) (q := 27) dX12_feed_25 rfl rfl ?_
    rw [ht, nI_add]
    refine wk_icmp_le (t := 37) (q := 30) dX12_feed_27 rfl rfl (fun c27 => ?_) (fun c27 => ?_)
    · skip
      have hfit : tn + N ≤ 120 := by (rcases Nat.lt_or_ge 120 (tn + N) with h | h; exact absurd c27 (nI_ge (a := 120) h (by omega)); exact h)
      refine wk_iload_n (i := 2) (q := 38) dX12_feed_37 rfl rfl rfl ?_
      refine wk_iconst (v := 1) (q := 39) dX12_feed_38 rfl rfl ?_
      refine wk_isub (q := 40) dX12_feed_39 rfl ?_
      refine wk_istore_n (i := 3) (q := 41) (lv' := [_, _, _, _]) dX12_feed_40 rfl rfl rfl rfl ?_
      have hl := lp_X12_feed (E := E) (n := nI N) hfit (h1 N hN1 hN2 rfl hfit) N 0 (by omega)
      rw [fdR_0, wr_self, show nI (tn + 0) = m 72 7 from ht.symm, upd_same, wr_self] at hl
      exact hl
    · skip
      have hfit : ¬ tn + N ≤ 120 := fun h => c27 (nI_le (b := 120) h (by omega))
      refine wk_aload_n (i := 0) (q := 31) dX12_feed_30 rfl rfl rfl ?_
      refine wk_ldc (q := 33) dX12_feed_31 kX12_99 rfl ?_
      refine wk_V1r (d' := 1) (q := 36) lkX12_63 dX12_feed_33 rfl rfl rfl rfl rfl rfl rfl ?_
      refine ck_X12_finds (i := 1) (by decide) (by decide) ?_
      refine wk_ireturn dX12_feed_36 rfl rfl ?_
      exact h2 N hN1 hN2 rfl hfit
  · skip
    refine wk_if_ne (t := 19) (q := 12) dX12_feed_9 rfl rfl (fun h => absurd (by decide) h) (fun _ => ?_)
    refine wk_aload_n (i := 0) (q := 13) dX12_feed_12 rfl rfl rfl ?_
    refine wk_ldc (q := 15) dX12_feed_13 kX12_41 rfl ?_
    refine wk_V1r (d' := 1) (q := 18) lkX12_63 dX12_feed_15 rfl rfl rfl rfl rfl rfl rfl ?_
    refine ck_X12_finds (i := 0) (by decide) (by decide) ?_
    refine wk_ireturn dX12_feed_18 rfl rfl ?_
    exact h0 hw
end FD
