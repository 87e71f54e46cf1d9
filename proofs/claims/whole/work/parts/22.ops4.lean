/-! the class's sheets and the rest of its calls, but for the text -/
def narF (b : Int32) (v : Int64) : Int64 := if b = 8 then v.toInt32.toInt8.toInt32.toInt64 else if b = 16 then v.toInt32.toInt16.toInt32.toInt64 else v
section SH
variable {E : EVt} {m : Mm} {L : Ml} {Q : Value → Mm → Ml → Prop} {k : Nat}
theorem ck_X6_isMissing (hk : shp k = 6) (h1 : m k 1 = 0 → Q (.int 1) m L) (h0 : ¬ m k 1 = 0 → Q (.int 0) m L) : CK E 1 MX6_isMissing [.ref (ev_z E + k)] m L Q := by
  refine CK.of rfl rfl (lv := [(0, _)]) rfl ?_
  refine wk_aload_n (i := 0) (q := 1) dX6_isMissing_0 rfl rfl rfl ?_
  refine wk_get (q := 4) fgX6_15 dX6_isMissing_1 hk rfl rfl rfl ?_
  refine wk_if_ne (t := 11) (q := 7) dX6_isMissing_4 rfl rfl (fun c4 => ?_) (fun c4 => ?_)
  · skip
    refine wk_iconst (v := 0) (q := 12) dX6_isMissing_11 rfl rfl ?_
    refine wk_ireturn dX6_isMissing_12 rfl rfl ?_
    exact h0 c4
  · skip
    refine wk_iconst (v := 1) (q := 8) dX6_isMissing_7 rfl rfl ?_
    refine wk_goto (t := 12) dX6_isMissing_8 rfl ?_
    refine wk_ireturn dX6_isMissing_12 rfl rfl ?_
    exact h1 c4
theorem ck_X6_hasRun {f n : Int32} (hk : shp k = 6) (h1 : 0 ≤ f ∧ 0 ≤ n ∧ n ≤ m k 2 - f → Q (.int 1) m L) (h0 : ¬ (0 ≤ f ∧ 0 ≤ n ∧ n ≤ m k 2 - f) → Q (.int 0) m L) : CK E 1 MX6_hasRun [.ref (ev_z E + k), .int f, .int n] m L Q := by
  refine CK.of rfl rfl (lv := [(0, _), (1, _), (2, _)]) rfl ?_
  refine wk_iload_n (i := 1) (q := 1) dX6_hasRun_0 rfl rfl rfl ?_
  refine wk_if_lt (t := 22) (q := 4) dX6_hasRun_1 rfl rfl (fun c1 => ?_) (fun c1 => ?_)
  · skip
    refine wk_iconst (v := 0) (q := 23) dX6_hasRun_22 rfl rfl ?_
    refine wk_ireturn dX6_hasRun_23 rfl rfl ?_
    exact h0 (by simp only [fa_le, fa_lt] at *; omega)
  · skip
    refine wk_iload_n (i := 2) (q := 5) dX6_hasRun_4 rfl rfl rfl ?_
    refine wk_if_lt (t := 22) (q := 8) dX6_hasRun_5 rfl rfl (fun c5 => ?_) (fun c5 => ?_)
    · skip
      refine wk_iconst (v := 0) (q := 23) dX6_hasRun_22 rfl rfl ?_
      refine wk_ireturn dX6_hasRun_23 rfl rfl ?_
      exact h0 (by simp only [fa_le, fa_lt] at *; omega)
    · skip
      refine wk_iload_n (i := 2) (q := 9) dX6_hasRun_8 rfl rfl rfl ?_
      refine wk_aload_n (i := 0) (q := 10) dX6_hasRun_9 rfl rfl rfl ?_
      refine wk_get (q := 13) fgX6_19 dX6_hasRun_10 hk rfl rfl rfl ?_
      refine wk_iload_n (i := 1) (q := 14) dX6_hasRun_13 rfl rfl rfl ?_
      refine wk_isub (q := 15) dX6_hasRun_14 rfl ?_
      refine wk_icmp_gt (t := 22) (q := 18) dX6_hasRun_15 rfl rfl (fun c15 => ?_) (fun c15 => ?_)
      · skip
        refine wk_iconst (v := 0) (q := 23) dX6_hasRun_22 rfl rfl ?_
        refine wk_ireturn dX6_hasRun_23 rfl rfl ?_
        exact h0 (by simp only [fa_le, fa_lt] at *; omega)
      · skip
        refine wk_iconst (v := 1) (q := 19) dX6_hasRun_18 rfl rfl ?_
        refine wk_goto (t := 23) dX6_hasRun_19 rfl ?_
        refine wk_ireturn dX6_hasRun_23 rfl rfl ?_
        exact h1 (by simp only [fa_le, fa_lt] at *; omega)
theorem ck_X6_lowestBits {v : Int64} (hk : shp k = 6) (hQ : Q (.long (narF (m k 1) v)) m L) : CK E 1 MX6_lowestBits [.ref (ev_z E + k), .long v] m L Q := by
  refine CK.of rfl rfl (lv := [(0, _), (1, _)]) rfl ?_
  refine wk_aload_n (i := 0) (q := 1) dX6_lowestBits_0 rfl rfl rfl ?_
  refine wk_get (q := 4) fgX6_15 dX6_lowestBits_1 hk rfl rfl rfl ?_
  unfold narF at hQ
  by_cases e8 : m k 1 = 8
  · rw [if_pos e8] at hQ
    rw [e8]
    refine wk_lookup (t := 32) (off := 28) dX6_lowestBits_4 (by decide) (by decide) (by decide) ?_
    refine wk_lload_n (i := 1) (q := 33) dX6_lowestBits_32 rfl rfl rfl ?_
    refine wk_l2i (q := 34) dX6_lowestBits_33 rfl ?_
    refine wk_i2b (q := 35) dX6_lowestBits_34 rfl ?_
    refine wk_i2l (q := 36) dX6_lowestBits_35 rfl ?_
    refine wk_lreturn dX6_lowestBits_36 rfl ?_
    exact hQ
  · rw [if_neg e8] at hQ
    by_cases e16 : m k 1 = 16
    · rw [if_pos e16] at hQ
      rw [e16]
      refine wk_lookup (t := 37) (off := 33) dX6_lowestBits_4 (by decide) (by decide) (by decide) ?_
      refine wk_lload_n (i := 1) (q := 38) dX6_lowestBits_37 rfl rfl rfl ?_
      refine wk_l2i (q := 39) dX6_lowestBits_38 rfl ?_
      refine wk_i2s (q := 40) dX6_lowestBits_39 rfl ?_
      refine wk_i2l (q := 41) dX6_lowestBits_40 rfl ?_
      refine wk_lreturn dX6_lowestBits_41 rfl ?_
      exact hQ
    · rw [if_neg e16] at hQ
      refine wk_lookup (t := 42) (off := 38) dX6_lowestBits_4 (by decide) ?_ (by decide) ?_
      · show (if (8 : Int) = (m k 1).toInt then (28 : Int) else if (16 : Int) = (m k 1).toInt then 33 else 38) = 38
        rw [if_neg (fun e => e8 (Int32.toInt_inj.mp (e.symm.trans (by decide)))), if_neg (fun e => e16 (Int32.toInt_inj.mp (e.symm.trans (by decide))))]
      refine wk_lload_n (i := 1) (q := 43) dX6_lowestBits_42 rfl rfl rfl ?_
      refine wk_lreturn dX6_lowestBits_43 rfl ?_
      exact hQ
theorem ck_X6_put {n c : Nat} {v : Int64} (hk : shp k = 6) (hc : m k 2 = nI c) (hc4 : c ≤ 40) (hn : n < c) (hQ : Q .null m (wrL L (k + 1) (vp_updL (L (k + 1)) n (narF (m k 1) v)))) : CK E 2 MX6_put [.ref (ev_z E + k), .int (nI n), .long v] m L Q := by
  have hl : llen (k + 1) = 40 := by rcases isS_of hk with rfl | rfl | rfl | rfl <;> rfl
  refine CK.of rfl rfl (lv := [(0, _), (1, _), (2, _)]) rfl ?_
  refine wk_iload_n (i := 1) (q := 1) dX6_put_0 rfl rfl rfl ?_
  refine wk_if_lt (t := 23) (q := 4) dX6_put_1 rfl rfl (fun h => absurd h (nI_pos (by omega))) (fun c1 => ?_)
  refine wk_iload_n (i := 1) (q := 5) dX6_put_4 rfl rfl rfl ?_
  refine wk_aload_n (i := 0) (q := 6) dX6_put_5 rfl rfl rfl ?_
  refine wk_get (q := 9) fgX6_19 dX6_put_6 hk rfl rfl rfl ?_
  refine wk_icmp_ge (t := 23) (q := 12) dX6_put_9 rfl rfl (fun h => absurd h (by rw [hc]; exact nI_ge hn (by omega))) (fun c9 => ?_)
  refine wk_aload_n (i := 0) (q := 13) dX6_put_12 rfl rfl rfl ?_
  refine wk_get (q := 16) fgX6_9 dX6_put_13 hk rfl rfl rfl ?_
  refine wk_iload_n (i := 1) (q := 17) dX6_put_16 rfl rfl rfl ?_
  refine wk_aload_n (i := 0) (q := 18) dX6_put_17 rfl rfl rfl ?_
  refine wk_lload_n (i := 2) (q := 19) dX6_put_18 rfl rfl rfl ?_
  refine wk_V1r (d' := 1) (q := 22) lkX6_22 dX6_put_19 hk rfl rfl rfl rfl rfl rfl ?_
  refine ck_X6_lowestBits hk ?_
  refine wk_last (n := n) (q := 23) dX6_put_22 (sh_nu hk) rfl (by rw [hl]; omega) rfl ?_
  refine wk_return dX6_put_23 rfl ?_
  exact hQ
def zr40 (f : Nat → Int64) (j : Nat) : Nat → Int64 := fun i => if i < j then 0 else f i
theorem lp_X6_beginAnew {b n : Int32} (hk : shp k = 6) (hQ : Q .null m (wrL L (k + 1) (zr40 (L (k + 1)) 40))) : ∀ (r j : Nat), j + r = 40 → WK E 1 MX6_beginAnew 20 [(0, .ref (ev_z E + k)), (1, .int b), (2, .int n), (3, .int (nI j))] [] m (wrL L (k + 1) (zr40 (L (k + 1)) j)) Q := by
  have hl : llen (k + 1) = 40 := by rcases isS_of hk with rfl | rfl | rfl | rfl <;> rfl
  intro r
  induction r with
  | zero =>
    intro j hj
    refine wk_iload_n (i := 3) (q := 21) dX6_beginAnew_20 rfl rfl rfl ?_
    refine wk_bipush (v := 40) (q := 23) dX6_beginAnew_21 rfl rfl ?_
    refine wk_icmp_ge (t := 39) (q := 26) dX6_beginAnew_23 rfl rfl (fun c23 => ?_) (fun h => absurd (nI_le (a := 40) (by omega) (by omega)) h)
    refine wk_return dX6_beginAnew_39 rfl ?_
    have e : j = 40 := by omega
    subst e
    exact hQ
  | succ r ih =>
    intro j hj
    have hz : vp_updL (zr40 (L (k + 1)) j) j 0 = zr40 (L (k + 1)) (j + 1) := by
      funext i
      unfold vp_updL zr40
      by_cases e : i = j
      · rw [if_pos e, if_pos (by omega)]
      · rw [if_neg e]
        by_cases e2 : i < j
        · rw [if_pos e2, if_pos (by omega)]
        · rw [if_neg e2, if_neg (by omega)]
    refine wk_iload_n (i := 3) (q := 21) dX6_beginAnew_20 rfl rfl rfl ?_
    refine wk_bipush (v := 40) (q := 23) dX6_beginAnew_21 rfl rfl ?_
    refine wk_icmp_ge (t := 39) (q := 26) dX6_beginAnew_23 rfl rfl (fun h => absurd h (nI_ge (b := 40) (by omega) (by omega))) (fun c23 => ?_)
    refine wk_aload_n (i := 0) (q := 27) dX6_beginAnew_26 rfl rfl rfl ?_
    refine wk_get (q := 30) fgX6_9 dX6_beginAnew_27 hk rfl rfl rfl ?_
    refine wk_iload_n (i := 3) (q := 31) dX6_beginAnew_30 rfl rfl rfl ?_
    refine wk_lconst (v := 0) (q := 32) dX6_beginAnew_31 rfl rfl ?_
    refine wk_last (n := j) (q := 33) dX6_beginAnew_32 (sh_nu hk) rfl (by rw [hl]; omega) rfl ?_
    rw [wrL_wrL, wrL_s, hz]
    refine wk_iinc (w := 1) (q := 36) (lv' := [_, _, _, _]) dX6_beginAnew_33 rfl rfl rfl rfl rfl ?_
    rw [nI_1]
    refine wk_goto (t := 20) dX6_beginAnew_36 rfl ?_
    exact ih (j + 1) (by omega)
theorem ck_X6_beginAnew {b n : Int32} (hk : shp k = 6) (hQ : Q .null (wr m k (upd (upd (m k) 1 b) 2 (if b = 0 then 0 else n))) (wrL L (k + 1) (zr40 (L (k + 1)) 40))) : CK E 1 MX6_beginAnew [.ref (ev_z E + k), .int b, .int n] m L Q := by
  have hz : wrL L (k + 1) (zr40 (L (k + 1)) 0) = L := by
    funext i
    unfold wrL
    split
    · rename_i h; subst h; funext j; unfold zr40; rw [if_neg (by omega)]
    · rfl
  refine CK.of rfl rfl (lv := [(0, _), (1, _), (2, _)]) rfl ?_
  refine wk_aload_n (i := 0) (q := 1) dX6_beginAnew_0 rfl rfl rfl ?_
  refine wk_iload_n (i := 1) (q := 2) dX6_beginAnew_1 rfl rfl rfl ?_
  refine wk_put (q := 5) fpX6_15 dX6_beginAnew_2 hk rfl rfl rfl rfl rfl ?_
  refine wk_aload_n (i := 0) (q := 6) dX6_beginAnew_5 rfl rfl rfl ?_
  refine wk_iload_n (i := 1) (q := 7) dX6_beginAnew_6 rfl rfl rfl ?_
  refine wk_if_ne (t := 14) (q := 10) dX6_beginAnew_7 rfl rfl (fun c7 => ?_) (fun c7 => ?_)
  · skip
    rw [if_neg c7] at hQ
    refine wk_iload_n (i := 2) (q := 15) dX6_beginAnew_14 rfl rfl rfl ?_
    refine wk_put (q := 18) fpX6_19 dX6_beginAnew_15 hk rfl rfl rfl rfl rfl ?_
    rw [wr_wr, wr_s]
    refine wk_iconst (v := 0) (q := 19) dX6_beginAnew_18 rfl rfl ?_
    refine wk_istore_n (i := 3) (q := 20) (lv' := [_, _, _, _]) dX6_beginAnew_19 rfl rfl rfl rfl ?_
    have hl := lp_X6_beginAnew (E := E) (b := b) (n := n) hk hQ 40 0 (by omega)
    rw [hz] at hl
    exact hl
  · skip
    rw [if_pos c7] at hQ
    refine wk_iconst (v := 0) (q := 11) dX6_beginAnew_10 rfl rfl ?_
    refine wk_goto (t := 15) dX6_beginAnew_11 rfl ?_
    refine wk_put (q := 18) fpX6_19 dX6_beginAnew_15 hk rfl rfl rfl rfl rfl ?_
    rw [wr_wr, wr_s]
    refine wk_iconst (v := 0) (q := 19) dX6_beginAnew_18 rfl rfl ?_
    refine wk_istore_n (i := 3) (q := 20) (lv' := [_, _, _, _]) dX6_beginAnew_19 rfl rfl rfl rfl ?_
    have hl := lp_X6_beginAnew (E := E) (b := b) (n := n) hk hQ 40 0 (by omega)
    rw [hz] at hl
    exact hl
end SH
section CP
variable {E : EVt} {m : Mm} {L : Ml} {Q : Value → Mm → Ml → Prop} {a : Mm} {aL : Ml} {D : Nat}
theorem ck_X11_image (hC : CR m L a aL) (hQ : Po m L (wr (wr a 74 (a 73)) 72 (upd (a 72) 5 1)) aL Q (.int 1)) : CK E 3 MX11_image [.ref (ev_z E + 0)] m L Q := by
  refine CK.of rfl rfl (lv := [(0, _)]) rfl ?_
  refine wk_aload_n (i := 0) (q := 1) dX11_image_0 rfl rfl rfl ?_
  refine wk_get (q := 4) fgX11_24 dX11_image_1 rfl rfl rfl rfl ?_
  refine wk_aload_n (i := 0) (q := 5) dX11_image_4 rfl rfl rfl ?_
  refine wk_get (q := 8) fgX11_18 dX11_image_5 rfl rfl rfl rfl ?_
  refine wk_V1v (d' := 2) (q := 11) lkX11_214 dX11_image_8 rfl rfl rfl rfl rfl rfl rfl ?_
  refine ck_X0_become (b := 25) (b2 := 8) rfl rfl (by decide) hC.1 (fun m1 hB1 hf1 => ?_)
  refine wk_aload_n (i := 0) (q := 12) dX11_image_11 rfl rfl rfl ?_
  refine wk_iconst (v := 1) (q := 13) dX11_image_12 rfl rfl ?_
  refine wk_put (q := 16) fpX11_57 dX11_image_13 rfl rfl rfl rfl rfl rfl ?_
  refine wk_iconst (v := 1) (q := 17) dX11_image_16 rfl rfl ?_
  refine wk_ireturn dX11_image_17 rfl rfl ?_
  refine hQ _ _ ?_ ((FC.rf.bk sb_25 hf1).wr rfl)
  obtain ⟨h1, ⟨h2, h3⟩, ⟨h4, h5⟩, h6, h7⟩ := hC
  refine ⟨?_, ⟨?_, fun _ => ?_⟩, ?_, fun s hs => ?_, fun i hi => ?_⟩
  · (rw [wr_n (by decide), wr_n (by decide)]; exact h1.mov (fun k _ _ => by rw [wr_n (by omega), hf1 k (by omega)]))
  · (rw [wr_s, wr_s, upd_s, upd_s])
  · (rw [wr_n (by decide), wr_s]; exact hB1.mov (fun k _ _ => wr_n (by omega)))
  · (rw [wr_s, upd_n (by decide), wr_n (by decide), wr_n (by decide), wr_n (by decide), wr_n (by decide), hf1 60 (by omega), hf1 61 (by omega)]; exact ⟨h4, h5⟩)
  · (rw [wr_n (by omega), wr_n (by decide), wr_n (by decide), wr_n (by decide), wr_n (by decide), hf1 _ (by omega)]; exact h6 s hs)
  · (rw [wr_n (by decide), wr_n (by decide), wr_n (by decide), hf1 71 (by omega)]; exact h7 i hi)
theorem ck_X11_undo (hC : CR m L a aL) (hO : OK D a) (h1 : a 72 5 = 1 → Po m L (wr a 73 (a 74)) aL Q (.int (a 74 1))) (h0 : a 72 5 = 0 → Po m L (rfA a 3) aL Q (.int (-1000000004))) : CK E 3 MX11_undo [.ref (ev_z E + 0)] m L Q := by
  have hk : m 0 7 = a 72 5 := hC.2.1.1
  refine CK.of rfl rfl (lv := [(0, _)]) rfl ?_
  refine wk_aload_n (i := 0) (q := 1) dX11_undo_0 rfl rfl rfl ?_
  refine wk_get (q := 4) fgX11_57 dX11_undo_1 rfl rfl rfl rfl ?_
  rw [hk]
  refine wk_if_ne (t := 14) (q := 7) dX11_undo_4 rfl rfl (fun c4 => ?_) (fun c4 => ?_)
  · skip
    have e1 : a 72 5 = 1 := by (rcases hO.2.1 with h | h; exact absurd h c4; exact h.1)
    refine wk_aload_n (i := 0) (q := 15) dX11_undo_14 rfl rfl rfl ?_
    refine wk_get (q := 18) fgX11_18 dX11_undo_15 rfl rfl rfl rfl ?_
    refine wk_aload_n (i := 0) (q := 19) dX11_undo_18 rfl rfl rfl ?_
    refine wk_get (q := 22) fgX11_24 dX11_undo_19 rfl rfl rfl rfl ?_
    refine wk_V1v (d' := 2) (q := 25) lkX11_214 dX11_undo_22 rfl rfl rfl rfl rfl rfl rfl ?_
    refine ck_X0_become (b := 8) (b2 := 25) rfl rfl (by decide) (hC.2.1.2 e1) (fun m1 hB1 hf1 => ?_)
    refine wk_aload_n (i := 0) (q := 26) dX11_undo_25 rfl rfl rfl ?_
    refine wk_get (q := 29) fgX11_18 dX11_undo_26 rfl rfl rfl rfl ?_
    refine wk_get (q := 32) fgX11_99 dX11_undo_29 rfl rfl rfl rfl ?_
    refine wk_ireturn dX11_undo_32 rfl rfl ?_
    rw [hB1.1]
    exact h1 e1 _ _ (hC.b8 hB1 hf1) (FC.rf.bk sb_8 hf1)
  · skip
    refine wk_aload_n (i := 0) (q := 8) dX11_undo_7 rfl rfl rfl ?_
    refine wk_ldc (q := 10) dX11_undo_8 kX11_205 rfl ?_
    refine wk_V1r (d' := 1) (q := 13) lkX11_73 dX11_undo_10 rfl rfl rfl rfl rfl rfl rfl ?_
    refine ck_X11_refuse (i := 3) (by decide) (by decide) ?_
    refine wk_ireturn dX11_undo_13 rfl rfl ?_
    exact h0 c4 _ _ hC.found (FC.rf.wr rfl)
theorem CR_k {m : Mm} {L : Ml} {a : Mm} {aL : Ml} (h : CR m L a aL) : CR (wr m 0 (upd (m 0) 7 0)) L (wr a 72 (upd (a 72) 5 0)) aL := by
  obtain ⟨h1, ⟨h2, h3⟩, ⟨h4, h5⟩, h6, h7⟩ := h
  refine ⟨?_, ⟨?_, fun q => ?_⟩, ?_, fun s hs => ?_, fun i hi => ?_⟩
  · rw [wr_n (by decide)]; exact h1.mov (fun k _ _ => wr_n (by omega))
  · rw [wr_s, wr_s, upd_s, upd_s]
  · rw [wr_s, upd_s] at q; exact absurd q (by decide)
  · rw [wr_s, upd_n (by decide), wr_n (by decide), wr_n (by decide), wr_n (by decide)]; exact ⟨h4, h5⟩
  · rw [wr_n (by omega), wr_n (by decide), wr_n (by decide)]; exact h6 s hs
  · rw [wr_n (by decide), wr_n (by decide)]; exact h7 i hi
theorem ck_X11_tear (hC : CR m L a aL) (hO : OK D a) (hQ : Po m L (wr a 72 (upd (a 72) 5 0)) aL Q (.int (a 72 5))) : CK E 1 MX11_tear [.ref (ev_z E + 0)] m L Q := by
  have hk : m 0 7 = a 72 5 := hC.2.1.1
  refine CK.of rfl rfl (lv := [(0, _)]) rfl ?_
  refine wk_aload_n (i := 0) (q := 1) dX11_tear_0 rfl rfl rfl ?_
  refine wk_get (q := 4) fgX11_57 dX11_tear_1 rfl rfl rfl rfl ?_
  rw [hk]
  refine wk_if_eq (t := 11) (q := 7) dX11_tear_4 rfl rfl (fun c4 => ?_) (fun c4 => ?_)
  · skip
    rw [c4] at hQ
    refine wk_iconst (v := 0) (q := 12) dX11_tear_11 rfl rfl ?_
    refine wk_istore_n (i := 1) (q := 13) (lv' := [_, _]) dX11_tear_12 rfl rfl rfl rfl ?_
    refine wk_aload_n (i := 0) (q := 14) dX11_tear_13 rfl rfl rfl ?_
    refine wk_iconst (v := 0) (q := 15) dX11_tear_14 rfl rfl ?_
    refine wk_put (q := 18) fpX11_57 dX11_tear_15 rfl rfl rfl rfl rfl rfl ?_
    refine wk_iload_n (i := 1) (q := 19) dX11_tear_18 rfl rfl rfl ?_
    refine wk_ireturn dX11_tear_19 rfl rfl ?_
    exact hQ _ _ (CR_k hC) (FC.rf.wr rfl)
  · skip
    have e1 : a 72 5 = 1 := by (rcases hO.2.1 with h | h; exact absurd h c4; exact h.1)
    rw [e1] at hQ
    refine wk_iconst (v := 1) (q := 8) dX11_tear_7 rfl rfl ?_
    refine wk_goto (t := 12) dX11_tear_8 rfl ?_
    refine wk_istore_n (i := 1) (q := 13) (lv' := [_, _]) dX11_tear_12 rfl rfl rfl rfl ?_
    refine wk_aload_n (i := 0) (q := 14) dX11_tear_13 rfl rfl rfl ?_
    refine wk_iconst (v := 0) (q := 15) dX11_tear_14 rfl rfl ?_
    refine wk_put (q := 18) fpX11_57 dX11_tear_15 rfl rfl rfl rfl rfl rfl ?_
    refine wk_iload_n (i := 1) (q := 19) dX11_tear_18 rfl rfl rfl ?_
    refine wk_ireturn dX11_tear_19 rfl rfl ?_
    exact hQ _ _ (CR_k hC) (FC.rf.wr rfl)
def ctR (a : Mm) (w : Nat) : Int32 := match w with
  | 0 => a 73 1
  | 1 => a 73 2
  | 2 => a 72 7
  | _ => sumH (a 73) (cA (a 73))
theorem ck_X11_count {w : Int32} (hC : CR m L a aL) (hO : OK D a) (h1 : ∀ n, n ≤ 3 → w = nI n → Q (.int (ctR a n)) m L) (h0 : (∀ n, n ≤ 3 → ¬ w = nI n) → Po m L (rfA a 0) aL Q (.int (-1000000001))) : CK E 2 MX11_count [.ref (ev_z E + 0), .int w] m L Q := by
  have hB := hC.1
  have hA := hO.1
  refine CK.of rfl rfl (lv := [(0, _), (1, _)]) rfl ?_
  refine wk_iload_n (i := 1) (q := 1) dX11_count_0 rfl rfl rfl ?_
  refine wk_table (cs := [(0, 32), (1, 40), (2, 48), (3, 56)]) (td := 64) dX11_count_1 (by decide +kernel) ?_
  refine And.intro (fun c1_0 => ?_) (fun n1_0 => ?_)
  · skip
    refine wk_aload_n (i := 0) (q := 33) dX11_count_32 rfl rfl rfl ?_
    refine wk_get (q := 36) fgX11_18 dX11_count_33 rfl rfl rfl rfl ?_
    refine wk_get (q := 39) fgX11_99 dX11_count_36 rfl rfl rfl rfl ?_
    refine wk_ireturn dX11_count_39 rfl rfl ?_
    rw [hB.1]
    exact h1 0 (by decide) c1_0
  refine And.intro (fun c1_1 => ?_) (fun n1_1 => ?_)
  · skip
    refine wk_aload_n (i := 0) (q := 41) dX11_count_40 rfl rfl rfl ?_
    refine wk_get (q := 44) fgX11_18 dX11_count_41 rfl rfl rfl rfl ?_
    refine wk_get (q := 47) fgX11_171 dX11_count_44 rfl rfl rfl rfl ?_
    refine wk_ireturn dX11_count_47 rfl rfl ?_
    rw [hB.2.1]
    exact h1 1 (by decide) c1_1
  refine And.intro (fun c1_2 => ?_) (fun n1_2 => ?_)
  · skip
    refine wk_aload_n (i := 0) (q := 49) dX11_count_48 rfl rfl rfl ?_
    refine wk_get (q := 52) fgX11_42 dX11_count_49 rfl rfl rfl rfl ?_
    refine wk_get (q := 55) fgX11_220 dX11_count_52 rfl rfl rfl rfl ?_
    refine wk_ireturn dX11_count_55 rfl rfl ?_
    rw [hC.2.2.1.1]
    exact h1 2 (by decide) c1_2
  refine And.intro (fun c1_3 => ?_) (fun n1_3 => ?_)
  · skip
    refine wk_aload_n (i := 0) (q := 57) dX11_count_56 rfl rfl rfl ?_
    refine wk_get (q := 60) fgX11_18 dX11_count_57 rfl rfl rfl rfl ?_
    refine wk_V0r (d' := 1) (q := 63) lkX11_276 dX11_count_60 rfl rfl rfl rfl rfl rfl rfl ?_
    refine ck_X0_allHoles (b := 8) rfl hB hA.1.1 hA.1.2.1 ?_
    refine wk_ireturn dX11_count_63 rfl rfl ?_
    exact h1 3 (by decide) c1_3
  refine wk_aload_n (i := 0) (q := 65) dX11_count_64 rfl rfl rfl ?_
  refine wk_ldc (q := 67) dX11_count_65 kX11_72 rfl ?_
  refine wk_V1r (d' := 1) (q := 70) lkX11_73 dX11_count_67 rfl rfl rfl rfl rfl rfl rfl ?_
  refine ck_X11_refuse (i := 0) (by decide) (by decide) ?_
  refine wk_ireturn dX11_count_70 rfl rfl ?_
  refine h0 (fun n hn e => ?_) _ _ hC.found (FC.rf.wr rfl)
  obtain rfl | rfl | rfl | rfl : n = 0 ∨ n = 1 ∨ n = 2 ∨ n = 3 := (by omega)
  all_goals first | exact n1_0 e | exact n1_1 e | exact n1_2 e | exact n1_3 e
def sumF (f : Nat → Int32) : Nat → Int32
  | 0 => 0
  | n + 1 => sumF f n + f n
theorem lp_X11_status {w : Int32} (hC : CR m L a aL) (h1 : Q (.int (sumF (a 77) 7)) m L) : ∀ (r j : Nat) (s : Int32), j + r = 7 → s = sumF (a 77) j → WK E 2 MX11_status 33 [(0, .ref (ev_z E + 0)), (1, .int w), (2, .int s), (3, .int (nI j))] [] m L Q := by
  intro r
  induction r with
  | zero =>
    intro j s hj hs
    refine wk_iload_n (i := 3) (q := 34) dX11_status_33 rfl rfl rfl ?_
    refine wk_bipush (v := 7) (q := 36) dX11_status_34 rfl rfl ?_
    refine wk_icmp_ge (t := 54) (q := 39) dX11_status_36 rfl rfl (fun c36 => ?_) (fun h => absurd (nI_le (a := 7) (by omega) (by omega)) h)
    refine wk_iload_n (i := 2) (q := 55) dX11_status_54 rfl rfl rfl ?_
    refine wk_ireturn dX11_status_55 rfl rfl ?_
    have e : j = 7 := by omega
    subst e
    rw [hs]
    exact h1
  | succ r ih =>
    intro j s hj hs
    refine wk_iload_n (i := 3) (q := 34) dX11_status_33 rfl rfl rfl ?_
    refine wk_bipush (v := 7) (q := 36) dX11_status_34 rfl rfl ?_
    refine wk_icmp_ge (t := 54) (q := 39) dX11_status_36 rfl rfl (fun h => absurd h (nI_ge (b := 7) (by omega) (by omega))) (fun c36 => ?_)
    refine wk_iload_n (i := 2) (q := 40) dX11_status_39 rfl rfl rfl ?_
    refine wk_aload_n (i := 0) (q := 41) dX11_status_40 rfl rfl rfl ?_
    refine wk_get (q := 44) fgX11_53 dX11_status_41 rfl rfl rfl rfl ?_
    refine wk_iload_n (i := 3) (q := 45) dX11_status_44 rfl rfl rfl ?_
    refine wk_iald (n := j) (q := 46) dX11_status_45 rfl rfl (by show _ < 7; omega) rfl ?_
    refine wk_iadd (q := 47) dX11_status_46 rfl ?_
    refine wk_istore_n (i := 2) (q := 48) (lv' := [_, _, _, _]) dX11_status_47 rfl rfl rfl rfl ?_
    refine wk_iinc (w := 1) (q := 51) (lv' := [_, _, _, _]) dX11_status_48 rfl rfl rfl rfl rfl ?_
    rw [nI_1]
    refine wk_goto (t := 33) dX11_status_51 rfl ?_
    exact ih (j + 1) _ (by omega) (by rw [hs, hC.2.2.2.2 j (by omega)]; rfl)
theorem ck_X11_status {w : Int32} (hC : CR m L a aL) (h1 : ∀ n, n < 7 → w = nI n → Q (.int (a 77 n)) m L) (h2 : w = -1 → Q (.int (sumF (a 77) 7)) m L) (h0 : ¬ (-1 ≤ w ∧ w ≤ 6) → Po m L (rfA a 0) aL Q (.int (-1000000001))) : CK E 2 MX11_status [.ref (ev_z E + 0), .int w] m L Q := by
  have z0 : (0 : Int32).toInt = 0 := by decide
  have z7 : (7 : Int32).toInt = 7 := by decide
  have z6 : (6 : Int32).toInt = 6 := by decide
  have zn : (-1 : Int32).toInt = -1 := by decide
  refine CK.of rfl rfl (lv := [(0, _), (1, _)]) rfl ?_
  refine wk_iload_n (i := 1) (q := 1) dX11_status_0 rfl rfl rfl ?_
  refine wk_if_lt (t := 17) (q := 4) dX11_status_1 rfl rfl (fun c1 => ?_) (fun c1 => ?_)
  · skip
    refine wk_iload_n (i := 1) (q := 18) dX11_status_17 rfl rfl rfl ?_
    refine wk_iconst (v := -1) (q := 19) dX11_status_18 rfl rfl ?_
    refine wk_icmp_eq (t := 29) (q := 22) dX11_status_19 rfl rfl (fun c19 => ?_) (fun c19 => ?_)
    · skip
      refine wk_iconst (v := 0) (q := 30) dX11_status_29 rfl rfl ?_
      refine wk_istore_n (i := 2) (q := 31) (lv' := [_, _, _]) dX11_status_30 rfl rfl rfl rfl ?_
      refine wk_iconst (v := 0) (q := 32) dX11_status_31 rfl rfl ?_
      refine wk_istore_n (i := 3) (q := 33) (lv' := [_, _, _, _]) dX11_status_32 rfl rfl rfl rfl ?_
      exact lp_X11_status hC (h2 c19) 7 0 0 (by omega) rfl
    · skip
      refine wk_aload_n (i := 0) (q := 23) dX11_status_22 rfl rfl rfl ?_
      refine wk_ldc (q := 25) dX11_status_23 kX11_72 rfl ?_
      refine wk_V1r (d' := 1) (q := 28) lkX11_73 dX11_status_25 rfl rfl rfl rfl rfl rfl rfl ?_
      refine ck_X11_refuse (i := 0) (by decide) (by decide) ?_
      refine wk_ireturn dX11_status_28 rfl rfl ?_
      refine h0 ?_ _ _ hC.found (FC.rf.wr rfl)
      rw [fa_eq] at c19
      simp only [fa_le, fa_lt] at *
      omega
  · skip
    refine wk_iload_n (i := 1) (q := 5) dX11_status_4 rfl rfl rfl ?_
    refine wk_bipush (v := 7) (q := 7) dX11_status_5 rfl rfl ?_
    refine wk_icmp_ge (t := 17) (q := 10) dX11_status_7 rfl rfl (fun c7 => ?_) (fun c7 => ?_)
    · skip
      refine wk_iload_n (i := 1) (q := 18) dX11_status_17 rfl rfl rfl ?_
      refine wk_iconst (v := -1) (q := 19) dX11_status_18 rfl rfl ?_
      refine wk_icmp_eq (t := 29) (q := 22) dX11_status_19 rfl rfl (fun c19 => ?_) (fun c19 => ?_)
      · skip
        refine wk_iconst (v := 0) (q := 30) dX11_status_29 rfl rfl ?_
        refine wk_istore_n (i := 2) (q := 31) (lv' := [_, _, _]) dX11_status_30 rfl rfl rfl rfl ?_
        refine wk_iconst (v := 0) (q := 32) dX11_status_31 rfl rfl ?_
        refine wk_istore_n (i := 3) (q := 33) (lv' := [_, _, _, _]) dX11_status_32 rfl rfl rfl rfl ?_
        exact lp_X11_status hC (h2 c19) 7 0 0 (by omega) rfl
      · skip
        refine wk_aload_n (i := 0) (q := 23) dX11_status_22 rfl rfl rfl ?_
        refine wk_ldc (q := 25) dX11_status_23 kX11_72 rfl ?_
        refine wk_V1r (d' := 1) (q := 28) lkX11_73 dX11_status_25 rfl rfl rfl rfl rfl rfl rfl ?_
        refine ck_X11_refuse (i := 0) (by decide) (by decide) ?_
        refine wk_ireturn dX11_status_28 rfl rfl ?_
        refine h0 ?_ _ _ hC.found (FC.rf.wr rfl)
        rw [fa_eq] at c19
        simp only [fa_le, fa_lt] at *
        omega
    · skip
      obtain ⟨n, hn1, hn2, rfl⟩ := rng (x := w) (lo := 0) (hi := 6) (by omega) (by omega) (by show 0 ≤ w ∧ w ≤ 6; simp only [fa_le, fa_lt] at *; omega)
      refine wk_aload_n (i := 0) (q := 11) dX11_status_10 rfl rfl rfl ?_
      refine wk_get (q := 14) fgX11_53 dX11_status_11 rfl rfl rfl rfl ?_
      refine wk_iload_n (i := 1) (q := 15) dX11_status_14 rfl rfl rfl ?_
      refine wk_iald (n := n) (q := 16) dX11_status_15 rfl rfl (by show n < 7; omega) rfl ?_
      refine wk_ireturn dX11_status_16 rfl rfl ?_
      rw [hC.2.2.2.2 n (by omega)]
      exact h1 n (by omega) rfl
end CP
