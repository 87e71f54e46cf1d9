/-! the reference: its row s is kept outermost, wr m 73 A -/
section SR
variable {E : EVt} {d : Nat} {M : MDt} {pc q : Nat} {lv : List (Nat × Value)} {st : List Value} {m : Mm} {L : Ml} {Q : Value → Mm → Ml → Prop} {A : Nat → Int32}
theorem wk_sld {n : Nat} {i : Int32} (hd : decode M.2.1 pc = .ok (.iaload, 1)) (hi : i = nI n) (hn : n < 73) (hq : pc + 1 = q) (kk : WK E d M q lv (.int (A n) :: st) (wr m 73 A) L Q) : WK E d M pc lv (.int i :: .ref (ev_z E + 73) :: st) (wr m 73 A) L Q := by
  refine wk_iald (k := 73) hd rfl hi hn hq ?_
  rw [wr_s]
  exact kk
theorem wk_sst {n : Nat} {i x : Int32} (hd : decode M.2.1 pc = .ok (.iastore, 1)) (hi : i = nI n) (hn : n < 73) (hq : pc + 1 = q) (kk : WK E d M q lv st (wr m 73 (upd A n x)) L Q) : WK E d M pc lv (.int x :: .int i :: .ref (ev_z E + 73) :: st) (wr m 73 A) L Q := by
  refine wk_iast (k := 73) hd rfl hi hn hq ?_
  rw [wr_s, wr_wr]
  exact kk
end SR
theorem sp_e (g w : Nat) : 5 + 7 * nI g + nI w = nI (5 + 7 * g + w) := by
  rw [show (5 : Int32) = nI 5 from rfl, show (7 : Int32) = nI 7 from rfl, nI_mul, nI_add, nI_add]
theorem sz_e (g w : Nat) : 61 + 2 * nI g + nI w = nI (61 + 2 * g + w) := by
  rw [show (61 : Int32) = nI 61 from rfl, show (2 : Int32) = nI 2 from rfl, nI_mul, nI_add, nI_add]
theorem wr_comm {m : Mm} {j k : Nat} {v w : Nat → Int32} (h : j ≠ k) : wr (wr m j v) k w = wr (wr m k w) j v := by
  funext i
  unfold wr
  by_cases e : i = k
  · rw [if_pos e, if_neg (fun e2 => h (e2.symm.trans e)), if_pos e]
  · rw [if_neg e]
    by_cases e2 : i = j
    · rw [if_pos e2, if_pos e2]
    · rw [if_neg e2, if_neg e2, if_neg e]
theorem gput_gv {A : Nat → Int32} {g : Nat} : gput A g (gv A g) = A := by
  funext j
  by_cases h : 5 + 7 * g ≤ j ∧ j < 12 + 7 * g
  · obtain ⟨i, hi⟩ : ∃ i, j = 5 + 7 * g + i := ⟨j - (5 + 7 * g), by omega⟩
    subst hi
    rw [gput_s (by omega)]
    rfl
  · rw [gput_n (by omega)]
theorem gput_gput {A : Nat → Int32} {g : Nat} {v w : Nat → Int32} : gput (gput A g v) g w = gput A g w := by
  funext j
  unfold gput
  split <;> rfl
theorem gput_cong {A : Nat → Int32} {g : Nat} {v w : Nat → Int32} (h : E7 v w) : gput A g v = gput A g w := by
  funext j
  unfold gput
  split
  · exact h _ (by omega)
  · rfl
theorem gv_gput {A : Nat → Int32} {g : Nat} {v : Nat → Int32} : E7 (gv (gput A g v) g) v := fun f hf => gput_s hf
theorem gput_u {A : Nat → Int32} {g f : Nat} {v : Nat → Int32} {x : Int32} (hf : f < 7) : upd (gput A g v) (5 + 7 * g + f) x = gput A g (upd v f x) := by
  rw [← gput_upd hf, gput_gput]
  refine gput_cong (fun i hi => ?_)
  by_cases e : i = f
  · subst e; rw [upd_s, upd_s]
  · rw [upd_n e, upd_n e]; exact gput_s hi
section MB
variable {E : EVt} {m : Mm} {L : Ml} {Q : Value → Mm → Ml → Prop} {A : Nat → Int32}
theorem ck_X12_in64 {v lo hi : Int64} (h1 : lo ≤ v ∧ v ≤ hi → Q (.int 1) m L) (h0 : ¬ (lo ≤ v ∧ v ≤ hi) → Q (.int 0) m L) : CK E 1 MX12_in [.long v, .long lo, .long hi] m L Q := by
  refine CK.of rfl rfl (lv := [(0, _), (2, _), (4, _)]) rfl ?_
  refine wk_lload_n (i := 0) (q := 1) dX12_in_0 rfl rfl rfl ?_
  refine wk_lload_n (i := 2) (q := 2) dX12_in_1 rfl rfl rfl ?_
  refine wk_lcmp (q := 3) dX12_in_2 rfl ?_
  refine wk_if_lt (t := 17) (q := 6) dX12_in_3 rfl rfl (fun c3 => ?_) (fun c3 => ?_)
  · skip
    rw [lg_cmp_lt] at c3
    refine wk_iconst (v := 0) (q := 18) dX12_in_17 rfl rfl ?_
    refine wk_ireturn dX12_in_18 rfl rfl ?_
    exact h0 (by simp only [fa_le64, fa_lt64] at *; omega)
  · skip
    rw [lg_cmp_lt] at c3
    refine wk_lload_n (i := 0) (q := 7) dX12_in_6 rfl rfl rfl ?_
    refine wk_lload (i := 4) (q := 9) dX12_in_7 rfl rfl ?_
    refine wk_lcmp (q := 10) dX12_in_9 rfl ?_
    refine wk_if_gt (t := 17) (q := 13) dX12_in_10 rfl rfl (fun c10 => ?_) (fun c10 => ?_)
    · skip
      rw [lg_cmp_gt] at c10
      refine wk_iconst (v := 0) (q := 18) dX12_in_17 rfl rfl ?_
      refine wk_ireturn dX12_in_18 rfl rfl ?_
      exact h0 (by simp only [fa_le64, fa_lt64] at *; omega)
    · skip
      rw [lg_cmp_gt] at c10
      refine wk_iconst (v := 1) (q := 14) dX12_in_13 rfl rfl ?_
      refine wk_goto (t := 18) dX12_in_14 rfl ?_
      refine wk_ireturn dX12_in_18 rfl rfl ?_
      exact h1 (by simp only [fa_le64, fa_lt64] at *; omega)
theorem ck_X12_in {v lo hi : Int32} (h1 : lo ≤ v ∧ v ≤ hi → Q (.int 1) m L) (h0 : ¬ (lo ≤ v ∧ v ≤ hi) → Q (.int 0) m L) : CK E 1 MX12_in [.long v.toInt64, .long lo.toInt64, .long hi.toInt64] m L Q :=
  ck_X12_in64 (fun h => h1 ⟨(fa_wide_le _ _).mp h.1, (fa_wide_le _ _).mp h.2⟩) (fun h => h0 (fun q => h ⟨(fa_wide_le _ _).mpr q.1, (fa_wide_le _ _).mpr q.2⟩))
theorem ck_X12_isKind {v : Int32} (h1 : 0 ≤ v ∧ v ≤ 5 → Q (.int 1) m L) (h0 : ¬ (0 ≤ v ∧ v ≤ 5) → Q (.int 0) m L) : CK E 2 MX12_isKind [.int v] m L Q := by
  refine CK.of rfl rfl (lv := [(0, _)]) rfl ?_
  refine wk_iload_n (i := 0) (q := 1) dX12_isKind_0 rfl rfl rfl ?_
  refine wk_i2l (q := 2) dX12_isKind_1 rfl ?_
  refine wk_lconst (v := 0) (q := 3) dX12_isKind_2 rfl rfl ?_
  refine wk_ldc2 (q := 6) dX12_isKind_3 kX12_50 rfl ?_
  refine wk_S3r (d' := 1) (q := 9) lkX12_46 dX12_isKind_6 rfl rfl rfl rfl ?_
  refine ck_X12_in (lo := 0) (hi := 5) (fun hw => ?_) (fun hw => ?_)
  · skip
    refine wk_ireturn dX12_isKind_9 rfl rfl ?_
    exact h1 hw
  · skip
    refine wk_ireturn dX12_isKind_9 rfl rfl ?_
    exact h0 hw
theorem ck_X12_isAhead {v : Int32} (h1 : 0 ≤ v ∧ v ≤ 100 → Q (.int 1) m L) (h0 : ¬ (0 ≤ v ∧ v ≤ 100) → Q (.int 0) m L) : CK E 2 MX12_isAhead [.int v] m L Q := by
  refine CK.of rfl rfl (lv := [(0, _)]) rfl ?_
  refine wk_iload_n (i := 0) (q := 1) dX12_isAhead_0 rfl rfl rfl ?_
  refine wk_i2l (q := 2) dX12_isAhead_1 rfl ?_
  refine wk_lconst (v := 0) (q := 3) dX12_isAhead_2 rfl rfl ?_
  refine wk_ldc2 (q := 6) dX12_isAhead_3 kX12_157 rfl ?_
  refine wk_S3r (d' := 1) (q := 9) lkX12_46 dX12_isAhead_6 rfl rfl rfl rfl ?_
  refine ck_X12_in (lo := 0) (hi := 100) (fun hw => ?_) (fun hw => ?_)
  · skip
    refine wk_ireturn dX12_isAhead_9 rfl rfl ?_
    exact h1 hw
  · skip
    refine wk_ireturn dX12_isAhead_9 rfl rfl ?_
    exact h0 hw
theorem ck_X12_isOne {v : Int32} (h1 : ∀ n, n < 4 → v = nI n → Q (.int 1) m L) (h0 : (∀ n, n < 4 → ¬ v = nI n) → Q (.int 0) m L) : CK E 2 MX12_isOne [.int v] m L Q := by
  refine CK.of rfl rfl (lv := [(0, _)]) rfl ?_
  refine wk_iload_n (i := 0) (q := 1) dX12_isOne_0 rfl rfl rfl ?_
  refine wk_i2l (q := 2) dX12_isOne_1 rfl ?_
  refine wk_lconst (v := 0) (q := 3) dX12_isOne_2 rfl rfl ?_
  refine wk_ldc2 (q := 6) dX12_isOne_3 kX12_298 rfl ?_
  refine wk_S3r (d' := 1) (q := 9) lkX12_46 dX12_isOne_6 rfl rfl rfl rfl ?_
  refine ck_X12_in (lo := 0) (hi := 3) (fun hw => ?_) (fun hw => ?_)
  · skip
    refine wk_ireturn dX12_isOne_9 rfl rfl ?_
    obtain ⟨n, -, hn, e⟩ := rng (lo := 0) (hi := 3) (by omega) (by omega) hw
    exact h1 n (by omega) e
  · skip
    refine wk_ireturn dX12_isOne_9 rfl rfl ?_
    exact h0 (fun n hn e => by subst e; exact hw (rng' (lo := 0) (hi := 3) (by omega) (by omega) (by omega)))
theorem ck_X12_isSize64 {v : Int64} (h1 : 10 ≤ v ∧ v ≤ 200 → Q (.int 1) m L) (h0 : ¬ (10 ≤ v ∧ v ≤ 200) → Q (.int 0) m L) : CK E 2 MX12_isSize [.long v] m L Q := by
  refine CK.of rfl rfl (lv := [(0, _)]) rfl ?_
  refine wk_lload_n (i := 0) (q := 1) dX12_isSize_0 rfl rfl rfl ?_
  refine wk_ldc2 (q := 4) dX12_isSize_1 kX12_52 rfl ?_
  refine wk_ldc2 (q := 7) dX12_isSize_4 kX12_54 rfl ?_
  refine wk_S3r (d' := 1) (q := 10) lkX12_46 dX12_isSize_7 rfl rfl rfl rfl ?_
  refine ck_X12_in64 (fun hw => ?_) (fun hw => ?_)
  · skip
    refine wk_ireturn dX12_isSize_10 rfl rfl ?_
    exact h1 hw
  · skip
    refine wk_ireturn dX12_isSize_10 rfl rfl ?_
    exact h0 hw
theorem ck_X12_isSize {v : Int32} (h1 : 10 ≤ v ∧ v ≤ 200 → Q (.int 1) m L) (h0 : ¬ (10 ≤ v ∧ v ≤ 200) → Q (.int 0) m L) : CK E 2 MX12_isSize [.long v.toInt64] m L Q :=
  ck_X12_isSize64 (fun h => h1 ⟨(fa_wide_le 10 _).mp h.1, (fa_wide_le _ 200).mp h.2⟩) (fun h => h0 (fun q => h ⟨(fa_wide_le 10 _).mpr q.1, (fa_wide_le _ 200).mpr q.2⟩))
theorem ck_X12_held {v lo hi : Int32} (hQ : Q (.int (heldF v lo hi)) m L) : CK E 1 MX12_held [.int v, .int lo, .int hi] m L Q := by
  unfold heldF at hQ
  refine CK.of rfl rfl (lv := [(0, _), (1, _), (2, _)]) rfl ?_
  refine wk_iload_n (i := 0) (q := 1) dX12_held_0 rfl rfl rfl ?_
  refine wk_iload_n (i := 1) (q := 2) dX12_held_1 rfl rfl rfl ?_
  refine wk_icmp_ge (t := 9) (q := 5) dX12_held_2 rfl rfl (fun c2 => ?_) (fun c2 => ?_)
  · skip
    rw [if_neg (by rw [fa_lt]; rw [fa_le] at c2; omega)] at hQ
    refine wk_iload_n (i := 0) (q := 10) dX12_held_9 rfl rfl rfl ?_
    refine wk_iload_n (i := 2) (q := 11) dX12_held_10 rfl rfl rfl ?_
    refine wk_icmp_le (t := 18) (q := 14) dX12_held_11 rfl rfl (fun c11 => ?_) (fun c11 => ?_)
    · skip
      rw [if_neg (by rw [fa_lt]; rw [fa_le] at c11; omega)] at hQ
      refine wk_iload_n (i := 0) (q := 19) dX12_held_18 rfl rfl rfl ?_
      refine wk_ireturn dX12_held_19 rfl rfl ?_
      exact hQ
    · skip
      rw [if_pos (by rw [fa_lt]; rw [fa_le] at c11; omega)] at hQ
      refine wk_iload_n (i := 2) (q := 15) dX12_held_14 rfl rfl rfl ?_
      refine wk_goto (t := 19) dX12_held_15 rfl ?_
      refine wk_ireturn dX12_held_19 rfl rfl ?_
      exact hQ
  · skip
    rw [if_pos (by rw [fa_lt]; rw [fa_le] at c2; omega)] at hQ
    refine wk_iload_n (i := 1) (q := 6) dX12_held_5 rfl rfl rfl ?_
    refine wk_goto (t := 19) dX12_held_6 rfl ?_
    refine wk_ireturn dX12_held_19 rfl rfl ?_
    exact hQ
theorem ck_X12_spot {g w : Nat} (hQ : Q (.int (nI (5 + 7 * g + w))) m L) : CK E 1 MX12_spot [.int (nI g), .int (nI w)] m L Q := by
  rw [← sp_e] at hQ
  refine CK.of rfl rfl (lv := [(0, _), (1, _)]) rfl ?_
  refine wk_iconst (v := 5) (q := 1) dX12_spot_0 rfl rfl ?_
  refine wk_bipush (v := 7) (q := 3) dX12_spot_1 rfl rfl ?_
  refine wk_iload_n (i := 0) (q := 4) dX12_spot_3 rfl rfl rfl ?_
  refine wk_imul (q := 5) dX12_spot_4 rfl ?_
  refine wk_iadd (q := 6) dX12_spot_5 rfl ?_
  refine wk_iload_n (i := 1) (q := 7) dX12_spot_6 rfl rfl rfl ?_
  refine wk_iadd (q := 8) dX12_spot_7 rfl ?_
  refine wk_ireturn dX12_spot_8 rfl rfl ?_
  exact hQ
theorem ck_X12_its {g w : Nat} (hg : g < 8) (hw : w < 7) (hQ : Q (.int (A (5 + 7 * g + w))) (wr m 73 A) L) : CK E 2 MX12_its [.ref (ev_z E + 72), .int (nI g), .int (nI w)] (wr m 73 A) L Q := by
  refine CK.of rfl rfl (lv := [(0, _), (1, _), (2, _)]) rfl ?_
  refine wk_aload_n (i := 0) (q := 1) dX12_its_0 rfl rfl rfl ?_
  refine wk_get (q := 4) fgX12_7 dX12_its_1 rfl rfl rfl rfl ?_
  refine wk_iload_n (i := 1) (q := 5) dX12_its_4 rfl rfl rfl ?_
  refine wk_iload_n (i := 2) (q := 6) dX12_its_5 rfl rfl rfl ?_
  refine wk_S2r (d' := 1) (q := 9) lkX12_42 dX12_its_6 rfl rfl rfl rfl ?_
  refine ck_X12_spot (g := g) (w := w) ?_
  refine wk_sld (n := (5 + 7 * g + w)) (q := 10) dX12_its_9 rfl (by omega) rfl ?_
  refine wk_ireturn dX12_its_10 rfl rfl ?_
  exact hQ
theorem ck_X12_sizeOfOne {g w : Nat} (hg : g < 6) (hw : w < 2) (hQ : Q (.int (A (61 + 2 * g + w))) (wr m 73 A) L) : CK E 1 MX12_sizeOfOne [.ref (ev_z E + 72), .int (nI g), .int (nI w)] (wr m 73 A) L Q := by
  refine CK.of rfl rfl (lv := [(0, _), (1, _), (2, _)]) rfl ?_
  refine wk_aload_n (i := 0) (q := 1) dX12_sizeOfOne_0 rfl rfl rfl ?_
  refine wk_get (q := 4) fgX12_7 dX12_sizeOfOne_1 rfl rfl rfl rfl ?_
  refine wk_bipush (v := 61) (q := 6) dX12_sizeOfOne_4 rfl rfl ?_
  refine wk_iconst (v := 2) (q := 7) dX12_sizeOfOne_6 rfl rfl ?_
  refine wk_iload_n (i := 1) (q := 8) dX12_sizeOfOne_7 rfl rfl rfl ?_
  refine wk_imul (q := 9) dX12_sizeOfOne_8 rfl ?_
  refine wk_iadd (q := 10) dX12_sizeOfOne_9 rfl ?_
  refine wk_iload_n (i := 2) (q := 11) dX12_sizeOfOne_10 rfl rfl rfl ?_
  refine wk_iadd (q := 12) dX12_sizeOfOne_11 rfl ?_
  rw [sz_e]
  refine wk_sld (n := (61 + 2 * g + w)) (q := 13) dX12_sizeOfOne_12 rfl (by omega) rfl ?_
  refine wk_ireturn dX12_sizeOfOne_13 rfl rfl ?_
  exact hQ
theorem ck_X12_isGarment {i : Int32} {D : Nat} (hO : okA D A) (h1 : ∀ n, n < cA A → i = nI n → Q (.int 1) (wr m 73 A) L) (h0 : (∀ n, n < cA A → ¬ i = nI n) → Q (.int 0) (wr m 73 A) L) : CK E 2 MX12_isGarment [.ref (ev_z E + 72), .int i] (wr m 73 A) L Q := by
  have hc8 := hO.1.2.1
  refine CK.of rfl rfl (lv := [(0, _), (1, _)]) rfl ?_
  refine wk_iload_n (i := 1) (q := 1) dX12_isGarment_0 rfl rfl rfl ?_
  refine wk_i2l (q := 2) dX12_isGarment_1 rfl ?_
  refine wk_lconst (v := 0) (q := 3) dX12_isGarment_2 rfl rfl ?_
  refine wk_aload_n (i := 0) (q := 4) dX12_isGarment_3 rfl rfl rfl ?_
  refine wk_get (q := 7) fgX12_7 dX12_isGarment_4 rfl rfl rfl rfl ?_
  refine wk_iconst (v := 1) (q := 8) dX12_isGarment_7 rfl rfl ?_
  refine wk_sld (n := 1) (q := 9) dX12_isGarment_8 rfl (by decide) rfl ?_
  refine wk_iconst (v := 1) (q := 10) dX12_isGarment_9 rfl rfl ?_
  refine wk_isub (q := 11) dX12_isGarment_10 rfl ?_
  refine wk_i2l (q := 12) dX12_isGarment_11 rfl ?_
  rw [hO.1.1]
  refine wk_S3r (d' := 1) (q := 15) lkX12_46 dX12_isGarment_12 rfl rfl rfl rfl ?_
  refine ck_X12_in (lo := 0)  (fun hw => ?_) (fun hw => ?_)
  · skip
    refine wk_ireturn dX12_isGarment_15 rfl rfl ?_
    obtain ⟨n, hn, e⟩ := wi_c (by omega) hw
    exact h1 n hn e
  · skip
    refine wk_ireturn dX12_isGarment_15 rfl rfl ?_
    exact h0 (fun n hn e => by subst e; exact hw (wi_c' (by omega) hn))
theorem ck_X12_isPerson {i : Int32} {D : Nat} (hO : okA D A) (h1 : ∀ n, n < pA A → i = nI n → Q (.int 1) (wr m 73 A) L) (h0 : (∀ n, n < pA A → ¬ i = nI n) → Q (.int 0) (wr m 73 A) L) : CK E 2 MX12_isPerson [.ref (ev_z E + 72), .int i] (wr m 73 A) L Q := by
  have hp6 := hO.2.1.2.1
  refine CK.of rfl rfl (lv := [(0, _), (1, _)]) rfl ?_
  refine wk_iload_n (i := 1) (q := 1) dX12_isPerson_0 rfl rfl rfl ?_
  refine wk_i2l (q := 2) dX12_isPerson_1 rfl ?_
  refine wk_lconst (v := 0) (q := 3) dX12_isPerson_2 rfl rfl ?_
  refine wk_aload_n (i := 0) (q := 4) dX12_isPerson_3 rfl rfl rfl ?_
  refine wk_get (q := 7) fgX12_7 dX12_isPerson_4 rfl rfl rfl rfl ?_
  refine wk_iconst (v := 2) (q := 8) dX12_isPerson_7 rfl rfl ?_
  refine wk_sld (n := 2) (q := 9) dX12_isPerson_8 rfl (by decide) rfl ?_
  refine wk_iconst (v := 1) (q := 10) dX12_isPerson_9 rfl rfl ?_
  refine wk_isub (q := 11) dX12_isPerson_10 rfl ?_
  refine wk_i2l (q := 12) dX12_isPerson_11 rfl ?_
  rw [hO.2.1.1]
  refine wk_S3r (d' := 1) (q := 15) lkX12_46 dX12_isPerson_12 rfl rfl rfl rfl ?_
  refine ck_X12_in (lo := 0)  (fun hw => ?_) (fun hw => ?_)
  · skip
    refine wk_ireturn dX12_isPerson_15 rfl rfl ?_
    obtain ⟨n, hn, e⟩ := wi_c (by omega) hw
    exact h1 n hn e
  · skip
    refine wk_ireturn dX12_isPerson_15 rfl rfl ?_
    exact h0 (fun n hn e => by subst e; exact hw (wi_c' (by omega) hn))
theorem ck_X12_finds {f : Int32} {i : Nat} (hi : i < 7) (hf : -1000000001 - f = nI i) (hQ : Q (.int f) (rfA m i) L) : CK E 1 MX12_finds [.ref (ev_z E + 72), .int f] m L Q := by
  refine CK.of rfl rfl (lv := [(0, _), (1, _)]) rfl ?_
  refine wk_aload_n (i := 0) (q := 1) dX12_finds_0 rfl rfl rfl ?_
  refine wk_get (q := 4) fgX12_22 dX12_finds_1 rfl rfl rfl rfl ?_
  refine wk_ldc (q := 6) dX12_finds_4 kX12_41 rfl ?_
  refine wk_iload_n (i := 1) (q := 7) dX12_finds_6 rfl rfl rfl ?_
  refine wk_isub (q := 8) dX12_finds_7 rfl ?_
  refine wk_dup2 (q := 9) dX12_finds_8 rfl rfl rfl ?_
  refine wk_iald (n := i) (q := 10) dX12_finds_9 rfl hf (by show i < 7; exact hi) rfl ?_
  refine wk_iconst (v := 1) (q := 11) dX12_finds_10 rfl rfl ?_
  refine wk_iadd (q := 12) dX12_finds_11 rfl ?_
  refine wk_iast (n := i) (q := 13) dX12_finds_12 rfl hf (by show i < 7; exact hi) rfl ?_
  refine wk_iload_n (i := 1) (q := 14) dX12_finds_13 rfl rfl rfl ?_
  refine wk_ireturn dX12_finds_14 rfl rfl ?_
  exact hQ
theorem ck_X12_becomes {n : Nat} {v : Int32} (hn : n < 73) (hQ : Q (.int (A n)) (wr m 73 (upd A n v)) L) : CK E 1 MX12_becomes [.ref (ev_z E + 72), .int (nI n), .int v] (wr m 73 A) L Q := by
  refine CK.of rfl rfl (lv := [(0, _), (1, _), (2, _)]) rfl ?_
  refine wk_aload_n (i := 0) (q := 1) dX12_becomes_0 rfl rfl rfl ?_
  refine wk_get (q := 4) fgX12_7 dX12_becomes_1 rfl rfl rfl rfl ?_
  refine wk_iload_n (i := 1) (q := 5) dX12_becomes_4 rfl rfl rfl ?_
  refine wk_sld (n := n) (q := 6) dX12_becomes_5 rfl (by omega) rfl ?_
  refine wk_istore_n (i := 3) (q := 7) (lv' := [_, _, _, _]) dX12_becomes_6 rfl rfl rfl rfl ?_
  refine wk_aload_n (i := 0) (q := 8) dX12_becomes_7 rfl rfl rfl ?_
  refine wk_get (q := 11) fgX12_7 dX12_becomes_8 rfl rfl rfl rfl ?_
  refine wk_iload_n (i := 1) (q := 12) dX12_becomes_11 rfl rfl rfl ?_
  refine wk_iload_n (i := 2) (q := 13) dX12_becomes_12 rfl rfl rfl ?_
  refine wk_sst (n := n) (q := 14) dX12_becomes_13 rfl (by omega) rfl ?_
  refine wk_iload_n (i := 3) (q := 15) dX12_becomes_14 rfl rfl rfl ?_
  refine wk_ireturn dX12_becomes_15 rfl rfl ?_
  exact hQ
theorem ck_X12_isFitting {g p : Nat} (hg : g < 8) (hp : p < 6) (h1 : fitB A p g = true → Q (.int 1) (wr m 73 A) L) (h0 : ¬ fitB A p g = true → Q (.int 0) (wr m 73 A) L) : CK E 3 MX12_isFitting [.ref (ev_z E + 72), .int (nI g), .int (nI p)] (wr m 73 A) L Q := by
  unfold fitB at h1 h0
  rw [decide_eq_true_iff] at h1 h0
  unfold fitP gv at h1 h0
  refine CK.of rfl rfl (lv := [(0, _), (1, _), (2, _)]) rfl ?_
  refine wk_aload_n (i := 0) (q := 1) dX12_isFitting_0 rfl rfl rfl ?_
  refine wk_iload_n (i := 1) (q := 2) dX12_isFitting_1 rfl rfl rfl ?_
  refine wk_iconst (v := 1) (q := 3) dX12_isFitting_2 rfl rfl ?_
  refine wk_V2r (d' := 2) (q := 6) lkX12_67 dX12_isFitting_3 rfl rfl rfl rfl rfl rfl rfl ?_
  refine ck_X12_its (g := g) (w := 1) (by omega) (by omega) ?_
  refine wk_aload_n (i := 0) (q := 7) dX12_isFitting_6 rfl rfl rfl ?_
  refine wk_iload_n (i := 2) (q := 8) dX12_isFitting_7 rfl rfl rfl ?_
  refine wk_iconst (v := 0) (q := 9) dX12_isFitting_8 rfl rfl ?_
  refine wk_V2r (d' := 1) (q := 12) lkX12_70 dX12_isFitting_9 rfl rfl rfl rfl rfl rfl rfl ?_
  refine ck_X12_sizeOfOne (g := p) (w := 0) (by omega) (by omega) ?_
  refine wk_isub (q := 13) dX12_isFitting_12 rfl ?_
  refine wk_istore_n (i := 3) (q := 14) (lv' := [_, _, _, _]) dX12_isFitting_13 rfl rfl rfl rfl ?_
  refine wk_aload_n (i := 0) (q := 15) dX12_isFitting_14 rfl rfl rfl ?_
  refine wk_iload_n (i := 1) (q := 16) dX12_isFitting_15 rfl rfl rfl ?_
  refine wk_iconst (v := 2) (q := 17) dX12_isFitting_16 rfl rfl ?_
  refine wk_V2r (d' := 2) (q := 20) lkX12_67 dX12_isFitting_17 rfl rfl rfl rfl rfl rfl rfl ?_
  refine ck_X12_its (g := g) (w := 2) (by omega) (by omega) ?_
  refine wk_aload_n (i := 0) (q := 21) dX12_isFitting_20 rfl rfl rfl ?_
  refine wk_iload_n (i := 2) (q := 22) dX12_isFitting_21 rfl rfl rfl ?_
  refine wk_iconst (v := 1) (q := 23) dX12_isFitting_22 rfl rfl ?_
  refine wk_V2r (d' := 1) (q := 26) lkX12_70 dX12_isFitting_23 rfl rfl rfl rfl rfl rfl rfl ?_
  refine ck_X12_sizeOfOne (g := p) (w := 1) (by omega) (by omega) ?_
  refine wk_isub (q := 27) dX12_isFitting_26 rfl ?_
  refine wk_istore (i := 4) (q := 29) (lv' := [_, _, _, _, _]) dX12_isFitting_27 rfl rfl rfl ?_
  refine wk_aload_n (i := 0) (q := 30) dX12_isFitting_29 rfl rfl rfl ?_
  refine wk_iload_n (i := 1) (q := 31) dX12_isFitting_30 rfl rfl rfl ?_
  refine wk_iconst (v := 4) (q := 32) dX12_isFitting_31 rfl rfl ?_
  refine wk_V2r (d' := 2) (q := 35) lkX12_67 dX12_isFitting_32 rfl rfl rfl rfl rfl rfl rfl ?_
  refine ck_X12_its (g := g) (w := 4) (by omega) (by omega) ?_
  refine wk_if_ne (t := 77) (q := 38) dX12_isFitting_35 rfl rfl (fun c35 => ?_) (fun c35 => ?_)
  · skip
    refine wk_iconst (v := 0) (q := 78) dX12_isFitting_77 rfl rfl ?_
    refine wk_ireturn dX12_isFitting_78 rfl rfl ?_
    exact h0 (fun hh => by first | exact c35 hh.1 | exact c45 hh.2.1 | exact hw1 hh.2.2.1 | exact hw hh.2.2.2)
  · skip
    refine wk_aload_n (i := 0) (q := 39) dX12_isFitting_38 rfl rfl rfl ?_
    refine wk_iload_n (i := 1) (q := 40) dX12_isFitting_39 rfl rfl rfl ?_
    refine wk_bipush (v := 6) (q := 42) dX12_isFitting_40 rfl rfl ?_
    refine wk_V2r (d' := 2) (q := 45) lkX12_67 dX12_isFitting_42 rfl rfl rfl rfl rfl rfl rfl ?_
    refine ck_X12_its (g := g) (w := 6) (by omega) (by omega) ?_
    refine wk_if_ne (t := 77) (q := 48) dX12_isFitting_45 rfl rfl (fun c45 => ?_) (fun c45 => ?_)
    · skip
      refine wk_iconst (v := 0) (q := 78) dX12_isFitting_77 rfl rfl ?_
      refine wk_ireturn dX12_isFitting_78 rfl rfl ?_
      exact h0 (fun hh => by first | exact c35 hh.1 | exact c45 hh.2.1 | exact hw1 hh.2.2.1 | exact hw hh.2.2.2)
    · skip
      refine wk_iload_n (i := 3) (q := 49) dX12_isFitting_48 rfl rfl rfl ?_
      refine wk_i2l (q := 50) dX12_isFitting_49 rfl ?_
      refine wk_lconst (v := 0) (q := 51) dX12_isFitting_50 rfl rfl ?_
      refine wk_ldc2 (q := 54) dX12_isFitting_51 kX12_52 rfl ?_
      refine wk_S3r (d' := 1) (q := 57) lkX12_46 dX12_isFitting_54 rfl rfl rfl rfl ?_
      refine ck_X12_in (lo := 0) (hi := 10) (fun hw => ?_) (fun hw => ?_)
      · skip
        have hw1 := hw
        refine wk_if_eq (t := 77) (q := 60) dX12_isFitting_57 rfl rfl (fun h => absurd h (by decide)) (fun _ => ?_)
        refine wk_iload (i := 4) (q := 62) dX12_isFitting_60 rfl rfl ?_
        refine wk_i2l (q := 63) dX12_isFitting_62 rfl ?_
        refine wk_lconst (v := 0) (q := 64) dX12_isFitting_63 rfl rfl ?_
        refine wk_ldc2 (q := 67) dX12_isFitting_64 kX12_73 rfl ?_
        refine wk_S3r (d' := 1) (q := 70) lkX12_46 dX12_isFitting_67 rfl rfl rfl rfl ?_
        refine ck_X12_in (lo := 0) (hi := 15) (fun hw => ?_) (fun hw => ?_)
        · skip
          refine wk_if_eq (t := 77) (q := 73) dX12_isFitting_70 rfl rfl (fun h => absurd h (by decide)) (fun _ => ?_)
          refine wk_iconst (v := 1) (q := 74) dX12_isFitting_73 rfl rfl ?_
          refine wk_goto (t := 78) dX12_isFitting_74 rfl ?_
          refine wk_ireturn dX12_isFitting_78 rfl rfl ?_
          exact h1 ⟨c35, c45, hw1, hw⟩
        · skip
          refine wk_if_eq (t := 77) (q := 73) dX12_isFitting_70 rfl rfl (fun _ => ?_) (fun h => absurd (by decide) h)
          refine wk_iconst (v := 0) (q := 78) dX12_isFitting_77 rfl rfl ?_
          refine wk_ireturn dX12_isFitting_78 rfl rfl ?_
          exact h0 (fun hh => by first | exact c35 hh.1 | exact c45 hh.2.1 | exact hw1 hh.2.2.1 | exact hw hh.2.2.2)
      · skip
        have hw1 := hw
        refine wk_if_eq (t := 77) (q := 60) dX12_isFitting_57 rfl rfl (fun _ => ?_) (fun h => absurd (by decide) h)
        refine wk_iconst (v := 0) (q := 78) dX12_isFitting_77 rfl rfl ?_
        refine wk_ireturn dX12_isFitting_78 rfl rfl ?_
        exact h0 (fun hh => by first | exact c35 hh.1 | exact c45 hh.2.1 | exact hw1 hh.2.2.1 | exact hw hh.2.2.2)
theorem lp_X12_wetOnes {c : Nat} (hc : A 1 = nI c) (hc8 : c ≤ 8) (hQ : Q (.int (bitsS (wetB A) c)) (wr m 73 A) L) : ∀ (r j : Nat) (a : Int32), j + r = c → a = bitsS (wetB A) j → WK E 3 MX12_wetOnes 4 [(0, .ref (ev_z E + 72)), (1, .int a), (2, .int (nI j))] [] (wr m 73 A) L Q := by
  intro r
  induction r with
  | zero =>
    intro j a hj ha
    refine wk_iload_n (i := 2) (q := 5) dX12_wetOnes_4 rfl rfl rfl ?_
    refine wk_aload_n (i := 0) (q := 6) dX12_wetOnes_5 rfl rfl rfl ?_
    refine wk_get (q := 9) fgX12_7 dX12_wetOnes_6 rfl rfl rfl rfl ?_
    refine wk_iconst (v := 1) (q := 10) dX12_wetOnes_9 rfl rfl ?_
    refine wk_sld (n := 1) (q := 11) dX12_wetOnes_10 rfl (by decide) rfl ?_
    refine wk_icmp_ge (t := 39) (q := 14) dX12_wetOnes_11 rfl rfl (fun c11 => ?_) (fun h => absurd (by rw [hc]; exact nI_le (by omega) (by omega)) h)
    refine wk_iload_n (i := 1) (q := 40) dX12_wetOnes_39 rfl rfl rfl ?_
    refine wk_ireturn dX12_wetOnes_40 rfl rfl ?_
    have e : j = c := by omega
    subst e
    rw [ha]
    exact hQ
  | succ r ih =>
    intro j a hj ha
    refine wk_iload_n (i := 2) (q := 5) dX12_wetOnes_4 rfl rfl rfl ?_
    refine wk_aload_n (i := 0) (q := 6) dX12_wetOnes_5 rfl rfl rfl ?_
    refine wk_get (q := 9) fgX12_7 dX12_wetOnes_6 rfl rfl rfl rfl ?_
    refine wk_iconst (v := 1) (q := 10) dX12_wetOnes_9 rfl rfl ?_
    refine wk_sld (n := 1) (q := 11) dX12_wetOnes_10 rfl (by decide) rfl ?_
    refine wk_icmp_ge (t := 39) (q := 14) dX12_wetOnes_11 rfl rfl (fun h => absurd h (by rw [hc]; exact nI_ge (by omega) (by omega))) (fun c11 => ?_)
    refine wk_iload_n (i := 1) (q := 15) dX12_wetOnes_14 rfl rfl rfl ?_
    refine wk_aload_n (i := 0) (q := 16) dX12_wetOnes_15 rfl rfl rfl ?_
    refine wk_iload_n (i := 2) (q := 17) dX12_wetOnes_16 rfl rfl rfl ?_
    refine wk_iconst (v := 4) (q := 18) dX12_wetOnes_17 rfl rfl ?_
    refine wk_V2r (d' := 2) (q := 21) lkX12_67 dX12_wetOnes_18 rfl rfl rfl rfl rfl rfl rfl ?_
    refine ck_X12_its (g := j) (w := 4) (by omega) (by omega) ?_
    refine wk_if_le (t := 30) (q := 24) dX12_wetOnes_21 rfl rfl (fun c21 => ?_) (fun c21 => ?_)
    · skip
      have e : ¬ wetB A j = true := by (unfold wetB; rw [decide_eq_true_iff, fa_lt]; rw [fa_le] at c21; omega)
      refine wk_iconst (v := 0) (q := 31) dX12_wetOnes_30 rfl rfl ?_
      refine wk_ior (q := 32) dX12_wetOnes_31 rfl ?_
      refine wk_istore_n (i := 1) (q := 33) (lv' := [_, _, _]) dX12_wetOnes_32 rfl rfl rfl rfl ?_
      refine wk_iinc (w := 1) (q := 36) (lv' := [_, _, _]) dX12_wetOnes_33 rfl rfl rfl rfl rfl ?_
      rw [nI_1]
      refine wk_goto (t := 4) dX12_wetOnes_36 rfl ?_
      exact ih (j + 1) _ (by omega) (by rw [ha]; first | exact bitsS_t e | (rw [Int32.or_zero]; exact bitsS_f e))
    · skip
      have e : wetB A j = true := by (unfold wetB; rw [decide_eq_true_iff, fa_lt]; rw [fa_le] at c21; omega)
      refine wk_iconst (v := 1) (q := 25) dX12_wetOnes_24 rfl rfl ?_
      refine wk_iload_n (i := 2) (q := 26) dX12_wetOnes_25 rfl rfl rfl ?_
      refine wk_ishl (q := 27) dX12_wetOnes_26 rfl ?_
      refine wk_goto (t := 31) dX12_wetOnes_27 rfl ?_
      refine wk_ior (q := 32) dX12_wetOnes_31 rfl ?_
      refine wk_istore_n (i := 1) (q := 33) (lv' := [_, _, _]) dX12_wetOnes_32 rfl rfl rfl rfl ?_
      refine wk_iinc (w := 1) (q := 36) (lv' := [_, _, _]) dX12_wetOnes_33 rfl rfl rfl rfl rfl ?_
      rw [nI_1]
      refine wk_goto (t := 4) dX12_wetOnes_36 rfl ?_
      exact ih (j + 1) _ (by omega) (by rw [ha]; first | exact bitsS_t e | (rw [Int32.or_zero]; exact bitsS_f e))
theorem ck_X12_wetOnes {c : Nat} (hc : A 1 = nI c) (hc8 : c ≤ 8) (hQ : Q (.int (bitsS (wetB A) c)) (wr m 73 A) L) : CK E 3 MX12_wetOnes [.ref (ev_z E + 72)] (wr m 73 A) L Q := by
  refine CK.of rfl rfl (lv := [(0, _)]) rfl ?_
  refine wk_iconst (v := 0) (q := 1) dX12_wetOnes_0 rfl rfl ?_
  refine wk_istore_n (i := 1) (q := 2) (lv' := [_, _]) dX12_wetOnes_1 rfl rfl rfl rfl ?_
  refine wk_iconst (v := 0) (q := 3) dX12_wetOnes_2 rfl rfl ?_
  refine wk_istore_n (i := 2) (q := 4) (lv' := [_, _, _]) dX12_wetOnes_3 rfl rfl rfl rfl ?_
  exact lp_X12_wetOnes hc hc8 hQ c 0 0 (by omega) rfl
theorem lp_X12_holedOnes {c : Nat} (hc : A 1 = nI c) (hc8 : c ≤ 8) (hQ : Q (.int (bitsS (holB A) c)) (wr m 73 A) L) : ∀ (r j : Nat) (a : Int32), j + r = c → a = bitsS (holB A) j → WK E 3 MX12_holedOnes 4 [(0, .ref (ev_z E + 72)), (1, .int a), (2, .int (nI j))] [] (wr m 73 A) L Q := by
  intro r
  induction r with
  | zero =>
    intro j a hj ha
    refine wk_iload_n (i := 2) (q := 5) dX12_holedOnes_4 rfl rfl rfl ?_
    refine wk_aload_n (i := 0) (q := 6) dX12_holedOnes_5 rfl rfl rfl ?_
    refine wk_get (q := 9) fgX12_7 dX12_holedOnes_6 rfl rfl rfl rfl ?_
    refine wk_iconst (v := 1) (q := 10) dX12_holedOnes_9 rfl rfl ?_
    refine wk_sld (n := 1) (q := 11) dX12_holedOnes_10 rfl (by decide) rfl ?_
    refine wk_icmp_ge (t := 40) (q := 14) dX12_holedOnes_11 rfl rfl (fun c11 => ?_) (fun h => absurd (by rw [hc]; exact nI_le (by omega) (by omega)) h)
    refine wk_iload_n (i := 1) (q := 41) dX12_holedOnes_40 rfl rfl rfl ?_
    refine wk_ireturn dX12_holedOnes_41 rfl rfl ?_
    have e : j = c := by omega
    subst e
    rw [ha]
    exact hQ
  | succ r ih =>
    intro j a hj ha
    refine wk_iload_n (i := 2) (q := 5) dX12_holedOnes_4 rfl rfl rfl ?_
    refine wk_aload_n (i := 0) (q := 6) dX12_holedOnes_5 rfl rfl rfl ?_
    refine wk_get (q := 9) fgX12_7 dX12_holedOnes_6 rfl rfl rfl rfl ?_
    refine wk_iconst (v := 1) (q := 10) dX12_holedOnes_9 rfl rfl ?_
    refine wk_sld (n := 1) (q := 11) dX12_holedOnes_10 rfl (by decide) rfl ?_
    refine wk_icmp_ge (t := 40) (q := 14) dX12_holedOnes_11 rfl rfl (fun h => absurd h (by rw [hc]; exact nI_ge (by omega) (by omega))) (fun c11 => ?_)
    refine wk_iload_n (i := 1) (q := 15) dX12_holedOnes_14 rfl rfl rfl ?_
    refine wk_aload_n (i := 0) (q := 16) dX12_holedOnes_15 rfl rfl rfl ?_
    refine wk_iload_n (i := 2) (q := 17) dX12_holedOnes_16 rfl rfl rfl ?_
    refine wk_bipush (v := 6) (q := 19) dX12_holedOnes_17 rfl rfl ?_
    refine wk_V2r (d' := 2) (q := 22) lkX12_67 dX12_holedOnes_19 rfl rfl rfl rfl rfl rfl rfl ?_
    refine ck_X12_its (g := j) (w := 6) (by omega) (by omega) ?_
    refine wk_if_le (t := 31) (q := 25) dX12_holedOnes_22 rfl rfl (fun c22 => ?_) (fun c22 => ?_)
    · skip
      have e : ¬ holB A j = true := by (unfold holB; rw [decide_eq_true_iff, fa_lt]; rw [fa_le] at c22; omega)
      refine wk_iconst (v := 0) (q := 32) dX12_holedOnes_31 rfl rfl ?_
      refine wk_ior (q := 33) dX12_holedOnes_32 rfl ?_
      refine wk_istore_n (i := 1) (q := 34) (lv' := [_, _, _]) dX12_holedOnes_33 rfl rfl rfl rfl ?_
      refine wk_iinc (w := 1) (q := 37) (lv' := [_, _, _]) dX12_holedOnes_34 rfl rfl rfl rfl rfl ?_
      rw [nI_1]
      refine wk_goto (t := 4) dX12_holedOnes_37 rfl ?_
      exact ih (j + 1) _ (by omega) (by rw [ha]; first | exact bitsS_t e | (rw [Int32.or_zero]; exact bitsS_f e))
    · skip
      have e : holB A j = true := by (unfold holB; rw [decide_eq_true_iff, fa_lt]; rw [fa_le] at c22; omega)
      refine wk_iconst (v := 1) (q := 26) dX12_holedOnes_25 rfl rfl ?_
      refine wk_iload_n (i := 2) (q := 27) dX12_holedOnes_26 rfl rfl rfl ?_
      refine wk_ishl (q := 28) dX12_holedOnes_27 rfl ?_
      refine wk_goto (t := 32) dX12_holedOnes_28 rfl ?_
      refine wk_ior (q := 33) dX12_holedOnes_32 rfl ?_
      refine wk_istore_n (i := 1) (q := 34) (lv' := [_, _, _]) dX12_holedOnes_33 rfl rfl rfl rfl ?_
      refine wk_iinc (w := 1) (q := 37) (lv' := [_, _, _]) dX12_holedOnes_34 rfl rfl rfl rfl rfl ?_
      rw [nI_1]
      refine wk_goto (t := 4) dX12_holedOnes_37 rfl ?_
      exact ih (j + 1) _ (by omega) (by rw [ha]; first | exact bitsS_t e | (rw [Int32.or_zero]; exact bitsS_f e))
theorem ck_X12_holedOnes {c : Nat} (hc : A 1 = nI c) (hc8 : c ≤ 8) (hQ : Q (.int (bitsS (holB A) c)) (wr m 73 A) L) : CK E 3 MX12_holedOnes [.ref (ev_z E + 72)] (wr m 73 A) L Q := by
  refine CK.of rfl rfl (lv := [(0, _)]) rfl ?_
  refine wk_iconst (v := 0) (q := 1) dX12_holedOnes_0 rfl rfl ?_
  refine wk_istore_n (i := 1) (q := 2) (lv' := [_, _]) dX12_holedOnes_1 rfl rfl rfl rfl ?_
  refine wk_iconst (v := 0) (q := 3) dX12_holedOnes_2 rfl rfl ?_
  refine wk_istore_n (i := 2) (q := 4) (lv' := [_, _, _]) dX12_holedOnes_3 rfl rfl rfl rfl ?_
  exact lp_X12_holedOnes hc hc8 hQ c 0 0 (by omega) rfl
theorem lp_X12_fittingOnes {c p : Nat} (hc : A 1 = nI c) (hc8 : c ≤ 8) (hp : p < 6) (hQ : Q (.int (bitsS (fitB A p) c)) (wr m 73 A) L) : ∀ (r j : Nat) (a : Int32), j + r = c → a = bitsS (fitB A p) j → WK E 4 MX12_fittingOnes 4 [(0, .ref (ev_z E + 72)), (1, .int (nI p)), (2, .int a), (3, .int (nI j))] [] (wr m 73 A) L Q := by
  intro r
  induction r with
  | zero =>
    intro j a hj ha
    refine wk_iload_n (i := 3) (q := 5) dX12_fittingOnes_4 rfl rfl rfl ?_
    refine wk_aload_n (i := 0) (q := 6) dX12_fittingOnes_5 rfl rfl rfl ?_
    refine wk_get (q := 9) fgX12_7 dX12_fittingOnes_6 rfl rfl rfl rfl ?_
    refine wk_iconst (v := 1) (q := 10) dX12_fittingOnes_9 rfl rfl ?_
    refine wk_sld (n := 1) (q := 11) dX12_fittingOnes_10 rfl (by decide) rfl ?_
    refine wk_icmp_ge (t := 39) (q := 14) dX12_fittingOnes_11 rfl rfl (fun c11 => ?_) (fun h => absurd (by rw [hc]; exact nI_le (by omega) (by omega)) h)
    refine wk_iload_n (i := 2) (q := 40) dX12_fittingOnes_39 rfl rfl rfl ?_
    refine wk_ireturn dX12_fittingOnes_40 rfl rfl ?_
    have e : j = c := by omega
    subst e
    rw [ha]
    exact hQ
  | succ r ih =>
    intro j a hj ha
    refine wk_iload_n (i := 3) (q := 5) dX12_fittingOnes_4 rfl rfl rfl ?_
    refine wk_aload_n (i := 0) (q := 6) dX12_fittingOnes_5 rfl rfl rfl ?_
    refine wk_get (q := 9) fgX12_7 dX12_fittingOnes_6 rfl rfl rfl rfl ?_
    refine wk_iconst (v := 1) (q := 10) dX12_fittingOnes_9 rfl rfl ?_
    refine wk_sld (n := 1) (q := 11) dX12_fittingOnes_10 rfl (by decide) rfl ?_
    refine wk_icmp_ge (t := 39) (q := 14) dX12_fittingOnes_11 rfl rfl (fun h => absurd h (by rw [hc]; exact nI_ge (by omega) (by omega))) (fun c11 => ?_)
    refine wk_iload_n (i := 2) (q := 15) dX12_fittingOnes_14 rfl rfl rfl ?_
    refine wk_aload_n (i := 0) (q := 16) dX12_fittingOnes_15 rfl rfl rfl ?_
    refine wk_iload_n (i := 3) (q := 17) dX12_fittingOnes_16 rfl rfl rfl ?_
    refine wk_iload_n (i := 1) (q := 18) dX12_fittingOnes_17 rfl rfl rfl ?_
    refine wk_V2r (d' := 3) (q := 21) lkX12_75 dX12_fittingOnes_18 rfl rfl rfl rfl rfl rfl rfl ?_
    refine ck_X12_isFitting (g := j) (p := p) (by omega) (by omega) (fun hf => ?_) (fun hf => ?_)
    · skip
      refine wk_if_eq (t := 30) (q := 24) dX12_fittingOnes_21 rfl rfl (fun h => absurd h (by decide)) (fun _ => ?_)
      refine wk_iconst (v := 1) (q := 25) dX12_fittingOnes_24 rfl rfl ?_
      refine wk_iload_n (i := 3) (q := 26) dX12_fittingOnes_25 rfl rfl rfl ?_
      refine wk_ishl (q := 27) dX12_fittingOnes_26 rfl ?_
      refine wk_goto (t := 31) dX12_fittingOnes_27 rfl ?_
      refine wk_ior (q := 32) dX12_fittingOnes_31 rfl ?_
      refine wk_istore_n (i := 2) (q := 33) (lv' := [_, _, _, _]) dX12_fittingOnes_32 rfl rfl rfl rfl ?_
      refine wk_iinc (w := 1) (q := 36) (lv' := [_, _, _, _]) dX12_fittingOnes_33 rfl rfl rfl rfl rfl ?_
      rw [nI_1]
      refine wk_goto (t := 4) dX12_fittingOnes_36 rfl ?_
      exact ih (j + 1) _ (by omega) (by rw [ha]; first | exact bitsS_t hf | (rw [Int32.or_zero]; exact bitsS_f hf))
    · skip
      refine wk_if_eq (t := 30) (q := 24) dX12_fittingOnes_21 rfl rfl (fun _ => ?_) (fun h => absurd (by decide) h)
      refine wk_iconst (v := 0) (q := 31) dX12_fittingOnes_30 rfl rfl ?_
      refine wk_ior (q := 32) dX12_fittingOnes_31 rfl ?_
      refine wk_istore_n (i := 2) (q := 33) (lv' := [_, _, _, _]) dX12_fittingOnes_32 rfl rfl rfl rfl ?_
      refine wk_iinc (w := 1) (q := 36) (lv' := [_, _, _, _]) dX12_fittingOnes_33 rfl rfl rfl rfl rfl ?_
      rw [nI_1]
      refine wk_goto (t := 4) dX12_fittingOnes_36 rfl ?_
      exact ih (j + 1) _ (by omega) (by rw [ha]; first | exact bitsS_t hf | (rw [Int32.or_zero]; exact bitsS_f hf))
theorem ck_X12_fittingOnes {c p : Nat} (hc : A 1 = nI c) (hc8 : c ≤ 8) (hp : p < 6) (hQ : Q (.int (bitsS (fitB A p) c)) (wr m 73 A) L) : CK E 4 MX12_fittingOnes [.ref (ev_z E + 72), .int (nI p)] (wr m 73 A) L Q := by
  refine CK.of rfl rfl (lv := [(0, _), (1, _)]) rfl ?_
  refine wk_iconst (v := 0) (q := 1) dX12_fittingOnes_0 rfl rfl ?_
  refine wk_istore_n (i := 2) (q := 2) (lv' := [_, _, _]) dX12_fittingOnes_1 rfl rfl rfl rfl ?_
  refine wk_iconst (v := 0) (q := 3) dX12_fittingOnes_2 rfl rfl ?_
  refine wk_istore_n (i := 3) (q := 4) (lv' := [_, _, _, _]) dX12_fittingOnes_3 rfl rfl rfl rfl ?_
  exact lp_X12_fittingOnes hc hc8 hp hQ c 0 0 (by omega) rfl
theorem lp_X12_fittingAny {c n : Nat} (hc : A 1 = nI c) (hc8 : c ≤ 8) (hn : A 2 = nI n) (hn6 : n ≤ 6) (hQ : Q (.int (anyS A c n)) (wr m 73 A) L) : ∀ (r j : Nat) (a : Int32), j + r = n → a = anyS A c j → WK E 5 MX12_fittingAny 4 [(0, .ref (ev_z E + 72)), (1, .int a), (2, .int (nI j))] [] (wr m 73 A) L Q := by
  intro r
  induction r with
  | zero =>
    intro j a hj ha
    refine wk_iload_n (i := 2) (q := 5) dX12_fittingAny_4 rfl rfl rfl ?_
    refine wk_aload_n (i := 0) (q := 6) dX12_fittingAny_5 rfl rfl rfl ?_
    refine wk_get (q := 9) fgX12_7 dX12_fittingAny_6 rfl rfl rfl rfl ?_
    refine wk_iconst (v := 2) (q := 10) dX12_fittingAny_9 rfl rfl ?_
    refine wk_sld (n := 2) (q := 11) dX12_fittingAny_10 rfl (by decide) rfl ?_
    refine wk_icmp_ge (t := 28) (q := 14) dX12_fittingAny_11 rfl rfl (fun c11 => ?_) (fun h => absurd (by rw [hn]; exact nI_le (by omega) (by omega)) h)
    refine wk_iload_n (i := 1) (q := 29) dX12_fittingAny_28 rfl rfl rfl ?_
    refine wk_ireturn dX12_fittingAny_29 rfl rfl ?_
    have e : j = n := by omega
    subst e
    rw [ha]
    exact hQ
  | succ r ih =>
    intro j a hj ha
    refine wk_iload_n (i := 2) (q := 5) dX12_fittingAny_4 rfl rfl rfl ?_
    refine wk_aload_n (i := 0) (q := 6) dX12_fittingAny_5 rfl rfl rfl ?_
    refine wk_get (q := 9) fgX12_7 dX12_fittingAny_6 rfl rfl rfl rfl ?_
    refine wk_iconst (v := 2) (q := 10) dX12_fittingAny_9 rfl rfl ?_
    refine wk_sld (n := 2) (q := 11) dX12_fittingAny_10 rfl (by decide) rfl ?_
    refine wk_icmp_ge (t := 28) (q := 14) dX12_fittingAny_11 rfl rfl (fun h => absurd h (by rw [hn]; exact nI_ge (by omega) (by omega))) (fun c11 => ?_)
    refine wk_iload_n (i := 1) (q := 15) dX12_fittingAny_14 rfl rfl rfl ?_
    refine wk_aload_n (i := 0) (q := 16) dX12_fittingAny_15 rfl rfl rfl ?_
    refine wk_iload_n (i := 2) (q := 17) dX12_fittingAny_16 rfl rfl rfl ?_
    refine wk_V1r (d' := 4) (q := 20) lkX12_79 dX12_fittingAny_17 rfl rfl rfl rfl rfl rfl rfl ?_
    refine ck_X12_fittingOnes (p := j) hc hc8 (by omega) ?_
    refine wk_ior (q := 21) dX12_fittingAny_20 rfl ?_
    refine wk_istore_n (i := 1) (q := 22) (lv' := [_, _, _]) dX12_fittingAny_21 rfl rfl rfl rfl ?_
    refine wk_iinc (w := 1) (q := 25) (lv' := [_, _, _]) dX12_fittingAny_22 rfl rfl rfl rfl rfl ?_
    rw [nI_1]
    refine wk_goto (t := 4) dX12_fittingAny_25 rfl ?_
    exact ih (j + 1) _ (by omega) (by rw [ha]; rfl)
theorem ck_X12_fittingAny {c n : Nat} (hc : A 1 = nI c) (hc8 : c ≤ 8) (hn : A 2 = nI n) (hn6 : n ≤ 6) (hQ : Q (.int (anyS A c n)) (wr m 73 A) L) : CK E 5 MX12_fittingAny [.ref (ev_z E + 72)] (wr m 73 A) L Q := by
  refine CK.of rfl rfl (lv := [(0, _)]) rfl ?_
  refine wk_iconst (v := 0) (q := 1) dX12_fittingAny_0 rfl rfl ?_
  refine wk_istore_n (i := 1) (q := 2) (lv' := [_, _]) dX12_fittingAny_1 rfl rfl rfl rfl ?_
  refine wk_iconst (v := 0) (q := 3) dX12_fittingAny_2 rfl rfl ?_
  refine wk_istore_n (i := 2) (q := 4) (lv' := [_, _, _]) dX12_fittingAny_3 rfl rfl rfl rfl ?_
  exact lp_X12_fittingAny hc hc8 hn hn6 hQ n 0 0 (by omega) rfl
end MB
