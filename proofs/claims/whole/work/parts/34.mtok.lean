/-! the reference's reading of the tape -/
def mhs (T : Nat → Int32) (j : Nat) : Nat → Int64
  | 0 => 0
  | n + 1 => if 36028797018963967 < mhs T j n then mhs T j n else 32 * mhs T j n + (T (j + n) - 96).toInt64
def wdH (T : Nat → Int32) (tn p : Nat) : Int64 := if tkT T tn p = 1 then mhs T (tkS T tn p) (tkE T tn p - tkS T tn p) else 0
theorem tkT_1 {T : Nat → Int32} {tn p : Nat} : tkT T tn p = 1 ↔ tkS T tn p < tn ∧ ltB (T (tkS T tn p)) = true := by
  unfold tkT
  by_cases h : tkS T tn p < tn
  · rw [if_pos h]
    by_cases h2 : ltB (T (tkS T tn p)) = true
    · rw [if_pos h2]; exact ⟨fun _ => ⟨h, h2⟩, fun _ => rfl⟩
    · rw [if_neg h2]
      refine ⟨fun e => ?_, fun e => absurd e.2 h2⟩
      split at e
      · exact absurd e (by decide)
      · split at e <;> exact absurd e (by decide)
  · rw [if_neg h]
    exact ⟨fun e => absurd e (by decide), fun e => absurd e.1 h⟩
theorem lt_dg {c : Int32} (h : ltB c = true) : ¬ dgB c = true := by
  unfold ltB at h
  unfold dgB
  rw [decide_eq_true_iff, fa_le, fa_le, show (97 : Int32).toInt = 97 by decide] at h
  rw [decide_eq_true_iff, fa_le, fa_le, show (57 : Int32).toInt = 57 by decide]
  omega
theorem tkT_2 {T : Nat → Int32} {tn p : Nat} : tkT T tn p = 2 ↔ tkS T tn p < tn ∧ dgB (T (tkS T tn p)) = true := by
  unfold tkT
  by_cases h : tkS T tn p < tn
  · rw [if_pos h]
    by_cases h2 : ltB (T (tkS T tn p)) = true
    · rw [if_pos h2]
      exact ⟨fun e => absurd e (by decide), fun e => absurd e.2 (lt_dg h2)⟩
    · rw [if_neg h2]
      by_cases h3 : dgB (T (tkS T tn p)) = true
      · rw [if_pos h3]; exact ⟨fun _ => ⟨h, h3⟩, fun _ => rfl⟩
      · rw [if_neg h3]
        refine ⟨fun e => ?_, fun e => absurd e.2 h3⟩
        split at e <;> exact absurd e (by decide)
  · rw [if_neg h]
    exact ⟨fun e => absurd e (by decide), fun e => absurd e.1 h⟩
section MT
variable {E : EVt} {m : Mm} {L : Ml} {Q : Value → Mm → Ml → Prop} {S A : Nat → Int32} {tn p : Nat}
theorem ck_X12_byteAt {n : Nat} (hS : S 7 = nI tn) (ht : tn ≤ 120) (hn : n < 2 ^ 31) (h1 : n < tn → Q (.int (m 78 n)) (wr (wr m 72 S) 73 A) L) (h0 : ¬ n < tn → Q (.int (-1)) (wr (wr m 72 S) 73 A) L) : CK E 1 MX12_byteAt [.ref (ev_z E + 72), .int (nI n)] (wr (wr m 72 S) 73 A) L Q := by
  refine CK.of rfl rfl (lv := [(0, _), (1, _)]) rfl ?_
  refine wk_iload_n (i := 1) (q := 1) dX12_byteAt_0 rfl rfl rfl ?_
  refine wk_aload_n (i := 0) (q := 2) dX12_byteAt_1 rfl rfl rfl ?_
  refine wk_gM (q := 5) fgX12_193 dX12_byteAt_2 rfl rfl ?_
  rw [hS]
  refine wk_icmp_ge (t := 17) (q := 8) dX12_byteAt_5 rfl rfl (fun c5 => ?_) (fun c5 => ?_)
  · skip
    have hlt : ¬ n < tn := fun h => absurd c5 (nI_ge h (by omega))
    refine wk_iconst (v := -1) (q := 18) dX12_byteAt_17 rfl rfl ?_
    refine wk_ireturn dX12_byteAt_18 rfl rfl ?_
    first | exact h1 hlt | exact h0 hlt
  · skip
    have hlt : n < tn := by (rcases Nat.lt_or_ge n tn with h | h; exact h; exact absurd (nI_le h hn) c5)
    refine wk_aload_n (i := 0) (q := 9) dX12_byteAt_8 rfl rfl rfl ?_
    refine wk_get (q := 12) fgX12_25 dX12_byteAt_9 rfl rfl rfl rfl ?_
    refine wk_iload_n (i := 1) (q := 13) dX12_byteAt_12 rfl rfl rfl ?_
    refine wk_iald (n := n) (q := 14) dX12_byteAt_13 rfl rfl (by show _ < 120; omega) rfl ?_
    rw [wr_n (show (78 : Nat) ≠ 73 by decide), wr_n (show (78 : Nat) ≠ 72 by decide)]
    refine wk_goto (t := 18) dX12_byteAt_14 rfl ?_
    refine wk_ireturn dX12_byteAt_18 rfl rfl ?_
    first | exact h1 hlt | exact h0 hlt
theorem ck_X12_isLetter {v : Int32} (h1 : ltB v = true → Q (.int 1) m L) (h0 : ¬ ltB v = true → Q (.int 0) m L) : CK E 2 MX12_isLetter [.int v] m L Q := by
  refine CK.of rfl rfl (lv := [(0, _)]) rfl ?_
  refine wk_iload_n (i := 0) (q := 1) dX12_isLetter_0 rfl rfl rfl ?_
  refine wk_i2l (q := 2) dX12_isLetter_1 rfl ?_
  refine wk_ldc2 (q := 5) dX12_isLetter_2 kX12_197 rfl ?_
  refine wk_ldc2 (q := 8) dX12_isLetter_5 kX12_199 rfl ?_
  refine wk_S3r (d' := 1) (q := 11) lkX12_46 dX12_isLetter_8 rfl rfl rfl rfl ?_
  refine ck_X12_in (lo := 97) (hi := 122) (fun hw => ?_) (fun hw => ?_)
  · skip
    refine wk_ireturn dX12_isLetter_11 rfl rfl ?_
    exact h1 (decide_eq_true hw)
  · skip
    refine wk_ireturn dX12_isLetter_11 rfl rfl ?_
    exact h0 (fun h => hw (of_decide_eq_true h))
theorem ck_X12_isDigit {v : Int32} (h1 : dgB v = true → Q (.int 1) m L) (h0 : ¬ dgB v = true → Q (.int 0) m L) : CK E 2 MX12_isDigit [.int v] m L Q := by
  refine CK.of rfl rfl (lv := [(0, _)]) rfl ?_
  refine wk_iload_n (i := 0) (q := 1) dX12_isDigit_0 rfl rfl rfl ?_
  refine wk_i2l (q := 2) dX12_isDigit_1 rfl ?_
  refine wk_ldc2 (q := 5) dX12_isDigit_2 kX12_201 rfl ?_
  refine wk_ldc2 (q := 8) dX12_isDigit_5 kX12_203 rfl ?_
  refine wk_S3r (d' := 1) (q := 11) lkX12_46 dX12_isDigit_8 rfl rfl rfl rfl ?_
  refine ck_X12_in (lo := 48) (hi := 57) (fun hw => ?_) (fun hw => ?_)
  · skip
    refine wk_ireturn dX12_isDigit_11 rfl rfl ?_
    exact h1 (decide_eq_true hw)
  · skip
    refine wk_ireturn dX12_isDigit_11 rfl rfl ?_
    exact h0 (fun h => hw (of_decide_eq_true h))
theorem lp1_X12_token (ht : tn ≤ 120) (hS : S 7 = nI tn) : ∀ (f i : Nat), tn ≤ i + f → i ≤ tn → WK E 3 MX12_token 34 [(0, .ref (ev_z E + 72))] [] (wr (wr m 72 (upd S 8 (nI (runP spB (m 78) tn f i)))) 73 A) L Q → WK E 3 MX12_token 8 [(0, .ref (ev_z E + 72))] [] (wr (wr m 72 (upd S 8 (nI i))) 73 A) L Q := by
  have hS1 : ∀ x, upd S 8 x 7 = nI tn := fun x => (upd_n (by decide)).trans hS
  intro f
  induction f with
  | zero =>
    intro i h1 h2 k
    refine wk_aload_n (i := 0) (q := 9) dX12_token_8 rfl rfl rfl ?_
    refine wk_aload_n (i := 0) (q := 10) dX12_token_9 rfl rfl rfl ?_
    refine wk_gM (q := 13) fgX12_208 dX12_token_10 rfl rfl ?_
    rw [upd_s]
    refine wk_V1r (d' := 1) (q := 16) lkX12_211 dX12_token_13 rfl rfl rfl rfl rfl rfl rfl ?_
    refine ck_X12_byteAt (n := i) (hS1 _) ht (by omega) (fun hx => ?_) (fun hx => ?_)
    · skip
      exact absurd hx (by omega)
    · skip
      refine wk_bipush (v := 32) (q := 18) dX12_token_16 rfl rfl ?_
      refine wk_icmp_ne (t := 34) (q := 21) dX12_token_18 rfl rfl (fun _ => ?_) (fun h => absurd h (by decide))
      exact k
  | succ f ih =>
    intro i h1 h2 k
    refine wk_aload_n (i := 0) (q := 9) dX12_token_8 rfl rfl rfl ?_
    refine wk_aload_n (i := 0) (q := 10) dX12_token_9 rfl rfl rfl ?_
    refine wk_gM (q := 13) fgX12_208 dX12_token_10 rfl rfl ?_
    rw [upd_s]
    refine wk_V1r (d' := 1) (q := 16) lkX12_211 dX12_token_13 rfl rfl rfl rfl rfl rfl rfl ?_
    refine ck_X12_byteAt (n := i) (hS1 _) ht (by omega) (fun hx => ?_) (fun hx => ?_)
    · skip
      refine wk_bipush (v := 32) (q := 18) dX12_token_16 rfl rfl ?_
      refine wk_icmp_ne (t := 34) (q := 21) dX12_token_18 rfl rfl (fun c18 => ?_) (fun c18 => ?_)
      · skip
        rw [runP_f (fun h => c18 (of_decide_eq_true h.2))] at k
        exact k
      · skip
        rw [runP_t ⟨hx, decide_eq_true c18⟩] at k
        refine wk_aload_n (i := 0) (q := 22) dX12_token_21 rfl rfl rfl ?_
        refine wk_dup (q := 23) dX12_token_22 rfl rfl ?_
        refine wk_gM (q := 26) fgX12_208 dX12_token_23 rfl rfl ?_
        refine wk_iconst (v := 1) (q := 27) dX12_token_26 rfl rfl ?_
        refine wk_iadd (q := 28) dX12_token_27 rfl ?_
        rw [upd_s, nI_1]
        refine wk_pM (q := 31) fpX12_208 dX12_token_28 rfl rfl rfl rfl ?_
        rw [upd_upd]
        refine wk_goto (t := 8) dX12_token_31 rfl ?_
        exact ih (i + 1) (by omega) (by omega) k
    · skip
      rw [runP_f (fun h => hx h.1)] at k
      refine wk_bipush (v := 32) (q := 18) dX12_token_16 rfl rfl ?_
      refine wk_icmp_ne (t := 34) (q := 21) dX12_token_18 rfl rfl (fun _ => ?_) (fun h => absurd h (by decide))
      exact k
theorem lp2_X12_token (ht : tn ≤ 120) (hS : S 7 = nI tn) : ∀ (f i : Nat), tn ≤ i + f → i ≤ tn → Q .null (wr (wr m 72 (upd S 9 (nI (runP ltB (m 78) tn f i)))) 73 A) L → WK E 3 MX12_token 86 [(0, .ref (ev_z E + 72)), (1, .int 1), (2, .int 0)] [] (wr (wr m 72 (upd S 9 (nI i))) 73 A) L Q := by
  have hS1 : ∀ x, upd S 9 x 7 = nI tn := fun x => (upd_n (by decide)).trans hS
  intro f
  induction f with
  | zero =>
    intro i h1 h2 k
    refine wk_iload_n (i := 1) (q := 87) dX12_token_86 rfl rfl rfl ?_
    refine wk_if_eq (t := 104) (q := 90) dX12_token_87 rfl rfl (fun h => absurd h (by decide)) (fun _ => ?_)
    refine wk_aload_n (i := 0) (q := 91) dX12_token_90 rfl rfl rfl ?_
    refine wk_aload_n (i := 0) (q := 92) dX12_token_91 rfl rfl rfl ?_
    refine wk_gM (q := 95) fgX12_205 dX12_token_92 rfl rfl ?_
    rw [upd_s]
    refine wk_V1r (d' := 1) (q := 98) lkX12_211 dX12_token_95 rfl rfl rfl rfl rfl rfl rfl ?_
    refine ck_X12_byteAt (n := i) (hS1 _) ht (by omega) (fun hx => ?_) (fun hx => ?_)
    · skip
      exact absurd hx (by omega)
    · skip
      refine wk_S1r (d' := 2) (q := 101) lkX12_214 dX12_token_98 rfl rfl rfl rfl ?_
      refine ck_X12_isLetter (fun hl => ?_) (fun hl => ?_)
      · skip
        exact absurd hl (by decide)
      · skip
        refine wk_if_ne (t := 122) (q := 104) dX12_token_101 rfl rfl (fun h => absurd (by decide) h) (fun _ => ?_)
        refine wk_iload_n (i := 2) (q := 105) dX12_token_104 rfl rfl rfl ?_
        refine wk_if_eq (t := 135) (q := 108) dX12_token_105 rfl rfl (fun _ => ?_) (fun h => absurd (by decide) h)
        refine wk_return dX12_token_135 rfl ?_
        exact k
  | succ f ih =>
    intro i h1 h2 k
    refine wk_iload_n (i := 1) (q := 87) dX12_token_86 rfl rfl rfl ?_
    refine wk_if_eq (t := 104) (q := 90) dX12_token_87 rfl rfl (fun h => absurd h (by decide)) (fun _ => ?_)
    refine wk_aload_n (i := 0) (q := 91) dX12_token_90 rfl rfl rfl ?_
    refine wk_aload_n (i := 0) (q := 92) dX12_token_91 rfl rfl rfl ?_
    refine wk_gM (q := 95) fgX12_205 dX12_token_92 rfl rfl ?_
    rw [upd_s]
    refine wk_V1r (d' := 1) (q := 98) lkX12_211 dX12_token_95 rfl rfl rfl rfl rfl rfl rfl ?_
    refine ck_X12_byteAt (n := i) (hS1 _) ht (by omega) (fun hx => ?_) (fun hx => ?_)
    · skip
      refine wk_S1r (d' := 2) (q := 101) lkX12_214 dX12_token_98 rfl rfl rfl rfl ?_
      refine ck_X12_isLetter (fun hl => ?_) (fun hl => ?_)
      · skip
        rw [runP_t ⟨hx, hl⟩] at k
        refine wk_if_ne (t := 122) (q := 104) dX12_token_101 rfl rfl (fun _ => ?_) (fun h => absurd h (by decide))
        refine wk_aload_n (i := 0) (q := 123) dX12_token_122 rfl rfl rfl ?_
        refine wk_dup (q := 124) dX12_token_123 rfl rfl ?_
        refine wk_gM (q := 127) fgX12_205 dX12_token_124 rfl rfl ?_
        refine wk_iconst (v := 1) (q := 128) dX12_token_127 rfl rfl ?_
        refine wk_iadd (q := 129) dX12_token_128 rfl ?_
        rw [upd_s, nI_1]
        refine wk_pM (q := 132) fpX12_205 dX12_token_129 rfl rfl rfl rfl ?_
        rw [upd_upd]
        refine wk_goto (t := 86) dX12_token_132 rfl ?_
        exact ih (i + 1) (by omega) (by omega) k
      · skip
        first | rw [runP_f (fun h => hl h.2)] at k | rw [runP_f (fun h => hx h.1)] at k
        refine wk_if_ne (t := 122) (q := 104) dX12_token_101 rfl rfl (fun h => absurd (by decide) h) (fun _ => ?_)
        refine wk_iload_n (i := 2) (q := 105) dX12_token_104 rfl rfl rfl ?_
        refine wk_if_eq (t := 135) (q := 108) dX12_token_105 rfl rfl (fun _ => ?_) (fun h => absurd (by decide) h)
        refine wk_return dX12_token_135 rfl ?_
        exact k
    · skip
      refine wk_S1r (d' := 2) (q := 101) lkX12_214 dX12_token_98 rfl rfl rfl rfl ?_
      refine ck_X12_isLetter (fun hl => ?_) (fun hl => ?_)
      · skip
        exact absurd hl (by decide)
      · skip
        first | rw [runP_f (fun h => hl h.2)] at k | rw [runP_f (fun h => hx h.1)] at k
        refine wk_if_ne (t := 122) (q := 104) dX12_token_101 rfl rfl (fun h => absurd (by decide) h) (fun _ => ?_)
        refine wk_iload_n (i := 2) (q := 105) dX12_token_104 rfl rfl rfl ?_
        refine wk_if_eq (t := 135) (q := 108) dX12_token_105 rfl rfl (fun _ => ?_) (fun h => absurd (by decide) h)
        refine wk_return dX12_token_135 rfl ?_
        exact k
theorem lp3_X12_token (ht : tn ≤ 120) (hS : S 7 = nI tn) : ∀ (f i : Nat), tn ≤ i + f → i ≤ tn → Q .null (wr (wr m 72 (upd S 9 (nI (runP dgB (m 78) tn f i)))) 73 A) L → WK E 3 MX12_token 86 [(0, .ref (ev_z E + 72)), (1, .int 0), (2, .int 1)] [] (wr (wr m 72 (upd S 9 (nI i))) 73 A) L Q := by
  have hS1 : ∀ x, upd S 9 x 7 = nI tn := fun x => (upd_n (by decide)).trans hS
  intro f
  induction f with
  | zero =>
    intro i h1 h2 k
    refine wk_iload_n (i := 1) (q := 87) dX12_token_86 rfl rfl rfl ?_
    refine wk_if_eq (t := 104) (q := 90) dX12_token_87 rfl rfl (fun _ => ?_) (fun h => absurd (by decide) h)
    refine wk_iload_n (i := 2) (q := 105) dX12_token_104 rfl rfl rfl ?_
    refine wk_if_eq (t := 135) (q := 108) dX12_token_105 rfl rfl (fun h => absurd h (by decide)) (fun _ => ?_)
    refine wk_aload_n (i := 0) (q := 109) dX12_token_108 rfl rfl rfl ?_
    refine wk_aload_n (i := 0) (q := 110) dX12_token_109 rfl rfl rfl ?_
    refine wk_gM (q := 113) fgX12_205 dX12_token_110 rfl rfl ?_
    rw [upd_s]
    refine wk_V1r (d' := 1) (q := 116) lkX12_211 dX12_token_113 rfl rfl rfl rfl rfl rfl rfl ?_
    refine ck_X12_byteAt (n := i) (hS1 _) ht (by omega) (fun hx => ?_) (fun hx => ?_)
    · skip
      exact absurd hx (by omega)
    · skip
      refine wk_S1r (d' := 2) (q := 119) lkX12_217 dX12_token_116 rfl rfl rfl rfl ?_
      refine ck_X12_isDigit (fun hd => ?_) (fun hd => ?_)
      · skip
        exact absurd hd (by decide)
      · skip
        refine wk_if_eq (t := 135) (q := 122) dX12_token_119 rfl rfl (fun _ => ?_) (fun h => absurd (by decide) h)
        refine wk_return dX12_token_135 rfl ?_
        exact k
  | succ f ih =>
    intro i h1 h2 k
    refine wk_iload_n (i := 1) (q := 87) dX12_token_86 rfl rfl rfl ?_
    refine wk_if_eq (t := 104) (q := 90) dX12_token_87 rfl rfl (fun _ => ?_) (fun h => absurd (by decide) h)
    refine wk_iload_n (i := 2) (q := 105) dX12_token_104 rfl rfl rfl ?_
    refine wk_if_eq (t := 135) (q := 108) dX12_token_105 rfl rfl (fun h => absurd h (by decide)) (fun _ => ?_)
    refine wk_aload_n (i := 0) (q := 109) dX12_token_108 rfl rfl rfl ?_
    refine wk_aload_n (i := 0) (q := 110) dX12_token_109 rfl rfl rfl ?_
    refine wk_gM (q := 113) fgX12_205 dX12_token_110 rfl rfl ?_
    rw [upd_s]
    refine wk_V1r (d' := 1) (q := 116) lkX12_211 dX12_token_113 rfl rfl rfl rfl rfl rfl rfl ?_
    refine ck_X12_byteAt (n := i) (hS1 _) ht (by omega) (fun hx => ?_) (fun hx => ?_)
    · skip
      refine wk_S1r (d' := 2) (q := 119) lkX12_217 dX12_token_116 rfl rfl rfl rfl ?_
      refine ck_X12_isDigit (fun hd => ?_) (fun hd => ?_)
      · skip
        rw [runP_t ⟨hx, hd⟩] at k
        refine wk_if_eq (t := 135) (q := 122) dX12_token_119 rfl rfl (fun h => absurd h (by decide)) (fun _ => ?_)
        refine wk_aload_n (i := 0) (q := 123) dX12_token_122 rfl rfl rfl ?_
        refine wk_dup (q := 124) dX12_token_123 rfl rfl ?_
        refine wk_gM (q := 127) fgX12_205 dX12_token_124 rfl rfl ?_
        refine wk_iconst (v := 1) (q := 128) dX12_token_127 rfl rfl ?_
        refine wk_iadd (q := 129) dX12_token_128 rfl ?_
        rw [upd_s, nI_1]
        refine wk_pM (q := 132) fpX12_205 dX12_token_129 rfl rfl rfl rfl ?_
        rw [upd_upd]
        refine wk_goto (t := 86) dX12_token_132 rfl ?_
        exact ih (i + 1) (by omega) (by omega) k
      · skip
        first | rw [runP_f (fun h => hd h.2)] at k | rw [runP_f (fun h => hx h.1)] at k
        refine wk_if_eq (t := 135) (q := 122) dX12_token_119 rfl rfl (fun _ => ?_) (fun h => absurd (by decide) h)
        refine wk_return dX12_token_135 rfl ?_
        exact k
    · skip
      refine wk_S1r (d' := 2) (q := 119) lkX12_217 dX12_token_116 rfl rfl rfl rfl ?_
      refine ck_X12_isDigit (fun hd => ?_) (fun hd => ?_)
      · skip
        exact absurd hd (by decide)
      · skip
        first | rw [runP_f (fun h => hd h.2)] at k | rw [runP_f (fun h => hx h.1)] at k
        refine wk_if_eq (t := 135) (q := 122) dX12_token_119 rfl rfl (fun _ => ?_) (fun h => absurd (by decide) h)
        refine wk_return dX12_token_135 rfl ?_
        exact k
theorem ck_X12_token {e : Nat} (ht : tn ≤ 120) (he : e ≤ tn) (hS : S 7 = nI tn) (hS9 : S 9 = nI e) (hQ : Q .null (wr (wr m 72 (upd (upd S 8 (nI (tkS (m 78) tn e))) 9 (nI (tkE (m 78) tn e)))) 73 A) L) : CK E 3 MX12_token [.ref (ev_z E + 72)] (wr (wr m 72 S) 73 A) L Q := by
  have hj := tkS_ub (T := m 78) he
  have hS1 : ∀ x, upd S 8 x 7 = nI tn := fun x => (upd_n (by decide)).trans hS
  refine CK.of rfl rfl (lv := [(0, _)]) rfl ?_
  refine wk_aload_n (i := 0) (q := 1) dX12_token_0 rfl rfl rfl ?_
  refine wk_aload_n (i := 0) (q := 2) dX12_token_1 rfl rfl rfl ?_
  refine wk_gM (q := 5) fgX12_205 dX12_token_2 rfl rfl ?_
  refine wk_pM (q := 8) fpX12_208 dX12_token_5 rfl rfl rfl rfl ?_
  rw [hS9]
  refine lp1_X12_token ht hS 200 e (by omega) he ?_
  rw [show runP spB (m 78) tn 200 e = tkS (m 78) tn e from rfl]
  by_cases hlt : tkS (m 78) tn e < tn
  · by_cases hL : ltB (m 78 (tkS (m 78) tn e)) = true
    · have eE : tkE (m 78) tn e = runP ltB (m 78) tn 200 (tkS (m 78) tn e + 1) := by
        have h1 : tkE (m 78) tn e = runP ltB (m 78) tn 200 (tkS (m 78) tn e) := (if_pos hlt).trans (if_pos hL)
        rw [h1, runP_t ⟨hlt, hL⟩]
        exact runP_fu _ _ _ (by omega) (by omega)
      refine wk_aload_n (i := 0) (q := 35) dX12_token_34 rfl rfl rfl ?_
      refine wk_aload_n (i := 0) (q := 36) dX12_token_35 rfl rfl rfl ?_
      refine wk_gM (q := 39) fgX12_208 dX12_token_36 rfl rfl ?_
      rw [upd_s]
      refine wk_V1r (d' := 1) (q := 42) lkX12_211 dX12_token_39 rfl rfl rfl rfl rfl rfl rfl ?_
      refine ck_X12_byteAt (n := tkS (m 78) tn e) (hS1 _) ht (by omega) (fun hx => ?_) (fun hx => ?_)
      · skip
        refine wk_S1r (d' := 2) (q := 45) lkX12_214 dX12_token_42 rfl rfl rfl rfl ?_
        refine ck_X12_isLetter (fun hl => ?_) (fun hl => ?_)
        · skip
          refine wk_istore_n (i := 1) (q := 46) (lv' := [_, _]) dX12_token_45 rfl rfl rfl rfl ?_
          refine wk_aload_n (i := 0) (q := 47) dX12_token_46 rfl rfl rfl ?_
          refine wk_aload_n (i := 0) (q := 48) dX12_token_47 rfl rfl rfl ?_
          refine wk_gM (q := 51) fgX12_208 dX12_token_48 rfl rfl ?_
          rw [upd_s]
          refine wk_V1r (d' := 1) (q := 54) lkX12_211 dX12_token_51 rfl rfl rfl rfl rfl rfl rfl ?_
          refine ck_X12_byteAt (n := tkS (m 78) tn e) (hS1 _) ht (by omega) (fun hy => ?_) (fun hy => ?_)
          · skip
            refine wk_S1r (d' := 2) (q := 57) lkX12_217 dX12_token_54 rfl rfl rfl rfl ?_
            refine ck_X12_isDigit (fun hd => ?_) (fun hd => ?_)
            · skip
              exact absurd hd (lt_dg hL)
            · skip
              refine wk_istore_n (i := 2) (q := 58) (lv' := [_, _, _]) dX12_token_57 rfl rfl rfl rfl ?_
              refine wk_aload_n (i := 0) (q := 59) dX12_token_58 rfl rfl rfl ?_
              refine wk_aload_n (i := 0) (q := 60) dX12_token_59 rfl rfl rfl ?_
              refine wk_gM (q := 63) fgX12_208 dX12_token_60 rfl rfl ?_
              refine wk_aload_n (i := 0) (q := 64) dX12_token_63 rfl rfl rfl ?_
              refine wk_gM (q := 67) fgX12_193 dX12_token_64 rfl rfl ?_
              rw [upd_s, hS1]
              refine wk_icmp_ge (t := 79) (q := 70) dX12_token_67 rfl rfl (fun h => absurd h (nI_ge hlt (by omega))) (fun c67 => ?_)
              refine wk_aload_n (i := 0) (q := 71) dX12_token_70 rfl rfl rfl ?_
              refine wk_gM (q := 74) fgX12_208 dX12_token_71 rfl rfl ?_
              rw [upd_s]
              refine wk_iconst (v := 1) (q := 75) dX12_token_74 rfl rfl ?_
              refine wk_iadd (q := 76) dX12_token_75 rfl ?_
              refine wk_goto (t := 83) dX12_token_76 rfl ?_
              rw [nI_1]
              refine wk_pM (q := 86) fpX12_205 dX12_token_83 rfl rfl rfl rfl ?_
              refine lp2_X12_token (S := upd S 8 (nI (tkS (m 78) tn e))) ht (hS1 _) 200 (tkS (m 78) tn e + 1) (by omega) (by omega) ?_
              rw [← eE]
              exact hQ
          · skip
            exact absurd hlt hy
        · skip
          exact absurd hL hl
      · skip
        exact absurd hlt hx
    · by_cases hD : dgB (m 78 (tkS (m 78) tn e)) = true
      · have eE : tkE (m 78) tn e = runP dgB (m 78) tn 200 (tkS (m 78) tn e + 1) := by
          have h1 : tkE (m 78) tn e = runP dgB (m 78) tn 200 (tkS (m 78) tn e) := (if_pos hlt).trans ((if_neg hL).trans (if_pos hD))
          rw [h1, runP_t ⟨hlt, hD⟩]
          exact runP_fu _ _ _ (by omega) (by omega)
        refine wk_aload_n (i := 0) (q := 35) dX12_token_34 rfl rfl rfl ?_
        refine wk_aload_n (i := 0) (q := 36) dX12_token_35 rfl rfl rfl ?_
        refine wk_gM (q := 39) fgX12_208 dX12_token_36 rfl rfl ?_
        rw [upd_s]
        refine wk_V1r (d' := 1) (q := 42) lkX12_211 dX12_token_39 rfl rfl rfl rfl rfl rfl rfl ?_
        refine ck_X12_byteAt (n := tkS (m 78) tn e) (hS1 _) ht (by omega) (fun hx => ?_) (fun hx => ?_)
        · skip
          refine wk_S1r (d' := 2) (q := 45) lkX12_214 dX12_token_42 rfl rfl rfl rfl ?_
          refine ck_X12_isLetter (fun hl => ?_) (fun hl => ?_)
          · skip
            exact absurd hl hL
          · skip
            refine wk_istore_n (i := 1) (q := 46) (lv' := [_, _]) dX12_token_45 rfl rfl rfl rfl ?_
            refine wk_aload_n (i := 0) (q := 47) dX12_token_46 rfl rfl rfl ?_
            refine wk_aload_n (i := 0) (q := 48) dX12_token_47 rfl rfl rfl ?_
            refine wk_gM (q := 51) fgX12_208 dX12_token_48 rfl rfl ?_
            rw [upd_s]
            refine wk_V1r (d' := 1) (q := 54) lkX12_211 dX12_token_51 rfl rfl rfl rfl rfl rfl rfl ?_
            refine ck_X12_byteAt (n := tkS (m 78) tn e) (hS1 _) ht (by omega) (fun hy => ?_) (fun hy => ?_)
            · skip
              refine wk_S1r (d' := 2) (q := 57) lkX12_217 dX12_token_54 rfl rfl rfl rfl ?_
              refine ck_X12_isDigit (fun hd => ?_) (fun hd => ?_)
              · skip
                refine wk_istore_n (i := 2) (q := 58) (lv' := [_, _, _]) dX12_token_57 rfl rfl rfl rfl ?_
                refine wk_aload_n (i := 0) (q := 59) dX12_token_58 rfl rfl rfl ?_
                refine wk_aload_n (i := 0) (q := 60) dX12_token_59 rfl rfl rfl ?_
                refine wk_gM (q := 63) fgX12_208 dX12_token_60 rfl rfl ?_
                refine wk_aload_n (i := 0) (q := 64) dX12_token_63 rfl rfl rfl ?_
                refine wk_gM (q := 67) fgX12_193 dX12_token_64 rfl rfl ?_
                rw [upd_s, hS1]
                refine wk_icmp_ge (t := 79) (q := 70) dX12_token_67 rfl rfl (fun h => absurd h (nI_ge hlt (by omega))) (fun c67 => ?_)
                refine wk_aload_n (i := 0) (q := 71) dX12_token_70 rfl rfl rfl ?_
                refine wk_gM (q := 74) fgX12_208 dX12_token_71 rfl rfl ?_
                rw [upd_s]
                refine wk_iconst (v := 1) (q := 75) dX12_token_74 rfl rfl ?_
                refine wk_iadd (q := 76) dX12_token_75 rfl ?_
                refine wk_goto (t := 83) dX12_token_76 rfl ?_
                rw [nI_1]
                refine wk_pM (q := 86) fpX12_205 dX12_token_83 rfl rfl rfl rfl ?_
                refine lp3_X12_token (S := upd S 8 (nI (tkS (m 78) tn e))) ht (hS1 _) 200 (tkS (m 78) tn e + 1) (by omega) (by omega) ?_
                rw [← eE]
                exact hQ
              · skip
                exact absurd hD hd
            · skip
              exact absurd hlt hy
        · skip
          exact absurd hlt hx
      · have eE : tkE (m 78) tn e = tkS (m 78) tn e + 1 := (if_pos hlt).trans ((if_neg hL).trans (if_neg hD))
        rw [eE] at hQ
        refine wk_aload_n (i := 0) (q := 35) dX12_token_34 rfl rfl rfl ?_
        refine wk_aload_n (i := 0) (q := 36) dX12_token_35 rfl rfl rfl ?_
        refine wk_gM (q := 39) fgX12_208 dX12_token_36 rfl rfl ?_
        rw [upd_s]
        refine wk_V1r (d' := 1) (q := 42) lkX12_211 dX12_token_39 rfl rfl rfl rfl rfl rfl rfl ?_
        refine ck_X12_byteAt (n := tkS (m 78) tn e) (hS1 _) ht (by omega) (fun hx => ?_) (fun hx => ?_)
        · skip
          refine wk_S1r (d' := 2) (q := 45) lkX12_214 dX12_token_42 rfl rfl rfl rfl ?_
          refine ck_X12_isLetter (fun hl => ?_) (fun hl => ?_)
          · skip
            exact absurd hl hL
          · skip
            refine wk_istore_n (i := 1) (q := 46) (lv' := [_, _]) dX12_token_45 rfl rfl rfl rfl ?_
            refine wk_aload_n (i := 0) (q := 47) dX12_token_46 rfl rfl rfl ?_
            refine wk_aload_n (i := 0) (q := 48) dX12_token_47 rfl rfl rfl ?_
            refine wk_gM (q := 51) fgX12_208 dX12_token_48 rfl rfl ?_
            rw [upd_s]
            refine wk_V1r (d' := 1) (q := 54) lkX12_211 dX12_token_51 rfl rfl rfl rfl rfl rfl rfl ?_
            refine ck_X12_byteAt (n := tkS (m 78) tn e) (hS1 _) ht (by omega) (fun hy => ?_) (fun hy => ?_)
            · skip
              refine wk_S1r (d' := 2) (q := 57) lkX12_217 dX12_token_54 rfl rfl rfl rfl ?_
              refine ck_X12_isDigit (fun hd => ?_) (fun hd => ?_)
              · skip
                exact absurd hd hD
              · skip
                refine wk_istore_n (i := 2) (q := 58) (lv' := [_, _, _]) dX12_token_57 rfl rfl rfl rfl ?_
                refine wk_aload_n (i := 0) (q := 59) dX12_token_58 rfl rfl rfl ?_
                refine wk_aload_n (i := 0) (q := 60) dX12_token_59 rfl rfl rfl ?_
                refine wk_gM (q := 63) fgX12_208 dX12_token_60 rfl rfl ?_
                refine wk_aload_n (i := 0) (q := 64) dX12_token_63 rfl rfl rfl ?_
                refine wk_gM (q := 67) fgX12_193 dX12_token_64 rfl rfl ?_
                rw [upd_s, hS1]
                refine wk_icmp_ge (t := 79) (q := 70) dX12_token_67 rfl rfl (fun h => absurd h (nI_ge hlt (by omega))) (fun c67 => ?_)
                refine wk_aload_n (i := 0) (q := 71) dX12_token_70 rfl rfl rfl ?_
                refine wk_gM (q := 74) fgX12_208 dX12_token_71 rfl rfl ?_
                rw [upd_s]
                refine wk_iconst (v := 1) (q := 75) dX12_token_74 rfl rfl ?_
                refine wk_iadd (q := 76) dX12_token_75 rfl ?_
                refine wk_goto (t := 83) dX12_token_76 rfl ?_
                rw [nI_1]
                refine wk_pM (q := 86) fpX12_205 dX12_token_83 rfl rfl rfl rfl ?_
                refine wk_iload_n (i := 1) (q := 87) dX12_token_86 rfl rfl rfl ?_
                refine wk_if_eq (t := 104) (q := 90) dX12_token_87 rfl rfl (fun _ => ?_) (fun h => absurd (by decide) h)
                refine wk_iload_n (i := 2) (q := 105) dX12_token_104 rfl rfl rfl ?_
                refine wk_if_eq (t := 135) (q := 108) dX12_token_105 rfl rfl (fun _ => ?_) (fun h => absurd (by decide) h)
                refine wk_return dX12_token_135 rfl ?_
                exact hQ
            · skip
              exact absurd hlt hy
        · skip
          exact absurd hlt hx
  · have eE : tkE (m 78) tn e = tkS (m 78) tn e := if_neg hlt
    rw [eE] at hQ
    refine wk_aload_n (i := 0) (q := 35) dX12_token_34 rfl rfl rfl ?_
    refine wk_aload_n (i := 0) (q := 36) dX12_token_35 rfl rfl rfl ?_
    refine wk_gM (q := 39) fgX12_208 dX12_token_36 rfl rfl ?_
    rw [upd_s]
    refine wk_V1r (d' := 1) (q := 42) lkX12_211 dX12_token_39 rfl rfl rfl rfl rfl rfl rfl ?_
    refine ck_X12_byteAt (n := tkS (m 78) tn e) (hS1 _) ht (by omega) (fun hx => ?_) (fun hx => ?_)
    · skip
      exact absurd hx hlt
    · skip
      refine wk_S1r (d' := 2) (q := 45) lkX12_214 dX12_token_42 rfl rfl rfl rfl ?_
      refine ck_X12_isLetter (fun hl => ?_) (fun hl => ?_)
      · skip
        exact absurd hl (by decide)
      · skip
        refine wk_istore_n (i := 1) (q := 46) (lv' := [_, _]) dX12_token_45 rfl rfl rfl rfl ?_
        refine wk_aload_n (i := 0) (q := 47) dX12_token_46 rfl rfl rfl ?_
        refine wk_aload_n (i := 0) (q := 48) dX12_token_47 rfl rfl rfl ?_
        refine wk_gM (q := 51) fgX12_208 dX12_token_48 rfl rfl ?_
        rw [upd_s]
        refine wk_V1r (d' := 1) (q := 54) lkX12_211 dX12_token_51 rfl rfl rfl rfl rfl rfl rfl ?_
        refine ck_X12_byteAt (n := tkS (m 78) tn e) (hS1 _) ht (by omega) (fun hy => ?_) (fun hy => ?_)
        · skip
          exact absurd hy hlt
        · skip
          refine wk_S1r (d' := 2) (q := 57) lkX12_217 dX12_token_54 rfl rfl rfl rfl ?_
          refine ck_X12_isDigit (fun hd => ?_) (fun hd => ?_)
          · skip
            exact absurd hd (by decide)
          · skip
            refine wk_istore_n (i := 2) (q := 58) (lv' := [_, _, _]) dX12_token_57 rfl rfl rfl rfl ?_
            refine wk_aload_n (i := 0) (q := 59) dX12_token_58 rfl rfl rfl ?_
            refine wk_aload_n (i := 0) (q := 60) dX12_token_59 rfl rfl rfl ?_
            refine wk_gM (q := 63) fgX12_208 dX12_token_60 rfl rfl ?_
            refine wk_aload_n (i := 0) (q := 64) dX12_token_63 rfl rfl rfl ?_
            refine wk_gM (q := 67) fgX12_193 dX12_token_64 rfl rfl ?_
            rw [upd_s, hS1]
            refine wk_icmp_ge (t := 79) (q := 70) dX12_token_67 rfl rfl (fun c67 => ?_) (fun h => absurd (nI_le (by omega) (by omega)) h)
            refine wk_aload_n (i := 0) (q := 80) dX12_token_79 rfl rfl rfl ?_
            refine wk_gM (q := 83) fgX12_208 dX12_token_80 rfl rfl ?_
            rw [upd_s]
            refine wk_pM (q := 86) fpX12_205 dX12_token_83 rfl rfl rfl rfl ?_
            refine wk_iload_n (i := 1) (q := 87) dX12_token_86 rfl rfl rfl ?_
            refine wk_if_eq (t := 104) (q := 90) dX12_token_87 rfl rfl (fun _ => ?_) (fun h => absurd (by decide) h)
            refine wk_iload_n (i := 2) (q := 105) dX12_token_104 rfl rfl rfl ?_
            refine wk_if_eq (t := 135) (q := 108) dX12_token_105 rfl rfl (fun _ => ?_) (fun h => absurd (by decide) h)
            refine wk_return dX12_token_135 rfl ?_
            exact hQ
end MT
