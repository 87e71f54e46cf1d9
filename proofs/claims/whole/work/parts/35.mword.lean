/-! the reference's words and numbers -/
def dl (T : Nat → Int32) (j k : Nat) : Nat := (T (j + k)).toInt.toNat - 96
def mhN (T : Nat → Int32) (j : Nat) : Nat → Nat
  | 0 => 0
  | n + 1 => if 36028797018963967 < mhN T j n then mhN T j n else 32 * mhN T j n + dl T j n
theorem lt_dl {T : Nat → Int32} {j k : Nat} (h : ltB (T (j + k)) = true) : (T (j + k)).toInt = 96 + dl T j k ∧ 1 ≤ dl T j k ∧ dl T j k ≤ 26 := by
  unfold ltB at h
  rw [decide_eq_true_iff, fa_le, fa_le, show (97 : Int32).toInt = 97 by decide, show (122 : Int32).toInt = 122 by decide] at h
  unfold dl
  omega
theorem lN_ti {n : Nat} (h : n < 2 ^ 62) : (lN n).toInt = n := by
  unfold lN
  exact Int64.toInt_ofNat_of_lt (by omega)
theorem mhN_b {T : Nat → Int32} {j : Nat} : ∀ n, (∀ k, k < n → ltB (T (j + k)) = true) → mhN T j n ≤ 1152921504606846976
  | 0, _ => Nat.zero_le _
  | n + 1, h => by
    have ih := mhN_b (T := T) (j := j) n (fun k hk => h k (by omega))
    have hd := lt_dl (h n (by omega))
    show (if 36028797018963967 < mhN T j n then mhN T j n else 32 * mhN T j n + dl T j n) ≤ _
    split
    · exact ih
    · omega
theorem mhs_N {T : Nat → Int32} {j : Nat} : ∀ n, (∀ k, k < n → ltB (T (j + k)) = true) → mhs T j n = lN (mhN T j n)
  | 0, _ => rfl
  | n + 1, h => by
    have ih := mhs_N (T := T) (j := j) n (fun k hk => h k (by omega))
    have hb := mhN_b (T := T) (j := j) n (fun k hk => h k (by omega))
    have hd := lt_dl (h n (by omega))
    have e96 : (96 : Int32).toInt = 96 := by decide
    have e1 : (T (j + n) - 96).toInt64 = lN (dl T j n) := by
      have : T (j + n) - 96 = nI (dl T j n) := by
        rw [fa_eq, sb_i (by omega) (by omega), hd.1, e96, nI_toInt (by omega)]
        omega
      rw [this, nI_l (by omega)]
    show (if 36028797018963967 < mhs T j n then mhs T j n else 32 * mhs T j n + (T (j + n) - 96).toInt64) = lN (if 36028797018963967 < mhN T j n then mhN T j n else 32 * mhN T j n + dl T j n)
    rw [ih, e1]
    have hi : (36028797018963967 : Int64) < lN (mhN T j n) ↔ 36028797018963967 < mhN T j n := by
      rw [fa_lt64, lN_ti (by omega), show (36028797018963967 : Int64).toInt = 36028797018963967 by decide]
      omega
    by_cases hc : 36028797018963967 < mhN T j n
    · rw [if_pos (hi.mpr hc), if_pos hc]
    · rw [if_neg (fun q => hc (hi.mp q)), if_neg hc, show (32 : Int64) = lN 32 from rfl, lN_mul, lN_add]
theorem mhN_pos {T : Nat → Int32} {j : Nat} : ∀ n, 0 < n → (∀ k, k < n → ltB (T (j + k)) = true) → 0 < mhN T j n
  | n + 1, _, h => by
    have hd := lt_dl (h n (by omega))
    show 0 < (if 36028797018963967 < mhN T j n then mhN T j n else 32 * mhN T j n + dl T j n)
    split <;> omega
/-- the number of a word's first letters -/
def cdP (i : Nat) : Nat → Nat
  | 0 => 0
  | k + 1 => 32 * cdP i k + ((chK i k).toInt.toNat - 96)
theorem cdP_b : ∀ i, i < 13 → ∀ k, k ≤ lnK i → cdP i k < 34359738368 := by decide +kernel
theorem ch_lt : ∀ i, i < 13 → ∀ k, k < lnK i → 97 ≤ (chK i k).toInt ∧ (chK i k).toInt ≤ 122 := by decide +kernel
theorem mh_iff {T : Nat → Int32} {j i : Nat} (hi : i < 13) : ∀ k, k ≤ lnK i → ∀ n, (∀ x, x < n → ltB (T (j + x)) = true) → (mhN T j n = cdP i k ↔ n = k ∧ ∀ x, x < k → T (j + x) = chK i x)
  | 0, _, n, h => by
    constructor
    · intro e
      rcases Nat.eq_zero_or_pos n with h0 | h0
      · exact ⟨h0, fun x hx => absurd hx (by omega)⟩
      · have := mhN_pos n h0 h
        rw [e] at this
        exact absurd this (by show ¬ 0 < 0; omega)
    · intro e
      rw [e.1]
      rfl
  | k + 1, hk, n, h => by
    have hb := cdP_b i hi (k + 1) hk
    have hc := ch_lt i hi k (by omega)
    have hs : cdP i (k + 1) = 32 * cdP i k + ((chK i k).toInt.toNat - 96) := rfl
    constructor
    · intro e
      rcases Nat.eq_zero_or_pos n with h0 | h0
      · subst h0
        have e : 0 = cdP i (k + 1) := e
        omega
      · obtain ⟨n, rfl⟩ : ∃ n', n = n' + 1 := ⟨n - 1, by omega⟩
        have hd := lt_dl (h n (by omega))
        have e : (if 36028797018963967 < mhN T j n then mhN T j n else 32 * mhN T j n + dl T j n) = cdP i (k + 1) := e
        have h2 : ¬ 36028797018963967 < mhN T j n := fun q => by
          rw [if_pos q] at e
          omega
        rw [if_neg h2] at e
        have e1 : mhN T j n = cdP i k := by omega
        have e2 : dl T j n = (chK i k).toInt.toNat - 96 := by omega
        obtain ⟨rfl, hx⟩ := (mh_iff hi k (by omega) n (fun x hx => h x (by omega))).mp e1
        refine ⟨rfl, fun x hx2 => ?_⟩
        rcases Nat.lt_or_ge x n with h3 | h3
        · exact hx x h3
        · have e3 : x = n := by omega
          subst e3
          rw [fa_eq]
          omega
    · intro e
      obtain ⟨rfl, hx⟩ := e
      have hd := lt_dl (h k (by omega))
      have e1 := (mh_iff hi k (by omega) k (fun x hx => h x (by omega))).mpr ⟨rfl, fun x hx2 => hx x (by omega)⟩
      have hb2 := cdP_b i hi k (by omega)
      have e2 : T (j + k) = chK i k := hx k (by omega)
      rw [fa_eq] at e2
      show (if 36028797018963967 < mhN T j k then mhN T j k else 32 * mhN T j k + dl T j k) = cdP i (k + 1)
      rw [if_neg (by omega), e1, hs]
      omega
theorem tk_lt {T : Nat → Int32} {tn p : Nat} (h : tkT T tn p = 1) : ∀ x, x < tkE T tn p - tkS T tn p → ltB (T (tkS T tn p + x)) = true := by
  obtain ⟨h1, h2⟩ := tkT_1.mp h
  have e : tkE T tn p = runP ltB T tn 200 (tkS T tn p) := (if_pos h1).trans (if_pos h2)
  intro x hx
  rw [e] at hx
  exact (runP_in (P := ltB) (T := T) (tn := tn) 200 (tkS T tn p) (tkS T tn p + x) (by omega) (by omega)).2
theorem wd_iff {T : Nat → Int32} {tn p i : Nat} (hi : i < 13) : wdH T tn p = lN (cdP i (lnK i)) ↔ isW T tn p i := by
  have hb := cdP_b i hi (lnK i) (Nat.le_refl _)
  unfold wdH isW
  by_cases h : tkT T tn p = 1
  · rw [if_pos h]
    have hl := tk_lt h
    have hb2 := mhN_b (j := tkS T tn p) _ hl
    rw [mhs_N _ hl]
    have hx := mh_iff (T := T) (j := tkS T tn p) hi (lnK i) (Nat.le_refl _) _ hl
    constructor
    · intro e
      have e2 : mhN T (tkS T tn p) (tkE T tn p - tkS T tn p) = cdP i (lnK i) := by
        have := congrArg Int64.toInt e
        rw [lN_ti (by omega), lN_ti (by omega)] at this
        omega
      exact ⟨h, hx.mp e2⟩
    · intro e
      rw [hx.mpr e.2]
  · rw [if_neg h]
    constructor
    · intro e
      exfalso
      have := congrArg Int64.toInt e
      rw [lN_ti (by omega), show (0 : Int64).toInt = 0 by decide] at this
      have hp : 0 < cdP i (lnK i) := by
        have : ∀ i, i < 13 → 0 < cdP i (lnK i) := by decide +kernel
        exact this i hi
      omega
    · intro e
      exact absurd e.1 h
theorem cd_0 : lN (cdP 0 (lnK 0)) = 7569053140 := by decide +kernel
theorem cd_1 : lN (cdP 1 (lnK 1)) = 769516 := by decide +kernel
theorem cd_2 : lN (cdP 2 (lnK 2)) = 117068270 := by decide +kernel
theorem cd_3 : lN (cdP 3 (lnK 3)) = 632203 := by decide +kernel
theorem cd_4 : lN (cdP 4 (lnK 4)) = 358006962 := by decide +kernel
theorem cd_5 : lN (cdP 5 (lnK 5)) = 638059 := by decide +kernel
theorem cd_6 : lN (cdP 6 (lnK 6)) = 632645 := by decide +kernel
theorem cd_7 : lN (cdP 7 (lnK 7)) = 21242987 := by decide +kernel
theorem cd_8 : lN (cdP 8 (lnK 8)) = 542723566 := by decide +kernel
theorem cd_9 : lN (cdP 9 (lnK 9)) = 4470674611 := by decide +kernel
theorem cd_10 : lN (cdP 10 (lnK 10)) = 755304 := by decide +kernel
theorem cd_11 : lN (cdP 11 (lnK 11)) = 687576467 := by decide +kernel
theorem cd_12 : lN (cdP 12 (lnK 12)) = 474565 := by decide +kernel
/-- the reference stands at the token behind p, nothing wrong; or something is wrong there -/
def MS (S : Nat → Int32) (tn : Nat) (T : Nat → Int32) (p : Nat) : Prop := S 7 = nI tn ∧ S 8 = nI (tkS T tn p) ∧ S 9 = nI (tkE T tn p) ∧ S 11 = 0
def WS (S : Nat → Int32) (tn : Nat) (T : Nat → Int32) (p : Nat) : Prop := S 7 = nI tn ∧ S 8 = nI (tkS T tn p) ∧ S 9 = nI (tkE T tn p) ∧ S 11 = 1
section MW
variable {E : EVt} {m : Mm} {L : Ml} {Q : Value → Mm → Ml → Prop} {S A : Nat → Int32} {tn p : Nat}
theorem ck_must1 (ht : tn ≤ 120) (hp : p ≤ tn) (hM : MS S tn (m 78) p) (hQ : ∀ S', MS S' tn (m 78) (tkE (m 78) tn p) → S' 5 = S 5 → S' 10 = S 10 → Q .null (wr (wr m 72 S') 73 A) L) : CK E 4 MX12_must [.ref (ev_z E + 72), .int 1] (wr (wr m 72 S) 73 A) L Q := by
  obtain ⟨h7, h8, h9, h11⟩ := hM
  have hs : upd S 11 0 = S := by rw [← h11]; exact upd_same
  have he := tkE_ub (T := m 78) hp
  refine CK.of rfl rfl (lv := [(0, _), (1, _)]) rfl ?_
  refine wk_aload_n (i := 0) (q := 1) dX12_must_0 rfl rfl rfl ?_
  refine wk_aload_n (i := 0) (q := 2) dX12_must_1 rfl rfl rfl ?_
  refine wk_gM (q := 5) fgX12_220 dX12_must_2 rfl rfl ?_
  rw [h11]
  refine wk_if_ne (t := 12) (q := 8) dX12_must_5 rfl rfl (fun h => absurd (by decide) h) (fun _ => ?_)
  refine wk_iload_n (i := 1) (q := 9) dX12_must_8 rfl rfl rfl ?_
  refine wk_if_ne (t := 16) (q := 12) dX12_must_9 rfl rfl (fun _ => ?_) (fun h => absurd h (by decide))
  refine wk_iconst (v := 0) (q := 17) dX12_must_16 rfl rfl ?_
  refine wk_pM (q := 20) fpX12_220 dX12_must_17 rfl rfl rfl rfl ?_
  rw [hs]
  refine wk_aload_n (i := 0) (q := 21) dX12_must_20 rfl rfl rfl ?_
  refine wk_gM (q := 24) fgX12_220 dX12_must_21 rfl rfl ?_
  rw [h11]
  refine wk_if_ne (t := 31) (q := 27) dX12_must_24 rfl rfl (fun h => absurd (by decide) h) (fun _ => ?_)
  refine wk_aload_n (i := 0) (q := 28) dX12_must_27 rfl rfl rfl ?_
  refine wk_V0v (d' := 3) (q := 31) lkX12_224 dX12_must_28 rfl rfl rfl rfl rfl rfl rfl ?_
  refine ck_X12_token ht he h7 h9 ?_
  refine wk_return dX12_must_31 rfl ?_
  exact hQ _ ⟨(upd_n (by decide)).trans ((upd_n (by decide)).trans h7), (upd_n (by decide)).trans upd_s, upd_s, (upd_n (by decide)).trans ((upd_n (by decide)).trans h11)⟩ ((upd_n (by decide)).trans (upd_n (by decide))) ((upd_n (by decide)).trans (upd_n (by decide)))
theorem ck_must0 (hM : MS S tn (m 78) p) (hQ : ∀ S', WS S' tn (m 78) p → S' 5 = S 5 → Q .null (wr (wr m 72 S') 73 A) L) : CK E 4 MX12_must [.ref (ev_z E + 72), .int 0] (wr (wr m 72 S) 73 A) L Q := by
  obtain ⟨h7, h8, h9, h11⟩ := hM
  refine CK.of rfl rfl (lv := [(0, _), (1, _)]) rfl ?_
  refine wk_aload_n (i := 0) (q := 1) dX12_must_0 rfl rfl rfl ?_
  refine wk_aload_n (i := 0) (q := 2) dX12_must_1 rfl rfl rfl ?_
  refine wk_gM (q := 5) fgX12_220 dX12_must_2 rfl rfl ?_
  rw [h11]
  refine wk_if_ne (t := 12) (q := 8) dX12_must_5 rfl rfl (fun h => absurd (by decide) h) (fun _ => ?_)
  refine wk_iload_n (i := 1) (q := 9) dX12_must_8 rfl rfl rfl ?_
  refine wk_if_ne (t := 16) (q := 12) dX12_must_9 rfl rfl (fun h => absurd (by decide) h) (fun _ => ?_)
  refine wk_iconst (v := 1) (q := 13) dX12_must_12 rfl rfl ?_
  refine wk_goto (t := 17) dX12_must_13 rfl ?_
  refine wk_pM (q := 20) fpX12_220 dX12_must_17 rfl rfl rfl rfl ?_
  refine wk_aload_n (i := 0) (q := 21) dX12_must_20 rfl rfl rfl ?_
  refine wk_gM (q := 24) fgX12_220 dX12_must_21 rfl rfl ?_
  rw [upd_s]
  refine wk_if_ne (t := 31) (q := 27) dX12_must_24 rfl rfl (fun _ => ?_) (fun h => absurd h (by decide))
  refine wk_return dX12_must_31 rfl ?_
  exact hQ _ ⟨(upd_n (by decide)).trans h7, (upd_n (by decide)).trans h8, (upd_n (by decide)).trans h9, upd_s⟩ (upd_n (by decide))
theorem lp_X12_word (ht : tn ≤ 120) (hp : p ≤ tn) (hM : MS S tn (m 78) p) (hQ : Q (.long (wdH (m 78) tn p)) (wr (wr m 72 S) 73 A) L) : ∀ (r k : Nat), k + r = tkE (m 78) tn p - tkS (m 78) tn p → WK E 3 MX12_word 7 [(0, .ref (ev_z E + 72)), (1, .long (mhs (m 78) (tkS (m 78) tn p) k)), (3, .int (nI (tkS (m 78) tn p + k)))] [] (wr (wr m 72 S) 73 A) L Q := by
  obtain ⟨h7, h8, h9, h11⟩ := hM
  have he := tkE_ub (T := m 78) hp
  have hse := tkE_le (T := m 78) (tn := tn) (e := p)
  intro r
  induction r with
  | zero =>
    intro k hk
    have ek : k = tkE (m 78) tn p - tkS (m 78) tn p := by omega
    refine wk_iload_n (i := 3) (q := 8) dX12_word_7 rfl rfl rfl ?_
    refine wk_aload_n (i := 0) (q := 9) dX12_word_8 rfl rfl rfl ?_
    refine wk_gM (q := 12) fgX12_205 dX12_word_9 rfl rfl ?_
    rw [h9]
    refine wk_icmp_ge (t := 50) (q := 15) dX12_word_12 rfl rfl (fun c12 => ?_) (fun h => absurd (nI_le (by omega) (by omega)) h)
    refine wk_aload_n (i := 0) (q := 51) dX12_word_50 rfl rfl rfl ?_
    refine wk_gM (q := 54) fgX12_220 dX12_word_51 rfl rfl ?_
    rw [h11]
    refine wk_if_ne (t := 71) (q := 57) dX12_word_54 rfl rfl (fun h => absurd (by decide) h) (fun _ => ?_)
    refine wk_aload_n (i := 0) (q := 58) dX12_word_57 rfl rfl rfl ?_
    refine wk_aload_n (i := 0) (q := 59) dX12_word_58 rfl rfl rfl ?_
    refine wk_gM (q := 62) fgX12_208 dX12_word_59 rfl rfl ?_
    rw [h8]
    refine wk_V1r (d' := 1) (q := 65) lkX12_211 dX12_word_62 rfl rfl rfl rfl rfl rfl rfl ?_
    refine ck_X12_byteAt (n := tkS (m 78) tn p) h7 ht (by omega) (fun hx => ?_) (fun hx => ?_)
    · skip
      refine wk_S1r (d' := 2) (q := 68) lkX12_214 dX12_word_65 rfl rfl rfl rfl ?_
      refine ck_X12_isLetter (fun hl => ?_) (fun hl => ?_)
      · skip
        refine wk_if_ne (t := 75) (q := 71) dX12_word_68 rfl rfl (fun _ => ?_) (fun h => absurd h (by decide))
        refine wk_lload_n (i := 1) (q := 76) dX12_word_75 rfl rfl rfl ?_
        refine wk_lreturn dX12_word_76 rfl ?_
        first | (rw [show wdH (m 78) tn p = 0 from if_neg (fun h => hl (tkT_1.mp h).2)] at hQ; exact hQ) | (rw [show wdH (m 78) tn p = 0 from if_neg (fun h => hx (tkT_1.mp h).1)] at hQ; exact hQ) | (rw [show wdH (m 78) tn p = mhs (m 78) (tkS (m 78) tn p) (tkE (m 78) tn p - tkS (m 78) tn p) from if_pos (tkT_1.mpr ⟨hx, hl⟩), ← ek] at hQ; exact hQ)
      · skip
        refine wk_if_ne (t := 75) (q := 71) dX12_word_68 rfl rfl (fun h => absurd (by decide) h) (fun _ => ?_)
        refine wk_lconst (v := 0) (q := 72) dX12_word_71 rfl rfl ?_
        refine wk_goto (t := 76) dX12_word_72 rfl ?_
        refine wk_lreturn dX12_word_76 rfl ?_
        first | (rw [show wdH (m 78) tn p = 0 from if_neg (fun h => hl (tkT_1.mp h).2)] at hQ; exact hQ) | (rw [show wdH (m 78) tn p = 0 from if_neg (fun h => hx (tkT_1.mp h).1)] at hQ; exact hQ) | (rw [show wdH (m 78) tn p = mhs (m 78) (tkS (m 78) tn p) (tkE (m 78) tn p - tkS (m 78) tn p) from if_pos (tkT_1.mpr ⟨hx, hl⟩), ← ek] at hQ; exact hQ)
    · skip
      refine wk_S1r (d' := 2) (q := 68) lkX12_214 dX12_word_65 rfl rfl rfl rfl ?_
      refine ck_X12_isLetter (fun hl => ?_) (fun hl => ?_)
      · skip
        exact absurd hl (by decide)
      · skip
        refine wk_if_ne (t := 75) (q := 71) dX12_word_68 rfl rfl (fun h => absurd (by decide) h) (fun _ => ?_)
        refine wk_lconst (v := 0) (q := 72) dX12_word_71 rfl rfl ?_
        refine wk_goto (t := 76) dX12_word_72 rfl ?_
        refine wk_lreturn dX12_word_76 rfl ?_
        first | (rw [show wdH (m 78) tn p = 0 from if_neg (fun h => hl (tkT_1.mp h).2)] at hQ; exact hQ) | (rw [show wdH (m 78) tn p = 0 from if_neg (fun h => hx (tkT_1.mp h).1)] at hQ; exact hQ) | (rw [show wdH (m 78) tn p = mhs (m 78) (tkS (m 78) tn p) (tkE (m 78) tn p - tkS (m 78) tn p) from if_pos (tkT_1.mpr ⟨hx, hl⟩), ← ek] at hQ; exact hQ)
  | succ r ih =>
    intro k hk
    have hst : mhs (m 78) (tkS (m 78) tn p) (k + 1) = if 36028797018963967 < mhs (m 78) (tkS (m 78) tn p) k then mhs (m 78) (tkS (m 78) tn p) k else 32 * mhs (m 78) (tkS (m 78) tn p) k + (m 78 (tkS (m 78) tn p + k) - 96).toInt64 := rfl
    refine wk_iload_n (i := 3) (q := 8) dX12_word_7 rfl rfl rfl ?_
    refine wk_aload_n (i := 0) (q := 9) dX12_word_8 rfl rfl rfl ?_
    refine wk_gM (q := 12) fgX12_205 dX12_word_9 rfl rfl ?_
    rw [h9]
    refine wk_icmp_ge (t := 50) (q := 15) dX12_word_12 rfl rfl (fun h => absurd h (nI_ge (by omega) (by omega))) (fun c12 => ?_)
    refine wk_lload_n (i := 1) (q := 16) dX12_word_15 rfl rfl rfl ?_
    refine wk_ldc2 (q := 19) dX12_word_16 kX12_227 rfl ?_
    refine wk_lcmp (q := 20) dX12_word_19 rfl ?_
    refine wk_if_le (t := 27) (q := 23) dX12_word_20 rfl rfl (fun c20 => ?_) (fun c20 => ?_)
    · skip
      rw [lg_cmp_le] at c20
      rw [if_neg (by rw [fa_lt64]; rw [fa_le64] at c20; omega)] at hst
      refine wk_ldc2 (q := 30) dX12_word_27 kX12_229 rfl ?_
      refine wk_lload_n (i := 1) (q := 31) dX12_word_30 rfl rfl rfl ?_
      refine wk_lmul (q := 32) dX12_word_31 rfl ?_
      refine wk_aload_n (i := 0) (q := 33) dX12_word_32 rfl rfl rfl ?_
      refine wk_get (q := 36) fgX12_25 dX12_word_33 rfl rfl rfl rfl ?_
      refine wk_iload_n (i := 3) (q := 37) dX12_word_36 rfl rfl rfl ?_
      refine wk_iald (n := (tkS (m 78) tn p + k)) (q := 38) dX12_word_37 rfl rfl (by show _ < 120; omega) rfl ?_
      rw [wr_n (show (78 : Nat) ≠ 73 by decide), wr_n (show (78 : Nat) ≠ 72 by decide)]
      refine wk_bipush (v := 96) (q := 40) dX12_word_38 rfl rfl ?_
      refine wk_isub (q := 41) dX12_word_40 rfl ?_
      refine wk_i2l (q := 42) dX12_word_41 rfl ?_
      refine wk_ladd (q := 43) dX12_word_42 rfl ?_
      refine wk_lstore_n (i := 1) (q := 44) (lv' := [_, _, _]) dX12_word_43 rfl rfl rfl rfl ?_
      refine wk_iinc (w := 1) (q := 47) (lv' := [_, _, _]) dX12_word_44 rfl rfl rfl rfl rfl ?_
      rw [nI_1]
      refine wk_goto (t := 7) dX12_word_47 rfl ?_
      have hr := ih (k + 1) (by omega)
      rw [hst] at hr
      refine wk_pick [0, 2, 1] (lv' := [_, _, _]) rfl ?_
      exact hr
    · skip
      rw [lg_cmp_le] at c20
      rw [if_pos (by rw [fa_lt64]; rw [fa_le64] at c20; omega)] at hst
      refine wk_lload_n (i := 1) (q := 24) dX12_word_23 rfl rfl rfl ?_
      refine wk_goto (t := 43) dX12_word_24 rfl ?_
      refine wk_lstore_n (i := 1) (q := 44) (lv' := [_, _, _]) dX12_word_43 rfl rfl rfl rfl ?_
      refine wk_iinc (w := 1) (q := 47) (lv' := [_, _, _]) dX12_word_44 rfl rfl rfl rfl rfl ?_
      rw [nI_1]
      refine wk_goto (t := 7) dX12_word_47 rfl ?_
      have hr := ih (k + 1) (by omega)
      rw [hst] at hr
      refine wk_pick [0, 2, 1] (lv' := [_, _, _]) rfl ?_
      exact hr
theorem ck_X12_word (ht : tn ≤ 120) (hp : p ≤ tn) (hM : MS S tn (m 78) p) (hQ : Q (.long (wdH (m 78) tn p)) (wr (wr m 72 S) 73 A) L) : CK E 3 MX12_word [.ref (ev_z E + 72)] (wr (wr m 72 S) 73 A) L Q := by
  refine CK.of rfl rfl (lv := [(0, _)]) rfl ?_
  refine wk_lconst (v := 0) (q := 1) dX12_word_0 rfl rfl ?_
  refine wk_lstore_n (i := 1) (q := 2) (lv' := [_, _]) dX12_word_1 rfl rfl rfl rfl ?_
  refine wk_aload_n (i := 0) (q := 3) dX12_word_2 rfl rfl rfl ?_
  refine wk_gM (q := 6) fgX12_208 dX12_word_3 rfl rfl ?_
  rw [hM.2.1]
  refine wk_istore_n (i := 3) (q := 7) (lv' := [_, _, _]) dX12_word_6 rfl rfl rfl rfl ?_
  exact lp_X12_word ht hp hM hQ (tkE (m 78) tn p - tkS (m 78) tn p) 0 (by omega)
theorem ck_X12_kindHere (ht : tn ≤ 120) (hp : p ≤ tn) (hM : MS S tn (m 78) p) (h1 : ∀ k, k < 6 → isW (m 78) tn p k → Q (.int (nI k)) (wr (wr m 72 S) 73 A) L) (h0 : (∀ k, k < 6 → ¬ isW (m 78) tn p k) → Q (.int (-1)) (wr (wr m 72 S) 73 A) L) : CK E 4 MX12_kindHere [.ref (ev_z E + 72)] (wr (wr m 72 S) 73 A) L Q := by
  refine CK.of rfl rfl (lv := [(0, _)]) rfl ?_
  refine wk_aload_n (i := 0) (q := 1) dX12_kindHere_0 rfl rfl rfl ?_
  refine wk_V0r (d' := 3) (q := 4) lkX12_238 dX12_kindHere_1 rfl rfl rfl rfl rfl rfl rfl ?_
  refine ck_X12_word ht hp hM ?_
  refine wk_lstore_n (i := 1) (q := 5) (lv' := [_, _]) dX12_kindHere_4 rfl rfl rfl rfl ?_
  refine wk_lload_n (i := 1) (q := 6) dX12_kindHere_5 rfl rfl rfl ?_
  refine wk_ldc2 (q := 9) dX12_kindHere_6 kX12_242 rfl ?_
  refine wk_lcmp (q := 10) dX12_kindHere_9 rfl ?_
  refine wk_if_ne (t := 17) (q := 13) dX12_kindHere_10 rfl rfl (fun c10 => ?_) (fun c10 => ?_)
  · skip
    rw [lg_cmp_eq, ← cd_0, wd_iff (by decide)] at c10
    refine wk_lload_n (i := 1) (q := 18) dX12_kindHere_17 rfl rfl rfl ?_
    refine wk_ldc2 (q := 21) dX12_kindHere_18 kX12_244 rfl ?_
    refine wk_lcmp (q := 22) dX12_kindHere_21 rfl ?_
    refine wk_if_ne (t := 29) (q := 25) dX12_kindHere_22 rfl rfl (fun c22 => ?_) (fun c22 => ?_)
    · skip
      rw [lg_cmp_eq, ← cd_1, wd_iff (by decide)] at c22
      refine wk_lload_n (i := 1) (q := 30) dX12_kindHere_29 rfl rfl rfl ?_
      refine wk_ldc2 (q := 33) dX12_kindHere_30 kX12_246 rfl ?_
      refine wk_lcmp (q := 34) dX12_kindHere_33 rfl ?_
      refine wk_if_ne (t := 41) (q := 37) dX12_kindHere_34 rfl rfl (fun c34 => ?_) (fun c34 => ?_)
      · skip
        rw [lg_cmp_eq, ← cd_2, wd_iff (by decide)] at c34
        refine wk_lload_n (i := 1) (q := 42) dX12_kindHere_41 rfl rfl rfl ?_
        refine wk_ldc2 (q := 45) dX12_kindHere_42 kX12_248 rfl ?_
        refine wk_lcmp (q := 46) dX12_kindHere_45 rfl ?_
        refine wk_if_ne (t := 53) (q := 49) dX12_kindHere_46 rfl rfl (fun c46 => ?_) (fun c46 => ?_)
        · skip
          rw [lg_cmp_eq, ← cd_3, wd_iff (by decide)] at c46
          refine wk_lload_n (i := 1) (q := 54) dX12_kindHere_53 rfl rfl rfl ?_
          refine wk_ldc2 (q := 57) dX12_kindHere_54 kX12_250 rfl ?_
          refine wk_lcmp (q := 58) dX12_kindHere_57 rfl ?_
          refine wk_if_ne (t := 65) (q := 61) dX12_kindHere_58 rfl rfl (fun c58 => ?_) (fun c58 => ?_)
          · skip
            rw [lg_cmp_eq, ← cd_4, wd_iff (by decide)] at c58
            refine wk_lload_n (i := 1) (q := 66) dX12_kindHere_65 rfl rfl rfl ?_
            refine wk_ldc2 (q := 69) dX12_kindHere_66 kX12_252 rfl ?_
            refine wk_lcmp (q := 70) dX12_kindHere_69 rfl ?_
            refine wk_if_ne (t := 77) (q := 73) dX12_kindHere_70 rfl rfl (fun c70 => ?_) (fun c70 => ?_)
            · skip
              rw [lg_cmp_eq, ← cd_5, wd_iff (by decide)] at c70
              refine wk_iconst (v := -1) (q := 78) dX12_kindHere_77 rfl rfl ?_
              refine wk_ireturn dX12_kindHere_78 rfl rfl ?_
              refine h0 (fun k hk hw => ?_)
              obtain rfl | rfl | rfl | rfl | rfl | rfl : k = 0 ∨ k = 1 ∨ k = 2 ∨ k = 3 ∨ k = 4 ∨ k = 5 := (by omega)
              all_goals first | exact c10 hw | exact c22 hw | exact c34 hw | exact c46 hw | exact c58 hw | exact c70 hw
            · skip
              rw [lg_cmp_eq, ← cd_5, wd_iff (by decide)] at c70
              refine wk_iconst (v := 5) (q := 74) dX12_kindHere_73 rfl rfl ?_
              refine wk_goto (t := 78) dX12_kindHere_74 rfl ?_
              refine wk_ireturn dX12_kindHere_78 rfl rfl ?_
              exact h1 5 (by decide) c70
          · skip
            rw [lg_cmp_eq, ← cd_4, wd_iff (by decide)] at c58
            refine wk_iconst (v := 4) (q := 62) dX12_kindHere_61 rfl rfl ?_
            refine wk_goto (t := 78) dX12_kindHere_62 rfl ?_
            refine wk_ireturn dX12_kindHere_78 rfl rfl ?_
            exact h1 4 (by decide) c58
        · skip
          rw [lg_cmp_eq, ← cd_3, wd_iff (by decide)] at c46
          refine wk_iconst (v := 3) (q := 50) dX12_kindHere_49 rfl rfl ?_
          refine wk_goto (t := 78) dX12_kindHere_50 rfl ?_
          refine wk_ireturn dX12_kindHere_78 rfl rfl ?_
          exact h1 3 (by decide) c46
      · skip
        rw [lg_cmp_eq, ← cd_2, wd_iff (by decide)] at c34
        refine wk_iconst (v := 2) (q := 38) dX12_kindHere_37 rfl rfl ?_
        refine wk_goto (t := 78) dX12_kindHere_38 rfl ?_
        refine wk_ireturn dX12_kindHere_78 rfl rfl ?_
        exact h1 2 (by decide) c34
    · skip
      rw [lg_cmp_eq, ← cd_1, wd_iff (by decide)] at c22
      refine wk_iconst (v := 1) (q := 26) dX12_kindHere_25 rfl rfl ?_
      refine wk_goto (t := 78) dX12_kindHere_26 rfl ?_
      refine wk_ireturn dX12_kindHere_78 rfl rfl ?_
      exact h1 1 (by decide) c22
  · skip
    rw [lg_cmp_eq, ← cd_0, wd_iff (by decide)] at c10
    refine wk_iconst (v := 0) (q := 14) dX12_kindHere_13 rfl rfl ?_
    refine wk_goto (t := 78) dX12_kindHere_14 rfl ?_
    refine wk_ireturn dX12_kindHere_78 rfl rfl ?_
    exact h1 0 (by decide) c10
end MW
