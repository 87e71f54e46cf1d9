/-! the words of the text: the class compares letters, by String's own methods -/
set_option maxRecDepth 20000 in
theorem wj_649 : Cond.fieldLink RJ0 38 RJ0 "COMPACT_STRINGS" "Z" ∈ gtbl := gt_in (i := 649) rfl rfl
set_option maxRecDepth 20000 in
theorem wj_665 : Cond.fieldLink RJ0 1053 RJ3 "SIOOBE_FORMATTER" "Ljava/util/function/BiFunction;" ∈ gtbl := gt_in (i := 665) rfl rfl
set_option maxRecDepth 20000 in
theorem wj_1282 : Cond.fieldLink RJ0 9 RJ0 "value" "[B" ∈ gtbl := gt_in (i := 1282) rfl rfl
set_option maxRecDepth 20000 in
theorem wj_1283 : Cond.fieldLink RJ0 15 RJ0 "coder" "B" ∈ gtbl := gt_in (i := 1283) rfl rfl
def chK (i k : Nat) : Int32 := (sk_by.getD i []).getD k 0
def lnK (i : Nat) : Nat := sk_ln.getD i 0
theorem ch_ok : ∀ i, i < 13 → ∀ k, k < lnK i → (((chK i k &&& 255).toUInt32 % 65536).toInt32 = chK i k ∧ (chK i k).toUInt32.toUInt16.toUInt32.toInt32 = chK i k ∧ 0 ≤ (chK i k).toInt ∧ (chK i k).toInt < 128) := by decide +kernel
theorem ln_ok : ∀ i, i < 13 → lnK i ≤ 7 := by decide +kernel
theorem nar_ch {x : Int32} (h : x.toUInt32.toUInt16.toUInt32.toInt32 = x) : narrow .char (.int x) = .int x := by
  have h2 : narrow .char (.int x) = .int (x.toUInt32.toUInt16.toUInt32.toInt32) := rfl
  rw [h2, h]
section JS
variable {E : EVt} {m : Mm} {L : Ml} {Q : Value → Mm → Ml → Prop} {i : Nat}
theorem wk_getsQ {d : Nat} {M : MDt} {pc q ix : Nat} {lv : List (Nat × Value)} {st : List Value} (hd : decode M.2.1 pc = .ok (.getstatic ix, 3)) (hw : Cond.fieldLink M.1.cls ix RJ3 "SIOOBE_FORMATTER" "Ljava/util/function/BiFunction;" ∈ gtbl) (hq : pc + 3 = q) (k : ∀ v : Value, (v = .null ∨ ∃ a, v = .ref a) → WK E d M q lv (v :: st) m L Q) : WK E d M pc lv st m L Q :=
  fun Qh hQ => aw_getsQ hd hw hq (fun v hv => k v hv Qh hQ)
theorem ck_coder (hi : i < 13) (hQ : Q (.int 0) m L) : CK E 1 MJ0_coder_7d493 [.ref (ev_K E i)] m L Q := by
  refine CK.of rfl rfl (lv := [(0, _)]) rfl ?_
  refine wk_getsI (q := 3) dJ0_coder_7d493_0 wj_649 rfl ?_
  refine wk_if_eq (t := 13) (q := 6) dJ0_coder_7d493_3 rfl rfl (fun h => absurd h (by decide)) (fun _ => ?_)
  refine wk_aload_n (i := 0) (q := 7) dJ0_coder_7d493_6 rfl rfl rfl ?_
  refine wk_skcoder (q := 10) dJ0_coder_7d493_7 wj_1283 hi rfl ?_
  refine wk_goto (t := 14) dJ0_coder_7d493_10 rfl ?_
  refine wk_ireturn dJ0_coder_7d493_14 rfl rfl ?_
  exact hQ
theorem ck_isLatin1 (hi : i < 13) (hQ : Q (.int 1) m L) : CK E 1 MJ0_isLatin1_aae02 [.ref (ev_K E i)] m L Q := by
  refine CK.of rfl rfl (lv := [(0, _)]) rfl ?_
  refine wk_getsI (q := 3) dJ0_isLatin1_aae02_0 wj_649 rfl ?_
  refine wk_if_eq (t := 17) (q := 6) dJ0_isLatin1_aae02_3 rfl rfl (fun h => absurd h (by decide)) (fun _ => ?_)
  refine wk_aload_n (i := 0) (q := 7) dJ0_isLatin1_aae02_6 rfl rfl rfl ?_
  refine wk_skcoder (q := 10) dJ0_isLatin1_aae02_7 wj_1283 hi rfl ?_
  refine wk_if_ne (t := 17) (q := 13) dJ0_isLatin1_aae02_10 rfl rfl (fun h => absurd rfl h) (fun _ => ?_)
  refine wk_iconst (v := 1) (q := 14) dJ0_isLatin1_aae02_13 rfl rfl ?_
  refine wk_goto (t := 18) dJ0_isLatin1_aae02_14 rfl ?_
  refine wk_ireturn dJ0_isLatin1_aae02_18 rfl rfl ?_
  exact hQ
theorem ck_length (hi : i < 13) (hQ : Q (.int (nI (lnK i))) m L) : CK E 2 MJ0_length_8abf5 [.ref (ev_K E i)] m L Q := by
  refine CK.of rfl rfl (lv := [(0, _)]) rfl ?_
  refine wk_aload_n (i := 0) (q := 1) dJ0_length_8abf5_0 rfl rfl rfl ?_
  refine wk_skvalue (q := 4) dJ0_length_8abf5_1 wj_1282 hi rfl ?_
  refine wk_sklen (q := 5) dJ0_length_8abf5_4 hi rfl ?_
  refine wk_aload_n (i := 0) (q := 6) dJ0_length_8abf5_5 rfl rfl rfl ?_
  refine wk_K0r (i := i) (d' := 1) (q := 9) lkJ0_335 rfl dJ0_length_8abf5_6 hi rfl rfl rfl rfl ?_
  refine ck_coder hi ?_
  refine wk_ishr (q := 10) dJ0_length_8abf5_9 rfl ?_
  refine wk_ireturn dJ0_length_8abf5_10 rfl rfl ?_
  have e : Int32.ofNat (sk_ln.getD i 0) >>> (0 &&& 31) = nI (lnK i) := by
    have : ∀ i, i < 13 → Int32.ofNat (sk_ln.getD i 0) >>> (0 &&& 31) = nI (lnK i) := by decide +kernel
    exact this i hi
  rw [e]
  exact hQ
theorem ck_pre {j n : Nat} {v : Value} (hj : j < n) (hn : n < 2 ^ 31) (hv : v = .null ∨ ∃ a, v = .ref a) (hQ : Q (.int (nI j)) m L) : CK E 1 MJ3_checkIndex_8e157 [.int (nI j), .int (nI n), v] m L Q := by
  rcases hv with rfl | ⟨a, rfl⟩
  · refine CK.of rfl rfl (lv := [(0, _), (1, _), (2, _)]) rfl ?_
    refine wk_iload_n (i := 0) (q := 1) dJ3_checkIndex_8e157_0 rfl rfl rfl ?_
    refine wk_if_lt (t := 9) (q := 4) dJ3_checkIndex_8e157_1 rfl rfl (fun h => absurd h (nI_pos (by omega))) (fun c1 => ?_)
    refine wk_iload_n (i := 0) (q := 5) dJ3_checkIndex_8e157_4 rfl rfl rfl ?_
    refine wk_iload_n (i := 1) (q := 6) dJ3_checkIndex_8e157_5 rfl rfl rfl ?_
    refine wk_icmp_lt (t := 16) (q := 9) dJ3_checkIndex_8e157_6 rfl rfl (fun c6 => ?_) (fun h => absurd (nI_lt hj hn) h)
    refine wk_iload_n (i := 0) (q := 17) dJ3_checkIndex_8e157_16 rfl rfl rfl ?_
    refine wk_ireturn dJ3_checkIndex_8e157_17 rfl rfl ?_
    exact hQ
  · refine CK.of rfl rfl (lv := [(0, _), (1, _), (2, _)]) rfl ?_
    refine wk_iload_n (i := 0) (q := 1) dJ3_checkIndex_8e157_0 rfl rfl rfl ?_
    refine wk_if_lt (t := 9) (q := 4) dJ3_checkIndex_8e157_1 rfl rfl (fun h => absurd h (nI_pos (by omega))) (fun c1 => ?_)
    refine wk_iload_n (i := 0) (q := 5) dJ3_checkIndex_8e157_4 rfl rfl rfl ?_
    refine wk_iload_n (i := 1) (q := 6) dJ3_checkIndex_8e157_5 rfl rfl rfl ?_
    refine wk_icmp_lt (t := 16) (q := 9) dJ3_checkIndex_8e157_6 rfl rfl (fun c6 => ?_) (fun h => absurd (nI_lt hj hn) h)
    refine wk_iload_n (i := 0) (q := 17) dJ3_checkIndex_8e157_16 rfl rfl rfl ?_
    refine wk_ireturn dJ3_checkIndex_8e157_17 rfl rfl ?_
    exact hQ
theorem ck_chk {j n : Nat} (hj : j < n) (hn : n < 2 ^ 31) (hQ : Q .null m L) : CK E 2 MJ0_checkIndex_df160 [.int (nI j), .int (nI n)] m L Q := by
  refine CK.of rfl rfl (lv := [(0, _), (1, _)]) rfl ?_
  refine wk_iload_n (i := 0) (q := 1) dJ0_checkIndex_df160_0 rfl rfl rfl ?_
  refine wk_iload_n (i := 1) (q := 2) dJ0_checkIndex_df160_1 rfl rfl rfl ?_
  refine wk_getsQ (q := 5) dJ0_checkIndex_df160_2 wj_665 rfl (fun v hv => ?_)
  refine wk_S3r (d' := 1) (q := 8) lkJ0_1059 dJ0_checkIndex_df160_5 rfl rfl rfl rfl ?_
  refine ck_pre hj hn hv ?_
  refine wk_pop (q := 9) dJ0_checkIndex_df160_8 rfl rfl ?_
  refine wk_return dJ0_checkIndex_df160_9 rfl ?_
  exact hQ
theorem ck_l1 {j : Nat} (hi : i < 13) (hj : j < lnK i) (hQ : Q (.int (chK i j)) m L) : CK E 3 MJ1_charAt_3b067 [.ref (ev_V E i), .int (nI j)] m L Q := by
  have hl := ln_ok i hi
  have hc := ch_ok i hi j hj
  refine CK.of rfl rfl (lv := [(0, _), (1, _)]) rfl ?_
  refine wk_iload_n (i := 1) (q := 1) dJ1_charAt_3b067_0 rfl rfl rfl ?_
  refine wk_aload_n (i := 0) (q := 2) dJ1_charAt_3b067_1 rfl rfl rfl ?_
  refine wk_sklen (q := 3) dJ1_charAt_3b067_2 hi rfl ?_
  refine wk_S2v (d' := 2) (q := 6) lkJ1_9 dJ1_charAt_3b067_3 rfl rfl rfl rfl ?_
  refine ck_chk (j := j) (n := lnK i) hj (by omega) ?_
  refine wk_aload_n (i := 0) (q := 7) dJ1_charAt_3b067_6 rfl rfl rfl ?_
  refine wk_iload_n (i := 1) (q := 8) dJ1_charAt_3b067_7 rfl rfl rfl ?_
  refine wk_skbyte (q := 9) dJ1_charAt_3b067_8 hi (vp_in_nI (N := lnK i) hj (by omega)) rfl ?_
  refine wk_sipush (v := 255) (q := 12) dJ1_charAt_3b067_9 rfl rfl ?_
  refine wk_iand (q := 13) dJ1_charAt_3b067_12 rfl ?_
  refine wk_i2c (q := 14) dJ1_charAt_3b067_13 rfl ?_
  rw [nI_clamp (show j < 2 ^ 31 by omega), show (sk_by.getD i []).getD j 0 = chK i j from rfl, hc.1]
  refine wk_ireturn dJ1_charAt_3b067_14 rfl (nar_ch hc.2.1) ?_
  exact hQ
theorem ck_charAt {j : Nat} (hi : i < 13) (hj : j < lnK i) (hQ : Q (.int (chK i j)) m L) : CK E 5 MJ0_charAt_5068e [.ref (ev_K E i), .int (nI j)] m L Q := by
  have hc := ch_ok i hi j hj
  refine CK.of rfl rfl (lv := [(0, _), (1, _)]) rfl ?_
  refine wk_aload_n (i := 0) (q := 1) dJ0_charAt_5068e_0 rfl rfl rfl ?_
  refine wk_K0r (i := i) (d' := 1) (q := 4) lkJ0_492 rfl dJ0_charAt_5068e_1 hi rfl rfl rfl rfl ?_
  refine ck_isLatin1 hi ?_
  refine wk_if_eq (t := 16) (q := 7) dJ0_charAt_5068e_4 rfl rfl (fun h => absurd h (by decide)) (fun _ => ?_)
  refine wk_aload_n (i := 0) (q := 8) dJ0_charAt_5068e_7 rfl rfl rfl ?_
  refine wk_skvalue (q := 11) dJ0_charAt_5068e_8 wj_1282 hi rfl ?_
  refine wk_iload_n (i := 1) (q := 12) dJ0_charAt_5068e_11 rfl rfl rfl ?_
  refine wk_S2r (d' := 3) (q := 15) lkJ0_495 dJ0_charAt_5068e_12 rfl rfl rfl rfl ?_
  refine ck_l1 hi hj ?_
  refine wk_ireturn dJ0_charAt_5068e_15 rfl (nar_ch hc.2.1) ?_
  exact hQ
end JS
/-- the token behind p is the word i -/
def isW (T : Nat → Int32) (tn p i : Nat) : Prop := tkT T tn p = 1 ∧ tkE T tn p - tkS T tn p = lnK i ∧ ∀ k, k < lnK i → T (tkS T tn p + k) = chK i k
section WD
variable {E : EVt} {m : Mm} {L : Ml} {Q : Value → Mm → Ml → Prop} {S T : Nat → Int32} {tn p i : Nat}
theorem lp_X9_isWord (hi : i < 13) (ht : tn ≤ 120) (hp : p ≤ tn) (hS : S 1 = nI tn) (h3 : S 3 = nI (tkS T tn p)) (hT : tkT T tn p = 1) (hlen : tkE T tn p - tkS T tn p = lnK i) (hb : ∀ i, i < tn → byRel (m 61 i) (T i)) (h1 : isW T tn p i → Q (.int 1) (wr m 60 S) L) (h0 : ¬ isW T tn p i → Q (.int 0) (wr m 60 S) L) : ∀ (r k : Nat), k + r = lnK i → (∀ x, x < k → T (tkS T tn p + x) = chK i x) → WK E 6 MX9_isWord 28 [(0, .ref (ev_z E + 60)), (1, .ref (ev_K E i)), (2, .int (nI k))] [] (wr m 60 S) L Q := by
  have hl := ln_ok i hi
  have he := tkE_ub (T := T) hp
  intro r
  induction r with
  | zero =>
    intro k hk hx
    refine wk_iload_n (i := 2) (q := 29) dX9_isWord_28 rfl rfl rfl ?_
    refine wk_aload_n (i := 1) (q := 30) dX9_isWord_29 rfl rfl rfl ?_
    refine wk_K0r (i := i) (d' := 2) (q := 33) lkX9_140 rfl dX9_isWord_30 (by first | assumption | decide) rfl rfl rfl rfl ?_
    refine ck_length hi ?_
    refine wk_icmp_ge (t := 62) (q := 36) dX9_isWord_33 rfl rfl (fun c33 => ?_) (fun h => absurd (nI_le (by omega) (by omega)) h)
    refine wk_iconst (v := 1) (q := 63) dX9_isWord_62 rfl rfl ?_
    refine wk_ireturn dX9_isWord_63 rfl rfl ?_
    exact h1 ⟨hT, hlen, fun x hk2 => hx x (by omega)⟩
  | succ r ih =>
    intro k hk hx
    have hlt : tkS T tn p + k < tn := by omega
    have hc := ch_ok i hi k (by omega)
    refine wk_iload_n (i := 2) (q := 29) dX9_isWord_28 rfl rfl rfl ?_
    refine wk_aload_n (i := 1) (q := 30) dX9_isWord_29 rfl rfl rfl ?_
    refine wk_K0r (i := i) (d' := 2) (q := 33) lkX9_140 rfl dX9_isWord_30 (by first | assumption | decide) rfl rfl rfl rfl ?_
    refine ck_length hi ?_
    refine wk_icmp_ge (t := 62) (q := 36) dX9_isWord_33 rfl rfl (fun h => absurd h (nI_ge (by omega) (by omega))) (fun c33 => ?_)
    refine wk_aload_n (i := 0) (q := 37) dX9_isWord_36 rfl rfl rfl ?_
    refine wk_aload_n (i := 0) (q := 38) dX9_isWord_37 rfl rfl rfl ?_
    refine wk_gT (q := 41) fgX9_32 dX9_isWord_38 rfl rfl ?_
    refine wk_iload_n (i := 2) (q := 42) dX9_isWord_41 rfl rfl rfl ?_
    refine wk_iadd (q := 43) dX9_isWord_42 rfl ?_
    rw [h3, nI_add]
    refine wk_V1r (d' := 1) (q := 46) lkX9_144 dX9_isWord_43 rfl rfl rfl rfl rfl rfl rfl ?_
    refine ck_X9_byteAt (n := tkS T tn p + k) hS ht (by omega) (fun _ => ?_) (fun hq => ?_)
    · skip
      refine wk_aload_n (i := 1) (q := 47) dX9_isWord_46 rfl rfl rfl ?_
      refine wk_iload_n (i := 2) (q := 48) dX9_isWord_47 rfl rfl rfl ?_
      refine wk_K1r (i := i) (d' := 5) (q := 51) lkX9_148 rfl dX9_isWord_48 (by first | assumption | decide) rfl rfl rfl rfl ?_
      refine ck_charAt hi (by omega) ?_
      refine wk_icmp_eq (t := 56) (q := 54) dX9_isWord_51 rfl rfl (fun c51 => ?_) (fun c51 => ?_)
      · skip
        rw [eq_rel (hb _ hlt) hc.2.2.1 hc.2.2.2] at c51
        refine wk_iinc (w := 1) (q := 59) (lv' := [_, _, _]) dX9_isWord_56 rfl rfl rfl rfl rfl ?_
        rw [nI_1]
        refine wk_goto (t := 28) dX9_isWord_59 rfl ?_
        refine ih (k + 1) (by omega) (fun x hx2 => ?_)
        rcases Nat.lt_or_ge x k with h | h
        · exact hx x h
        · (have e : x = k := (by omega); subst e; exact c51)
      · skip
        rw [eq_rel (hb _ hlt) hc.2.2.1 hc.2.2.2] at c51
        refine wk_iconst (v := 0) (q := 55) dX9_isWord_54 rfl rfl ?_
        refine wk_ireturn dX9_isWord_55 rfl rfl ?_
        exact h0 (fun h => c51 (h.2.2 k (by omega)))
    · skip
      exact absurd hlt hq
theorem ck_X9_isWord (hi : i < 13) (ht : tn ≤ 120) (hp : p ≤ tn) (hS : S 1 = nI tn) (h3 : S 3 = nI (tkS T tn p)) (h4 : S 4 = nI (tkE T tn p)) (h2 : S 2 = nI (tkT T tn p)) (hb : ∀ i, i < tn → byRel (m 61 i) (T i)) (h1 : isW T tn p i → Q (.int 1) (wr m 60 S) L) (h0 : ¬ isW T tn p i → Q (.int 0) (wr m 60 S) L) : CK E 6 MX9_isWord [.ref (ev_z E + 60), .ref (ev_K E i)] (wr m 60 S) L Q := by
  have hl := ln_ok i hi
  have he := tkE_ub (T := T) hp
  have hse := tkE_le (T := T) (tn := tn) (e := p)
  have htk : tkT T tn p ≤ 4 := by
    unfold tkT
    repeat' split
    all_goals omega
  have hsub : nI (tkE T tn p) - nI (tkS T tn p) = nI (tkE T tn p - tkS T tn p) := by
    rw [fa_eq, sb_i (by rw [nI_toInt (by omega), nI_toInt (by omega)]; omega) (by rw [nI_toInt (by omega), nI_toInt (by omega)]; omega), nI_toInt (by omega), nI_toInt (by omega), nI_toInt (by omega)]
    omega
  refine CK.of rfl rfl (lv := [(0, _), (1, _)]) rfl ?_
  refine wk_aload_n (i := 0) (q := 1) dX9_isWord_0 rfl rfl rfl ?_
  refine wk_gT (q := 4) fgX9_29 dX9_isWord_1 rfl rfl ?_
  refine wk_iconst (v := 1) (q := 5) dX9_isWord_4 rfl rfl ?_
  rw [h2]
  refine wk_icmp_ne (t := 24) (q := 8) dX9_isWord_5 rfl rfl (fun c5 => ?_) (fun c5 => ?_)
  · skip
    have hT : ¬ tkT T tn p = 1 := fun h => c5 (by rw [h]; rfl)
    refine wk_iconst (v := 0) (q := 25) dX9_isWord_24 rfl rfl ?_
    refine wk_ireturn dX9_isWord_25 rfl rfl ?_
    first | exact h0 (fun h => hT h.1) | exact h0 (fun h => hln h.2.1)
  · skip
    have hT : tkT T tn p = 1 := nI_inj (b := 1) (by omega) (by omega) c5
    refine wk_aload_n (i := 0) (q := 9) dX9_isWord_8 rfl rfl rfl ?_
    refine wk_gT (q := 12) fgX9_19 dX9_isWord_9 rfl rfl ?_
    refine wk_aload_n (i := 0) (q := 13) dX9_isWord_12 rfl rfl rfl ?_
    refine wk_gT (q := 16) fgX9_32 dX9_isWord_13 rfl rfl ?_
    refine wk_isub (q := 17) dX9_isWord_16 rfl ?_
    rw [h4, h3, hsub]
    refine wk_aload_n (i := 1) (q := 18) dX9_isWord_17 rfl rfl rfl ?_
    refine wk_K0r (i := i) (d' := 2) (q := 21) lkX9_140 rfl dX9_isWord_18 (by first | assumption | decide) rfl rfl rfl rfl ?_
    refine ck_length hi ?_
    refine wk_icmp_eq (t := 26) (q := 24) dX9_isWord_21 rfl rfl (fun c21 => ?_) (fun c21 => ?_)
    · skip
      have hln := nI_inj (by omega) (by omega) c21
      refine wk_iconst (v := 0) (q := 27) dX9_isWord_26 rfl rfl ?_
      refine wk_istore_n (i := 2) (q := 28) (lv' := [_, _, _]) dX9_isWord_27 rfl rfl rfl rfl ?_
      exact lp_X9_isWord hi ht hp hS h3 hT hln hb h1 h0 (lnK i) 0 (by omega) (fun x hx => absurd hx (by omega))
    · skip
      have hln : ¬ tkE T tn p - tkS T tn p = lnK i := fun h => c21 (by rw [h])
      refine wk_iconst (v := 0) (q := 25) dX9_isWord_24 rfl rfl ?_
      refine wk_ireturn dX9_isWord_25 rfl rfl ?_
      first | exact h0 (fun h => hT h.1) | exact h0 (fun h => hln h.2.1)
end WD
