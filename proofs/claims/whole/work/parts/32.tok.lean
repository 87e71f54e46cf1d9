/-! tokens: what both sides read of the tape; the class's reading -/
section TR1
variable {E : EVt} {d : Nat} {M : MDt} {pc q : Nat} {lv : List (Nat × Value)} {st : List Value} {m : Mm} {L : Ml} {Q : Value → Mm → Ml → Prop} {S A : Nat → Int32}
theorem wk_gT {ix f : Nat} (hF : FG M.1.cls ix 9 f) (hd : decode M.2.1 pc = .ok (.getfield ix, 3)) (hf : ifld 9 f = true) (hq : pc + 3 = q) (kk : WK E d M q lv (.int (S f) :: st) (wr m 60 S) L Q) : WK E d M pc lv (.ref (ev_z E + 60) :: st) (wr m 60 S) L Q := by
  refine wk_get (k := 60) hF hd rfl rfl ?_ hq kk
  have hf : (Nat.ble 1 f && Nat.ble f 7) = true := hf
  simp [Nat.ble_eq] at hf
  obtain rfl | rfl | rfl | rfl | rfl | rfl | rfl : f = 1 ∨ f = 2 ∨ f = 3 ∨ f = 4 ∨ f = 5 ∨ f = 6 ∨ f = 7 := by omega
  all_goals (unfold hfs; rw [wr_s]; rfl)
theorem wk_pT {ix f : Nat} {ft : FieldType} {x : Int32} (hF : FP M.1.cls ix 9 f ft) (hd : decode M.2.1 pc = .ok (.putfield ix, 3)) (hf : ifld 9 f = true) (hn : narrow ft (.int x) = .int x) (hf2 : fits ft (.int x) = true) (hq : pc + 3 = q) (kk : WK E d M q lv st (wr m 60 (upd S f x)) L Q) : WK E d M pc lv (.int x :: .ref (ev_z E + 60) :: st) (wr m 60 S) L Q := by
  refine wk_put (k := 60) hF hd rfl rfl hf hn hf2 hq ?_
  rw [wr_s, wr_wr]
  exact kk
theorem wk_gM {ix f : Nat} (hF : FG M.1.cls ix 12 f) (hd : decode M.2.1 pc = .ok (.getfield ix, 3)) (hf : ifld 12 f = true) (hq : pc + 3 = q) (kk : WK E d M q lv (.int (S f) :: st) (wr (wr m 72 S) 73 A) L Q) : WK E d M pc lv (.ref (ev_z E + 72) :: st) (wr (wr m 72 S) 73 A) L Q := by
  refine wk_get (k := 72) hF hd rfl rfl ?_ hq kk
  have hf : (Nat.beq f 5 || (Nat.ble 7 f && Nat.ble f 11)) = true := hf
  simp [Nat.ble_eq] at hf
  obtain rfl | rfl | rfl | rfl | rfl | rfl : f = 5 ∨ f = 7 ∨ f = 8 ∨ f = 9 ∨ f = 10 ∨ f = 11 := by omega
  all_goals (unfold hfs; rw [wr_n (show (72 : Nat) ≠ 73 by decide), wr_s]; rfl)
theorem wk_pM {ix f : Nat} {ft : FieldType} {x : Int32} (hF : FP M.1.cls ix 12 f ft) (hd : decode M.2.1 pc = .ok (.putfield ix, 3)) (hf : ifld 12 f = true) (hn : narrow ft (.int x) = .int x) (hf2 : fits ft (.int x) = true) (hq : pc + 3 = q) (kk : WK E d M q lv st (wr (wr m 72 (upd S f x)) 73 A) L Q) : WK E d M pc lv (.int x :: .ref (ev_z E + 72) :: st) (wr (wr m 72 S) 73 A) L Q := by
  refine wk_put (k := 72) hF hd rfl rfl hf hn hf2 hq ?_
  rw [wr_n (show (72 : Nat) ≠ 73 by decide), wr_s, wr_comm (show (73 : Nat) ≠ 72 by decide), wr_wr]
  exact kk
end TR1
def runP (P : Int32 → Bool) (T : Nat → Int32) (tn : Nat) : Nat → Nat → Nat
  | 0, i => i
  | f + 1, i => if i < tn ∧ P (T i) = true then runP P T tn f (i + 1) else i
theorem runP_t {P : Int32 → Bool} {T : Nat → Int32} {tn f i : Nat} (h : i < tn ∧ P (T i) = true) : runP P T tn (f + 1) i = runP P T tn f (i + 1) := if_pos h
theorem runP_f {P : Int32 → Bool} {T : Nat → Int32} {tn f i : Nat} (h : ¬ (i < tn ∧ P (T i) = true)) : runP P T tn (f + 1) i = i := if_neg h
theorem runP_le {P : Int32 → Bool} {T : Nat → Int32} {tn : Nat} : ∀ f i, i ≤ runP P T tn f i
  | 0, i => Nat.le_refl i
  | f + 1, i => by
    by_cases h : i < tn ∧ P (T i) = true
    · rw [runP_t h]
      have := runP_le (P := P) (T := T) (tn := tn) f (i + 1)
      omega
    · rw [runP_f h]
      exact Nat.le_refl i
theorem runP_ub {P : Int32 → Bool} {T : Nat → Int32} {tn : Nat} : ∀ f i, i ≤ tn → runP P T tn f i ≤ tn
  | 0, i, h => h
  | f + 1, i, hi => by
    by_cases h : i < tn ∧ P (T i) = true
    · rw [runP_t h]
      exact runP_ub f (i + 1) (by omega)
    · rw [runP_f h]
      exact hi
theorem runP_fu {P : Int32 → Bool} {T : Nat → Int32} {tn : Nat} : ∀ f f' i, tn ≤ i + f → tn ≤ i + f' → runP P T tn f i = runP P T tn f' i
  | 0, 0, _, _, _ => rfl
  | 0, f' + 1, i, h1, _ => by rw [runP_f (fun h => by omega)]; rfl
  | f + 1, 0, i, _, h2 => by rw [runP_f (fun h => by omega)]; rfl
  | f + 1, f' + 1, i, h1, h2 => by
    by_cases h : i < tn ∧ P (T i) = true
    · rw [runP_t h, runP_t h]
      exact runP_fu f f' (i + 1) (by omega) (by omega)
    · rw [runP_f h, runP_f h]
theorem runP_in {P : Int32 → Bool} {T : Nat → Int32} {tn : Nat} : ∀ f i k, i ≤ k → k < runP P T tn f i → k < tn ∧ P (T k) = true
  | 0, i, k, h1, h2 => absurd h2 (by show ¬ k < i; omega)
  | f + 1, i, k, h1, h2 => by
    by_cases h : i < tn ∧ P (T i) = true
    · rw [runP_t h] at h2
      rcases Nat.lt_or_ge i k with h3 | h3
      · exact runP_in f (i + 1) k (by omega) h2
      · have e : k = i := by omega
        subst e
        exact h
    · rw [runP_f h] at h2
      exact absurd h2 (by omega)
def spB (c : Int32) : Bool := decide (c = 32)
def ltB (c : Int32) : Bool := decide (97 ≤ c ∧ c ≤ 122)
def dgB (c : Int32) : Bool := decide (48 ≤ c ∧ c ≤ 57)
def tkS (T : Nat → Int32) (tn e : Nat) : Nat := runP spB T tn 200 e
def tkE (T : Nat → Int32) (tn e : Nat) : Nat := if tkS T tn e < tn then (if ltB (T (tkS T tn e)) = true then runP ltB T tn 200 (tkS T tn e) else if dgB (T (tkS T tn e)) = true then runP dgB T tn 200 (tkS T tn e) else tkS T tn e + 1) else tkS T tn e
def tkT (T : Nat → Int32) (tn e : Nat) : Nat := if tkS T tn e < tn then (if ltB (T (tkS T tn e)) = true then 1 else if dgB (T (tkS T tn e)) = true then 2 else if T (tkS T tn e) = 59 then 3 else 4) else 0
def dgt (T : Nat → Int32) (i : Nat) : Nat := (T i).toInt.toNat - 48
def nv (T : Nat → Int32) (j : Nat) : Nat → Nat
  | 0 => 0
  | n + 1 => if 999 < nv T j n then nv T j n else 10 * nv T j n + dgt T (j + n)
def tkV (T : Nat → Int32) (tn e : Nat) : Nat := nv T (tkS T tn e) (tkE T tn e - tkS T tn e)
theorem lt_rel {c t : Int32} (h : byRel c t) : (97 ≤ c ∧ c ≤ 122) ↔ ltB t = true := by
  unfold byRel at h
  unfold ltB
  rw [decide_eq_true_iff, fa_le, fa_le, fa_le, fa_le, show (97 : Int32).toInt = 97 by decide, show (122 : Int32).toInt = 122 by decide]
  omega
theorem dg_rel {c t : Int32} (h : byRel c t) : (48 ≤ c ∧ c ≤ 57) ↔ dgB t = true := by
  unfold byRel at h
  unfold dgB
  rw [decide_eq_true_iff, fa_le, fa_le, fa_le, fa_le, show (48 : Int32).toInt = 48 by decide, show (57 : Int32).toInt = 57 by decide]
  omega
theorem eq_rel {c t k : Int32} (h : byRel c t) (h0 : 0 ≤ k.toInt) (h1 : k.toInt < 128) : c = k ↔ t = k := by
  unfold byRel at h
  rw [fa_eq, fa_eq]
  omega
theorem dg_eq {T : Nat → Int32} {i : Nat} {c : Int32} (h : byRel c (T i)) (hd : dgB (T i) = true) : c.toInt = 48 + dgt T i ∧ dgt T i ≤ 9 := by
  unfold byRel at h
  unfold dgB at hd
  rw [decide_eq_true_iff, fa_le, fa_le, show (48 : Int32).toInt = 48 by decide, show (57 : Int32).toInt = 57 by decide] at hd
  unfold dgt
  omega
theorem nv_b {T : Nat → Int32} {j : Nat} : ∀ n, (∀ k, k < n → dgt T (j + k) ≤ 9) → nv T j n ≤ 9999
  | 0, _ => Nat.zero_le _
  | n + 1, h => by
    have ih := nv_b (T := T) (j := j) n (fun k hk => h k (by omega))
    have := h n (by omega)
    show (if 999 < nv T j n then nv T j n else 10 * nv T j n + dgt T (j + n)) ≤ 9999
    split <;> omega
theorem cv_s {T : Nat → Int32} {j n : Nat} : min 1000 (10 * min 1000 (nv T j n) + dgt T (j + n)) = min 1000 (nv T j (n + 1)) := by
  show _ = min 1000 (if 999 < nv T j n then nv T j n else 10 * nv T j n + dgt T (j + n))
  split <;> omega
theorem tkS_le {T : Nat → Int32} {tn e : Nat} : e ≤ tkS T tn e := runP_le _ _
theorem tkS_ub {T : Nat → Int32} {tn e : Nat} (h : e ≤ tn) : tkS T tn e ≤ tn := runP_ub _ _ h
theorem tkE_le {T : Nat → Int32} {tn e : Nat} : tkS T tn e ≤ tkE T tn e := by
  unfold tkE
  split
  · split
    · exact runP_le _ _
    · split
      · exact runP_le _ _
      · omega
  · exact Nat.le_refl _
theorem tkE_ub {T : Nat → Int32} {tn e : Nat} (h : e ≤ tn) : tkE T tn e ≤ tn := by
  have := tkS_ub (T := T) h
  unfold tkE
  split
  · split
    · exact runP_ub _ _ this
    · split
      · exact runP_ub _ _ this
      · omega
  · exact this
theorem upd_comm {A : Nat → Int32} {i j : Nat} {x y : Int32} (h : i ≠ j) : upd (upd A i x) j y = upd (upd A j y) i x := by
  funext k
  unfold upd
  by_cases e : k = j
  · rw [if_pos e, if_neg (fun e2 => h (e2.symm.trans e)), if_pos e]
  · rw [if_neg e]
    by_cases e2 : k = i
    · rw [if_pos e2, if_pos e2]
    · rw [if_neg e2, if_neg e2, if_neg e]
theorem dmin_e {T : Nat → Int32} {j n : Nat} {c : Int32} (hc : c.toInt = 48 + dgt T (j + n)) (hd : dgt T (j + n) ≤ 9) : i_min 1000 (nI (min 1000 (nv T j n)) * 10 + c - 48) = nI (min 1000 (nv T j (n + 1))) := by
  rw [← cv_s]
  have e48 : (48 : Int32).toInt = 48 := by decide
  have e1 : nI (min 1000 (nv T j n)) * 10 = nI (10 * min 1000 (nv T j n)) := by
    rw [show (10 : Int32) = nI 10 from rfl, nI_mul, Nat.mul_comm]
  have e2 := nI_toInt (n := 10 * min 1000 (nv T j n)) (by omega)
  have e3 : (nI (10 * min 1000 (nv T j n)) + c).toInt = 10 * min 1000 (nv T j n) + 48 + dgt T (j + n) := by
    rw [ad_i (by omega) (by omega), e2, hc]
    omega
  have e4 : nI (10 * min 1000 (nv T j n)) + c - 48 = nI (10 * min 1000 (nv T j n) + dgt T (j + n)) := by
    rw [fa_eq, sb_i (by omega) (by omega), e3, e48, nI_toInt (by omega)]
    omega
  rw [e1, e4]
  unfold i_min
  rw [show (1000 : Int32) = nI 1000 from rfl]
  by_cases h : 10 * min 1000 (nv T j n) + dgt T (j + n) < 1000
  · rw [if_pos (nI_lt (b := 1000) h (by omega)), show min 1000 (10 * min 1000 (nv T j n) + dgt T (j + n)) = 10 * min 1000 (nv T j n) + dgt T (j + n) by omega]
  · rw [if_neg (nI_nlt (a := 10 * min 1000 (nv T j n) + dgt T (j + n)) (b := 1000) (by omega) (by omega)), show min 1000 (10 * min 1000 (nv T j n) + dgt T (j + n)) = 1000 by omega]
section TK
variable {E : EVt} {m : Mm} {L : Ml} {Q : Value → Mm → Ml → Prop} {S T : Nat → Int32} {tn : Nat}
theorem ck_X9_byteAt {n : Nat} (hS : S 1 = nI tn) (ht : tn ≤ 120) (hn : n < 2 ^ 31) (h1 : n < tn → Q (.int (m 61 n)) (wr m 60 S) L) (h0 : ¬ n < tn → Q (.int (-1)) (wr m 60 S) L) : CK E 1 MX9_byteAt [.ref (ev_z E + 60), .int (nI n)] (wr m 60 S) L Q := by
  refine CK.of rfl rfl (lv := [(0, _), (1, _)]) rfl ?_
  refine wk_iload_n (i := 1) (q := 1) dX9_byteAt_0 rfl rfl rfl ?_
  refine wk_if_lt (t := 30) (q := 4) dX9_byteAt_1 rfl rfl (fun h => absurd h (nI_pos hn)) (fun c1 => ?_)
  refine wk_iload_n (i := 1) (q := 5) dX9_byteAt_4 rfl rfl rfl ?_
  refine wk_aload_n (i := 0) (q := 6) dX9_byteAt_5 rfl rfl rfl ?_
  refine wk_gT (q := 9) fgX9_15 dX9_byteAt_6 rfl rfl ?_
  rw [hS]
  refine wk_icmp_ge (t := 30) (q := 12) dX9_byteAt_9 rfl rfl (fun c9 => ?_) (fun c9 => ?_)
  · skip
    have hlt : ¬ n < tn := fun h => absurd c9 (nI_ge h (by omega))
    refine wk_iconst (v := -1) (q := 31) dX9_byteAt_30 rfl rfl ?_
    refine wk_ireturn dX9_byteAt_31 rfl rfl ?_
    first | exact h1 hlt | exact h0 hlt
  · skip
    have hlt : n < tn := by (rcases Nat.lt_or_ge n tn with h | h; exact h; exact absurd (nI_le h hn) c9)
    refine wk_iload_n (i := 1) (q := 13) dX9_byteAt_12 rfl rfl rfl ?_
    refine wk_aload_n (i := 0) (q := 14) dX9_byteAt_13 rfl rfl rfl ?_
    refine wk_get (q := 17) fgX9_9 dX9_byteAt_14 rfl rfl rfl rfl ?_
    refine wk_alenB (q := 18) dX9_byteAt_17 rfl rfl ?_
    refine wk_icmp_ge (t := 30) (q := 21) dX9_byteAt_18 rfl rfl (fun h => absurd h (nI_ge (b := 120) (by omega) (by omega))) (fun c18 => ?_)
    refine wk_aload_n (i := 0) (q := 22) dX9_byteAt_21 rfl rfl rfl ?_
    refine wk_get (q := 25) fgX9_9 dX9_byteAt_22 rfl rfl rfl rfl ?_
    refine wk_iload_n (i := 1) (q := 26) dX9_byteAt_25 rfl rfl rfl ?_
    refine wk_bald (n := n) (q := 27) dX9_byteAt_26 rfl rfl (by omega) rfl ?_
    rw [wr_n (show (61 : Nat) ≠ 60 by decide)]
    refine wk_goto (t := 31) dX9_byteAt_27 rfl ?_
    refine wk_ireturn dX9_byteAt_31 rfl rfl ?_
    first | exact h1 hlt | exact h0 hlt
theorem ck_X9_isLetter {v : Int32} (h1 : 97 ≤ v ∧ v ≤ 122 → Q (.int 1) m L) (h0 : ¬ (97 ≤ v ∧ v ≤ 122) → Q (.int 0) m L) : CK E 1 MX9_isLetter [.int v] m L Q := by
  refine CK.of rfl rfl (lv := [(0, _)]) rfl ?_
  refine wk_iload_n (i := 0) (q := 1) dX9_isLetter_0 rfl rfl rfl ?_
  refine wk_bipush (v := 97) (q := 3) dX9_isLetter_1 rfl rfl ?_
  refine wk_icmp_lt (t := 16) (q := 6) dX9_isLetter_3 rfl rfl (fun c3 => ?_) (fun c3 => ?_)
  · skip
    refine wk_iconst (v := 0) (q := 17) dX9_isLetter_16 rfl rfl ?_
    refine wk_ireturn dX9_isLetter_17 rfl rfl ?_
    exact h0 (by first | omega | (simp only [fa_le, fa_lt, fa_eq] at * <;> omega))
  · skip
    refine wk_iload_n (i := 0) (q := 7) dX9_isLetter_6 rfl rfl rfl ?_
    refine wk_bipush (v := 122) (q := 9) dX9_isLetter_7 rfl rfl ?_
    refine wk_icmp_gt (t := 16) (q := 12) dX9_isLetter_9 rfl rfl (fun c9 => ?_) (fun c9 => ?_)
    · skip
      refine wk_iconst (v := 0) (q := 17) dX9_isLetter_16 rfl rfl ?_
      refine wk_ireturn dX9_isLetter_17 rfl rfl ?_
      exact h0 (by first | omega | (simp only [fa_le, fa_lt, fa_eq] at * <;> omega))
    · skip
      refine wk_iconst (v := 1) (q := 13) dX9_isLetter_12 rfl rfl ?_
      refine wk_goto (t := 17) dX9_isLetter_13 rfl ?_
      refine wk_ireturn dX9_isLetter_17 rfl rfl ?_
      exact h1 (by first | omega | (simp only [fa_le, fa_lt, fa_eq] at * <;> omega))
theorem ck_X9_isDigit {v : Int32} (h1 : 48 ≤ v ∧ v ≤ 57 → Q (.int 1) m L) (h0 : ¬ (48 ≤ v ∧ v ≤ 57) → Q (.int 0) m L) : CK E 1 MX9_isDigit [.int v] m L Q := by
  refine CK.of rfl rfl (lv := [(0, _)]) rfl ?_
  refine wk_iload_n (i := 0) (q := 1) dX9_isDigit_0 rfl rfl rfl ?_
  refine wk_bipush (v := 48) (q := 3) dX9_isDigit_1 rfl rfl ?_
  refine wk_icmp_lt (t := 16) (q := 6) dX9_isDigit_3 rfl rfl (fun c3 => ?_) (fun c3 => ?_)
  · skip
    refine wk_iconst (v := 0) (q := 17) dX9_isDigit_16 rfl rfl ?_
    refine wk_ireturn dX9_isDigit_17 rfl rfl ?_
    exact h0 (by first | omega | (simp only [fa_le, fa_lt, fa_eq] at * <;> omega))
  · skip
    refine wk_iload_n (i := 0) (q := 7) dX9_isDigit_6 rfl rfl rfl ?_
    refine wk_bipush (v := 57) (q := 9) dX9_isDigit_7 rfl rfl ?_
    refine wk_icmp_gt (t := 16) (q := 12) dX9_isDigit_9 rfl rfl (fun c9 => ?_) (fun c9 => ?_)
    · skip
      refine wk_iconst (v := 0) (q := 17) dX9_isDigit_16 rfl rfl ?_
      refine wk_ireturn dX9_isDigit_17 rfl rfl ?_
      exact h0 (by first | omega | (simp only [fa_le, fa_lt, fa_eq] at * <;> omega))
    · skip
      refine wk_iconst (v := 1) (q := 13) dX9_isDigit_12 rfl rfl ?_
      refine wk_goto (t := 17) dX9_isDigit_13 rfl ?_
      refine wk_ireturn dX9_isDigit_17 rfl rfl ?_
      exact h1 (by first | omega | (simp only [fa_le, fa_lt, fa_eq] at * <;> omega))
theorem lp1_X9_next (ht : tn ≤ 120) (hS : S 1 = nI tn) (hb : ∀ i, i < tn → byRel (m 61 i) (T i)) : ∀ (f i : Nat), tn ≤ i + f → i ≤ tn → WK E 2 MX9_nextToken 45 [(0, .ref (ev_z E + 60))] [] (wr m 60 (upd S 3 (nI (runP spB T tn f i)))) L Q → WK E 2 MX9_nextToken 8 [(0, .ref (ev_z E + 60))] [] (wr m 60 (upd S 3 (nI i))) L Q := by
  have hS1 : ∀ x, upd S 3 x 1 = nI tn := fun x => (upd_n (by decide)).trans hS
  intro f
  induction f with
  | zero =>
    intro i h1 h2 k
    refine wk_aload_n (i := 0) (q := 9) dX9_nextToken_8 rfl rfl rfl ?_
    refine wk_gT (q := 12) fgX9_32 dX9_nextToken_9 rfl rfl ?_
    refine wk_aload_n (i := 0) (q := 13) dX9_nextToken_12 rfl rfl rfl ?_
    refine wk_gT (q := 16) fgX9_15 dX9_nextToken_13 rfl rfl ?_
    rw [upd_s, hS1]
    refine wk_icmp_ge (t := 45) (q := 19) dX9_nextToken_16 rfl rfl (fun c16 => ?_) (fun h => absurd (nI_le (by omega) (by omega)) h)
    exact k
  | succ f ih =>
    intro i h1 h2 k
    refine wk_aload_n (i := 0) (q := 9) dX9_nextToken_8 rfl rfl rfl ?_
    refine wk_gT (q := 12) fgX9_32 dX9_nextToken_9 rfl rfl ?_
    refine wk_aload_n (i := 0) (q := 13) dX9_nextToken_12 rfl rfl rfl ?_
    refine wk_gT (q := 16) fgX9_15 dX9_nextToken_13 rfl rfl ?_
    rw [upd_s, hS1]
    refine wk_icmp_ge (t := 45) (q := 19) dX9_nextToken_16 rfl rfl (fun c16 => ?_) (fun c16 => ?_)
    · skip
      have hge : tn ≤ i := by (rcases Nat.lt_or_ge i tn with h | h; exact absurd c16 (nI_ge h (by omega)); exact h)
      rw [runP_f (fun h => by omega)] at k
      exact k
    · skip
      have hlt : i < tn := by (rcases Nat.lt_or_ge i tn with h | h; exact h; exact absurd (nI_le h (by omega)) c16)
      refine wk_aload_n (i := 0) (q := 20) dX9_nextToken_19 rfl rfl rfl ?_
      refine wk_aload_n (i := 0) (q := 21) dX9_nextToken_20 rfl rfl rfl ?_
      refine wk_gT (q := 24) fgX9_32 dX9_nextToken_21 rfl rfl ?_
      rw [upd_s]
      refine wk_V1r (d' := 1) (q := 27) lkX9_144 dX9_nextToken_24 rfl rfl rfl rfl rfl rfl rfl ?_
      refine ck_X9_byteAt (n := i) (hS1 _) ht (by omega) (fun _ => ?_) (fun hx => ?_)
      · skip
        refine wk_bipush (v := 32) (q := 29) dX9_nextToken_27 rfl rfl ?_
        refine wk_icmp_ne (t := 45) (q := 32) dX9_nextToken_29 rfl rfl (fun c29 => ?_) (fun c29 => ?_)
        · skip
          rw [eq_rel (hb i hlt) (by decide) (by decide)] at c29
          rw [runP_f (fun h => c29 (of_decide_eq_true h.2))] at k
          exact k
        · skip
          rw [eq_rel (hb i hlt) (by decide) (by decide)] at c29
          rw [runP_t ⟨hlt, decide_eq_true c29⟩] at k
          refine wk_aload_n (i := 0) (q := 33) dX9_nextToken_32 rfl rfl rfl ?_
          refine wk_dup (q := 34) dX9_nextToken_33 rfl rfl ?_
          refine wk_gT (q := 37) fgX9_32 dX9_nextToken_34 rfl rfl ?_
          refine wk_iconst (v := 1) (q := 38) dX9_nextToken_37 rfl rfl ?_
          refine wk_iadd (q := 39) dX9_nextToken_38 rfl ?_
          rw [upd_s, nI_1]
          refine wk_pT (q := 42) fpX9_32 dX9_nextToken_39 rfl rfl rfl rfl ?_
          rw [upd_upd]
          refine wk_goto (t := 8) dX9_nextToken_42 rfl ?_
          exact ih (i + 1) (by omega) (by omega) k
      · skip
        exact absurd hlt hx
theorem lp2_X9_next (ht : tn ≤ 120) (hS : S 1 = nI tn) (hb : ∀ i, i < tn → byRel (m 61 i) (T i)) : ∀ (f i : Nat), tn ≤ i + f → i ≤ tn → Q .null (wr m 60 (upd S 4 (nI (runP ltB T tn f i)))) L → WK E 2 MX9_nextToken 91 [(0, .ref (ev_z E + 60))] [] (wr m 60 (upd S 4 (nI i))) L Q := by
  have hS1 : ∀ x, upd S 4 x 1 = nI tn := fun x => (upd_n (by decide)).trans hS
  intro f
  induction f with
  | zero =>
    intro i h1 h2 k
    refine wk_aload_n (i := 0) (q := 92) dX9_nextToken_91 rfl rfl rfl ?_
    refine wk_gT (q := 95) fgX9_19 dX9_nextToken_92 rfl rfl ?_
    refine wk_aload_n (i := 0) (q := 96) dX9_nextToken_95 rfl rfl rfl ?_
    refine wk_gT (q := 99) fgX9_15 dX9_nextToken_96 rfl rfl ?_
    rw [upd_s, hS1]
    refine wk_icmp_ge (t := 252) (q := 102) dX9_nextToken_99 rfl rfl (fun c99 => ?_) (fun h => absurd (nI_le (by omega) (by omega)) h)
    refine wk_return dX9_nextToken_252 rfl ?_
    exact k
  | succ f ih =>
    intro i h1 h2 k
    refine wk_aload_n (i := 0) (q := 92) dX9_nextToken_91 rfl rfl rfl ?_
    refine wk_gT (q := 95) fgX9_19 dX9_nextToken_92 rfl rfl ?_
    refine wk_aload_n (i := 0) (q := 96) dX9_nextToken_95 rfl rfl rfl ?_
    refine wk_gT (q := 99) fgX9_15 dX9_nextToken_96 rfl rfl ?_
    rw [upd_s, hS1]
    refine wk_icmp_ge (t := 252) (q := 102) dX9_nextToken_99 rfl rfl (fun c99 => ?_) (fun c99 => ?_)
    · skip
      have hge : tn ≤ i := by (rcases Nat.lt_or_ge i tn with h | h; exact absurd c99 (nI_ge h (by omega)); exact h)
      rw [runP_f (fun h => by omega)] at k
      refine wk_return dX9_nextToken_252 rfl ?_
      exact k
    · skip
      have hlt : i < tn := by (rcases Nat.lt_or_ge i tn with h | h; exact h; exact absurd (nI_le h (by omega)) c99)
      refine wk_aload_n (i := 0) (q := 103) dX9_nextToken_102 rfl rfl rfl ?_
      refine wk_aload_n (i := 0) (q := 104) dX9_nextToken_103 rfl rfl rfl ?_
      refine wk_gT (q := 107) fgX9_19 dX9_nextToken_104 rfl rfl ?_
      rw [upd_s]
      refine wk_V1r (d' := 1) (q := 110) lkX9_144 dX9_nextToken_107 rfl rfl rfl rfl rfl rfl rfl ?_
      refine ck_X9_byteAt (n := i) (hS1 _) ht (by omega) (fun _ => ?_) (fun hx => ?_)
      · skip
        refine wk_S1r (d' := 1) (q := 113) lkX9_152 dX9_nextToken_110 rfl rfl rfl rfl ?_
        refine ck_X9_isLetter (fun hl => ?_) (fun hl => ?_)
        · skip
          rw [lt_rel (hb i hlt)] at hl
          rw [runP_t ⟨hlt, hl⟩] at k
          refine wk_if_eq (t := 252) (q := 116) dX9_nextToken_113 rfl rfl (fun h => absurd h (by decide)) (fun _ => ?_)
          refine wk_aload_n (i := 0) (q := 117) dX9_nextToken_116 rfl rfl rfl ?_
          refine wk_dup (q := 118) dX9_nextToken_117 rfl rfl ?_
          refine wk_gT (q := 121) fgX9_19 dX9_nextToken_118 rfl rfl ?_
          refine wk_iconst (v := 1) (q := 122) dX9_nextToken_121 rfl rfl ?_
          refine wk_iadd (q := 123) dX9_nextToken_122 rfl ?_
          rw [upd_s, nI_1]
          refine wk_pT (q := 126) fpX9_19 dX9_nextToken_123 rfl rfl rfl rfl ?_
          rw [upd_upd]
          refine wk_goto (t := 91) dX9_nextToken_126 rfl ?_
          exact ih (i + 1) (by omega) (by omega) k
        · skip
          rw [lt_rel (hb i hlt)] at hl
          rw [runP_f (fun h => hl h.2)] at k
          refine wk_if_eq (t := 252) (q := 116) dX9_nextToken_113 rfl rfl (fun _ => ?_) (fun h => absurd (by decide) h)
          refine wk_return dX9_nextToken_252 rfl ?_
          exact k
      · skip
        exact absurd hlt hx
theorem lp3_X9_next {j : Nat} (ht : tn ≤ 120) (hS : S 1 = nI tn) (hb : ∀ i, i < tn → byRel (m 61 i) (T i)) : ∀ (f n : Nat), tn ≤ j + n + f → j + n ≤ tn → nv T j n ≤ 9999 → Q .null (wr m 60 (upd (upd S 5 (nI (min 1000 (nv T j (runP dgB T tn f (j + n) - j))))) 4 (nI (runP dgB T tn f (j + n))))) L → WK E 2 MX9_nextToken 153 [(0, .ref (ev_z E + 60))] [] (wr m 60 (upd (upd S 5 (nI (min 1000 (nv T j n)))) 4 (nI (j + n)))) L Q := by
  have hS1 : ∀ x y, upd (upd S 5 y) 4 x 1 = nI tn := fun x y => (upd_n (by decide)).trans ((upd_n (by decide)).trans hS)
  intro f
  induction f with
  | zero =>
    intro n h1 h2 h9 k
    rw [show runP dgB T tn 0 (j + n) = j + n from rfl, show j + n - j = n by omega] at k
    refine wk_aload_n (i := 0) (q := 154) dX9_nextToken_153 rfl rfl rfl ?_
    refine wk_gT (q := 157) fgX9_19 dX9_nextToken_154 rfl rfl ?_
    refine wk_aload_n (i := 0) (q := 158) dX9_nextToken_157 rfl rfl rfl ?_
    refine wk_gT (q := 161) fgX9_15 dX9_nextToken_158 rfl rfl ?_
    rw [upd_s, hS1]
    refine wk_icmp_ge (t := 252) (q := 164) dX9_nextToken_161 rfl rfl (fun c161 => ?_) (fun h => absurd (nI_le (by omega) (by omega)) h)
    refine wk_return dX9_nextToken_252 rfl ?_
    exact k
  | succ f ih =>
    intro n h1 h2 h9 k
    refine wk_aload_n (i := 0) (q := 154) dX9_nextToken_153 rfl rfl rfl ?_
    refine wk_gT (q := 157) fgX9_19 dX9_nextToken_154 rfl rfl ?_
    refine wk_aload_n (i := 0) (q := 158) dX9_nextToken_157 rfl rfl rfl ?_
    refine wk_gT (q := 161) fgX9_15 dX9_nextToken_158 rfl rfl ?_
    rw [upd_s, hS1]
    refine wk_icmp_ge (t := 252) (q := 164) dX9_nextToken_161 rfl rfl (fun c161 => ?_) (fun c161 => ?_)
    · skip
      have hge : tn ≤ j + n := by (rcases Nat.lt_or_ge (j + n) tn with h | h; exact absurd c161 (nI_ge h (by omega)); exact h)
      rw [runP_f (fun h => by omega), show j + n - j = n by omega] at k
      refine wk_return dX9_nextToken_252 rfl ?_
      exact k
    · skip
      have hlt : j + n < tn := by (rcases Nat.lt_or_ge (j + n) tn with h | h; exact h; exact absurd (nI_le h (by omega)) c161)
      refine wk_aload_n (i := 0) (q := 165) dX9_nextToken_164 rfl rfl rfl ?_
      refine wk_aload_n (i := 0) (q := 166) dX9_nextToken_165 rfl rfl rfl ?_
      refine wk_gT (q := 169) fgX9_19 dX9_nextToken_166 rfl rfl ?_
      rw [upd_s]
      refine wk_V1r (d' := 1) (q := 172) lkX9_144 dX9_nextToken_169 rfl rfl rfl rfl rfl rfl rfl ?_
      refine ck_X9_byteAt (n := j + n) (hS1 _ _) ht (by omega) (fun _ => ?_) (fun hx => ?_)
      · skip
        refine wk_S1r (d' := 1) (q := 175) lkX9_156 dX9_nextToken_172 rfl rfl rfl rfl ?_
        refine ck_X9_isDigit (fun hd => ?_) (fun hd => ?_)
        · skip
          rw [dg_rel (hb _ hlt)] at hd
          rw [runP_t ⟨hlt, hd⟩] at k
          have hdg := dg_eq (hb _ hlt) hd
          refine wk_if_eq (t := 252) (q := 178) dX9_nextToken_175 rfl rfl (fun h => absurd h (by decide)) (fun _ => ?_)
          refine wk_aload_n (i := 0) (q := 179) dX9_nextToken_178 rfl rfl rfl ?_
          refine wk_sipush (v := 1000) (q := 182) dX9_nextToken_179 rfl rfl ?_
          refine wk_aload_n (i := 0) (q := 183) dX9_nextToken_182 rfl rfl rfl ?_
          refine wk_gT (q := 186) fgX9_115 dX9_nextToken_183 rfl rfl ?_
          rw [upd_n (show (5 : Nat) ≠ 4 by decide), upd_s]
          refine wk_bipush (v := 10) (q := 188) dX9_nextToken_186 rfl rfl ?_
          refine wk_imul (q := 189) dX9_nextToken_188 rfl ?_
          refine wk_aload_n (i := 0) (q := 190) dX9_nextToken_189 rfl rfl rfl ?_
          refine wk_aload_n (i := 0) (q := 191) dX9_nextToken_190 rfl rfl rfl ?_
          refine wk_gT (q := 194) fgX9_19 dX9_nextToken_191 rfl rfl ?_
          rw [upd_s]
          refine wk_V1r (d' := 1) (q := 197) lkX9_144 dX9_nextToken_194 rfl rfl rfl rfl rfl rfl rfl ?_
          refine ck_X9_byteAt (n := j + n) (hS1 _ _) ht (by omega) (fun _ => ?_) (fun hx => ?_)
          · skip
            refine wk_iadd (q := 198) dX9_nextToken_197 rfl ?_
            refine wk_bipush (v := 48) (q := 200) dX9_nextToken_198 rfl rfl ?_
            refine wk_isub (q := 201) dX9_nextToken_200 rfl ?_
            refine wk_mmin (q := 204) lkX9_159 dX9_nextToken_201 rfl rfl rfl ?_
            rw [show i_min 1000 (nI (min 1000 (nv T j n)) * 10 + m 61 (j + n) - 48) = nI (min 1000 (nv T j (n + 1))) from dmin_e hdg.1 hdg.2]
            refine wk_pT (q := 207) fpX9_115 dX9_nextToken_204 rfl rfl rfl rfl ?_
            refine wk_aload_n (i := 0) (q := 208) dX9_nextToken_207 rfl rfl rfl ?_
            refine wk_dup (q := 209) dX9_nextToken_208 rfl rfl ?_
            refine wk_gT (q := 212) fgX9_19 dX9_nextToken_209 rfl rfl ?_
            refine wk_iconst (v := 1) (q := 213) dX9_nextToken_212 rfl rfl ?_
            refine wk_iadd (q := 214) dX9_nextToken_213 rfl ?_
            rw [upd_n (show (4 : Nat) ≠ 5 by decide), upd_s, nI_1]
            refine wk_pT (q := 217) fpX9_19 dX9_nextToken_214 rfl rfl rfl rfl ?_
            rw [show upd (upd (upd (upd S 5 (nI (min 1000 (nv T j n)))) 4 (nI (j + n))) 5 (nI (min 1000 (nv T j (n + 1))))) 4 (nI (j + n + 1)) = upd (upd S 5 (nI (min 1000 (nv T j (n + 1))))) 4 (nI (j + (n + 1))) from by rw [upd_comm (A := upd S 5 (nI (min 1000 (nv T j n)))) (i := 4) (j := 5) (by decide), upd_upd, upd_upd]; rfl]
            refine wk_goto (t := 153) dX9_nextToken_217 rfl ?_
            exact ih (n + 1) (by omega) (by omega) (by show (if 999 < nv T j n then nv T j n else 10 * nv T j n + dgt T (j + n)) ≤ 9999; split <;> omega) k
          · skip
            exact absurd hlt hx
        · skip
          rw [dg_rel (hb _ hlt)] at hd
          rw [runP_f (fun h => hd h.2), show j + n - j = n by omega] at k
          refine wk_if_eq (t := 252) (q := 178) dX9_nextToken_175 rfl rfl (fun _ => ?_) (fun h => absurd (by decide) h)
          refine wk_return dX9_nextToken_252 rfl ?_
          exact k
      · skip
        exact absurd hlt hx
theorem ck_X9_nextToken {e : Nat} (ht : tn ≤ 120) (he : e ≤ tn) (hS : S 1 = nI tn) (hS4 : S 4 = nI e) (hb : ∀ i, i < tn → byRel (m 61 i) (T i)) (hQ : ∀ S', S' 1 = S 1 → S' 6 = S 6 → S' 7 = S 7 → S' 3 = nI (tkS T tn e) → S' 4 = nI (tkE T tn e) → S' 2 = nI (tkT T tn e) → (tkT T tn e = 2 → S' 5 = nI (min 1000 (tkV T tn e))) → Q .null (wr m 60 S') L) : CK E 2 MX9_nextToken [.ref (ev_z E + 60)] (wr m 60 S) L Q := by
  have hj := tkS_ub (T := T) he
  have hS1 : ∀ x, upd S 3 x 1 = nI tn := fun x => (upd_n (by decide)).trans hS
  have hx : ∀ x y, upd (upd S 3 x) 4 y 1 = nI tn := fun x y => (upd_n (by decide)).trans (hS1 x)
  have hx3 : ∀ x y, upd (upd S 3 x) 4 y 3 = x := fun x y => (upd_n (by decide)).trans upd_s
  refine CK.of rfl rfl (lv := [(0, _)]) rfl ?_
  refine wk_aload_n (i := 0) (q := 1) dX9_nextToken_0 rfl rfl rfl ?_
  refine wk_aload_n (i := 0) (q := 2) dX9_nextToken_1 rfl rfl rfl ?_
  refine wk_gT (q := 5) fgX9_19 dX9_nextToken_2 rfl rfl ?_
  refine wk_pT (q := 8) fpX9_32 dX9_nextToken_5 rfl rfl rfl rfl ?_
  rw [hS4]
  refine lp1_X9_next (T := T) ht hS hb 200 e (by omega) he ?_
  refine wk_aload_n (i := 0) (q := 46) dX9_nextToken_45 rfl rfl rfl ?_
  refine wk_aload_n (i := 0) (q := 47) dX9_nextToken_46 rfl rfl rfl ?_
  refine wk_gT (q := 50) fgX9_32 dX9_nextToken_47 rfl rfl ?_
  rw [upd_s]
  rw [show runP spB T tn 200 e = tkS T tn e from rfl]
  refine wk_pT (q := 53) fpX9_19 dX9_nextToken_50 rfl rfl rfl rfl ?_
  refine wk_aload_n (i := 0) (q := 54) dX9_nextToken_53 rfl rfl rfl ?_
  refine wk_gT (q := 57) fgX9_32 dX9_nextToken_54 rfl rfl ?_
  refine wk_aload_n (i := 0) (q := 58) dX9_nextToken_57 rfl rfl rfl ?_
  refine wk_gT (q := 61) fgX9_15 dX9_nextToken_58 rfl rfl ?_
  rw [hx3, hx]
  refine wk_icmp_lt (t := 72) (q := 64) dX9_nextToken_61 rfl rfl (fun c61 => ?_) (fun c61 => ?_)
  · skip
    have hlt : tkS T tn e < tn := by (rcases Nat.lt_or_ge (tkS T tn e) tn with h | h; exact h; exact absurd c61 (nI_nlt h (by omega)))
    refine wk_aload_n (i := 0) (q := 73) dX9_nextToken_72 rfl rfl rfl ?_
    refine wk_aload_n (i := 0) (q := 74) dX9_nextToken_73 rfl rfl rfl ?_
    refine wk_gT (q := 77) fgX9_32 dX9_nextToken_74 rfl rfl ?_
    rw [hx3]
    refine wk_V1r (d' := 1) (q := 80) lkX9_144 dX9_nextToken_77 rfl rfl rfl rfl rfl rfl rfl ?_
    refine ck_X9_byteAt (n := tkS T tn e) (hx _ _) ht (by omega) (fun _ => ?_) (fun hq => ?_)
    · skip
      refine wk_S1r (d' := 1) (q := 83) lkX9_152 dX9_nextToken_80 rfl rfl rfl rfl ?_
      refine ck_X9_isLetter (fun hl => ?_) (fun hl => ?_)
      · skip
        rw [lt_rel (hb _ hlt)] at hl
        have eE : tkE T tn e = runP ltB T tn 200 (tkS T tn e) := (if_pos hlt).trans (if_pos hl)
        have eT : tkT T tn e = 1 := (if_pos hlt).trans (if_pos hl)
        refine wk_if_eq (t := 129) (q := 86) dX9_nextToken_83 rfl rfl (fun h => absurd h (by decide)) (fun _ => ?_)
        refine wk_aload_n (i := 0) (q := 87) dX9_nextToken_86 rfl rfl rfl ?_
        refine wk_iconst (v := 1) (q := 88) dX9_nextToken_87 rfl rfl ?_
        refine wk_pT (q := 91) fpX9_29 dX9_nextToken_88 rfl rfl rfl rfl ?_
        have hc : upd (upd (upd S 3 (nI (tkS T tn e))) 4 (nI (tkS T tn e))) 2 1 = upd (upd (upd S 3 (nI (tkS T tn e))) 2 1) 4 (nI (tkS T tn e)) := upd_comm (by decide)
        rw [hc]
        refine lp2_X9_next (S := upd (upd S 3 (nI (tkS T tn e))) 2 1) ht ((upd_n (by decide)).trans (hS1 _)) hb 200 (tkS T tn e) (by omega) hj ?_
        rw [← eE]
        exact hQ _ ((upd_n (by decide)).trans ((upd_n (by decide)).trans (upd_n (by decide)))) ((upd_n (by decide)).trans ((upd_n (by decide)).trans (upd_n (by decide)))) ((upd_n (by decide)).trans ((upd_n (by decide)).trans (upd_n (by decide)))) ((upd_n (by decide)).trans ((upd_n (by decide)).trans upd_s)) upd_s (by rw [eT]; exact (upd_n (by decide)).trans upd_s) (fun q => absurd (eT.symm.trans q) (by decide))
      · skip
        rw [lt_rel (hb _ hlt)] at hl
        refine wk_if_eq (t := 129) (q := 86) dX9_nextToken_83 rfl rfl (fun _ => ?_) (fun h => absurd (by decide) h)
        refine wk_aload_n (i := 0) (q := 130) dX9_nextToken_129 rfl rfl rfl ?_
        refine wk_aload_n (i := 0) (q := 131) dX9_nextToken_130 rfl rfl rfl ?_
        refine wk_gT (q := 134) fgX9_32 dX9_nextToken_131 rfl rfl ?_
        rw [hx3]
        refine wk_V1r (d' := 1) (q := 137) lkX9_144 dX9_nextToken_134 rfl rfl rfl rfl rfl rfl rfl ?_
        refine ck_X9_byteAt (n := tkS T tn e) (hx _ _) ht (by omega) (fun _ => ?_) (fun hq => ?_)
        · skip
          refine wk_S1r (d' := 1) (q := 140) lkX9_156 dX9_nextToken_137 rfl rfl rfl rfl ?_
          refine ck_X9_isDigit (fun hd => ?_) (fun hd => ?_)
          · skip
            rw [dg_rel (hb _ hlt)] at hd
            have eE : tkE T tn e = runP dgB T tn 200 (tkS T tn e) := (if_pos hlt).trans ((if_neg hl).trans (if_pos hd))
            have eT : tkT T tn e = 2 := (if_pos hlt).trans ((if_neg hl).trans (if_pos hd))
            refine wk_if_eq (t := 220) (q := 143) dX9_nextToken_140 rfl rfl (fun h => absurd h (by decide)) (fun _ => ?_)
            refine wk_aload_n (i := 0) (q := 144) dX9_nextToken_143 rfl rfl rfl ?_
            refine wk_iconst (v := 2) (q := 145) dX9_nextToken_144 rfl rfl ?_
            refine wk_pT (q := 148) fpX9_29 dX9_nextToken_145 rfl rfl rfl rfl ?_
            refine wk_aload_n (i := 0) (q := 149) dX9_nextToken_148 rfl rfl rfl ?_
            refine wk_iconst (v := 0) (q := 150) dX9_nextToken_149 rfl rfl ?_
            refine wk_pT (q := 153) fpX9_115 dX9_nextToken_150 rfl rfl rfl rfl ?_
            have hc : upd (upd (upd (upd S 3 (nI (tkS T tn e))) 4 (nI (tkS T tn e))) 2 2) 5 0 = upd (upd (upd (upd S 3 (nI (tkS T tn e))) 2 2) 5 (nI (min 1000 (nv T (tkS T tn e) 0)))) 4 (nI (tkS T tn e + 0)) := by (rw [upd_comm (A := upd S 3 (nI (tkS T tn e))) (i := 4) (j := 2) (by decide), upd_comm (i := 4) (j := 5) (by decide)]; rfl)
            rw [hc]
            refine lp3_X9_next (S := upd (upd S 3 (nI (tkS T tn e))) 2 2) (j := tkS T tn e) ht ((upd_n (by decide)).trans (hS1 _)) hb 200 0 (by omega) (by omega) (Nat.zero_le _) ?_
            rw [Nat.add_zero, ← eE]
            exact hQ _ ((upd_n (by decide)).trans ((upd_n (by decide)).trans ((upd_n (by decide)).trans (upd_n (by decide))))) ((upd_n (by decide)).trans ((upd_n (by decide)).trans ((upd_n (by decide)).trans (upd_n (by decide))))) ((upd_n (by decide)).trans ((upd_n (by decide)).trans ((upd_n (by decide)).trans (upd_n (by decide))))) ((upd_n (by decide)).trans ((upd_n (by decide)).trans ((upd_n (by decide)).trans upd_s))) upd_s (by rw [eT]; exact (upd_n (by decide)).trans ((upd_n (by decide)).trans upd_s)) (fun _ => (upd_n (by decide)).trans upd_s)
          · skip
            rw [dg_rel (hb _ hlt)] at hd
            refine wk_if_eq (t := 220) (q := 143) dX9_nextToken_140 rfl rfl (fun _ => ?_) (fun h => absurd (by decide) h)
            have eE : tkE T tn e = tkS T tn e + 1 := (if_pos hlt).trans ((if_neg hl).trans (if_neg hd))
            refine wk_aload_n (i := 0) (q := 221) dX9_nextToken_220 rfl rfl rfl ?_
            refine wk_aload_n (i := 0) (q := 222) dX9_nextToken_221 rfl rfl rfl ?_
            refine wk_aload_n (i := 0) (q := 223) dX9_nextToken_222 rfl rfl rfl ?_
            refine wk_gT (q := 226) fgX9_32 dX9_nextToken_223 rfl rfl ?_
            rw [hx3]
            refine wk_V1r (d' := 1) (q := 229) lkX9_144 dX9_nextToken_226 rfl rfl rfl rfl rfl rfl rfl ?_
            refine ck_X9_byteAt (n := tkS T tn e) (hx _ _) ht (by omega) (fun _ => ?_) (fun hq => ?_)
            · skip
              refine wk_bipush (v := 59) (q := 231) dX9_nextToken_229 rfl rfl ?_
              refine wk_icmp_ne (t := 238) (q := 234) dX9_nextToken_231 rfl rfl (fun c231 => ?_) (fun c231 => ?_)
              · skip
                rw [eq_rel (hb _ hlt) (by decide) (by decide)] at c231
                have eT : tkT T tn e = 4 := (if_pos hlt).trans ((if_neg hl).trans ((if_neg hd).trans (if_neg c231)))
                refine wk_iconst (v := 4) (q := 239) dX9_nextToken_238 rfl rfl ?_
                refine wk_pT (q := 242) fpX9_29 dX9_nextToken_239 rfl rfl rfl rfl ?_
                refine wk_aload_n (i := 0) (q := 243) dX9_nextToken_242 rfl rfl rfl ?_
                refine wk_aload_n (i := 0) (q := 244) dX9_nextToken_243 rfl rfl rfl ?_
                refine wk_gT (q := 247) fgX9_32 dX9_nextToken_244 rfl rfl ?_
                rw [upd_n (show (3 : Nat) ≠ 2 by decide), hx3]
                refine wk_iconst (v := 1) (q := 248) dX9_nextToken_247 rfl rfl ?_
                refine wk_iadd (q := 249) dX9_nextToken_248 rfl ?_
                refine wk_pT (q := 252) fpX9_19 dX9_nextToken_249 rfl rfl rfl rfl ?_
                (try rw [nI_1, ← eE])
                refine wk_return dX9_nextToken_252 rfl ?_
                first | exact hQ _ ((upd_n (by decide)).trans ((upd_n (by decide)).trans ((upd_n (by decide)).trans (upd_n (by decide))))) ((upd_n (by decide)).trans ((upd_n (by decide)).trans ((upd_n (by decide)).trans (upd_n (by decide))))) ((upd_n (by decide)).trans ((upd_n (by decide)).trans ((upd_n (by decide)).trans (upd_n (by decide))))) ((upd_n (by decide)).trans ((upd_n (by decide)).trans ((upd_n (by decide)).trans upd_s))) upd_s (by rw [eT]; exact (upd_n (by decide)).trans upd_s) (fun q => absurd (eT.symm.trans q) (by decide)) | exact hQ _ ((upd_n (by decide)).trans ((upd_n (by decide)).trans (upd_n (by decide)))) ((upd_n (by decide)).trans ((upd_n (by decide)).trans (upd_n (by decide)))) ((upd_n (by decide)).trans ((upd_n (by decide)).trans (upd_n (by decide)))) ((upd_n (by decide)).trans ((upd_n (by decide)).trans upd_s)) (by rw [eE]; exact (upd_n (by decide)).trans upd_s) (by rw [eT]; exact upd_s) (fun q => absurd (eT.symm.trans q) (by decide))
              · skip
                rw [eq_rel (hb _ hlt) (by decide) (by decide)] at c231
                have eT : tkT T tn e = 3 := (if_pos hlt).trans ((if_neg hl).trans ((if_neg hd).trans (if_pos c231)))
                refine wk_iconst (v := 3) (q := 235) dX9_nextToken_234 rfl rfl ?_
                refine wk_goto (t := 239) dX9_nextToken_235 rfl ?_
                refine wk_pT (q := 242) fpX9_29 dX9_nextToken_239 rfl rfl rfl rfl ?_
                refine wk_aload_n (i := 0) (q := 243) dX9_nextToken_242 rfl rfl rfl ?_
                refine wk_aload_n (i := 0) (q := 244) dX9_nextToken_243 rfl rfl rfl ?_
                refine wk_gT (q := 247) fgX9_32 dX9_nextToken_244 rfl rfl ?_
                rw [upd_n (show (3 : Nat) ≠ 2 by decide), hx3]
                refine wk_iconst (v := 1) (q := 248) dX9_nextToken_247 rfl rfl ?_
                refine wk_iadd (q := 249) dX9_nextToken_248 rfl ?_
                refine wk_pT (q := 252) fpX9_19 dX9_nextToken_249 rfl rfl rfl rfl ?_
                (try rw [nI_1, ← eE])
                refine wk_return dX9_nextToken_252 rfl ?_
                first | exact hQ _ ((upd_n (by decide)).trans ((upd_n (by decide)).trans ((upd_n (by decide)).trans (upd_n (by decide))))) ((upd_n (by decide)).trans ((upd_n (by decide)).trans ((upd_n (by decide)).trans (upd_n (by decide))))) ((upd_n (by decide)).trans ((upd_n (by decide)).trans ((upd_n (by decide)).trans (upd_n (by decide))))) ((upd_n (by decide)).trans ((upd_n (by decide)).trans ((upd_n (by decide)).trans upd_s))) upd_s (by rw [eT]; exact (upd_n (by decide)).trans upd_s) (fun q => absurd (eT.symm.trans q) (by decide)) | exact hQ _ ((upd_n (by decide)).trans ((upd_n (by decide)).trans (upd_n (by decide)))) ((upd_n (by decide)).trans ((upd_n (by decide)).trans (upd_n (by decide)))) ((upd_n (by decide)).trans ((upd_n (by decide)).trans (upd_n (by decide)))) ((upd_n (by decide)).trans ((upd_n (by decide)).trans upd_s)) (by rw [eE]; exact (upd_n (by decide)).trans upd_s) (by rw [eT]; exact upd_s) (fun q => absurd (eT.symm.trans q) (by decide))
            · skip
              exact absurd hlt hq
        · skip
          exact absurd hlt hq
    · skip
      exact absurd hlt hq
  · skip
    have hlt : ¬ tkS T tn e < tn := fun h => c61 (nI_lt h (by omega))
    have eE : tkE T tn e = tkS T tn e := if_neg hlt
    have eT : tkT T tn e = 0 := if_neg hlt
    refine wk_aload_n (i := 0) (q := 65) dX9_nextToken_64 rfl rfl rfl ?_
    refine wk_iconst (v := 0) (q := 66) dX9_nextToken_65 rfl rfl ?_
    refine wk_pT (q := 69) fpX9_29 dX9_nextToken_66 rfl rfl rfl rfl ?_
    refine wk_goto (t := 252) dX9_nextToken_69 rfl ?_
    (try rw [nI_1, ← eE])
    refine wk_return dX9_nextToken_252 rfl ?_
    first | exact hQ _ ((upd_n (by decide)).trans ((upd_n (by decide)).trans ((upd_n (by decide)).trans (upd_n (by decide))))) ((upd_n (by decide)).trans ((upd_n (by decide)).trans ((upd_n (by decide)).trans (upd_n (by decide))))) ((upd_n (by decide)).trans ((upd_n (by decide)).trans ((upd_n (by decide)).trans (upd_n (by decide))))) ((upd_n (by decide)).trans ((upd_n (by decide)).trans ((upd_n (by decide)).trans upd_s))) upd_s (by rw [eT]; exact (upd_n (by decide)).trans upd_s) (fun q => absurd (eT.symm.trans q) (by decide)) | exact hQ _ ((upd_n (by decide)).trans ((upd_n (by decide)).trans (upd_n (by decide)))) ((upd_n (by decide)).trans ((upd_n (by decide)).trans (upd_n (by decide)))) ((upd_n (by decide)).trans ((upd_n (by decide)).trans (upd_n (by decide)))) ((upd_n (by decide)).trans ((upd_n (by decide)).trans upd_s)) (by rw [eE]; exact (upd_n (by decide)).trans upd_s) (by rw [eT]; exact upd_s) (fun q => absurd (eT.symm.trans q) (by decide))
end TK
