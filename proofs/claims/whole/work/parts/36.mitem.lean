/-! what a text tells, as a function; the reference's numbers -/
def wB (T : Nat → Int32) (tn p i : Nat) : Bool := decide (tkT T tn p = 1) && (decide (tkE T tn p - tkS T tn p = lnK i) && (List.range (lnK i)).all (fun k => decide (T (tkS T tn p + k) = chK i k)))
theorem wB_iff {T : Nat → Int32} {tn p i : Nat} : wB T tn p i = true ↔ isW T tn p i := by
  unfold wB isW
  rw [Bool.and_eq_true, Bool.and_eq_true, decide_eq_true_iff, decide_eq_true_iff, List.all_eq_true]
  constructor
  · intro h
    exact ⟨h.1, h.2.1, fun k hk => of_decide_eq_true (h.2.2 k (List.mem_range.mpr hk))⟩
  · intro h
    exact ⟨h.1, h.2.1, fun k hk => decide_eq_true (h.2.2 k (List.mem_range.mp hk))⟩
def numP (T : Nat → Int32) (tn p lo hi : Nat) : Prop := tkT T tn p = 2 ∧ lo ≤ tkV T tn p ∧ tkV T tn p ≤ hi
def numB (T : Nat → Int32) (tn p lo hi : Nat) : Bool := decide (tkT T tn p = 2) && (decide (lo ≤ tkV T tn p) && decide (tkV T tn p ≤ hi))
theorem numB_iff {T : Nat → Int32} {tn p lo hi : Nat} : numB T tn p lo hi = true ↔ numP T tn p lo hi := by
  unfold numB numP
  rw [Bool.and_eq_true, Bool.and_eq_true, decide_eq_true_iff, decide_eq_true_iff, decide_eq_true_iff]
def kdN (T : Nat → Int32) (tn p : Nat) : Nat := if wB T tn p 0 = true then 0 else if wB T tn p 1 = true then 1 else if wB T tn p 2 = true then 2 else if wB T tn p 3 = true then 3 else if wB T tn p 4 = true then 4 else if wB T tn p 5 = true then 5 else 6
abbrev ItR : Type := Bool × (Nat → Int32) × Nat
def thkS (T : Nat → Int32) (tn : Nat) (A : Nat → Int32) (g q : Nat) : ItR := if wB T tn q 7 = true then (if numB T tn (tkE T tn q) 1 99 = true then (true, upd A (5 + 7 * g + 3) (nI (tkV T tn (tkE T tn q))), tkE T tn (tkE T tn q)) else (false, A, tkE T tn q)) else (true, A, q)
def spnS (T : Nat → Int32) (tn : Nat) (A : Nat → Int32) (g q : Nat) : ItR := if wB T tn q 6 = true then (if numB T tn (tkE T tn q) 10 200 = true then (if numB T tn (tkE T tn (tkE T tn q)) 10 200 = true then thkS T tn (upd (upd A (5 + 7 * g + 1) (nI (tkV T tn (tkE T tn q)))) (5 + 7 * g + 2) (nI (tkV T tn (tkE T tn (tkE T tn q))))) g (tkE T tn (tkE T tn (tkE T tn q))) else (false, A, tkE T tn (tkE T tn q))) else (false, A, tkE T tn q)) else thkS T tn A g q
def perS (T : Nat → Int32) (tn : Nat) (A : Nat → Int32) (p : Nat) : ItR := if pA A < 6 then (if numB T tn (tkE T tn p) 10 200 = true then (if numB T tn (tkE T tn (tkE T tn p)) 10 200 = true then (true, addP A (nI (tkV T tn (tkE T tn p))) (nI (tkV T tn (tkE T tn (tkE T tn p)))), tkE T tn (tkE T tn (tkE T tn p))) else (false, A, tkE T tn (tkE T tn p))) else (false, A, tkE T tn p)) else (false, A, p)
def degS (T : Nat → Int32) (tn : Nat) (A : Nat → Int32) (p : Nat) : ItR := if numB T tn (tkE T tn p) 20 95 = true then (true, upd A 3 (nI (tkV T tn (tkE T tn p))), tkE T tn (tkE T tn p)) else (false, A, tkE T tn p)
def wasS (T : Nat → Int32) (tn : Nat) (A : Nat → Int32) (p : Nat) : ItR := if tkT T tn (tkE T tn p) = 2 ∧ tkV T tn (tkE T tn p) < cA A then (true, gput A (tkV T tn (tkE T tn p)) (wshG (A 3) (A 4) (gv A (tkV T tn (tkE T tn p)))), tkE T tn (tkE T tn p)) else (false, A, tkE T tn p)
def garS (T : Nat → Int32) (tn : Nat) (A : Nat → Int32) (p k : Nat) : ItR := if cA A < 8 then spnS T tn (addA A (nI k)) (cA A) (tkE T tn p) else (false, A, p)
def itmS (T : Nat → Int32) (tn : Nat) (A : Nat → Int32) (p : Nat) : ItR := if kdN T tn p < 6 then garS T tn A p (kdN T tn p) else if wB T tn p 8 = true then perS T tn A p else if wB T tn p 9 = true then degS T tn A p else if wB T tn p 10 = true then wasS T tn A p else if wB T tn p 11 = true then (true, upd A 4 1, tkE T tn p) else if wB T tn p 12 = true then (true, upd A 4 0, tkE T tn p) else (false, A, p)
theorem isW_uq {T : Nat → Int32} {tn p i j : Nat} (hi : i < 13) (hj : j < 13) (h1 : isW T tn p i) (h2 : isW T tn p j) : i = j := by
  have e := (wd_iff hi).mpr h1
  have e2 := (wd_iff hj).mpr h2
  have b1 := cdP_b i hi (lnK i) (Nat.le_refl _)
  have b2 := cdP_b j hj (lnK j) (Nat.le_refl _)
  have e3 : cdP i (lnK i) = cdP j (lnK j) := by
    have := congrArg Int64.toInt (e.symm.trans e2)
    rw [lN_ti (by omega), lN_ti (by omega)] at this
    omega
  have key : ∀ i, i < 13 → ∀ j, j < 13 → cdP i (lnK i) = cdP j (lnK j) → i = j := by decide +kernel
  exact key i hi j hj e3
theorem kdN_of {T : Nat → Int32} {tn p k : Nat} (hk : k < 6) (h : isW T tn p k) : kdN T tn p = k := by
  have hn : ∀ j, j < 6 → j ≠ k → ¬ wB T tn p j = true := fun j hj hne hw => hne (isW_uq (by omega) (by omega) (wB_iff.mp hw) h)
  have hy := wB_iff.mpr h
  unfold kdN
  obtain rfl | rfl | rfl | rfl | rfl | rfl : k = 0 ∨ k = 1 ∨ k = 2 ∨ k = 3 ∨ k = 4 ∨ k = 5 := by omega
  · rw [if_pos hy]
  · rw [if_neg (hn 0 (by decide) (by decide)), if_pos hy]
  · rw [if_neg (hn 0 (by decide) (by decide)), if_neg (hn 1 (by decide) (by decide)), if_pos hy]
  · rw [if_neg (hn 0 (by decide) (by decide)), if_neg (hn 1 (by decide) (by decide)), if_neg (hn 2 (by decide) (by decide)), if_pos hy]
  · rw [if_neg (hn 0 (by decide) (by decide)), if_neg (hn 1 (by decide) (by decide)), if_neg (hn 2 (by decide) (by decide)), if_neg (hn 3 (by decide) (by decide)), if_pos hy]
  · rw [if_neg (hn 0 (by decide) (by decide)), if_neg (hn 1 (by decide) (by decide)), if_neg (hn 2 (by decide) (by decide)), if_neg (hn 3 (by decide) (by decide)), if_neg (hn 4 (by decide) (by decide)), if_pos hy]
theorem kdN_no {T : Nat → Int32} {tn p : Nat} (h : ∀ k, k < 6 → ¬ isW T tn p k) : kdN T tn p = 6 := by
  have hn : ∀ j, j < 6 → ¬ wB T tn p j = true := fun j hj hw => h j hj (wB_iff.mp hw)
  unfold kdN
  rw [if_neg (hn 0 (by decide)), if_neg (hn 1 (by decide)), if_neg (hn 2 (by decide)), if_neg (hn 3 (by decide)), if_neg (hn 4 (by decide)), if_neg (hn 5 (by decide))]
theorem tk_dg {T : Nat → Int32} {tn p : Nat} (h : tkT T tn p = 2) : ∀ x, x < tkE T tn p - tkS T tn p → dgB (T (tkS T tn p + x)) = true := by
  obtain ⟨h1, h2⟩ := tkT_2.mp h
  have hl : ¬ ltB (T (tkS T tn p)) = true := fun q => lt_dg q h2
  have e : tkE T tn p = runP dgB T tn 200 (tkS T tn p) := (if_pos h1).trans ((if_neg hl).trans (if_pos h2))
  intro x hx
  rw [e] at hx
  exact (runP_in (P := dgB) (T := T) (tn := tn) 200 (tkS T tn p) (tkS T tn p + x) (by omega) (by omega)).2
theorem dg_dgt {T : Nat → Int32} {i : Nat} (hd : dgB (T i) = true) : (T i).toInt = 48 + dgt T i ∧ dgt T i ≤ 9 := by
  unfold dgB at hd
  rw [decide_eq_true_iff, fa_le, fa_le, show (48 : Int32).toInt = 48 by decide, show (57 : Int32).toInt = 57 by decide] at hd
  unfold dgt
  omega
theorem tkV_b {T : Nat → Int32} {tn p : Nat} (h : tkT T tn p = 2) : tkV T tn p ≤ 9999 := nv_b _ (fun k hk => (dg_dgt (tk_dg h k hk)).2)
theorem nm_st {a d : Nat} {c : Int32} (ha : a ≤ 999) (hc : c.toInt = 48 + d) (hd : d ≤ 9) : 10 * nI a + c - 48 = nI (10 * a + d) := by
  have e48 : (48 : Int32).toInt = 48 := by decide
  have e1 : 10 * nI a = nI (10 * a) := by rw [show (10 : Int32) = nI 10 from rfl, nI_mul]
  have e2 := nI_toInt (n := 10 * a) (by omega)
  have e3 : (nI (10 * a) + c).toInt = 10 * a + 48 + d := by
    rw [ad_i (by omega) (by omega), e2, hc]
    omega
  rw [e1, fa_eq, sb_i (by omega) (by omega), e3, e48, nI_toInt (by omega)]
  omega
section MN
variable {E : EVt} {m : Mm} {L : Ml} {Q : Value → Mm → Ml → Prop} {S A : Nat → Int32} {tn p : Nat}
theorem lp_X12_number {lo hi : Int32} (ht : tn ≤ 120) (hp : p ≤ tn) (hM : MS S tn (m 78) p) (hT : tkT (m 78) tn p = 2) (hQ : WK E 5 MX12_number 79 [(0, .ref (ev_z E + 72)), (1, .int lo), (2, .int hi), (3, .int 1), (4, .int (nI (tkV (m 78) tn p)))] [] (wr (wr m 72 S) 73 A) L Q) : ∀ (r k : Nat), k + r = tkE (m 78) tn p - tkS (m 78) tn p → WK E 5 MX12_number 29 [(0, .ref (ev_z E + 72)), (1, .int lo), (2, .int hi), (3, .int 1), (4, .int (nI (nv (m 78) (tkS (m 78) tn p) k))), (5, .int (nI (tkS (m 78) tn p + k)))] [] (wr (wr m 72 S) 73 A) L Q := by
  obtain ⟨h7, h8, h9, h11⟩ := hM
  have he := tkE_ub (T := m 78) hp
  have hse := tkE_le (T := m 78) (tn := tn) (e := p)
  intro r
  induction r with
  | zero =>
    intro k hk
    have ek : k = tkE (m 78) tn p - tkS (m 78) tn p := by omega
    subst ek
    refine wk_iload (i := 5) (q := 31) dX12_number_29 rfl rfl ?_
    refine wk_aload_n (i := 0) (q := 32) dX12_number_31 rfl rfl rfl ?_
    refine wk_gM (q := 35) fgX12_205 dX12_number_32 rfl rfl ?_
    rw [h9]
    refine wk_icmp_ge (t := 79) (q := 38) dX12_number_35 rfl rfl (fun c35 => ?_) (fun h => absurd (nI_le (by omega) (by omega)) h)
    refine wk_pick [0, 1, 2, 3, 4] (lv' := [_, _, _, _, _]) rfl ?_
    exact hQ
  | succ r ih =>
    intro k hk
    have hd := dg_dgt (tk_dg hT k (by omega))
    have hb := nv_b (T := m 78) (j := tkS (m 78) tn p) k (fun x hx => (dg_dgt (tk_dg hT x (by omega))).2)
    have hst : nv (m 78) (tkS (m 78) tn p) (k + 1) = if 999 < nv (m 78) (tkS (m 78) tn p) k then nv (m 78) (tkS (m 78) tn p) k else 10 * nv (m 78) (tkS (m 78) tn p) k + dgt (m 78) (tkS (m 78) tn p + k) := rfl
    refine wk_iload (i := 5) (q := 31) dX12_number_29 rfl rfl ?_
    refine wk_aload_n (i := 0) (q := 32) dX12_number_31 rfl rfl rfl ?_
    refine wk_gM (q := 35) fgX12_205 dX12_number_32 rfl rfl ?_
    rw [h9]
    refine wk_icmp_ge (t := 79) (q := 38) dX12_number_35 rfl rfl (fun h => absurd h (nI_ge (by omega) (by omega))) (fun c35 => ?_)
    refine wk_iload_n (i := 3) (q := 39) dX12_number_38 rfl rfl rfl ?_
    refine wk_if_eq (t := 79) (q := 42) dX12_number_39 rfl rfl (fun h => absurd h (by decide)) (fun _ => ?_)
    refine wk_iload (i := 4) (q := 44) dX12_number_42 rfl rfl ?_
    refine wk_sipush (v := 999) (q := 47) dX12_number_44 rfl rfl ?_
    refine wk_icmp_le (t := 55) (q := 50) dX12_number_47 rfl rfl (fun c47 => ?_) (fun c47 => ?_)
    · skip
      have hle : ¬ 999 < nv (m 78) (tkS (m 78) tn p) k := fun h => absurd c47 (nI_ge (a := 999) h (by omega))
      rw [if_neg hle] at hst
      refine wk_bipush (v := 10) (q := 57) dX12_number_55 rfl rfl ?_
      refine wk_iload (i := 4) (q := 59) dX12_number_57 rfl rfl ?_
      refine wk_imul (q := 60) dX12_number_59 rfl ?_
      refine wk_aload_n (i := 0) (q := 61) dX12_number_60 rfl rfl rfl ?_
      refine wk_get (q := 64) fgX12_25 dX12_number_61 rfl rfl rfl rfl ?_
      refine wk_iload (i := 5) (q := 66) dX12_number_64 rfl rfl ?_
      refine wk_iald (n := (tkS (m 78) tn p + k)) (q := 67) dX12_number_66 rfl rfl (by show _ < 120; omega) rfl ?_
      rw [wr_n (show (78 : Nat) ≠ 73 by decide), wr_n (show (78 : Nat) ≠ 72 by decide)]
      refine wk_iadd (q := 68) dX12_number_67 rfl ?_
      refine wk_bipush (v := 48) (q := 70) dX12_number_68 rfl rfl ?_
      refine wk_isub (q := 71) dX12_number_70 rfl ?_
      refine wk_istore (i := 4) (q := 73) (lv' := [_, _, _, _, _, _]) dX12_number_71 rfl rfl rfl ?_
      refine wk_iinc (w := 1) (q := 76) (lv' := [_, _, _, _, _, _]) dX12_number_73 rfl rfl rfl rfl rfl ?_
      rw [nI_1]
      refine wk_goto (t := 29) dX12_number_76 rfl ?_
      have hr := ih (k + 1) (by omega)
      rw [hst] at hr
      first | exact hr | (rw [show 10 * nI (nv (m 78) (tkS (m 78) tn p) k) + m 78 (tkS (m 78) tn p + k) - 48 = nI (10 * nv (m 78) (tkS (m 78) tn p) k + dgt (m 78) (tkS (m 78) tn p + k)) from nm_st (by omega) hd.1 hd.2]; exact hr)
    · skip
      have hle : 999 < nv (m 78) (tkS (m 78) tn p) k := by (rcases Nat.lt_or_ge 999 (nv (m 78) (tkS (m 78) tn p) k) with h | h; exact h; exact absurd (nI_le (b := 999) h (by omega)) c47)
      rw [if_pos hle] at hst
      refine wk_iload (i := 4) (q := 52) dX12_number_50 rfl rfl ?_
      refine wk_goto (t := 71) dX12_number_52 rfl ?_
      refine wk_istore (i := 4) (q := 73) (lv' := [_, _, _, _, _, _]) dX12_number_71 rfl rfl rfl ?_
      refine wk_iinc (w := 1) (q := 76) (lv' := [_, _, _, _, _, _]) dX12_number_73 rfl rfl rfl rfl rfl ?_
      rw [nI_1]
      refine wk_goto (t := 29) dX12_number_76 rfl ?_
      have hr := ih (k + 1) (by omega)
      rw [hst] at hr
      first | exact hr | (rw [show 10 * nI (nv (m 78) (tkS (m 78) tn p) k) + m 78 (tkS (m 78) tn p + k) - 48 = nI (10 * nv (m 78) (tkS (m 78) tn p) k + dgt (m 78) (tkS (m 78) tn p + k)) from nm_st (by omega) hd.1 hd.2]; exact hr)
theorem ck_numberI {lo hi : Int32} (ht : tn ≤ 120) (hp : p ≤ tn) (hM : MS S tn (m 78) p) (h1 : (tkT (m 78) tn p = 2 ∧ lo ≤ nI (tkV (m 78) tn p) ∧ nI (tkV (m 78) tn p) ≤ hi) → ∀ S', MS S' tn (m 78) (tkE (m 78) tn p) → S' 5 = S 5 → S' 10 = nI (tkV (m 78) tn p) → Q .null (wr (wr m 72 S') 73 A) L) (h0 : ¬ (tkT (m 78) tn p = 2 ∧ lo ≤ nI (tkV (m 78) tn p) ∧ nI (tkV (m 78) tn p) ≤ hi) → ∀ S', WS S' tn (m 78) p → S' 5 = S 5 → Q .null (wr (wr m 72 S') 73 A) L) : CK E 5 MX12_number [.ref (ev_z E + 72), .int lo, .int hi] (wr (wr m 72 S) 73 A) L Q := by
  have hM0 := hM
  obtain ⟨h7, h8, h9, h11⟩ := hM0
  have he := tkE_ub (T := m 78) hp
  have hse := tkE_le (T := m 78) (tn := tn) (e := p)
  by_cases hT : tkT (m 78) tn p = 2
  · have hx2 := tkT_2.mp hT
    have hvb := tkV_b hT
    have hM2 : MS (upd S 10 (nI (tkV (m 78) tn p))) tn (m 78) p := ⟨(upd_n (by decide)).trans h7, (upd_n (by decide)).trans h8, (upd_n (by decide)).trans h9, (upd_n (by decide)).trans h11⟩
    have tail : WK E 5 MX12_number 79 [(0, .ref (ev_z E + 72)), (1, .int lo), (2, .int hi), (3, .int 1), (4, .int (nI (tkV (m 78) tn p)))] [] (wr (wr m 72 S) 73 A) L Q := by
      refine wk_aload_n (i := 0) (q := 80) dX12_number_79 rfl rfl rfl ?_
      refine wk_iload (i := 4) (q := 82) dX12_number_80 rfl rfl ?_
      refine wk_pM (q := 85) fpX12_231 dX12_number_82 rfl rfl rfl rfl ?_
      refine wk_aload_n (i := 0) (q := 86) dX12_number_85 rfl rfl rfl ?_
      refine wk_iload_n (i := 3) (q := 87) dX12_number_86 rfl rfl rfl ?_
      refine wk_if_eq (t := 107) (q := 90) dX12_number_87 rfl rfl (fun h => absurd h (by decide)) (fun _ => ?_)
      refine wk_iload (i := 4) (q := 92) dX12_number_90 rfl rfl ?_
      refine wk_i2l (q := 93) dX12_number_92 rfl ?_
      refine wk_iload_n (i := 1) (q := 94) dX12_number_93 rfl rfl rfl ?_
      refine wk_i2l (q := 95) dX12_number_94 rfl ?_
      refine wk_iload_n (i := 2) (q := 96) dX12_number_95 rfl rfl rfl ?_
      refine wk_i2l (q := 97) dX12_number_96 rfl ?_
      refine wk_S3r (d' := 1) (q := 100) lkX12_46 dX12_number_97 rfl rfl rfl rfl ?_
      refine ck_X12_in   (fun hw => ?_) (fun hw => ?_)
      · skip
        have hnp := And.intro hT hw
        refine wk_if_eq (t := 107) (q := 103) dX12_number_100 rfl rfl (fun h => absurd h (by decide)) (fun _ => ?_)
        refine wk_iconst (v := 1) (q := 104) dX12_number_103 rfl rfl ?_
        refine wk_goto (t := 108) dX12_number_104 rfl ?_
        refine wk_V1v (d' := 4) (q := 111) lkX12_234 dX12_number_108 rfl rfl rfl rfl rfl rfl rfl ?_
        refine ck_must1 ht hp hM2 (fun S1 hM1 e5 e10 => ?_)
        refine wk_return dX12_number_111 rfl ?_
        first | exact h1 hnp _ hM1 (e5.trans (upd_n (by decide))) (e10.trans upd_s) | exact h0 hnp _ hW1 (e5.trans (upd_n (by decide)))
      · skip
        have hnp : ¬ (tkT (m 78) tn p = 2 ∧ lo ≤ nI (tkV (m 78) tn p) ∧ nI (tkV (m 78) tn p) ≤ hi) := fun h => hw h.2
        refine wk_if_eq (t := 107) (q := 103) dX12_number_100 rfl rfl (fun _ => ?_) (fun h => absurd (by decide) h)
        refine wk_iconst (v := 0) (q := 108) dX12_number_107 rfl rfl ?_
        refine wk_V1v (d' := 4) (q := 111) lkX12_234 dX12_number_108 rfl rfl rfl rfl rfl rfl rfl ?_
        refine ck_must0 hM2 (fun S1 hW1 e5 => ?_)
        refine wk_return dX12_number_111 rfl ?_
        first | exact h1 hnp _ hM1 (e5.trans (upd_n (by decide))) (e10.trans upd_s) | exact h0 hnp _ hW1 (e5.trans (upd_n (by decide)))
    refine CK.of rfl rfl (lv := [(0, _), (1, _), (2, _)]) rfl ?_
    refine wk_aload_n (i := 0) (q := 1) dX12_number_0 rfl rfl rfl ?_
    refine wk_gM (q := 4) fgX12_220 dX12_number_1 rfl rfl ?_
    rw [h11]
    refine wk_if_eq (t := 8) (q := 7) dX12_number_4 rfl rfl (fun _ => ?_) (fun h => absurd (by decide) h)
    refine wk_aload_n (i := 0) (q := 9) dX12_number_8 rfl rfl rfl ?_
    refine wk_aload_n (i := 0) (q := 10) dX12_number_9 rfl rfl rfl ?_
    refine wk_gM (q := 13) fgX12_208 dX12_number_10 rfl rfl ?_
    rw [h8]
    refine wk_V1r (d' := 1) (q := 16) lkX12_211 dX12_number_13 rfl rfl rfl rfl rfl rfl rfl ?_
    refine ck_X12_byteAt (n := tkS (m 78) tn p) h7 ht (by omega) (fun hx => ?_) (fun hx => ?_)
    · skip
      refine wk_S1r (d' := 2) (q := 19) lkX12_217 dX12_number_16 rfl rfl rfl rfl ?_
      refine ck_X12_isDigit (fun hd => ?_) (fun hd => ?_)
      · skip
        refine wk_istore_n (i := 3) (q := 20) (lv' := [_, _, _, _]) dX12_number_19 rfl rfl rfl rfl ?_
        refine wk_iconst (v := 0) (q := 21) dX12_number_20 rfl rfl ?_
        refine wk_istore (i := 4) (q := 23) (lv' := [_, _, _, _, _]) dX12_number_21 rfl rfl rfl ?_
        refine wk_aload_n (i := 0) (q := 24) dX12_number_23 rfl rfl rfl ?_
        refine wk_gM (q := 27) fgX12_208 dX12_number_24 rfl rfl ?_
        rw [h8]
        refine wk_istore (i := 5) (q := 29) (lv' := [_, _, _, _, _, _]) dX12_number_27 rfl rfl rfl ?_
        exact lp_X12_number ht hp hM hT tail (tkE (m 78) tn p - tkS (m 78) tn p) 0 (by omega)
      · skip
        exact absurd hx2.2 hd
    · skip
      exact absurd hx2.1 hx
  · have hM2 : MS (upd S 10 0) tn (m 78) p := ⟨(upd_n (by decide)).trans h7, (upd_n (by decide)).trans h8, (upd_n (by decide)).trans h9, (upd_n (by decide)).trans h11⟩
    have hnp : ¬ (tkT (m 78) tn p = 2 ∧ lo ≤ nI (tkV (m 78) tn p) ∧ nI (tkV (m 78) tn p) ≤ hi) := fun h => hT h.1
    refine CK.of rfl rfl (lv := [(0, _), (1, _), (2, _)]) rfl ?_
    refine wk_aload_n (i := 0) (q := 1) dX12_number_0 rfl rfl rfl ?_
    refine wk_gM (q := 4) fgX12_220 dX12_number_1 rfl rfl ?_
    rw [h11]
    refine wk_if_eq (t := 8) (q := 7) dX12_number_4 rfl rfl (fun _ => ?_) (fun h => absurd (by decide) h)
    refine wk_aload_n (i := 0) (q := 9) dX12_number_8 rfl rfl rfl ?_
    refine wk_aload_n (i := 0) (q := 10) dX12_number_9 rfl rfl rfl ?_
    refine wk_gM (q := 13) fgX12_208 dX12_number_10 rfl rfl ?_
    rw [h8]
    refine wk_V1r (d' := 1) (q := 16) lkX12_211 dX12_number_13 rfl rfl rfl rfl rfl rfl rfl ?_
    refine ck_X12_byteAt (n := tkS (m 78) tn p) h7 ht (by omega) (fun hx => ?_) (fun hx => ?_)
    · skip
      refine wk_S1r (d' := 2) (q := 19) lkX12_217 dX12_number_16 rfl rfl rfl rfl ?_
      refine ck_X12_isDigit (fun hd => ?_) (fun hd => ?_)
      · skip
        exact absurd (tkT_2.mpr ⟨hx, hd⟩) hT
      · skip
        refine wk_istore_n (i := 3) (q := 20) (lv' := [_, _, _, _]) dX12_number_19 rfl rfl rfl rfl ?_
        refine wk_iconst (v := 0) (q := 21) dX12_number_20 rfl rfl ?_
        refine wk_istore (i := 4) (q := 23) (lv' := [_, _, _, _, _]) dX12_number_21 rfl rfl rfl ?_
        refine wk_aload_n (i := 0) (q := 24) dX12_number_23 rfl rfl rfl ?_
        refine wk_gM (q := 27) fgX12_208 dX12_number_24 rfl rfl ?_
        refine wk_istore (i := 5) (q := 29) (lv' := [_, _, _, _, _, _]) dX12_number_27 rfl rfl rfl ?_
        refine wk_iload (i := 5) (q := 31) dX12_number_29 rfl rfl ?_
        refine wk_aload_n (i := 0) (q := 32) dX12_number_31 rfl rfl rfl ?_
        refine wk_gM (q := 35) fgX12_205 dX12_number_32 rfl rfl ?_
        refine wk_icmp_ge (t := 79) (q := 38) dX12_number_35 rfl rfl (fun c35 => ?_) (fun c35 => ?_)
        · skip
          refine wk_aload_n (i := 0) (q := 80) dX12_number_79 rfl rfl rfl ?_
          refine wk_iload (i := 4) (q := 82) dX12_number_80 rfl rfl ?_
          refine wk_pM (q := 85) fpX12_231 dX12_number_82 rfl rfl rfl rfl ?_
          refine wk_aload_n (i := 0) (q := 86) dX12_number_85 rfl rfl rfl ?_
          refine wk_iload_n (i := 3) (q := 87) dX12_number_86 rfl rfl rfl ?_
          refine wk_if_eq (t := 107) (q := 90) dX12_number_87 rfl rfl (fun _ => ?_) (fun h => absurd (by decide) h)
          refine wk_iconst (v := 0) (q := 108) dX12_number_107 rfl rfl ?_
          refine wk_V1v (d' := 4) (q := 111) lkX12_234 dX12_number_108 rfl rfl rfl rfl rfl rfl rfl ?_
          refine ck_must0 hM2 (fun S1 hW1 e5 => ?_)
          refine wk_return dX12_number_111 rfl ?_
          exact h0 hnp _ hW1 (e5.trans (upd_n (by decide)))
        · skip
          refine wk_iload_n (i := 3) (q := 39) dX12_number_38 rfl rfl rfl ?_
          refine wk_if_eq (t := 79) (q := 42) dX12_number_39 rfl rfl (fun _ => ?_) (fun h => absurd (by decide) h)
          refine wk_aload_n (i := 0) (q := 80) dX12_number_79 rfl rfl rfl ?_
          refine wk_iload (i := 4) (q := 82) dX12_number_80 rfl rfl ?_
          refine wk_pM (q := 85) fpX12_231 dX12_number_82 rfl rfl rfl rfl ?_
          refine wk_aload_n (i := 0) (q := 86) dX12_number_85 rfl rfl rfl ?_
          refine wk_iload_n (i := 3) (q := 87) dX12_number_86 rfl rfl rfl ?_
          refine wk_if_eq (t := 107) (q := 90) dX12_number_87 rfl rfl (fun _ => ?_) (fun h => absurd (by decide) h)
          refine wk_iconst (v := 0) (q := 108) dX12_number_107 rfl rfl ?_
          refine wk_V1v (d' := 4) (q := 111) lkX12_234 dX12_number_108 rfl rfl rfl rfl rfl rfl rfl ?_
          refine ck_must0 hM2 (fun S1 hW1 e5 => ?_)
          refine wk_return dX12_number_111 rfl ?_
          exact h0 hnp _ hW1 (e5.trans (upd_n (by decide)))
    · skip
      refine wk_S1r (d' := 2) (q := 19) lkX12_217 dX12_number_16 rfl rfl rfl rfl ?_
      refine ck_X12_isDigit (fun hd => ?_) (fun hd => ?_)
      · skip
        exact absurd hd (by decide)
      · skip
        refine wk_istore_n (i := 3) (q := 20) (lv' := [_, _, _, _]) dX12_number_19 rfl rfl rfl rfl ?_
        refine wk_iconst (v := 0) (q := 21) dX12_number_20 rfl rfl ?_
        refine wk_istore (i := 4) (q := 23) (lv' := [_, _, _, _, _]) dX12_number_21 rfl rfl rfl ?_
        refine wk_aload_n (i := 0) (q := 24) dX12_number_23 rfl rfl rfl ?_
        refine wk_gM (q := 27) fgX12_208 dX12_number_24 rfl rfl ?_
        refine wk_istore (i := 5) (q := 29) (lv' := [_, _, _, _, _, _]) dX12_number_27 rfl rfl rfl ?_
        refine wk_iload (i := 5) (q := 31) dX12_number_29 rfl rfl ?_
        refine wk_aload_n (i := 0) (q := 32) dX12_number_31 rfl rfl rfl ?_
        refine wk_gM (q := 35) fgX12_205 dX12_number_32 rfl rfl ?_
        refine wk_icmp_ge (t := 79) (q := 38) dX12_number_35 rfl rfl (fun c35 => ?_) (fun c35 => ?_)
        · skip
          refine wk_aload_n (i := 0) (q := 80) dX12_number_79 rfl rfl rfl ?_
          refine wk_iload (i := 4) (q := 82) dX12_number_80 rfl rfl ?_
          refine wk_pM (q := 85) fpX12_231 dX12_number_82 rfl rfl rfl rfl ?_
          refine wk_aload_n (i := 0) (q := 86) dX12_number_85 rfl rfl rfl ?_
          refine wk_iload_n (i := 3) (q := 87) dX12_number_86 rfl rfl rfl ?_
          refine wk_if_eq (t := 107) (q := 90) dX12_number_87 rfl rfl (fun _ => ?_) (fun h => absurd (by decide) h)
          refine wk_iconst (v := 0) (q := 108) dX12_number_107 rfl rfl ?_
          refine wk_V1v (d' := 4) (q := 111) lkX12_234 dX12_number_108 rfl rfl rfl rfl rfl rfl rfl ?_
          refine ck_must0 hM2 (fun S1 hW1 e5 => ?_)
          refine wk_return dX12_number_111 rfl ?_
          exact h0 hnp _ hW1 (e5.trans (upd_n (by decide)))
        · skip
          refine wk_iload_n (i := 3) (q := 39) dX12_number_38 rfl rfl rfl ?_
          refine wk_if_eq (t := 79) (q := 42) dX12_number_39 rfl rfl (fun _ => ?_) (fun h => absurd (by decide) h)
          refine wk_aload_n (i := 0) (q := 80) dX12_number_79 rfl rfl rfl ?_
          refine wk_iload (i := 4) (q := 82) dX12_number_80 rfl rfl ?_
          refine wk_pM (q := 85) fpX12_231 dX12_number_82 rfl rfl rfl rfl ?_
          refine wk_aload_n (i := 0) (q := 86) dX12_number_85 rfl rfl rfl ?_
          refine wk_iload_n (i := 3) (q := 87) dX12_number_86 rfl rfl rfl ?_
          refine wk_if_eq (t := 107) (q := 90) dX12_number_87 rfl rfl (fun _ => ?_) (fun h => absurd (by decide) h)
          refine wk_iconst (v := 0) (q := 108) dX12_number_107 rfl rfl ?_
          refine wk_V1v (d' := 4) (q := 111) lkX12_234 dX12_number_108 rfl rfl rfl rfl rfl rfl rfl ?_
          refine ck_must0 hM2 (fun S1 hW1 e5 => ?_)
          refine wk_return dX12_number_111 rfl ?_
          exact h0 hnp _ hW1 (e5.trans (upd_n (by decide)))
theorem ck_number {lo hi : Nat} (hlo : lo < 10000) (hhi : hi < 10000) (ht : tn ≤ 120) (hp : p ≤ tn) (hM : MS S tn (m 78) p) (h1 : numP (m 78) tn p lo hi → ∀ S', MS S' tn (m 78) (tkE (m 78) tn p) → S' 5 = S 5 → S' 10 = nI (tkV (m 78) tn p) → Q .null (wr (wr m 72 S') 73 A) L) (h0 : ¬ numP (m 78) tn p lo hi → ∀ S', WS S' tn (m 78) p → S' 5 = S 5 → Q .null (wr (wr m 72 S') 73 A) L) : CK E 5 MX12_number [.ref (ev_z E + 72), .int (nI lo), .int (nI hi)] (wr (wr m 72 S) 73 A) L Q :=
  ck_numberI ht hp hM (fun h => h1 (by have := tkV_b h.1; exact ⟨h.1, (nI_leI (by omega) (by omega)).mp h.2.1, (nI_leI (by omega) (by omega)).mp h.2.2⟩)) (fun h => h0 (fun q => h (by have := tkV_b q.1; exact ⟨q.1, nI_le q.2.1 (by omega), nI_le q.2.2 (by omega)⟩)))
theorem ck_number_w {lo hi : Int32} (hW : WS S tn (m 78) p) (hQ : Q .null (wr (wr m 72 S) 73 A) L) : CK E 5 MX12_number [.ref (ev_z E + 72), .int lo, .int hi] (wr (wr m 72 S) 73 A) L Q := by
  refine CK.of rfl rfl (lv := [(0, _), (1, _), (2, _)]) rfl ?_
  refine wk_aload_n (i := 0) (q := 1) dX12_number_0 rfl rfl rfl ?_
  refine wk_gM (q := 4) fgX12_220 dX12_number_1 rfl rfl ?_
  rw [hW.2.2.2]
  refine wk_if_eq (t := 8) (q := 7) dX12_number_4 rfl rfl (fun h => absurd h (by decide)) (fun _ => ?_)
  refine wk_return dX12_number_7 rfl ?_
  exact hQ
end MN
