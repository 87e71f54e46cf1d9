/-! the reference's basket, whole -/
section ML
variable {E : EVt} {m : Mm} {L : Ml} {Q : Value → Mm → Ml → Prop} {S A : Nat → Int32} {tn p D : Nat}
theorem bskT_le {T : Nat → Int32} {tn : Nat} : ∀ f A p n, p ≤ tn → (bskT T tn f A p n).2.2.1 ≤ tn
  | 0, A, p, n, h => h
  | f + 1, A, p, n, h => by
    have hl := itm_le (T := T) (A := A) (tkE_ub (T := T) h)
    unfold bskT
    split
    · exact h
    · split
      · split
        · exact bskT_le f _ _ _ hl.2
        · exact hl.2
      · exact h
theorem b4_X12_basket (e75 : eq73 (m 75) A) (h7 : S 7 = nI tn) (ht : tn ≤ 120) (hO : okA D A) (h1 : ∀ A' p' n' S', bskF (m 78) tn A = (true, A', p', n') → S' 5 = S 5 → S' 7 = 0 → Q (.int (nI n')) (wr (wr m 72 S') 73 A') L) (h0 : ∀ A0 p' n' S' A2, bskF (m 78) tn A = (false, A0, p', n') → S' 5 = S 5 → S' 7 = 0 → eq73 A2 A → Q (.int (-1 - nI (tkS (m 78) tn p'))) (wr (wr m 72 S') 73 A2) L) : WK E 8 MX12_basket 4 [(0, .ref (ev_z E + 72))] [] (wr (wr m 72 S) 73 A) L Q := by
  have hR : bskF (m 78) tn A = if (itmS (m 78) tn A 0).1 = true then bskT (m 78) tn 121 (itmS (m 78) tn A 0).2.1 (itmS (m 78) tn A 0).2.2 1 else (false, A, (itmS (m 78) tn A 0).2.2, 1) := rfl
  refine wk_aload_n (i := 0) (q := 5) dX12_basket_4 rfl rfl rfl ?_
  refine wk_iconst (v := 0) (q := 6) dX12_basket_5 rfl rfl ?_
  refine wk_pM (q := 9) fpX12_220 dX12_basket_6 rfl rfl rfl rfl ?_
  refine wk_aload_n (i := 0) (q := 10) dX12_basket_9 rfl rfl rfl ?_
  refine wk_iconst (v := 0) (q := 11) dX12_basket_10 rfl rfl ?_
  refine wk_pM (q := 14) fpX12_205 dX12_basket_11 rfl rfl rfl rfl ?_
  refine wk_aload_n (i := 0) (q := 15) dX12_basket_14 rfl rfl rfl ?_
  refine wk_V0v (d' := 3) (q := 18) lkX12_224 dX12_basket_15 rfl rfl rfl rfl rfl rfl rfl ?_
  refine ck_X12_token (e := 0) ht (by omega) ((upd_n (by decide)).trans ((upd_n (by decide)).trans h7)) upd_s ?_
  have hM : MS (upd (upd (upd (upd S 11 0) 9 0) 8 (nI (tkS (m 78) tn 0))) 9 (nI (tkE (m 78) tn 0))) tn (m 78) 0 := ⟨(upd_n (by decide)).trans ((upd_n (by decide)).trans ((upd_n (by decide)).trans ((upd_n (by decide)).trans h7))), (upd_n (by decide)).trans upd_s, upd_s, (upd_n (by decide)).trans ((upd_n (by decide)).trans ((upd_n (by decide)).trans upd_s))⟩
  have e50 : upd (upd (upd (upd S 11 0) 9 0) 8 (nI (tkS (m 78) tn 0))) 9 (nI (tkE (m 78) tn 0)) 5 = S 5 := (upd_n (by decide)).trans ((upd_n (by decide)).trans ((upd_n (by decide)).trans (upd_n (by decide))))
  refine wk_iconst (v := 1) (q := 19) dX12_basket_18 rfl rfl ?_
  refine wk_istore_n (i := 1) (q := 20) (lv' := [_, _]) dX12_basket_19 rfl rfl rfl rfl ?_
  refine wk_aload_n (i := 0) (q := 21) dX12_basket_20 rfl rfl rfl ?_
  refine wk_V0v (d' := 7) (q := 24) lkX12_292 dX12_basket_21 rfl rfl rfl rfl rfl rfl rfl ?_
  refine ck_X12_item ht (Nat.zero_le _) hM hO (fun A1 p1 S2 hr hM2 e52 => ?_) (fun A0 p1 S2 A1 hr hW2 e52 hhi => ?_)
  · skip
    have hle := itm_le (T := m 78) (A := A) (Nat.zero_le tn)
    rw [hr] at hle hR
    have hle : 0 ≤ p1 ∧ p1 ≤ tn := hle
    rw [if_pos rfl] at hR
    have hbl := bskT_le (T := m 78) (tn := tn) 121 A1 p1 1 hle.2
    refine lp_X12_basket (s5 := S 5) ht 121 A1 p1 1 S2 (by omega) hle.2 (itm_ok hO hr) hM2 (e52.trans e50) (fun A' p' n' S' q1 q2 q3 q4 => ?_) (fun A0 p' n' S' A' q1 q2 q3 => ?_)
    · (have hq := hR.trans q1; rw [q1] at hbl; exact ex_X12_basket (A0 := A) hbl ht e75 (Or.inr q2) (fun _ _ S3 g1 g2 => h1 _ _ _ _ hq (g1.trans q4) g2) (fun g => absurd q3 (g.elim (fun gw => absurd (gw.2.2.2.symm.trans q2.2.2.2) (by decide)) id)))
    · (have hq := hR.trans q1; rw [q1] at hbl; exact ex_X12_basket (A0 := A) hbl ht e75 (q2.elim Or.inl (fun g => Or.inr g.1)) (fun gm g0 => absurd g0 (q2.elim (fun gw => absurd (gw.2.2.2.symm.trans gm.2.2.2) (by decide)) (fun g => g.2))) (fun _ S3 A2 g1 g2 g3 => h0 _ _ _ _ _ hq (g1.trans q3) g2 g3))
  · skip
    have hle := itm_le (T := m 78) (A := A) (Nat.zero_le tn)
    rw [hr] at hle hR
    rw [if_neg (show ¬ (false = true) by decide)] at hR
    exact wx_X12_basket hW2 (ex_X12_basket (A0 := A) hle.2 ht e75 (Or.inl hW2) (fun gm _ => absurd (hW2.2.2.2.symm.trans gm.2.2.2) (by decide)) (fun _ S3 A2 g1 g2 g3 => h0 _ _ _ _ _ hR (g1.trans (e52.trans e50)) g2 g3))
theorem ck_X12_basket (h7 : m 72 7 = nI tn) (ht : tn ≤ 120) (hO : okA D A) (h1 : ∀ A' p' n' S' B, bskF (m 78) tn A = (true, A', p', n') → S' 5 = m 72 5 → S' 7 = 0 → Q (.int (nI n')) (wr (wr (wr m 75 B) 72 S') 73 A') L) (h0 : ∀ A0 p' n' S' B A2, bskF (m 78) tn A = (false, A0, p', n') → S' 5 = m 72 5 → S' 7 = 0 → eq73 A2 A → Q (.int (-1 - nI (tkS (m 78) tn p'))) (wr (wr (wr m 75 B) 72 S') 73 A2) L) : CK E 8 MX12_basket [.ref (ev_z E + 72)] (wr m 73 A) L Q := by
  refine CK.of rfl rfl (lv := [(0, _)]) rfl ?_
  refine wk_aload_n (i := 0) (q := 1) dX12_basket_0 rfl rfl rfl ?_
  refine wk_V0v (d' := 1) (q := 4) lkX12_289 dX12_basket_1 rfl rfl rfl rfl rfl rfl rfl ?_
  refine ck_X12_saves (fun B hB => ?_)
  have e78 : wr m 75 B 78 = m 78 := wr_n (by decide)
  have e75 : eq73 (wr m 75 B 75) A := by (rw [wr_s]; exact hB)
  have e72 : wr (wr m 75 B) 72 (m 72) = wr m 75 B := by (have h := wr_self (wr m 75 B) 72; rw [wr_n (show (72 : Nat) ≠ 75 by decide)] at h; exact h)
  rw [← e72]
  exact b4_X12_basket e75 h7 ht hO (fun A' p' n' S' q => h1 A' p' n' S' B ((congrArg (fun T => bskF T tn A) e78).symm.trans q)) (fun A0 p' n' S' A2 q g1 g2 g3 => by (rw [e78] at q ⊢; exact h0 A0 p' n' S' B A2 q g1 g2 g3))
end ML
