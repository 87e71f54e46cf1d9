/-! the class's text: all items -/
theorem tk_end {T : Nat → Int32} {tn : Nat} : tkS T tn tn = tn ∧ tkT T tn tn = 0 := by
  have h1 := tkS_le (T := T) (tn := tn) (e := tn)
  have h2 := tkS_ub (T := T) (Nat.le_refl tn)
  have h : tkS T tn tn = tn := Nat.le_antisymm h2 h1
  exact ⟨h, tkT_0.mpr (by omega)⟩
theorem itm_end {T A : Nat → Int32} {tn : Nat} : itmS T tn A tn = (false, A, tn) := by
  have hw : ∀ i, ¬ wB T tn tn i = true := fun i h => by
    have := (wB_iff.mp h).1
    rw [tk_end.2] at this
    exact absurd this (by decide)
  have hk : ¬ kdN T tn tn < 6 := by
    unfold kdN
    rw [if_neg (hw 0), if_neg (hw 1), if_neg (hw 2), if_neg (hw 3), if_neg (hw 4), if_neg (hw 5)]
    decide
  unfold itmS
  rw [if_neg hk, if_neg (hw 8), if_neg (hw 9), if_neg (hw 10), if_neg (hw 11), if_neg (hw 12)]
def bskL (T : Nat → Int32) (tn f : Nat) (A : Nat → Int32) (p n : Nat) : Bool × (Nat → Int32) × Nat × Nat := if (itmS T tn A p).1 = true then bskT T tn f (itmS T tn A p).2.1 (itmS T tn A p).2.2 n else (false, A, (itmS T tn A p).2.2, n)
section CX
variable {E : EVt} {m : Mm} {L : Ml} {Q : Value → Mm → Ml → Prop} {S T A : Nat → Int32} {tn p D : Nat}
theorem ex_X9_tellInto {n : Int32} (hC : CS S tn T p) (hQ : Q (.int (-1 - nI (tkS T tn p))) (wr m 60 S) L) : WK E 9 MX9_tellInto 58 [(0, .ref (ev_z E + 60)), (1, .ref (ev_z E + 42)), (2, .int n)] [] (wr m 60 S) L Q := by
  refine wk_iconst (v := -1) (q := 59) dX9_tellInto_58 rfl rfl ?_
  refine wk_aload_n (i := 0) (q := 60) dX9_tellInto_59 rfl rfl rfl ?_
  refine wk_gT (q := 63) fgX9_32 dX9_tellInto_60 rfl rfl ?_
  rw [hC.2.1]
  refine wk_isub (q := 64) dX9_tellInto_63 rfl ?_
  refine wk_ireturn dX9_tellInto_64 rfl rfl ?_
  exact hQ
theorem lp_X9_tellInto {m0 : Mm} (ht : tn ≤ 120) (hb : ∀ i, i < tn → byRel (m0 61 i) (T i)) : ∀ (f : Nat) (A : Nat → Int32) (p n : Nat) (S : Nat → Int32) (m : Mm), tn + 1 ≤ p + f → p ≤ tn → n ≤ p + 1 → okA D A → CS S tn T p → hasB m 42 A → frB m0 m 42 → (∀ A' p' n' S' m', bskL T tn f A p n = (true, A', p', n') → n' ≤ 121 → S' 1 = nI tn → hasB m' 42 A' → frB m0 m' 42 → Q (.int (nI n')) (wr m' 60 S') L) → (∀ A0 p' n' S' m', bskL T tn f A p n = (false, A0, p', n') → S' 1 = nI tn → p' ≤ tn → frB m0 m' 42 → Q (.int (-1 - nI (tkS T tn p'))) (wr m' 60 S') L) → WK E 9 MX9_tellInto 11 [(0, .ref (ev_z E + 60)), (1, .ref (ev_z E + 42)), (2, .int (nI n))] [] (wr m 60 S) L Q := by
  intro f
  induction f with
  | zero => intro A p n S m h1 h2; omega
  | succ f ih =>
    intro A p n S m hf hp hn hO hC hB hF k1 k0
    have hb1 := hb_fr hb hF
    have hle := itm_le (T := T) (A := A) hp
    by_cases hn1 : n ≤ 120
    · skip
      refine wk_iload_n (i := 2) (q := 12) dX9_tellInto_11 rfl rfl rfl ?_
      refine wk_bipush (v := 120) (q := 14) dX9_tellInto_12 rfl rfl ?_
      refine wk_icmp_gt (t := 58) (q := 17) dX9_tellInto_14 rfl rfl (fun h => absurd h (nI_nlt (a := 120) hn1 (by omega))) (fun c14 => ?_)
      refine wk_aload_n (i := 0) (q := 18) dX9_tellInto_17 rfl rfl rfl ?_
      refine wk_aload_n (i := 1) (q := 19) dX9_tellInto_18 rfl rfl rfl ?_
      refine wk_V1r (d' := 8) (q := 22) lkX9_25 dX9_tellInto_19 rfl rfl rfl rfl rfl rfl rfl ?_
      refine ck_takeItem ht hp hC hb1 hO hB (fun A1 q S1 m1 hr hC1 hB1 hF1 => ?_) (fun A1 q S1 m1 hr hC1 hF1 => ?_)
      · skip
        rw [hr] at hle
        have hle : p ≤ q ∧ q ≤ tn := hle
        have hR : bskL T tn (f + 1) A p n = bskT T tn (f + 1) A1 q n := by (unfold bskL; rw [hr]; exact if_pos rfl)
        have htk := tkT_b (T := T) (tn := tn) (p := q)
        rw [hR] at k1 k0
        unfold bskT at k1 k0
        refine wk_if_ne (t := 28) (q := 25) dX9_tellInto_22 rfl rfl (fun _ => ?_) (fun h => absurd h (by decide))
        refine wk_aload_n (i := 0) (q := 29) dX9_tellInto_28 rfl rfl rfl ?_
        refine wk_gT (q := 32) fgX9_29 dX9_tellInto_29 rfl rfl ?_
        rw [hC1.2.2.2.1]
        refine wk_if_ne (t := 37) (q := 35) dX9_tellInto_32 rfl rfl (fun c32 => ?_) (fun c32 => ?_)
        · skip
          have hT : ¬ tkT T tn q = 0 := fun h => c32 (by rw [h]; rfl)
          refine wk_aload_n (i := 0) (q := 38) dX9_tellInto_37 rfl rfl rfl ?_
          refine wk_gT (q := 41) fgX9_29 dX9_tellInto_38 rfl rfl ?_
          refine wk_iconst (v := 3) (q := 42) dX9_tellInto_41 rfl rfl ?_
          rw [hC1.2.2.2.1]
          refine wk_icmp_eq (t := 48) (q := 45) dX9_tellInto_42 rfl rfl (fun c42 => ?_) (fun c42 => ?_)
          · skip
            have hT3 : tkT T tn q = 3 := nI_inj (b := 3) (by omega) (by omega) c42
            refine wk_aload_n (i := 0) (q := 49) dX9_tellInto_48 rfl rfl rfl ?_
            refine wk_V0v (d' := 2) (q := 52) lkX9_22 dX9_tellInto_49 rfl rfl rfl rfl rfl rfl rfl ?_
            refine ck_next ht hle.2 hC1 (hb_fr hb1 hF1) (fun S2 hC2 g6 g7 => ?_)
            rw [if_neg hT, if_pos hT3] at k1 k0
            have hnx := nx_3 hT3
            refine wk_iinc (w := 1) (q := 55) (lv' := [_, _, _]) dX9_tellInto_52 rfl rfl rfl rfl rfl ?_
            rw [nI_1]
            refine wk_goto (t := 11) dX9_tellInto_55 rfl ?_
            exact ih A1 (tkE T tn q) (n + 1) S2 m1 (by omega) (tkE_ub hle.2) (by omega) (itm_ok hO hr) hC2 hB1 (hF.trans hF1) k1 k0
          · skip
            have hT3 : ¬ tkT T tn q = 3 := fun h => c42 (by rw [h]; rfl)
            refine wk_goto (t := 58) dX9_tellInto_45 rfl ?_
            rw [if_neg hT, if_neg hT3] at k0
            exact ex_X9_tellInto hC1 (k0 _ _ _ _ _ rfl hC1.1 hle.2 (hF.trans hF1))
        · skip
          have hT : tkT T tn q = 0 := nI_inj (b := 0) (by omega) (by omega) c32
          refine wk_iload_n (i := 2) (q := 36) dX9_tellInto_35 rfl rfl rfl ?_
          refine wk_ireturn dX9_tellInto_36 rfl rfl ?_
          rw [if_pos hT] at k1
          exact k1 _ _ _ _ _ rfl (by omega) hC1.1 hB1 (hF.trans hF1)
      · skip
        rw [hr] at hle
        have hR : bskL T tn (f + 1) A p n = (false, A, q, n) := by (unfold bskL; rw [hr]; exact if_neg Bool.false_ne_true)
        refine wk_if_ne (t := 28) (q := 25) dX9_tellInto_22 rfl rfl (fun h => absurd (by decide) h) (fun _ => ?_)
        refine wk_goto (t := 58) dX9_tellInto_25 rfl ?_
        exact ex_X9_tellInto hC1 (k0 _ _ _ _ _ hR hC1.1 hle.2 (hF.trans hF1))
    · have ep : p = tn := by omega
      subst ep
      have hR : bskL T p (f + 1) A p n = (false, A, p, n) := by
        unfold bskL
        rw [itm_end]
        exact if_neg Bool.false_ne_true
      refine wk_iload_n (i := 2) (q := 12) dX9_tellInto_11 rfl rfl rfl ?_
      refine wk_bipush (v := 120) (q := 14) dX9_tellInto_12 rfl rfl ?_
      refine wk_icmp_gt (t := 58) (q := 17) dX9_tellInto_14 rfl rfl (fun c14 => ?_) (fun h => absurd (nI_lt (a := 120) (by omega) (by omega)) h)
      exact ex_X9_tellInto hC (k0 _ _ _ _ _ hR hC.1 hp hF)
theorem ck_tellInto (ht : tn ≤ 120) (hS : S 1 = nI tn) (hb : ∀ i, i < tn → byRel (m 61 i) (T i)) (hO : okA D A) (hB : hasB m 42 A) (h1 : ∀ A' p' n' S' m', bskF T tn A = (true, A', p', n') → n' ≤ 121 → S' 1 = nI tn → hasB m' 42 A' → frB m m' 42 → Q (.int (nI n')) (wr m' 60 S') L) (h0 : ∀ A0 p' n' S' m', bskF T tn A = (false, A0, p', n') → S' 1 = nI tn → p' ≤ tn → frB m m' 42 → Q (.int (-1 - nI (tkS T tn p'))) (wr m' 60 S') L) : CK E 9 MX9_tellInto [.ref (ev_z E + 60), .ref (ev_z E + 42)] (wr m 60 S) L Q := by
  refine CK.of rfl rfl (lv := [(0, _), (1, _)]) rfl ?_
  refine wk_aload_n (i := 0) (q := 1) dX9_tellInto_0 rfl rfl rfl ?_
  refine wk_iconst (v := 0) (q := 2) dX9_tellInto_1 rfl rfl ?_
  refine wk_pT (q := 5) fpX9_19 dX9_tellInto_2 rfl rfl rfl rfl ?_
  refine wk_aload_n (i := 0) (q := 6) dX9_tellInto_5 rfl rfl rfl ?_
  refine wk_V0v (d' := 2) (q := 9) lkX9_22 dX9_tellInto_6 rfl rfl rfl rfl rfl rfl rfl ?_
  refine ck_X9_nextToken (e := 0) ht (Nat.zero_le _) ((upd_n (by decide)).trans hS) upd_s hb (fun S1 q1 q6 q7 q3 q4 q2 q5 => ?_)
  refine wk_iconst (v := 1) (q := 10) dX9_tellInto_9 rfl rfl ?_
  refine wk_istore_n (i := 2) (q := 11) (lv' := [_, _, _]) dX9_tellInto_10 rfl rfl rfl rfl ?_
  exact lp_X9_tellInto ht hb 121 A 0 1 S1 m (by omega) (Nat.zero_le _) (by omega) hO ⟨q1.trans ((upd_n (by decide)).trans hS), q3, q4, q2, q5⟩ hB frB.rf h1 h0
end CX
