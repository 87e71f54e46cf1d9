/-! the class's text: an item -/
theorem un60 {m m' : Mm} {S : Nat → Int32} (h : frB (wr m 60 S) m' 42) : ∃ m2, m' = wr m2 60 S ∧ frB m m2 42 ∧ ∀ A, hasB m' 42 A → hasB m2 42 A := by
  have e := wr_60 h
  refine ⟨wr m' 60 (m 60), ?_, fun k hk => ?_, fun A hA => hasB_60 hA⟩
  · rw [wr_wr, e]
  · by_cases c : k = 60
    · subst c; exact wr_s
    · rw [wr_n c]; exact frB_w60 h k hk c
section CV
variable {E : EVt} {m : Mm} {L : Ml} {Q : Value → Mm → Ml → Prop} {S T A : Nat → Int32} {tn p D g : Nat}
theorem ck_takePerson (ht : tn ≤ 120) (hp : p ≤ tn) (hC : CS S tn T p) (hb : ∀ i, i < tn → byRel (m 61 i) (T i)) (hO : okA D A) (hB : hasB m 42 A) (h1 : ∀ A' q S' m', perS T tn A p = (true, A', q) → CS S' tn T q → hasB m' 42 A' → frB m m' 42 → Q (.int 1) (wr m' 60 S') L) (h0 : ∀ A0 q S', perS T tn A p = (false, A0, q) → CS S' tn T q → Q (.int 0) (wr m 60 S') L) : CK E 4 MX9_takePerson [.ref (ev_z E + 60), .ref (ev_z E + 42)] (wr m 60 S) L Q := by
  have hpe := tkE_ub (T := T) hp
  have hc8 := hO.2.1.2.1
  unfold perS at h1 h0
  refine CK.of rfl rfl (lv := [(0, _), (1, _)]) rfl ?_
  refine wk_aload_n (i := 1) (q := 1) dX9_takePerson_0 rfl rfl rfl ?_
  refine wk_get (q := 4) fgX9_120 dX9_takePerson_1 rfl rfl rfl rfl ?_
  refine wk_bipush (v := 6) (q := 6) dX9_takePerson_4 rfl rfl ?_
  rw [wr_n (show 42 ≠ 60 by decide), hB.2.1, hO.2.1.1]
  refine wk_icmp_lt (t := 11) (q := 9) dX9_takePerson_6 rfl rfl (fun c6 => ?_) (fun c6 => ?_)
  · skip
    have hlt : pA A < 6 := by (rcases Nat.lt_or_ge (pA A) 6 with h | h; exact h; exact absurd c6 (nI_nlt (b := 6) h (by omega)))
    refine wk_aload_n (i := 0) (q := 12) dX9_takePerson_11 rfl rfl rfl ?_
    refine wk_V0v (d' := 2) (q := 15) lkX9_22 dX9_takePerson_12 rfl rfl rfl rfl rfl rfl rfl ?_
    refine ck_next ht hp hC hb (fun S1 hC1 g6 g7 => ?_)
    refine wk_aload_n (i := 0) (q := 16) dX9_takePerson_15 rfl rfl rfl ?_
    refine wk_V0r (d' := 3) (q := 19) lkX9_91 dX9_takePerson_16 rfl rfl rfl rfl rfl rfl rfl ?_
    refine ck_takeTwoSpans ht hpe hC1 hb (fun n1 n2 S2 hC2 v6 v7 => ?_) (fun n1 => ?_) (fun n1 n2 S2 hC2 => ?_)
    · skip
      refine wk_if_eq (t := 41) (q := 22) dX9_takePerson_19 rfl rfl (fun h => absurd h (by decide)) (fun _ => ?_)
      refine wk_aload_n (i := 1) (q := 23) dX9_takePerson_22 rfl rfl rfl ?_
      refine wk_aload_n (i := 0) (q := 24) dX9_takePerson_23 rfl rfl rfl ?_
      refine wk_gT (q := 27) fgX9_95 dX9_takePerson_24 rfl rfl ?_
      refine wk_aload_n (i := 0) (q := 28) dX9_takePerson_27 rfl rfl rfl ?_
      refine wk_gT (q := 31) fgX9_103 dX9_takePerson_28 rfl rfl ?_
      rw [v6, v7]
      refine wk_V2r (d' := 1) (q := 34) lkX9_123 dX9_takePerson_31 rfl rfl rfl rfl rfl rfl rfl ?_
      refine ck_X0_addPerson (b := 42) rfl (hasB_60 hB) hO.2.1.1 hc8 (fun _ m1 hB1 hF1 => ?_) (fun hno => ?_)
      · skip
        refine wk_ifnull (q := 37) dX9_takePerson_34 rfl ?_
        refine wk_iconst (v := 1) (q := 38) dX9_takePerson_37 rfl rfl ?_
        refine wk_goto (t := 42) dX9_takePerson_38 rfl ?_
        refine wk_ireturn dX9_takePerson_42 rfl rfl ?_
        obtain ⟨m2, rfl, hF2, hh⟩ := un60 hF1
        rw [if_pos hlt, if_pos n1, if_pos n2] at h1
        exact h1 _ _ _ _ rfl hC2 (hh _ hB1) hF2
      · skip
        omega
    · skip
      refine wk_if_eq (t := 41) (q := 22) dX9_takePerson_19 rfl rfl (fun _ => ?_) (fun h => absurd (by decide) h)
      refine wk_iconst (v := 0) (q := 42) dX9_takePerson_41 rfl rfl ?_
      refine wk_ireturn dX9_takePerson_42 rfl rfl ?_
      rw [if_pos hlt, if_neg n1] at h0
      exact h0 _ _ _ rfl hC1
    · skip
      refine wk_if_eq (t := 41) (q := 22) dX9_takePerson_19 rfl rfl (fun _ => ?_) (fun h => absurd (by decide) h)
      refine wk_iconst (v := 0) (q := 42) dX9_takePerson_41 rfl rfl ?_
      refine wk_ireturn dX9_takePerson_42 rfl rfl ?_
      rw [if_pos hlt, if_pos n1, if_neg n2] at h0
      exact h0 _ _ _ rfl hC2
  · skip
    have hlt : ¬ pA A < 6 := fun h => c6 (nI_lt (b := 6) h (by omega))
    refine wk_iconst (v := 0) (q := 10) dX9_takePerson_9 rfl rfl ?_
    refine wk_ireturn dX9_takePerson_10 rfl rfl ?_
    rw [if_neg hlt] at h0
    exact h0 _ _ _ rfl hC
theorem ck_takeWash (ht : tn ≤ 120) (hp : p ≤ tn) (hC : CS S tn T p) (hb : ∀ i, i < tn → byRel (m 61 i) (T i)) (hO : okA D A) (hB : hasB m 42 A) (h1 : ∀ A' q S' m', wasS T tn A p = (true, A', q) → CS S' tn T q → hasB m' 42 A' → frB m m' 42 → Q (.int 1) (wr m' 60 S') L) (h0 : ∀ A0 q S', wasS T tn A p = (false, A0, q) → CS S' tn T q → Q (.int 0) (wr m 60 S') L) : CK E 4 MX9_takeWash [.ref (ev_z E + 60), .ref (ev_z E + 42)] (wr m 60 S) L Q := by
  have hpe := tkE_ub (T := T) hp
  have hc8 := hO.1.2.1
  have hd := hO.2.2.2.1
  have htk := tkT_b (T := T) (tn := tn) (p := tkE T tn p)
  unfold wasS at h1 h0
  refine CK.of rfl rfl (lv := [(0, _), (1, _)]) rfl ?_
  refine wk_aload_n (i := 0) (q := 1) dX9_takeWash_0 rfl rfl rfl ?_
  refine wk_V0v (d' := 2) (q := 4) lkX9_22 dX9_takeWash_1 rfl rfl rfl rfl rfl rfl rfl ?_
  refine ck_next ht hp hC hb (fun S1 hC1 g6 g7 => ?_)
  refine wk_aload_n (i := 0) (q := 5) dX9_takeWash_4 rfl rfl rfl ?_
  refine wk_gT (q := 8) fgX9_29 dX9_takeWash_5 rfl rfl ?_
  refine wk_iconst (v := 2) (q := 9) dX9_takeWash_8 rfl rfl ?_
  rw [hC1.2.2.2.1]
  refine wk_icmp_eq (t := 14) (q := 12) dX9_takeWash_9 rfl rfl (fun c9 => ?_) (fun c9 => ?_)
  · skip
    have hT : tkT T tn (tkE T tn p) = 2 := nI_inj (b := 2) (by omega) (by omega) c9
    refine wk_aload_n (i := 1) (q := 15) dX9_takeWash_14 rfl rfl rfl ?_
    refine wk_aload_n (i := 0) (q := 16) dX9_takeWash_15 rfl rfl rfl ?_
    refine wk_gT (q := 19) fgX9_115 dX9_takeWash_16 rfl rfl ?_
    rw [hC1.2.2.2.2 hT]
    refine wk_V1r (d' := 1) (q := 22) lkX9_129 dX9_takeWash_19 rfl rfl rfl rfl rfl rfl rfl ?_
    refine ck_X0_garmentAt (b := 42) (c := cA A) rfl ((hasB_60 hB).1.trans hO.1.1) hc8 (fun g hn e => ?_) (fun hno => ?_)
    · skip
      have hv : tkV T tn (tkE T tn p) = g := by (have := nI_inj (by omega) (by omega) e; omega)
      have hE := hB.e7 (g := g) (by omega)
      have ho := hO.1.2.2 g hn
      refine wk_astore_n (i := 2) (q := 23) (lv' := [_, _, _]) dX9_takeWash_22 rfl rfl rfl rfl ?_
      refine wk_aload_n (i := 2) (q := 24) dX9_takeWash_23 rfl rfl rfl ?_
      refine wk_ifnonnull (t := 29) dX9_takeWash_24 rfl ?_
      refine wk_aload_n (i := 2) (q := 30) dX9_takeWash_29 rfl rfl rfl ?_
      refine wk_aload_n (i := 1) (q := 31) dX9_takeWash_30 rfl rfl rfl ?_
      refine wk_get (q := 34) fgX9_127 dX9_takeWash_31 rfl rfl rfl rfl ?_
      rw [wr_n (show 42 ≠ 60 by decide), hB.2.2.2.1]
      refine wk_aload_n (i := 1) (q := 35) dX9_takeWash_34 rfl rfl rfl ?_
      refine wk_get (q := 38) fgX9_73 dX9_takeWash_35 rfl rfl rfl rfl ?_
      rw [wr_n (show 42 ≠ 60 by decide), hB.2.2.2.2.1]
      refine wk_V2v (d' := 3) (q := 41) lkX9_132 dX9_takeWash_38 (sh_g sb_42 (by omega)) rfl rfl rfl rfl rfl rfl ?_
      refine ck_X2_goThroughWash (sh_g sb_42 (by omega)) (by rw [wr_n (show 42 + 1 + 1 + g ≠ 60 by omega)]; exact hE.ok ho) (by omega) (by omega) ?_
      rw [wr_n (show 42 + 1 + 1 + g ≠ 60 by omega), wr_comm (show 60 ≠ 42 + 1 + 1 + g by omega)]
      refine wk_aload_n (i := 0) (q := 42) dX9_takeWash_41 rfl rfl rfl ?_
      have hb2 : ∀ i, i < tn → byRel ((wr m (42 + 1 + 1 + g) (wshG (A 3) (A 4) (m (42 + 1 + 1 + g)))) 61 i) (T i) := fun i hi => by (rw [wr_n (show 61 ≠ 42 + 1 + 1 + g by omega)]; exact hb i hi)
      refine wk_V0v (d' := 2) (q := 45) lkX9_22 dX9_takeWash_42 rfl rfl rfl rfl rfl rfl rfl ?_
      refine ck_next ht hpe hC1 hb2 (fun S2 hC2 k6 k7 => ?_)
      refine wk_iconst (v := 1) (q := 46) dX9_takeWash_45 rfl rfl ?_
      refine wk_ireturn dX9_takeWash_46 rfl rfl ?_
      rw [if_pos ⟨hT, (by omega : tkV T tn (tkE T tn p) < cA A)⟩, hv] at h1
      exact h1 _ _ _ _ rfl hC2 (hB.row (by omega) hE.wsh) (frB_row (by omega))
    · skip
      refine wk_astore_nN (i := 2) (q := 23) (lv' := [_, _, _]) dX9_takeWash_22 rfl rfl rfl rfl ?_
      refine wk_aload_nN (i := 2) (q := 24) dX9_takeWash_23 rfl rfl rfl ?_
      refine wk_ifnonnullN (q := 27) dX9_takeWash_24 rfl ?_
      refine wk_iconst (v := 0) (q := 28) dX9_takeWash_27 rfl rfl ?_
      refine wk_ireturn dX9_takeWash_28 rfl rfl ?_
      rw [if_neg (fun h => hno _ h.2 (by rw [show min 1000 (tkV T tn (tkE T tn p)) = tkV T tn (tkE T tn p) by omega]))] at h0
      exact h0 _ _ _ rfl hC1
  · skip
    have hT : ¬ tkT T tn (tkE T tn p) = 2 := fun h => c9 (by rw [h]; rfl)
    refine wk_iconst (v := 0) (q := 13) dX9_takeWash_12 rfl rfl ?_
    refine wk_ireturn dX9_takeWash_13 rfl rfl ?_
    rw [if_neg (fun h => hT h.1)] at h0
    exact h0 _ _ _ rfl hC1
end CV
