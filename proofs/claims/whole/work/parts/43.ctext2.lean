/-! the class's text: the parts of an item -/
theorem hasB_fld {m : Mm} {b g f0 : Nat} {A : Nat → Int32} {v : Int32} (h : hasB m b A) (hg : g < 8) (hf0 : f0 < 7) : hasB (wr m (b + 1 + 1 + g) (upd (m (b + 1 + 1 + g)) f0 v)) b (upd A (5 + 7 * g + f0) v) := by
  obtain ⟨q1, q2, q3, q4, q5, q6, q7⟩ := h
  refine ⟨?_, ?_, ?_, ?_, ?_, fun j hj f hf => ?_, fun j hj f hf => ?_⟩
  · rw [wr_n (by omega), upd_n (by omega)]; exact q1
  · rw [wr_n (by omega), upd_n (by omega)]; exact q2
  · rw [wr_n (by omega), upd_n (by omega)]; exact q3
  · rw [wr_n (by omega), upd_n (by omega)]; exact q4
  · rw [wr_n (by omega), upd_n (by omega)]; exact q5
  · by_cases c : j = g
    · subst c
      rw [wr_s]
      by_cases c2 : f = f0
      · subst c2; rw [upd_s, upd_s]
      · rw [upd_n c2, upd_n (by omega)]; exact q6 j hj f hf
    · rw [wr_n (by omega), upd_n (by omega)]
      exact q6 j hj f hf
  · rw [wr_n (by omega), upd_n (by omega)]
    exact q7 j hj f hf
theorem hasB_60 {m : Mm} {S A : Nat → Int32} (h : hasB m 42 A) : hasB (wr m 60 S) 42 A := h.mov (fun k h1 h2 => wr_n (by omega))
theorem wr_60 {m m' : Mm} {S : Nat → Int32} (h : frB (wr m 60 S) m' 42) : wr m' 60 S = m' := by
  have e : m' 60 = S := (h 60 (by omega)).trans wr_s
  rw [← e]
  exact wr_self m' 60
theorem frB_w60 {m m' : Mm} {S : Nat → Int32} (h : frB (wr m 60 S) m' 42) (k : Nat) (hk : k < 42 ∨ 42 + 17 ≤ k) (h6 : k ≠ 60) : m' k = m k := (h k hk).trans (wr_n h6)
section CU
variable {E : EVt} {m : Mm} {L : Ml} {Q : Value → Mm → Ml → Prop} {S T A : Nat → Int32} {tn p D g : Nat}
theorem ck_takeThickness (ht : tn ≤ 120) (hp : p ≤ tn) (hg : g < 8) (hC : CS S tn T p) (hb : ∀ i, i < tn → byRel (m 61 i) (T i)) (hB : hasB m 42 A) (h1 : ∀ A' q S' m', thkS T tn A g p = (true, A', q) → CS S' tn T q → hasB m' 42 A' → frB m m' 42 → Q (.int 1) (wr m' 60 S') L) (h0 : ∀ A0 q S', thkS T tn A g p = (false, A0, q) → CS S' tn T q → Q (.int 0) (wr m 60 S') L) : CK E 7 MX9_takeThickness [.ref (ev_z E + 60), .ref (ev_z E + (42 + 1 + 1 + g))] (wr m 60 S) L Q := by
  have hpe := tkE_ub (T := T) hp
  unfold thkS at h1 h0
  refine CK.of rfl rfl (lv := [(0, _), (1, _)]) rfl ?_
  refine wk_aload_n (i := 0) (q := 1) dX9_takeThickness_0 rfl rfl rfl ?_
  refine wk_ldcS (i := 7) (q := 3) dX9_takeThickness_1 rfl (by decide) rfl rfl ?_
  refine wk_V1r (d' := 6) (q := 6) lkX9_54 dX9_takeThickness_3 rfl rfl rfl rfl rfl rfl rfl ?_
  refine ck_word (by decide) ht hp hC hb (fun w => ?_) (fun w => ?_)
  · skip
    refine wk_if_ne (t := 11) (q := 9) dX9_takeThickness_6 rfl rfl (fun _ => ?_) (fun h => absurd h (by decide))
    refine wk_aload_n (i := 0) (q := 12) dX9_takeThickness_11 rfl rfl rfl ?_
    refine wk_V0v (d' := 2) (q := 15) lkX9_22 dX9_takeThickness_12 rfl rfl rfl rfl rfl rfl rfl ?_
    refine ck_next ht hp hC hb (fun S1 hC1 g6 g7 => ?_)
    refine wk_aload_n (i := 0) (q := 16) dX9_takeThickness_15 rfl rfl rfl ?_
    refine wk_iconst (v := 1) (q := 17) dX9_takeThickness_16 rfl rfl ?_
    refine wk_bipush (v := 99) (q := 19) dX9_takeThickness_17 rfl rfl ?_
    refine wk_V2r (d' := 2) (q := 22) lkX9_111 dX9_takeThickness_19 rfl rfl rfl rfl rfl rfl rfl ?_
    refine ck_isNumber (lo := 1) (hi := 99) (by decide) (by decide) hC1 (fun n1 e5 => ?_) (fun n1 => ?_)
    · skip
      refine wk_if_ne (t := 27) (q := 25) dX9_takeThickness_22 rfl rfl (fun _ => ?_) (fun h => absurd h (by decide))
      refine wk_aload_n (i := 1) (q := 28) dX9_takeThickness_27 rfl rfl rfl ?_
      refine wk_aload_n (i := 0) (q := 29) dX9_takeThickness_28 rfl rfl rfl ?_
      refine wk_gT (q := 32) fgX9_115 dX9_takeThickness_29 rfl rfl ?_
      rw [e5]
      refine wk_put (q := 35) fpX9_118 dX9_takeThickness_32 (sh_g rfl hg) rfl rfl rfl rfl rfl ?_
      rw [wr_n (show 42 + 1 + 1 + g ≠ 60 by omega), wr_comm (show 60 ≠ 42 + 1 + 1 + g by omega)]
      refine wk_aload_n (i := 0) (q := 36) dX9_takeThickness_35 rfl rfl rfl ?_
      have hb2 : ∀ i, i < tn → byRel ((wr m (42 + 1 + 1 + g) (upd (m (42 + 1 + 1 + g)) 3 (nI (tkV T tn (tkE T tn p))))) 61 i) (T i) := fun i hi => by (rw [wr_n (show 61 ≠ 42 + 1 + 1 + g by omega)]; exact hb i hi)
      refine wk_V0v (d' := 2) (q := 39) lkX9_22 dX9_takeThickness_36 rfl rfl rfl rfl rfl rfl rfl ?_
      refine ck_next ht hpe hC1 hb2 (fun S2 hC2 k6 k7 => ?_)
      refine wk_iconst (v := 1) (q := 40) dX9_takeThickness_39 rfl rfl ?_
      refine wk_ireturn dX9_takeThickness_40 rfl rfl ?_
      rw [if_pos w, if_pos n1] at h1
      exact h1 _ _ _ _ rfl hC2 (hasB_fld hB hg (by decide)) (frB_row hg)
    · skip
      refine wk_if_ne (t := 27) (q := 25) dX9_takeThickness_22 rfl rfl (fun h => absurd (by decide) h) (fun _ => ?_)
      refine wk_iconst (v := 0) (q := 26) dX9_takeThickness_25 rfl rfl ?_
      refine wk_ireturn dX9_takeThickness_26 rfl rfl ?_
      rw [if_pos w, if_neg n1] at h0
      exact h0 _ _ _ rfl hC1
  · skip
    refine wk_if_ne (t := 11) (q := 9) dX9_takeThickness_6 rfl rfl (fun h => absurd (by decide) h) (fun _ => ?_)
    refine wk_iconst (v := 1) (q := 10) dX9_takeThickness_9 rfl rfl ?_
    refine wk_ireturn dX9_takeThickness_10 rfl rfl ?_
    rw [if_neg w] at h1 h0
    exact h1 _ _ _ _ rfl hC hB frB.rf
theorem ck_takeSpans (ht : tn ≤ 120) (hp : p ≤ tn) (hg : g < 8) (hC : CS S tn T p) (hb : ∀ i, i < tn → byRel (m 61 i) (T i)) (hB : hasB m 42 A) (h1 : ∀ A' q S' m', q ≤ tn → spnS T tn A g p = thkS T tn A' g q → CS S' tn T q → hasB m' 42 A' → frB m m' 42 → Q (.int 1) (wr m' 60 S') L) (h0 : ∀ A0 q S', spnS T tn A g p = (false, A0, q) → CS S' tn T q → Q (.int 0) (wr m 60 S') L) : CK E 7 MX9_takeSpans [.ref (ev_z E + 60), .ref (ev_z E + (42 + 1 + 1 + g))] (wr m 60 S) L Q := by
  have hpe := tkE_ub (T := T) hp
  have hpe2 := tkE_ub (T := T) hpe
  have hpe3 := tkE_ub (T := T) hpe2
  unfold spnS at h1 h0
  refine CK.of rfl rfl (lv := [(0, _), (1, _)]) rfl ?_
  refine wk_aload_n (i := 0) (q := 1) dX9_takeSpans_0 rfl rfl rfl ?_
  refine wk_ldcS (i := 6) (q := 3) dX9_takeSpans_1 rfl (by decide) rfl rfl ?_
  refine wk_V1r (d' := 6) (q := 6) lkX9_54 dX9_takeSpans_3 rfl rfl rfl rfl rfl rfl rfl ?_
  refine ck_word (by decide) ht hp hC hb (fun w => ?_) (fun w => ?_)
  · skip
    refine wk_if_ne (t := 11) (q := 9) dX9_takeSpans_6 rfl rfl (fun _ => ?_) (fun h => absurd h (by decide))
    refine wk_aload_n (i := 0) (q := 12) dX9_takeSpans_11 rfl rfl rfl ?_
    refine wk_V0v (d' := 2) (q := 15) lkX9_22 dX9_takeSpans_12 rfl rfl rfl rfl rfl rfl rfl ?_
    refine ck_next ht hp hC hb (fun S1 hC1 g6 g7 => ?_)
    refine wk_aload_n (i := 0) (q := 16) dX9_takeSpans_15 rfl rfl rfl ?_
    refine wk_V0r (d' := 3) (q := 19) lkX9_91 dX9_takeSpans_16 rfl rfl rfl rfl rfl rfl rfl ?_
    refine ck_takeTwoSpans ht hpe hC1 hb (fun n1 n2 S2 hC2 v6 v7 => ?_) (fun n1 => ?_) (fun n1 n2 S2 hC2 => ?_)
    · skip
      refine wk_if_ne (t := 24) (q := 22) dX9_takeSpans_19 rfl rfl (fun _ => ?_) (fun h => absurd h (by decide))
      refine wk_aload_n (i := 1) (q := 25) dX9_takeSpans_24 rfl rfl rfl ?_
      refine wk_aload_n (i := 0) (q := 26) dX9_takeSpans_25 rfl rfl rfl ?_
      refine wk_gT (q := 29) fgX9_95 dX9_takeSpans_26 rfl rfl ?_
      rw [v6]
      refine wk_put (q := 32) fpX9_98 dX9_takeSpans_29 (sh_g rfl hg) rfl rfl rfl rfl rfl ?_
      rw [wr_n (show 42 + 1 + 1 + g ≠ 60 by omega), wr_comm (show 60 ≠ 42 + 1 + 1 + g by omega)]
      refine wk_aload_n (i := 1) (q := 33) dX9_takeSpans_32 rfl rfl rfl ?_
      refine wk_aload_n (i := 0) (q := 34) dX9_takeSpans_33 rfl rfl rfl ?_
      refine wk_gT (q := 37) fgX9_103 dX9_takeSpans_34 rfl rfl ?_
      rw [v7]
      refine wk_put (q := 40) fpX9_106 dX9_takeSpans_37 (sh_g rfl hg) rfl rfl rfl rfl rfl ?_
      rw [wr_n (show 42 + 1 + 1 + g ≠ 60 by omega), wr_comm (show 60 ≠ 42 + 1 + 1 + g by omega)]
      refine wk_iconst (v := 1) (q := 41) dX9_takeSpans_40 rfl rfl ?_
      refine wk_ireturn dX9_takeSpans_41 rfl rfl ?_
      rw [if_pos w, if_pos n1, if_pos n2] at h1
      exact h1 _ _ _ _ hpe3 rfl hC2 (hasB_fld (hasB_fld hB hg (by decide)) hg (by decide)) ((frB_row hg).trans (frB_row hg))
    · skip
      refine wk_if_ne (t := 24) (q := 22) dX9_takeSpans_19 rfl rfl (fun h => absurd (by decide) h) (fun _ => ?_)
      refine wk_iconst (v := 0) (q := 23) dX9_takeSpans_22 rfl rfl ?_
      refine wk_ireturn dX9_takeSpans_23 rfl rfl ?_
      rw [if_pos w, if_neg n1] at h0
      exact h0 _ _ _ rfl hC1
    · skip
      refine wk_if_ne (t := 24) (q := 22) dX9_takeSpans_19 rfl rfl (fun h => absurd (by decide) h) (fun _ => ?_)
      refine wk_iconst (v := 0) (q := 23) dX9_takeSpans_22 rfl rfl ?_
      refine wk_ireturn dX9_takeSpans_23 rfl rfl ?_
      rw [if_pos w, if_pos n1, if_neg n2] at h0
      exact h0 _ _ _ rfl hC2
  · skip
    refine wk_if_ne (t := 11) (q := 9) dX9_takeSpans_6 rfl rfl (fun h => absurd (by decide) h) (fun _ => ?_)
    refine wk_iconst (v := 1) (q := 10) dX9_takeSpans_9 rfl rfl ?_
    refine wk_ireturn dX9_takeSpans_10 rfl rfl ?_
    rw [if_neg w] at h1 h0
    exact h1 _ _ _ _ hp rfl hC hB frB.rf
theorem ck_takeDegrees (ht : tn ≤ 120) (hp : p ≤ tn) (hC : CS S tn T p) (hb : ∀ i, i < tn → byRel (m 61 i) (T i)) (hB : hasB m 42 A) (h1 : ∀ A' q S' m', degS T tn A p = (true, A', q) → CS S' tn T q → hasB m' 42 A' → frB m m' 42 → Q (.int 1) (wr m' 60 S') L) (h0 : ∀ A0 q S', degS T tn A p = (false, A0, q) → CS S' tn T q → Q (.int 0) (wr m 60 S') L) : CK E 3 MX9_takeDegrees [.ref (ev_z E + 60), .ref (ev_z E + 42)] (wr m 60 S) L Q := by
  have hpe := tkE_ub (T := T) hp
  unfold degS at h1 h0
  refine CK.of rfl rfl (lv := [(0, _), (1, _)]) rfl ?_
  refine wk_aload_n (i := 0) (q := 1) dX9_takeDegrees_0 rfl rfl rfl ?_
  refine wk_V0v (d' := 2) (q := 4) lkX9_22 dX9_takeDegrees_1 rfl rfl rfl rfl rfl rfl rfl ?_
  refine ck_next ht hp hC hb (fun S1 hC1 g6 g7 => ?_)
  refine wk_aload_n (i := 0) (q := 5) dX9_takeDegrees_4 rfl rfl rfl ?_
  refine wk_bipush (v := 20) (q := 7) dX9_takeDegrees_5 rfl rfl ?_
  refine wk_bipush (v := 95) (q := 9) dX9_takeDegrees_7 rfl rfl ?_
  refine wk_V2r (d' := 2) (q := 12) lkX9_111 dX9_takeDegrees_9 rfl rfl rfl rfl rfl rfl rfl ?_
  refine ck_isNumber (lo := 20) (hi := 95) (by decide) (by decide) hC1 (fun n1 e5 => ?_) (fun n1 => ?_)
  · skip
    refine wk_if_ne (t := 17) (q := 15) dX9_takeDegrees_12 rfl rfl (fun _ => ?_) (fun h => absurd h (by decide))
    refine wk_aload_n (i := 1) (q := 18) dX9_takeDegrees_17 rfl rfl rfl ?_
    refine wk_aload_n (i := 0) (q := 19) dX9_takeDegrees_18 rfl rfl rfl ?_
    refine wk_gT (q := 22) fgX9_115 dX9_takeDegrees_19 rfl rfl ?_
    rw [e5]
    refine wk_put (q := 25) fpX9_127 dX9_takeDegrees_22 rfl rfl rfl rfl rfl rfl ?_
    rw [wr_n (show 42 ≠ 60 by decide), wr_comm (show 60 ≠ 42 by decide)]
    refine wk_aload_n (i := 0) (q := 26) dX9_takeDegrees_25 rfl rfl rfl ?_
    have hb2 : ∀ i, i < tn → byRel ((wr m 42 (upd (m 42) 6 (nI (tkV T tn (tkE T tn p))))) 61 i) (T i) := fun i hi => by (rw [wr_n (show 61 ≠ 42 by decide)]; exact hb i hi)
    refine wk_V0v (d' := 2) (q := 29) lkX9_22 dX9_takeDegrees_26 rfl rfl rfl rfl rfl rfl rfl ?_
    refine ck_next ht hpe hC1 hb2 (fun S2 hC2 k6 k7 => ?_)
    refine wk_iconst (v := 1) (q := 30) dX9_takeDegrees_29 rfl rfl ?_
    refine wk_ireturn dX9_takeDegrees_30 rfl rfl ?_
    rw [if_pos n1] at h1
    exact h1 _ _ _ _ rfl hC2 (hasB_deg hB) frB_b
  · skip
    refine wk_if_ne (t := 17) (q := 15) dX9_takeDegrees_12 rfl rfl (fun h => absurd (by decide) h) (fun _ => ?_)
    refine wk_iconst (v := 0) (q := 16) dX9_takeDegrees_15 rfl rfl ?_
    refine wk_ireturn dX9_takeDegrees_16 rfl rfl ?_
    rw [if_neg n1] at h0
    exact h0 _ _ _ rfl hC1
end CU
