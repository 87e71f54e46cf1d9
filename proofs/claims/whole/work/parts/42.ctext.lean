/-! the class's text: numbers, kinds, spans -/
def CS (S : Nat → Int32) (tn : Nat) (T : Nat → Int32) (p : Nat) : Prop := S 1 = nI tn ∧ S 3 = nI (tkS T tn p) ∧ S 4 = nI (tkE T tn p) ∧ S 2 = nI (tkT T tn p) ∧ (tkT T tn p = 2 → S 5 = nI (min 1000 (tkV T tn p)))
theorem tkT_b {T : Nat → Int32} {tn p : Nat} : tkT T tn p ≤ 4 := by
  unfold tkT
  repeat' split
  all_goals omega
theorem nI_lei {a b : Nat} (ha : a < 2 ^ 31) (hb : b < 2 ^ 31) : nI a ≤ nI b ↔ a ≤ b := by
  rw [fa_le, nI_toInt ha, nI_toInt hb]
  omega
section CT
variable {E : EVt} {m : Mm} {L : Ml} {Q : Value → Mm → Ml → Prop} {S T : Nat → Int32} {tn p : Nat}
theorem ck_next (ht : tn ≤ 120) (hp : p ≤ tn) (hC : CS S tn T p) (hb : ∀ i, i < tn → byRel (m 61 i) (T i)) (hQ : ∀ S', CS S' tn T (tkE T tn p) → S' 6 = S 6 → S' 7 = S 7 → Q .null (wr m 60 S') L) : CK E 2 MX9_nextToken [.ref (ev_z E + 60)] (wr m 60 S) L Q :=
  ck_X9_nextToken (e := tkE T tn p) ht (tkE_ub hp) hC.1 hC.2.2.1 hb (fun S' q1 q6 q7 q3 q4 q2 q5 => hQ S' ⟨q1.trans hC.1, q3, q4, q2, q5⟩ q6 q7)
theorem ck_word {i : Nat} (hi : i < 13) (ht : tn ≤ 120) (hp : p ≤ tn) (hC : CS S tn T p) (hb : ∀ i, i < tn → byRel (m 61 i) (T i)) (h1 : wB T tn p i = true → Q (.int 1) (wr m 60 S) L) (h0 : ¬ wB T tn p i = true → Q (.int 0) (wr m 60 S) L) : CK E 6 MX9_isWord [.ref (ev_z E + 60), .ref (ev_K E i)] (wr m 60 S) L Q :=
  ck_X9_isWord hi ht hp hC.1 hC.2.1 hC.2.2.1 hC.2.2.2.1 hb (fun h => h1 (wB_iff.mpr h)) (fun h => h0 (fun g => h (wB_iff.mp g)))
theorem ck_isNumber {lo hi : Nat} (hlo : lo ≤ 1000) (hhi : hi < 1000) (hC : CS S tn T p) (h1 : numB T tn p lo hi = true → S 5 = nI (tkV T tn p) → Q (.int 1) (wr m 60 S) L) (h0 : ¬ numB T tn p lo hi = true → Q (.int 0) (wr m 60 S) L) : CK E 2 MX9_isNumber [.ref (ev_z E + 60), .int (nI lo), .int (nI hi)] (wr m 60 S) L Q := by
  have htk := tkT_b (T := T) (tn := tn) (p := p)
  have key : tkT T tn p = 2 → ((nI lo ≤ S 5 ∧ S 5 ≤ nI hi) ↔ numB T tn p lo hi = true) := fun hT => by
    rw [hC.2.2.2.2 hT, nI_lei (by omega) (by omega), nI_lei (by omega) (by omega), numB_iff]
    unfold numP
    omega
  have hv : numB T tn p lo hi = true → S 5 = nI (tkV T tn p) := fun h => by
    have hq := numB_iff.mp h
    have hT := hq.1
    rw [hC.2.2.2.2 hT]
    unfold numP at hq
    rw [show min 1000 (tkV T tn p) = tkV T tn p by omega]
  refine CK.of rfl rfl (lv := [(0, _), (1, _), (2, _)]) rfl ?_
  refine wk_aload_n (i := 0) (q := 1) dX9_isNumber_0 rfl rfl rfl ?_
  refine wk_gT (q := 4) fgX9_29 dX9_isNumber_1 rfl rfl ?_
  refine wk_iconst (v := 2) (q := 5) dX9_isNumber_4 rfl rfl ?_
  rw [hC.2.2.2.1]
  refine wk_icmp_ne (t := 24) (q := 8) dX9_isNumber_5 rfl rfl (fun c5 => ?_) (fun c5 => ?_)
  · skip
    have hT : ¬ tkT T tn p = 2 := fun h => c5 (by rw [h]; rfl)
    refine wk_iconst (v := 0) (q := 25) dX9_isNumber_24 rfl rfl ?_
    refine wk_ireturn dX9_isNumber_25 rfl rfl ?_
    first | exact h1 hn (hv hn) | exact h0 hn | exact h0 (fun h => hT (numB_iff.mp h).1)
  · skip
    have hT : tkT T tn p = 2 := nI_inj (b := 2) (by omega) (by omega) c5
    refine wk_aload_n (i := 0) (q := 9) dX9_isNumber_8 rfl rfl rfl ?_
    refine wk_gT (q := 12) fgX9_115 dX9_isNumber_9 rfl rfl ?_
    refine wk_iload_n (i := 1) (q := 13) dX9_isNumber_12 rfl rfl rfl ?_
    refine wk_iload_n (i := 2) (q := 14) dX9_isNumber_13 rfl rfl rfl ?_
    refine wk_T3r (d' := 1) (q := 17) lkX9_136 dX9_isNumber_14 rfl rfl rfl rfl ?_
    refine ck_X11_within (fun hw => ?_) (fun hw => ?_)
    · skip
      have hn := (key hT).mp hw
      refine wk_if_eq (t := 24) (q := 20) dX9_isNumber_17 rfl rfl (fun h => absurd h (by decide)) (fun _ => ?_)
      refine wk_iconst (v := 1) (q := 21) dX9_isNumber_20 rfl rfl ?_
      refine wk_goto (t := 25) dX9_isNumber_21 rfl ?_
      refine wk_ireturn dX9_isNumber_25 rfl rfl ?_
      first | exact h1 hn (hv hn) | exact h0 hn | exact h0 (fun h => hT (numB_iff.mp h).1)
    · skip
      have hn := fun h => hw ((key hT).mpr h)
      refine wk_if_eq (t := 24) (q := 20) dX9_isNumber_17 rfl rfl (fun _ => ?_) (fun h => absurd (by decide) h)
      refine wk_iconst (v := 0) (q := 25) dX9_isNumber_24 rfl rfl ?_
      refine wk_ireturn dX9_isNumber_25 rfl rfl ?_
      first | exact h1 hn (hv hn) | exact h0 hn | exact h0 (fun h => hT (numB_iff.mp h).1)
theorem ck_kindNamed (ht : tn ≤ 120) (hp : p ≤ tn) (hC : CS S tn T p) (hb : ∀ i, i < tn → byRel (m 61 i) (T i)) (h1 : kdN T tn p < 6 → Q (.int (nI (kdN T tn p))) (wr m 60 S) L) (h0 : ¬ kdN T tn p < 6 → Q (.int (-1)) (wr m 60 S) L) : CK E 7 MX9_kindNamed [.ref (ev_z E + 60)] (wr m 60 S) L Q := by
  have hk : ∀ k, k < 6 → wB T tn p k = true → Q (.int (nI k)) (wr m 60 S) L := fun k hk6 hw => by
    have e := kdN_of hk6 (wB_iff.mp hw)
    rw [e] at h1
    exact h1 hk6
  refine CK.of rfl rfl (lv := [(0, _)]) rfl ?_
  refine wk_aload_n (i := 0) (q := 1) dX9_kindNamed_0 rfl rfl rfl ?_
  refine wk_ldcS (i := 0) (q := 3) dX9_kindNamed_1 rfl (by decide) rfl rfl ?_
  refine wk_V1r (d' := 6) (q := 6) lkX9_54 dX9_kindNamed_3 rfl rfl rfl rfl rfl rfl rfl ?_
  refine ck_word (by decide) ht hp hC hb (fun w0 => ?_) (fun w0 => ?_)
  · skip
    refine wk_if_eq (t := 11) (q := 9) dX9_kindNamed_6 rfl rfl (fun h => absurd h (by decide)) (fun _ => ?_)
    refine wk_iconst (v := 0) (q := 10) dX9_kindNamed_9 rfl rfl ?_
    refine wk_ireturn dX9_kindNamed_10 rfl rfl ?_
    exact hk 0 (by decide) w0
  · skip
    refine wk_if_eq (t := 11) (q := 9) dX9_kindNamed_6 rfl rfl (fun _ => ?_) (fun h => absurd (by decide) h)
    refine wk_aload_n (i := 0) (q := 12) dX9_kindNamed_11 rfl rfl rfl ?_
    refine wk_ldcS (i := 1) (q := 14) dX9_kindNamed_12 rfl (by decide) rfl rfl ?_
    refine wk_V1r (d' := 6) (q := 17) lkX9_54 dX9_kindNamed_14 rfl rfl rfl rfl rfl rfl rfl ?_
    refine ck_word (by decide) ht hp hC hb (fun w1 => ?_) (fun w1 => ?_)
    · skip
      refine wk_if_eq (t := 22) (q := 20) dX9_kindNamed_17 rfl rfl (fun h => absurd h (by decide)) (fun _ => ?_)
      refine wk_iconst (v := 1) (q := 21) dX9_kindNamed_20 rfl rfl ?_
      refine wk_ireturn dX9_kindNamed_21 rfl rfl ?_
      exact hk 1 (by decide) w1
    · skip
      refine wk_if_eq (t := 22) (q := 20) dX9_kindNamed_17 rfl rfl (fun _ => ?_) (fun h => absurd (by decide) h)
      refine wk_aload_n (i := 0) (q := 23) dX9_kindNamed_22 rfl rfl rfl ?_
      refine wk_ldcS (i := 2) (q := 25) dX9_kindNamed_23 rfl (by decide) rfl rfl ?_
      refine wk_V1r (d' := 6) (q := 28) lkX9_54 dX9_kindNamed_25 rfl rfl rfl rfl rfl rfl rfl ?_
      refine ck_word (by decide) ht hp hC hb (fun w2 => ?_) (fun w2 => ?_)
      · skip
        refine wk_if_eq (t := 33) (q := 31) dX9_kindNamed_28 rfl rfl (fun h => absurd h (by decide)) (fun _ => ?_)
        refine wk_iconst (v := 2) (q := 32) dX9_kindNamed_31 rfl rfl ?_
        refine wk_ireturn dX9_kindNamed_32 rfl rfl ?_
        exact hk 2 (by decide) w2
      · skip
        refine wk_if_eq (t := 33) (q := 31) dX9_kindNamed_28 rfl rfl (fun _ => ?_) (fun h => absurd (by decide) h)
        refine wk_aload_n (i := 0) (q := 34) dX9_kindNamed_33 rfl rfl rfl ?_
        refine wk_ldcS (i := 3) (q := 36) dX9_kindNamed_34 rfl (by decide) rfl rfl ?_
        refine wk_V1r (d' := 6) (q := 39) lkX9_54 dX9_kindNamed_36 rfl rfl rfl rfl rfl rfl rfl ?_
        refine ck_word (by decide) ht hp hC hb (fun w3 => ?_) (fun w3 => ?_)
        · skip
          refine wk_if_eq (t := 44) (q := 42) dX9_kindNamed_39 rfl rfl (fun h => absurd h (by decide)) (fun _ => ?_)
          refine wk_iconst (v := 3) (q := 43) dX9_kindNamed_42 rfl rfl ?_
          refine wk_ireturn dX9_kindNamed_43 rfl rfl ?_
          exact hk 3 (by decide) w3
        · skip
          refine wk_if_eq (t := 44) (q := 42) dX9_kindNamed_39 rfl rfl (fun _ => ?_) (fun h => absurd (by decide) h)
          refine wk_aload_n (i := 0) (q := 45) dX9_kindNamed_44 rfl rfl rfl ?_
          refine wk_ldcS (i := 4) (q := 47) dX9_kindNamed_45 rfl (by decide) rfl rfl ?_
          refine wk_V1r (d' := 6) (q := 50) lkX9_54 dX9_kindNamed_47 rfl rfl rfl rfl rfl rfl rfl ?_
          refine ck_word (by decide) ht hp hC hb (fun w4 => ?_) (fun w4 => ?_)
          · skip
            refine wk_if_eq (t := 55) (q := 53) dX9_kindNamed_50 rfl rfl (fun h => absurd h (by decide)) (fun _ => ?_)
            refine wk_iconst (v := 4) (q := 54) dX9_kindNamed_53 rfl rfl ?_
            refine wk_ireturn dX9_kindNamed_54 rfl rfl ?_
            exact hk 4 (by decide) w4
          · skip
            refine wk_if_eq (t := 55) (q := 53) dX9_kindNamed_50 rfl rfl (fun _ => ?_) (fun h => absurd (by decide) h)
            refine wk_aload_n (i := 0) (q := 56) dX9_kindNamed_55 rfl rfl rfl ?_
            refine wk_ldcS (i := 5) (q := 58) dX9_kindNamed_56 rfl (by decide) rfl rfl ?_
            refine wk_V1r (d' := 6) (q := 61) lkX9_54 dX9_kindNamed_58 rfl rfl rfl rfl rfl rfl rfl ?_
            refine ck_word (by decide) ht hp hC hb (fun w5 => ?_) (fun w5 => ?_)
            · skip
              refine wk_if_eq (t := 68) (q := 64) dX9_kindNamed_61 rfl rfl (fun h => absurd h (by decide)) (fun _ => ?_)
              refine wk_iconst (v := 5) (q := 65) dX9_kindNamed_64 rfl rfl ?_
              refine wk_goto (t := 69) dX9_kindNamed_65 rfl ?_
              refine wk_ireturn dX9_kindNamed_69 rfl rfl ?_
              exact hk 5 (by decide) w5
            · skip
              refine wk_if_eq (t := 68) (q := 64) dX9_kindNamed_61 rfl rfl (fun _ => ?_) (fun h => absurd (by decide) h)
              refine wk_iconst (v := -1) (q := 69) dX9_kindNamed_68 rfl rfl ?_
              refine wk_ireturn dX9_kindNamed_69 rfl rfl ?_
              refine h0 (fun h => ?_)
              unfold kdN at h
              rw [if_neg w0, if_neg w1, if_neg w2, if_neg w3, if_neg w4, if_neg w5] at h
              exact absurd h (by decide)
theorem ck_takeTwoSpans (ht : tn ≤ 120) (hp : p ≤ tn) (hC : CS S tn T p) (hb : ∀ i, i < tn → byRel (m 61 i) (T i)) (h1 : numB T tn p 10 200 = true → numB T tn (tkE T tn p) 10 200 = true → ∀ S', CS S' tn T (tkE T tn (tkE T tn p)) → S' 6 = nI (tkV T tn p) → S' 7 = nI (tkV T tn (tkE T tn p)) → Q (.int 1) (wr m 60 S') L) (ha : ¬ numB T tn p 10 200 = true → Q (.int 0) (wr m 60 S) L) (hz : numB T tn p 10 200 = true → ¬ numB T tn (tkE T tn p) 10 200 = true → ∀ S', CS S' tn T (tkE T tn p) → Q (.int 0) (wr m 60 S') L) : CK E 3 MX9_takeTwoSpans [.ref (ev_z E + 60)] (wr m 60 S) L Q := by
  have hpe := tkE_ub (T := T) hp
  refine CK.of rfl rfl (lv := [(0, _)]) rfl ?_
  refine wk_aload_n (i := 0) (q := 1) dX9_takeTwoSpans_0 rfl rfl rfl ?_
  refine wk_bipush (v := 10) (q := 3) dX9_takeTwoSpans_1 rfl rfl ?_
  refine wk_sipush (v := 200) (q := 6) dX9_takeTwoSpans_3 rfl rfl ?_
  refine wk_V2r (d' := 2) (q := 9) lkX9_111 dX9_takeTwoSpans_6 rfl rfl rfl rfl rfl rfl rfl ?_
  refine ck_isNumber (lo := 10) (hi := 200) (by decide) (by decide) hC (fun n1 e5 => ?_) (fun n1 => ?_)
  · skip
    refine wk_if_ne (t := 14) (q := 12) dX9_takeTwoSpans_9 rfl rfl (fun _ => ?_) (fun h => absurd h (by decide))
    refine wk_aload_n (i := 0) (q := 15) dX9_takeTwoSpans_14 rfl rfl rfl ?_
    refine wk_aload_n (i := 0) (q := 16) dX9_takeTwoSpans_15 rfl rfl rfl ?_
    refine wk_gT (q := 19) fgX9_115 dX9_takeTwoSpans_16 rfl rfl ?_
    refine wk_pT (q := 22) fpX9_95 dX9_takeTwoSpans_19 rfl rfl rfl rfl ?_
    refine wk_aload_n (i := 0) (q := 23) dX9_takeTwoSpans_22 rfl rfl rfl ?_
    have hC1 : CS (upd S 6 (S 5)) tn T p := ⟨(upd_n (by decide)).trans hC.1, (upd_n (by decide)).trans hC.2.1, (upd_n (by decide)).trans hC.2.2.1, (upd_n (by decide)).trans hC.2.2.2.1, fun h => (upd_n (by decide)).trans (hC.2.2.2.2 h)⟩
    refine wk_V0v (d' := 2) (q := 26) lkX9_22 dX9_takeTwoSpans_23 rfl rfl rfl rfl rfl rfl rfl ?_
    refine ck_next ht hp hC1 hb (fun S1 hC2 g6 g7 => ?_)
    refine wk_aload_n (i := 0) (q := 27) dX9_takeTwoSpans_26 rfl rfl rfl ?_
    refine wk_bipush (v := 10) (q := 29) dX9_takeTwoSpans_27 rfl rfl ?_
    refine wk_sipush (v := 200) (q := 32) dX9_takeTwoSpans_29 rfl rfl ?_
    refine wk_V2r (d' := 2) (q := 35) lkX9_111 dX9_takeTwoSpans_32 rfl rfl rfl rfl rfl rfl rfl ?_
    refine ck_isNumber (lo := 10) (hi := 200) (by decide) (by decide) hC2 (fun n2 f5 => ?_) (fun n2 => ?_)
    · skip
      refine wk_if_ne (t := 40) (q := 38) dX9_takeTwoSpans_35 rfl rfl (fun _ => ?_) (fun h => absurd h (by decide))
      refine wk_aload_n (i := 0) (q := 41) dX9_takeTwoSpans_40 rfl rfl rfl ?_
      refine wk_aload_n (i := 0) (q := 42) dX9_takeTwoSpans_41 rfl rfl rfl ?_
      refine wk_gT (q := 45) fgX9_115 dX9_takeTwoSpans_42 rfl rfl ?_
      refine wk_pT (q := 48) fpX9_103 dX9_takeTwoSpans_45 rfl rfl rfl rfl ?_
      refine wk_aload_n (i := 0) (q := 49) dX9_takeTwoSpans_48 rfl rfl rfl ?_
      have hC3 : CS (upd S1 7 (S1 5)) tn T (tkE T tn p) := ⟨(upd_n (by decide)).trans hC2.1, (upd_n (by decide)).trans hC2.2.1, (upd_n (by decide)).trans hC2.2.2.1, (upd_n (by decide)).trans hC2.2.2.2.1, fun h => (upd_n (by decide)).trans (hC2.2.2.2.2 h)⟩
      refine wk_V0v (d' := 2) (q := 52) lkX9_22 dX9_takeTwoSpans_49 rfl rfl rfl rfl rfl rfl rfl ?_
      refine ck_next ht hpe hC3 hb (fun S2 hC4 k6 k7 => ?_)
      refine wk_iconst (v := 1) (q := 53) dX9_takeTwoSpans_52 rfl rfl ?_
      refine wk_ireturn dX9_takeTwoSpans_53 rfl rfl ?_
      exact h1 n1 n2 S2 hC4 (k6.trans ((upd_n (by decide)).trans (g6.trans (upd_s.trans e5)))) (k7.trans (upd_s.trans f5))
    · skip
      refine wk_if_ne (t := 40) (q := 38) dX9_takeTwoSpans_35 rfl rfl (fun h => absurd (by decide) h) (fun _ => ?_)
      refine wk_iconst (v := 0) (q := 39) dX9_takeTwoSpans_38 rfl rfl ?_
      refine wk_ireturn dX9_takeTwoSpans_39 rfl rfl ?_
      exact hz n1 n2 S1 hC2
  · skip
    refine wk_if_ne (t := 14) (q := 12) dX9_takeTwoSpans_9 rfl rfl (fun h => absurd (by decide) h) (fun _ => ?_)
    refine wk_iconst (v := 0) (q := 13) dX9_takeTwoSpans_12 rfl rfl ?_
    refine wk_ireturn dX9_takeTwoSpans_13 rfl rfl ?_
    exact ha n1
end CT
