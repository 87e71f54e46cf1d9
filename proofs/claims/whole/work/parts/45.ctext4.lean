/-! the class's text: an item, whole -/
section CW
variable {E : EVt} {m : Mm} {L : Ml} {Q : Value → Mm → Ml → Prop} {S T A : Nat → Int32} {tn p D : Nat}
theorem hb_fr {m m' : Mm} {T : Nat → Int32} {tn : Nat} (hb : ∀ i, i < tn → byRel (m 61 i) (T i)) (hF : frB m m' 42) : ∀ i, i < tn → byRel (m' 61 i) (T i) := fun i hi => by
  rw [hF 61 (by omega)]
  exact hb i hi
theorem ck_takeItem (ht : tn ≤ 120) (hp : p ≤ tn) (hC : CS S tn T p) (hb : ∀ i, i < tn → byRel (m 61 i) (T i)) (hO : okA D A) (hB : hasB m 42 A) (h1 : ∀ A' q S' m', itmS T tn A p = (true, A', q) → CS S' tn T q → hasB m' 42 A' → frB m m' 42 → Q (.int 1) (wr m' 60 S') L) (h0 : ∀ A0 q S' m', itmS T tn A p = (false, A0, q) → CS S' tn T q → frB m m' 42 → Q (.int 0) (wr m' 60 S') L) : CK E 8 MX9_takeItem [.ref (ev_z E + 60), .ref (ev_z E + 42)] (wr m 60 S) L Q := by
  have hpe := tkE_ub (T := T) hp
  have hc8 := hO.1.2.1
  unfold itmS garS at h1 h0
  refine CK.of rfl rfl (lv := [(0, _), (1, _)]) rfl ?_
  refine wk_aload_n (i := 0) (q := 1) dX9_takeItem_0 rfl rfl rfl ?_
  refine wk_V0r (d' := 7) (q := 4) lkX9_35 dX9_takeItem_1 rfl rfl rfl rfl rfl rfl rfl ?_
  refine ck_kindNamed ht hp hC hb (fun hk => ?_) (fun hk => ?_)
  · skip
    refine wk_istore_n (i := 2) (q := 5) (lv' := [_, _, _]) dX9_takeItem_4 rfl rfl rfl rfl ?_
    refine wk_iload_n (i := 2) (q := 6) dX9_takeItem_5 rfl rfl rfl ?_
    refine wk_if_lt (t := 47) (q := 9) dX9_takeItem_6 rfl rfl (fun h => absurd h (nI_nlt (b := 0) (Nat.zero_le _) (by omega))) (fun c6 => ?_)
    refine wk_aload_n (i := 1) (q := 10) dX9_takeItem_9 rfl rfl rfl ?_
    refine wk_iload_n (i := 2) (q := 11) dX9_takeItem_10 rfl rfl rfl ?_
    refine wk_V1r (d' := 2) (q := 14) lkX9_39 dX9_takeItem_11 rfl rfl rfl rfl rfl rfl rfl ?_
    refine ck_X0_addGarment (b := 42) rfl ⟨nI_le (a := 0) (Nat.zero_le _) (by omega), nI_le (b := 5) (by omega) (by omega)⟩ (hasB_60 hB) hO.1.1 hc8 (fun hlt m1 hB1 hF1 => ?_) (fun hno => ?_)
    · skip
      obtain ⟨m2, rfl, hF2, hh⟩ := un60 hF1
      have hB2 := hh _ hB1
      have hb2 := hb_fr hb hF2
      rw [if_pos hk, if_pos hlt] at h1 h0
      refine wk_astore_n (i := 3) (q := 15) (lv' := [_, _, _, _]) dX9_takeItem_14 rfl rfl rfl rfl ?_
      refine wk_aload_n (i := 3) (q := 16) dX9_takeItem_15 rfl rfl rfl ?_
      refine wk_ifnonnull (t := 21) dX9_takeItem_16 rfl ?_
      refine wk_aload_n (i := 0) (q := 22) dX9_takeItem_21 rfl rfl rfl ?_
      refine wk_V0v (d' := 2) (q := 25) lkX9_22 dX9_takeItem_22 rfl rfl rfl rfl rfl rfl rfl ?_
      refine ck_next ht hp hC hb2 (fun S1 hC1 g6 g7 => ?_)
      refine wk_aload_n (i := 0) (q := 26) dX9_takeItem_25 rfl rfl rfl ?_
      refine wk_aload_n (i := 3) (q := 27) dX9_takeItem_26 rfl rfl rfl ?_
      refine wk_V1r (d' := 7) (q := 30) lkX9_45 dX9_takeItem_27 rfl rfl rfl rfl rfl rfl rfl ?_
      refine ck_takeSpans ht hpe hlt hC1 hb2 hB2 (fun A3 q S2 m3 hq hs hC2 hB3 hF3 => ?_) (fun A3 q S2 hs hC2 => ?_)
      · skip
        refine wk_if_eq (t := 45) (q := 33) dX9_takeItem_30 rfl rfl (fun h => absurd h (by decide)) (fun _ => ?_)
        refine wk_aload_n (i := 0) (q := 34) dX9_takeItem_33 rfl rfl rfl ?_
        refine wk_aload_n (i := 3) (q := 35) dX9_takeItem_34 rfl rfl rfl ?_
        refine wk_V1r (d' := 7) (q := 38) lkX9_49 dX9_takeItem_35 rfl rfl rfl rfl rfl rfl rfl ?_
        refine ck_takeThickness ht hq hlt hC2 (hb_fr hb2 hF3) hB3 (fun A4 q4 S4 m4 hs4 hC4 hB4 hF4 => ?_) (fun A4 q4 S4 hs4 hC4 => ?_)
        · skip
          refine wk_if_eq (t := 45) (q := 41) dX9_takeItem_38 rfl rfl (fun h => absurd h (by decide)) (fun _ => ?_)
          refine wk_iconst (v := 1) (q := 42) dX9_takeItem_41 rfl rfl ?_
          refine wk_goto (t := 46) dX9_takeItem_42 rfl ?_
          refine wk_ireturn dX9_takeItem_46 rfl rfl ?_
          first | exact h1 _ _ _ _ (hs.trans hs4) hC4 hB4 ((hF2.trans hF3).trans hF4) | exact h0 _ _ _ _ (hs.trans hs4) hC4 (hF2.trans hF3) | exact h0 _ _ _ _ hs hC2 hF2
        · skip
          refine wk_if_eq (t := 45) (q := 41) dX9_takeItem_38 rfl rfl (fun _ => ?_) (fun h => absurd (by decide) h)
          refine wk_iconst (v := 0) (q := 46) dX9_takeItem_45 rfl rfl ?_
          refine wk_ireturn dX9_takeItem_46 rfl rfl ?_
          first | exact h1 _ _ _ _ (hs.trans hs4) hC4 hB4 ((hF2.trans hF3).trans hF4) | exact h0 _ _ _ _ (hs.trans hs4) hC4 (hF2.trans hF3) | exact h0 _ _ _ _ hs hC2 hF2
      · skip
        refine wk_if_eq (t := 45) (q := 33) dX9_takeItem_30 rfl rfl (fun _ => ?_) (fun h => absurd (by decide) h)
        refine wk_iconst (v := 0) (q := 46) dX9_takeItem_45 rfl rfl ?_
        refine wk_ireturn dX9_takeItem_46 rfl rfl ?_
        first | exact h1 _ _ _ _ (hs.trans hs4) hC4 hB4 ((hF2.trans hF3).trans hF4) | exact h0 _ _ _ _ (hs.trans hs4) hC4 (hF2.trans hF3) | exact h0 _ _ _ _ hs hC2 hF2
    · skip
      refine wk_astore_nN (i := 3) (q := 15) (lv' := [_, _, _, _]) dX9_takeItem_14 rfl rfl rfl rfl ?_
      refine wk_aload_nN (i := 3) (q := 16) dX9_takeItem_15 rfl rfl rfl ?_
      refine wk_ifnonnullN (q := 19) dX9_takeItem_16 rfl ?_
      refine wk_iconst (v := 0) (q := 20) dX9_takeItem_19 rfl rfl ?_
      refine wk_ireturn dX9_takeItem_20 rfl rfl ?_
      rw [if_pos hk, if_neg (by omega)] at h0
      exact h0 _ _ _ _ rfl hC frB.rf
  · skip
    refine wk_istore_n (i := 2) (q := 5) (lv' := [_, _, _]) dX9_takeItem_4 rfl rfl rfl rfl ?_
    refine wk_iload_n (i := 2) (q := 6) dX9_takeItem_5 rfl rfl rfl ?_
    refine wk_if_lt (t := 47) (q := 9) dX9_takeItem_6 rfl rfl (fun _ => ?_) (fun h => absurd (by decide) h)
    refine wk_aload_n (i := 0) (q := 48) dX9_takeItem_47 rfl rfl rfl ?_
    refine wk_ldcS (i := 8) (q := 50) dX9_takeItem_48 rfl (by decide) rfl rfl ?_
    refine wk_V1r (d' := 6) (q := 53) lkX9_54 dX9_takeItem_50 rfl rfl rfl rfl rfl rfl rfl ?_
    refine ck_word (by decide) ht hp hC hb (fun w8 => ?_) (fun w8 => ?_)
    · skip
      refine wk_if_eq (t := 62) (q := 56) dX9_takeItem_53 rfl rfl (fun h => absurd h (by decide)) (fun _ => ?_)
      refine wk_aload_n (i := 0) (q := 57) dX9_takeItem_56 rfl rfl rfl ?_
      refine wk_aload_n (i := 1) (q := 58) dX9_takeItem_57 rfl rfl rfl ?_
      refine wk_V1r (d' := 4) (q := 61) lkX9_58 dX9_takeItem_58 rfl rfl rfl rfl rfl rfl rfl ?_
      refine ck_takePerson ht hp hC hb hO hB (fun A3 q S2 m3 hs hC2 hB3 hF3 => ?_) (fun A3 q S2 hs hC2 => ?_)
      · skip
        refine wk_ireturn dX9_takeItem_61 rfl rfl ?_
        rw [if_neg hk, if_pos w8] at h1 h0
        first | exact h1 _ _ _ _ hs hC2 hB3 hF3 | exact h0 _ _ _ _ hs hC2 frB.rf
      · skip
        refine wk_ireturn dX9_takeItem_61 rfl rfl ?_
        rw [if_neg hk, if_pos w8] at h1 h0
        first | exact h1 _ _ _ _ hs hC2 hB3 hF3 | exact h0 _ _ _ _ hs hC2 frB.rf
    · skip
      refine wk_if_eq (t := 62) (q := 56) dX9_takeItem_53 rfl rfl (fun _ => ?_) (fun h => absurd (by decide) h)
      refine wk_aload_n (i := 0) (q := 63) dX9_takeItem_62 rfl rfl rfl ?_
      refine wk_ldcS (i := 9) (q := 65) dX9_takeItem_63 rfl (by decide) rfl rfl ?_
      refine wk_V1r (d' := 6) (q := 68) lkX9_54 dX9_takeItem_65 rfl rfl rfl rfl rfl rfl rfl ?_
      refine ck_word (by decide) ht hp hC hb (fun w9 => ?_) (fun w9 => ?_)
      · skip
        refine wk_if_eq (t := 77) (q := 71) dX9_takeItem_68 rfl rfl (fun h => absurd h (by decide)) (fun _ => ?_)
        refine wk_aload_n (i := 0) (q := 72) dX9_takeItem_71 rfl rfl rfl ?_
        refine wk_aload_n (i := 1) (q := 73) dX9_takeItem_72 rfl rfl rfl ?_
        refine wk_V1r (d' := 3) (q := 76) lkX9_63 dX9_takeItem_73 rfl rfl rfl rfl rfl rfl rfl ?_
        refine ck_takeDegrees ht hp hC hb hB (fun A3 q S2 m3 hs hC2 hB3 hF3 => ?_) (fun A3 q S2 hs hC2 => ?_)
        · skip
          refine wk_ireturn dX9_takeItem_76 rfl rfl ?_
          rw [if_neg hk, if_neg w8, if_pos w9] at h1 h0
          first | exact h1 _ _ _ _ hs hC2 hB3 hF3 | exact h0 _ _ _ _ hs hC2 frB.rf
        · skip
          refine wk_ireturn dX9_takeItem_76 rfl rfl ?_
          rw [if_neg hk, if_neg w8, if_pos w9] at h1 h0
          first | exact h1 _ _ _ _ hs hC2 hB3 hF3 | exact h0 _ _ _ _ hs hC2 frB.rf
      · skip
        refine wk_if_eq (t := 77) (q := 71) dX9_takeItem_68 rfl rfl (fun _ => ?_) (fun h => absurd (by decide) h)
        refine wk_aload_n (i := 0) (q := 78) dX9_takeItem_77 rfl rfl rfl ?_
        refine wk_ldcS (i := 10) (q := 80) dX9_takeItem_78 rfl (by decide) rfl rfl ?_
        refine wk_V1r (d' := 6) (q := 83) lkX9_54 dX9_takeItem_80 rfl rfl rfl rfl rfl rfl rfl ?_
        refine ck_word (by decide) ht hp hC hb (fun w10 => ?_) (fun w10 => ?_)
        · skip
          refine wk_if_eq (t := 92) (q := 86) dX9_takeItem_83 rfl rfl (fun h => absurd h (by decide)) (fun _ => ?_)
          refine wk_aload_n (i := 0) (q := 87) dX9_takeItem_86 rfl rfl rfl ?_
          refine wk_aload_n (i := 1) (q := 88) dX9_takeItem_87 rfl rfl rfl ?_
          refine wk_V1r (d' := 4) (q := 91) lkX9_68 dX9_takeItem_88 rfl rfl rfl rfl rfl rfl rfl ?_
          refine ck_takeWash ht hp hC hb hO hB (fun A3 q S2 m3 hs hC2 hB3 hF3 => ?_) (fun A3 q S2 hs hC2 => ?_)
          · skip
            refine wk_ireturn dX9_takeItem_91 rfl rfl ?_
            rw [if_neg hk, if_neg w8, if_neg w9, if_pos w10] at h1 h0
            first | exact h1 _ _ _ _ hs hC2 hB3 hF3 | exact h0 _ _ _ _ hs hC2 frB.rf
          · skip
            refine wk_ireturn dX9_takeItem_91 rfl rfl ?_
            rw [if_neg hk, if_neg w8, if_neg w9, if_pos w10] at h1 h0
            first | exact h1 _ _ _ _ hs hC2 hB3 hF3 | exact h0 _ _ _ _ hs hC2 frB.rf
        · skip
          refine wk_if_eq (t := 92) (q := 86) dX9_takeItem_83 rfl rfl (fun _ => ?_) (fun h => absurd (by decide) h)
          refine wk_aload_n (i := 0) (q := 93) dX9_takeItem_92 rfl rfl rfl ?_
          refine wk_ldcS (i := 11) (q := 95) dX9_takeItem_93 rfl (by decide) rfl rfl ?_
          refine wk_V1r (d' := 6) (q := 98) lkX9_54 dX9_takeItem_95 rfl rfl rfl rfl rfl rfl rfl ?_
          refine ck_word (by decide) ht hp hC hb (fun w11 => ?_) (fun w11 => ?_)
          · skip
            refine wk_if_eq (t := 112) (q := 101) dX9_takeItem_98 rfl rfl (fun h => absurd h (by decide)) (fun _ => ?_)
            refine wk_aload_n (i := 1) (q := 102) dX9_takeItem_101 rfl rfl rfl ?_
            refine wk_iconst (v := 1) (q := 103) dX9_takeItem_102 rfl rfl ?_
            refine wk_put (q := 106) fpX9_73 dX9_takeItem_103 rfl rfl rfl rfl rfl rfl ?_
            rw [wr_n (show 42 ≠ 60 by decide), wr_comm (show 60 ≠ 42 by decide)]
            refine wk_aload_n (i := 0) (q := 107) dX9_takeItem_106 rfl rfl rfl ?_
            refine wk_V0v (d' := 2) (q := 110) lkX9_22 dX9_takeItem_107 rfl rfl rfl rfl rfl rfl rfl ?_
            refine ck_next ht hp hC (hb_fr hb frB_b) (fun S1 hC1 g6 g7 => ?_)
            refine wk_iconst (v := 1) (q := 111) dX9_takeItem_110 rfl rfl ?_
            refine wk_ireturn dX9_takeItem_111 rfl rfl ?_
            rw [if_neg hk, if_neg w8, if_neg w9, if_neg w10, if_pos w11] at h1
            exact h1 _ _ _ _ rfl hC1 (hasB_tow hB) frB_b
          · skip
            refine wk_if_eq (t := 112) (q := 101) dX9_takeItem_98 rfl rfl (fun _ => ?_) (fun h => absurd (by decide) h)
            refine wk_aload_n (i := 0) (q := 113) dX9_takeItem_112 rfl rfl rfl ?_
            refine wk_ldcS (i := 12) (q := 115) dX9_takeItem_113 rfl (by decide) rfl rfl ?_
            refine wk_V1r (d' := 6) (q := 118) lkX9_54 dX9_takeItem_115 rfl rfl rfl rfl rfl rfl rfl ?_
            refine ck_word (by decide) ht hp hC hb (fun w12 => ?_) (fun w12 => ?_)
            · skip
              refine wk_if_eq (t := 132) (q := 121) dX9_takeItem_118 rfl rfl (fun h => absurd h (by decide)) (fun _ => ?_)
              refine wk_aload_n (i := 1) (q := 122) dX9_takeItem_121 rfl rfl rfl ?_
              refine wk_iconst (v := 0) (q := 123) dX9_takeItem_122 rfl rfl ?_
              refine wk_put (q := 126) fpX9_73 dX9_takeItem_123 rfl rfl rfl rfl rfl rfl ?_
              rw [wr_n (show 42 ≠ 60 by decide), wr_comm (show 60 ≠ 42 by decide)]
              refine wk_aload_n (i := 0) (q := 127) dX9_takeItem_126 rfl rfl rfl ?_
              refine wk_V0v (d' := 2) (q := 130) lkX9_22 dX9_takeItem_127 rfl rfl rfl rfl rfl rfl rfl ?_
              refine ck_next ht hp hC (hb_fr hb frB_b) (fun S1 hC1 g6 g7 => ?_)
              refine wk_iconst (v := 1) (q := 131) dX9_takeItem_130 rfl rfl ?_
              refine wk_ireturn dX9_takeItem_131 rfl rfl ?_
              rw [if_neg hk, if_neg w8, if_neg w9, if_neg w10, if_neg w11, if_pos w12] at h1
              exact h1 _ _ _ _ rfl hC1 (hasB_tow hB) frB_b
            · skip
              refine wk_if_eq (t := 132) (q := 121) dX9_takeItem_118 rfl rfl (fun _ => ?_) (fun h => absurd (by decide) h)
              refine wk_iconst (v := 0) (q := 133) dX9_takeItem_132 rfl rfl ?_
              refine wk_ireturn dX9_takeItem_133 rfl rfl ?_
              rw [if_neg hk, if_neg w8, if_neg w9, if_neg w10, if_neg w11, if_neg w12] at h0
              exact h0 _ _ _ _ rfl hC frB.rf
end CW
