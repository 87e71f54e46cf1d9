/-! the reference's basket -/
theorem tkT_0 {T : Nat → Int32} {tn p : Nat} : tkT T tn p = 0 ↔ ¬ tkS T tn p < tn := by
  unfold tkT
  by_cases h : tkS T tn p < tn
  · rw [if_pos h]
    refine ⟨fun e => ?_, fun e => absurd h e⟩
    split at e
    · exact absurd e (by decide)
    · split at e
      · exact absurd e (by decide)
      · split at e <;> exact absurd e (by decide)
  · rw [if_neg h]
    exact ⟨fun _ => h, fun _ => rfl⟩
theorem tkT_3 {T : Nat → Int32} {tn p : Nat} : tkT T tn p = 3 ↔ tkS T tn p < tn ∧ T (tkS T tn p) = 59 := by
  unfold tkT
  by_cases h : tkS T tn p < tn
  · rw [if_pos h]
    by_cases h1 : ltB (T (tkS T tn p)) = true
    · rw [if_pos h1]
      refine ⟨fun e => absurd e (by decide), fun e => ?_⟩
      rw [e.2] at h1
      exact absurd h1 (by decide)
    · rw [if_neg h1]
      by_cases h2 : dgB (T (tkS T tn p)) = true
      · rw [if_pos h2]
        refine ⟨fun e => absurd e (by decide), fun e => ?_⟩
        rw [e.2] at h2
        exact absurd h2 (by decide)
      · rw [if_neg h2]
        by_cases h3 : T (tkS T tn p) = 59
        · rw [if_pos h3]; exact ⟨fun _ => ⟨h, h3⟩, fun _ => rfl⟩
        · rw [if_neg h3]; exact ⟨fun e => absurd e (by decide), fun e => absurd e.2 h3⟩
  · rw [if_neg h]
    exact ⟨fun e => absurd e (by decide), fun e => absurd e.1 h⟩
theorem nx_3 {T : Nat → Int32} {tn p : Nat} (h : tkT T tn p = 3) : p + 1 ≤ tkE T tn p := by
  obtain ⟨h1, h2⟩ := tkT_3.mp h
  have hl : ¬ ltB (T (tkS T tn p)) = true := by rw [h2]; decide
  have hd : ¬ dgB (T (tkS T tn p)) = true := by rw [h2]; decide
  have e : tkE T tn p = tkS T tn p + 1 := (if_pos h1).trans ((if_neg hl).trans (if_neg hd))
  have := tkS_le (T := T) (tn := tn) (e := p)
  omega
section MK
variable {E : EVt} {m : Mm} {L : Ml} {Q : Value → Mm → Ml → Prop} {S A : Nat → Int32} {tn p D : Nat}
theorem lp_X12_saves (hQ : ∀ B, eq73 B A → Q .null (wr (wr m 75 B) 73 A) L) : ∀ (r j : Nat), j + r = 73 → WK E 1 MX12_saves 2 [(0, .ref (ev_z E + 72)), (1, .int (nI j))] [] (wr (wr m 75 (cp73 A (m 75) j)) 73 A) L Q := by
  intro r
  induction r with
  | zero =>
    intro j hj
    refine wk_iload_n (i := 1) (q := 3) dX12_saves_2 rfl rfl rfl ?_
    refine wk_bipush (v := 73) (q := 5) dX12_saves_3 rfl rfl ?_
    refine wk_icmp_ge (t := 26) (q := 8) dX12_saves_5 rfl rfl (fun c5 => ?_) (fun h => absurd (nI_le (a := 73) (by omega) (by omega)) h)
    refine wk_return dX12_saves_26 rfl ?_
    exact hQ _ (fun i hi => by unfold cp73; rw [if_pos (by omega)])
  | succ r ih =>
    intro j hj
    refine wk_iload_n (i := 1) (q := 3) dX12_saves_2 rfl rfl rfl ?_
    refine wk_bipush (v := 73) (q := 5) dX12_saves_3 rfl rfl ?_
    refine wk_icmp_ge (t := 26) (q := 8) dX12_saves_5 rfl rfl (fun h => absurd h (nI_ge (b := 73) (by omega) (by omega))) (fun c5 => ?_)
    refine wk_aload_n (i := 0) (q := 9) dX12_saves_8 rfl rfl rfl ?_
    refine wk_get (q := 12) fgX12_16 dX12_saves_9 rfl rfl rfl rfl ?_
    refine wk_iload_n (i := 1) (q := 13) dX12_saves_12 rfl rfl rfl ?_
    refine wk_aload_n (i := 0) (q := 14) dX12_saves_13 rfl rfl rfl ?_
    refine wk_get (q := 17) fgX12_7 dX12_saves_14 rfl rfl rfl rfl ?_
    refine wk_iload_n (i := 1) (q := 18) dX12_saves_17 rfl rfl rfl ?_
    refine wk_sld (n := j) (q := 19) dX12_saves_18 rfl (by omega) rfl ?_
    refine wk_iast (n := j) (q := 20) dX12_saves_19 rfl rfl (by show _ < 73; omega) rfl ?_
    rw [wr_n (show (75 : Nat) ≠ 73 by decide), wr_s, wr_comm (show (73 : Nat) ≠ 75 by decide), wr_wr, cp73_s]
    refine wk_iinc (w := 1) (q := 23) (lv' := [_, _]) dX12_saves_20 rfl rfl rfl rfl rfl ?_
    rw [nI_1]
    refine wk_goto (t := 2) dX12_saves_23 rfl ?_
    exact ih (j + 1) (by omega)
theorem ck_X12_saves (hQ : ∀ B, eq73 B A → Q .null (wr (wr m 75 B) 73 A) L) : CK E 1 MX12_saves [.ref (ev_z E + 72)] (wr m 73 A) L Q := by
  refine CK.of rfl rfl (lv := [(0, _)]) rfl ?_
  refine wk_iconst (v := 0) (q := 1) dX12_saves_0 rfl rfl ?_
  refine wk_istore_n (i := 1) (q := 2) (lv' := [_, _]) dX12_saves_1 rfl rfl rfl rfl ?_
  have hl := lp_X12_saves (E := E) hQ 73 0 (by omega)
  rw [cp73_0, wr_self] at hl
  exact hl
theorem lp_X12_putsBack {A' : Nat → Int32} (hB : eq73 (m 75) A) (hQ : ∀ A2, eq73 A2 A → Q .null (wr m 73 A2) L) : ∀ (r j : Nat), j + r = 73 → WK E 1 MX12_putsBack 2 [(0, .ref (ev_z E + 72)), (1, .int (nI j))] [] (wr m 73 (cp73 (m 75) A' j)) L Q := by
  intro r
  induction r with
  | zero =>
    intro j hj
    refine wk_iload_n (i := 1) (q := 3) dX12_putsBack_2 rfl rfl rfl ?_
    refine wk_bipush (v := 73) (q := 5) dX12_putsBack_3 rfl rfl ?_
    refine wk_icmp_ge (t := 26) (q := 8) dX12_putsBack_5 rfl rfl (fun c5 => ?_) (fun h => absurd (nI_le (a := 73) (by omega) (by omega)) h)
    refine wk_return dX12_putsBack_26 rfl ?_
    exact hQ _ (fun i hi => (if_pos (by omega)).trans (hB i hi))
  | succ r ih =>
    intro j hj
    refine wk_iload_n (i := 1) (q := 3) dX12_putsBack_2 rfl rfl rfl ?_
    refine wk_bipush (v := 73) (q := 5) dX12_putsBack_3 rfl rfl ?_
    refine wk_icmp_ge (t := 26) (q := 8) dX12_putsBack_5 rfl rfl (fun h => absurd h (nI_ge (b := 73) (by omega) (by omega))) (fun c5 => ?_)
    refine wk_aload_n (i := 0) (q := 9) dX12_putsBack_8 rfl rfl rfl ?_
    refine wk_get (q := 12) fgX12_7 dX12_putsBack_9 rfl rfl rfl rfl ?_
    refine wk_iload_n (i := 1) (q := 13) dX12_putsBack_12 rfl rfl rfl ?_
    refine wk_aload_n (i := 0) (q := 14) dX12_putsBack_13 rfl rfl rfl ?_
    refine wk_get (q := 17) fgX12_16 dX12_putsBack_14 rfl rfl rfl rfl ?_
    refine wk_iload_n (i := 1) (q := 18) dX12_putsBack_17 rfl rfl rfl ?_
    refine wk_iald (n := j) (q := 19) dX12_putsBack_18 rfl rfl (by show _ < 73; omega) rfl ?_
    rw [wr_n (show (75 : Nat) ≠ 73 by decide)]
    refine wk_sst (n := j) (q := 20) dX12_putsBack_19 rfl (by omega) rfl ?_
    rw [cp73_s]
    refine wk_iinc (w := 1) (q := 23) (lv' := [_, _]) dX12_putsBack_20 rfl rfl rfl rfl rfl ?_
    rw [nI_1]
    refine wk_goto (t := 2) dX12_putsBack_23 rfl ?_
    exact ih (j + 1) (by omega)
theorem ck_X12_putsBack {A' : Nat → Int32} (hB : eq73 (m 75) A) (hQ : ∀ A2, eq73 A2 A → Q .null (wr m 73 A2) L) : CK E 1 MX12_putsBack [.ref (ev_z E + 72)] (wr m 73 A') L Q := by
  refine CK.of rfl rfl (lv := [(0, _)]) rfl ?_
  refine wk_iconst (v := 0) (q := 1) dX12_putsBack_0 rfl rfl ?_
  refine wk_istore_n (i := 1) (q := 2) (lv' := [_, _]) dX12_putsBack_1 rfl rfl rfl rfl ?_
  have hl := lp_X12_putsBack (E := E) (A' := A') hB hQ 73 0 (by omega)
  rw [cp73_0] at hl
  exact hl
theorem wx_X12_basket {n : Int32} (hW : WS S tn (m 78) p) (k : WK E 8 MX12_basket 59 [(0, .ref (ev_z E + 72)), (1, .int n)] [] (wr (wr m 72 S) 73 A) L Q) : WK E 8 MX12_basket 24 [(0, .ref (ev_z E + 72)), (1, .int n)] [] (wr (wr m 72 S) 73 A) L Q := by
  refine wk_aload_n (i := 0) (q := 25) dX12_basket_24 rfl rfl rfl ?_
  refine wk_gM (q := 28) fgX12_220 dX12_basket_25 rfl rfl ?_
  rw [hW.2.2.2]
  refine wk_if_ne (t := 59) (q := 31) dX12_basket_28 rfl rfl (fun _ => ?_) (fun h => absurd h (by decide))
  exact k
theorem ex_X12_basket {n : Int32} (hp : p ≤ tn) (ht : tn ≤ 120) {A0 : Nat → Int32} (hB : eq73 (m 75) A0) (hst : WS S tn (m 78) p ∨ MS S tn (m 78) p) (h1 : MS S tn (m 78) p → tkT (m 78) tn p = 0 → ∀ S', S' 5 = S 5 → S' 7 = 0 → Q (.int n) (wr (wr m 72 S') 73 A) L) (h0 : (WS S tn (m 78) p ∨ ¬ tkT (m 78) tn p = 0) → ∀ S' A2, S' 5 = S 5 → S' 7 = 0 → eq73 A2 A0 → Q (.int (-1 - nI (tkS (m 78) tn p))) (wr (wr m 72 S') 73 A2) L) : WK E 8 MX12_basket 59 [(0, .ref (ev_z E + 72)), (1, .int n)] [] (wr (wr m 72 S) 73 A) L Q := by
  have hB' : ∀ S', eq73 ((wr m 72 S') 75) A0 := fun S' => by rw [wr_n (by decide)]; exact hB
  have hs := tkS_ub (T := m 78) hp
  have e8 : S 8 = nI (tkS (m 78) tn p) := hst.elim (fun h => h.2.1) (fun h => h.2.1)
  have e7 : S 7 = nI tn := hst.elim (fun h => h.1) (fun h => h.1)
  rcases hst with hW | hM
  · skip
    refine wk_aload_n (i := 0) (q := 60) dX12_basket_59 rfl rfl rfl ?_
    refine wk_aload_n (i := 0) (q := 61) dX12_basket_60 rfl rfl rfl ?_
    refine wk_gM (q := 64) fgX12_220 dX12_basket_61 rfl rfl ?_
    rw [hW.2.2.2]
    refine wk_if_ne (t := 78) (q := 67) dX12_basket_64 rfl rfl (fun _ => ?_) (fun h => absurd h (by decide))
    refine wk_iconst (v := 1) (q := 79) dX12_basket_78 rfl rfl ?_
    refine wk_goto (t := 83) dX12_basket_79 rfl ?_
    refine wk_pM (q := 86) fpX12_220 dX12_basket_83 rfl rfl rfl rfl ?_
    refine wk_aload_n (i := 0) (q := 87) dX12_basket_86 rfl rfl rfl ?_
    refine wk_gM (q := 90) fgX12_220 dX12_basket_87 rfl rfl ?_
    rw [upd_s]
    refine wk_if_eq (t := 97) (q := 93) dX12_basket_90 rfl rfl (fun h => absurd h (by decide)) (fun _ => ?_)
    refine wk_aload_n (i := 0) (q := 94) dX12_basket_93 rfl rfl rfl ?_
    refine wk_V0v (d' := 1) (q := 97) lkX12_295 dX12_basket_94 rfl rfl rfl rfl rfl rfl rfl ?_
    refine ck_X12_putsBack (hB' _) (fun A2 hA2 => ?_)
    refine wk_aload_n (i := 0) (q := 98) dX12_basket_97 rfl rfl rfl ?_
    refine wk_iconst (v := 0) (q := 99) dX12_basket_98 rfl rfl ?_
    refine wk_pM (q := 102) fpX12_193 dX12_basket_99 rfl rfl rfl rfl ?_
    refine wk_aload_n (i := 0) (q := 103) dX12_basket_102 rfl rfl rfl ?_
    refine wk_gM (q := 106) fgX12_220 dX12_basket_103 rfl rfl ?_
    rw [upd_n (show (11 : Nat) ≠ 7 by decide), upd_s]
    refine wk_if_eq (t := 118) (q := 109) dX12_basket_106 rfl rfl (fun h => absurd h (by decide)) (fun _ => ?_)
    refine wk_iconst (v := -1) (q := 110) dX12_basket_109 rfl rfl ?_
    refine wk_aload_n (i := 0) (q := 111) dX12_basket_110 rfl rfl rfl ?_
    refine wk_gM (q := 114) fgX12_208 dX12_basket_111 rfl rfl ?_
    rw [upd_n (show (8 : Nat) ≠ 7 by decide), upd_n (show (8 : Nat) ≠ 11 by decide), e8]
    refine wk_isub (q := 115) dX12_basket_114 rfl ?_
    refine wk_goto (t := 119) dX12_basket_115 rfl ?_
    refine wk_ireturn dX12_basket_119 rfl rfl ?_
    exact h0 (Or.inl hW) _ _ ((upd_n (by decide)).trans (upd_n (by decide))) upd_s hA2
  · by_cases h0T : tkT (m 78) tn p = 0
    · have hge := tkT_0.mp h0T
      refine wk_aload_n (i := 0) (q := 60) dX12_basket_59 rfl rfl rfl ?_
      refine wk_aload_n (i := 0) (q := 61) dX12_basket_60 rfl rfl rfl ?_
      refine wk_gM (q := 64) fgX12_220 dX12_basket_61 rfl rfl ?_
      rw [hM.2.2.2]
      refine wk_if_ne (t := 78) (q := 67) dX12_basket_64 rfl rfl (fun h => absurd (by decide) h) (fun _ => ?_)
      refine wk_aload_n (i := 0) (q := 68) dX12_basket_67 rfl rfl rfl ?_
      refine wk_gM (q := 71) fgX12_208 dX12_basket_68 rfl rfl ?_
      refine wk_aload_n (i := 0) (q := 72) dX12_basket_71 rfl rfl rfl ?_
      refine wk_gM (q := 75) fgX12_193 dX12_basket_72 rfl rfl ?_
      rw [e8, e7]
      refine wk_icmp_ge (t := 82) (q := 78) dX12_basket_75 rfl rfl (fun c75 => ?_) (fun h => absurd (nI_le (by omega) (by omega)) h)
      refine wk_iconst (v := 0) (q := 83) dX12_basket_82 rfl rfl ?_
      refine wk_pM (q := 86) fpX12_220 dX12_basket_83 rfl rfl rfl rfl ?_
      refine wk_aload_n (i := 0) (q := 87) dX12_basket_86 rfl rfl rfl ?_
      refine wk_gM (q := 90) fgX12_220 dX12_basket_87 rfl rfl ?_
      rw [upd_s]
      refine wk_if_eq (t := 97) (q := 93) dX12_basket_90 rfl rfl (fun _ => ?_) (fun h => absurd (by decide) h)
      refine wk_aload_n (i := 0) (q := 98) dX12_basket_97 rfl rfl rfl ?_
      refine wk_iconst (v := 0) (q := 99) dX12_basket_98 rfl rfl ?_
      refine wk_pM (q := 102) fpX12_193 dX12_basket_99 rfl rfl rfl rfl ?_
      refine wk_aload_n (i := 0) (q := 103) dX12_basket_102 rfl rfl rfl ?_
      refine wk_gM (q := 106) fgX12_220 dX12_basket_103 rfl rfl ?_
      rw [upd_n (show (11 : Nat) ≠ 7 by decide), upd_s]
      refine wk_if_eq (t := 118) (q := 109) dX12_basket_106 rfl rfl (fun _ => ?_) (fun h => absurd (by decide) h)
      refine wk_iload_n (i := 1) (q := 119) dX12_basket_118 rfl rfl rfl ?_
      refine wk_ireturn dX12_basket_119 rfl rfl ?_
      exact h1 hM h0T _ ((upd_n (by decide)).trans (upd_n (by decide))) upd_s
    · have hlt : tkS (m 78) tn p < tn := by
        rcases Nat.lt_or_ge (tkS (m 78) tn p) tn with h | h
        · exact h
        · exact absurd (tkT_0.mpr (by omega)) h0T
      refine wk_aload_n (i := 0) (q := 60) dX12_basket_59 rfl rfl rfl ?_
      refine wk_aload_n (i := 0) (q := 61) dX12_basket_60 rfl rfl rfl ?_
      refine wk_gM (q := 64) fgX12_220 dX12_basket_61 rfl rfl ?_
      rw [hM.2.2.2]
      refine wk_if_ne (t := 78) (q := 67) dX12_basket_64 rfl rfl (fun h => absurd (by decide) h) (fun _ => ?_)
      refine wk_aload_n (i := 0) (q := 68) dX12_basket_67 rfl rfl rfl ?_
      refine wk_gM (q := 71) fgX12_208 dX12_basket_68 rfl rfl ?_
      refine wk_aload_n (i := 0) (q := 72) dX12_basket_71 rfl rfl rfl ?_
      refine wk_gM (q := 75) fgX12_193 dX12_basket_72 rfl rfl ?_
      rw [e8, e7]
      refine wk_icmp_ge (t := 82) (q := 78) dX12_basket_75 rfl rfl (fun h => absurd h (nI_ge hlt (by omega))) (fun c75 => ?_)
      refine wk_iconst (v := 1) (q := 79) dX12_basket_78 rfl rfl ?_
      refine wk_goto (t := 83) dX12_basket_79 rfl ?_
      refine wk_pM (q := 86) fpX12_220 dX12_basket_83 rfl rfl rfl rfl ?_
      refine wk_aload_n (i := 0) (q := 87) dX12_basket_86 rfl rfl rfl ?_
      refine wk_gM (q := 90) fgX12_220 dX12_basket_87 rfl rfl ?_
      rw [upd_s]
      refine wk_if_eq (t := 97) (q := 93) dX12_basket_90 rfl rfl (fun h => absurd h (by decide)) (fun _ => ?_)
      refine wk_aload_n (i := 0) (q := 94) dX12_basket_93 rfl rfl rfl ?_
      refine wk_V0v (d' := 1) (q := 97) lkX12_295 dX12_basket_94 rfl rfl rfl rfl rfl rfl rfl ?_
      refine ck_X12_putsBack (hB' _) (fun A2 hA2 => ?_)
      refine wk_aload_n (i := 0) (q := 98) dX12_basket_97 rfl rfl rfl ?_
      refine wk_iconst (v := 0) (q := 99) dX12_basket_98 rfl rfl ?_
      refine wk_pM (q := 102) fpX12_193 dX12_basket_99 rfl rfl rfl rfl ?_
      refine wk_aload_n (i := 0) (q := 103) dX12_basket_102 rfl rfl rfl ?_
      refine wk_gM (q := 106) fgX12_220 dX12_basket_103 rfl rfl ?_
      rw [upd_n (show (11 : Nat) ≠ 7 by decide), upd_s]
      refine wk_if_eq (t := 118) (q := 109) dX12_basket_106 rfl rfl (fun h => absurd h (by decide)) (fun _ => ?_)
      refine wk_iconst (v := -1) (q := 110) dX12_basket_109 rfl rfl ?_
      refine wk_aload_n (i := 0) (q := 111) dX12_basket_110 rfl rfl rfl ?_
      refine wk_gM (q := 114) fgX12_208 dX12_basket_111 rfl rfl ?_
      rw [upd_n (show (8 : Nat) ≠ 7 by decide), upd_n (show (8 : Nat) ≠ 11 by decide), e8]
      refine wk_isub (q := 115) dX12_basket_114 rfl ?_
      refine wk_goto (t := 119) dX12_basket_115 rfl ?_
      refine wk_ireturn dX12_basket_119 rfl rfl ?_
      exact h0 (Or.inr h0T) _ _ ((upd_n (by decide)).trans (upd_n (by decide))) upd_s hA2
theorem lp_X12_basket {s5 : Int32} (ht : tn ≤ 120) : ∀ (f : Nat) (A : Nat → Int32) (p n : Nat) (S : Nat → Int32), tn + 1 ≤ p + f → p ≤ tn → okA D A → MS S tn (m 78) p → S 5 = s5 → (∀ A' p' n' S', bskT (m 78) tn f A p n = (true, A', p', n') → MS S' tn (m 78) p' → tkT (m 78) tn p' = 0 → S' 5 = s5 → WK E 8 MX12_basket 59 [(0, .ref (ev_z E + 72)), (1, .int (nI n'))] [] (wr (wr m 72 S') 73 A') L Q) → (∀ A0 p' n' S' A', bskT (m 78) tn f A p n = (false, A0, p', n') → (WS S' tn (m 78) p' ∨ (MS S' tn (m 78) p' ∧ ¬ tkT (m 78) tn p' = 0)) → S' 5 = s5 → WK E 8 MX12_basket 59 [(0, .ref (ev_z E + 72)), (1, .int (nI n'))] [] (wr (wr m 72 S') 73 A') L Q) → WK E 8 MX12_basket 24 [(0, .ref (ev_z E + 72)), (1, .int (nI n))] [] (wr (wr m 72 S) 73 A) L Q := by
  intro f
  induction f with
  | zero => intro A p n S h1 h2; omega
  | succ f ih =>
    intro A p n S hf hp hO hM h5 k1 k0
    have hp1 : tkE (m 78) tn p ≤ tn := tkE_ub hp
    have hs := tkS_ub (T := m 78) hp
    have hR : bskT (m 78) tn (f + 1) A p n = if tkT (m 78) tn p = 0 then (true, A, p, n) else if tkT (m 78) tn p = 3 then (if (itmS (m 78) tn A (tkE (m 78) tn p)).1 = true then bskT (m 78) tn f (itmS (m 78) tn A (tkE (m 78) tn p)).2.1 (itmS (m 78) tn A (tkE (m 78) tn p)).2.2 (n + 1) else (false, A, (itmS (m 78) tn A (tkE (m 78) tn p)).2.2, n + 1)) else (false, A, p, n) := rfl
    refine wk_aload_n (i := 0) (q := 25) dX12_basket_24 rfl rfl rfl ?_
    refine wk_gM (q := 28) fgX12_220 dX12_basket_25 rfl rfl ?_
    rw [hM.2.2.2]
    refine wk_if_ne (t := 59) (q := 31) dX12_basket_28 rfl rfl (fun h => absurd (by decide) h) (fun _ => ?_)
    refine wk_aload_n (i := 0) (q := 32) dX12_basket_31 rfl rfl rfl ?_
    refine wk_aload_n (i := 0) (q := 33) dX12_basket_32 rfl rfl rfl ?_
    refine wk_gM (q := 36) fgX12_208 dX12_basket_33 rfl rfl ?_
    rw [hM.2.1]
    refine wk_V1r (d' := 1) (q := 39) lkX12_211 dX12_basket_36 rfl rfl rfl rfl rfl rfl rfl ?_
    refine ck_X12_byteAt (n := tkS (m 78) tn p) hM.1 ht (by omega) (fun hx => ?_) (fun hx => ?_)
    · skip
      refine wk_bipush (v := 59) (q := 41) dX12_basket_39 rfl rfl ?_
      refine wk_icmp_ne (t := 59) (q := 44) dX12_basket_41 rfl rfl (fun c41 => ?_) (fun c41 => ?_)
      · skip
        have h0 : ¬ tkT (m 78) tn p = 0 := fun q => absurd hx (tkT_0.mp q)
        have h3 : ¬ tkT (m 78) tn p = 3 := fun q => c41 (tkT_3.mp q).2
        rw [if_neg h0, if_neg h3] at hR
        exact k0 _ _ _ _ _ hR (Or.inr ⟨hM, fun q => absurd hx (tkT_0.mp q)⟩) h5
      · skip
        have h3 := tkT_3.mpr ⟨hx, c41⟩
        rw [if_neg (by rw [h3]; decide), if_pos h3] at hR
        have hn3 := nx_3 h3
        refine wk_aload_n (i := 0) (q := 45) dX12_basket_44 rfl rfl rfl ?_
        refine wk_iconst (v := 1) (q := 46) dX12_basket_45 rfl rfl ?_
        refine wk_V1v (d' := 4) (q := 49) lkX12_234 dX12_basket_46 rfl rfl rfl rfl rfl rfl rfl ?_
        refine ck_must1 ht hp hM (fun S1 hM1 e51 e101 => ?_)
        refine wk_aload_n (i := 0) (q := 50) dX12_basket_49 rfl rfl rfl ?_
        refine wk_V0v (d' := 7) (q := 53) lkX12_292 dX12_basket_50 rfl rfl rfl rfl rfl rfl rfl ?_
        refine ck_X12_item ht hp1 hM1 hO (fun A1 p1 S2 hr hM2 e52 => ?_) (fun A0 p1 S2 A1 hr hW2 e52 hhi => ?_)
        · skip
          refine wk_iinc (w := 1) (q := 56) (lv' := [_, _]) dX12_basket_53 rfl rfl rfl rfl rfl ?_
          rw [nI_1]
          refine wk_goto (t := 24) dX12_basket_56 rfl ?_
          rw [hr] at hR
          have hle := itm_le (T := m 78) (A := A) hp1
          rw [hr] at hle
          have hle : tkE (m 78) tn p ≤ p1 ∧ p1 ≤ tn := hle
          rw [if_pos rfl] at hR
          refine ih A1 p1 (n + 1) S2 (by omega) hle.2 (itm_ok hO hr) hM2 (by rw [e52, e51, h5]) (fun A' p' n' S' q1 q2 q3 q4 => k1 A' p' n' S' (hR.trans q1) q2 q3 q4) (fun A0 p' n' S' A' q1 q2 q3 => k0 A0 p' n' S' A' (hR.trans q1) q2 q3)
        · skip
          refine wk_iinc (w := 1) (q := 56) (lv' := [_, _]) dX12_basket_53 rfl rfl rfl rfl rfl ?_
          rw [nI_1]
          refine wk_goto (t := 24) dX12_basket_56 rfl ?_
          rw [hr] at hR
          rw [if_neg (show ¬ (false = true) by decide)] at hR
          exact wx_X12_basket hW2 (k0 _ _ _ _ A1 hR (Or.inl hW2) (by rw [e52, e51, h5]))
    · skip
      rw [if_pos (tkT_0.mpr hx)] at hR
      refine wk_bipush (v := 59) (q := 41) dX12_basket_39 rfl rfl ?_
      refine wk_icmp_ne (t := 59) (q := 44) dX12_basket_41 rfl rfl (fun _ => ?_) (fun h => absurd h (by decide))
      exact k1 _ _ _ _ hR hM (tkT_0.mpr hx) h5
end MK
