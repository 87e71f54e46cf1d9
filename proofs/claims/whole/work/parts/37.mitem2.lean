/-! the reference's items -/
section MI
variable {E : EVt} {m : Mm} {L : Ml} {Q : Value → Mm → Ml → Prop} {S A : Nat → Int32} {tn p D : Nat}
theorem lp_X12_word_w (ht : tn ≤ 120) (hp : p ≤ tn) (hW : WS S tn (m 78) p) (hQ : Q (.long 0) (wr (wr m 72 S) 73 A) L) : ∀ (r k : Nat) (v : Int64), k + r = tkE (m 78) tn p - tkS (m 78) tn p → WK E 3 MX12_word 7 [(0, .ref (ev_z E + 72)), (1, .long v), (3, .int (nI (tkS (m 78) tn p + k)))] [] (wr (wr m 72 S) 73 A) L Q := by
  obtain ⟨h7, h8, h9, h11⟩ := hW
  have he := tkE_ub (T := m 78) hp
  have hse := tkE_le (T := m 78) (tn := tn) (e := p)
  intro r
  induction r with
  | zero =>
    intro k v hk
    refine wk_iload_n (i := 3) (q := 8) dX12_word_7 rfl rfl rfl ?_
    refine wk_aload_n (i := 0) (q := 9) dX12_word_8 rfl rfl rfl ?_
    refine wk_gM (q := 12) fgX12_205 dX12_word_9 rfl rfl ?_
    rw [h9]
    refine wk_icmp_ge (t := 50) (q := 15) dX12_word_12 rfl rfl (fun c12 => ?_) (fun h => absurd (nI_le (by omega) (by omega)) h)
    refine wk_aload_n (i := 0) (q := 51) dX12_word_50 rfl rfl rfl ?_
    refine wk_gM (q := 54) fgX12_220 dX12_word_51 rfl rfl ?_
    rw [h11]
    refine wk_if_ne (t := 71) (q := 57) dX12_word_54 rfl rfl (fun _ => ?_) (fun h => absurd h (by decide))
    refine wk_lconst (v := 0) (q := 72) dX12_word_71 rfl rfl ?_
    refine wk_goto (t := 76) dX12_word_72 rfl ?_
    refine wk_lreturn dX12_word_76 rfl ?_
    exact hQ
  | succ r ih =>
    intro k v hk
    refine wk_iload_n (i := 3) (q := 8) dX12_word_7 rfl rfl rfl ?_
    refine wk_aload_n (i := 0) (q := 9) dX12_word_8 rfl rfl rfl ?_
    refine wk_gM (q := 12) fgX12_205 dX12_word_9 rfl rfl ?_
    rw [h9]
    refine wk_icmp_ge (t := 50) (q := 15) dX12_word_12 rfl rfl (fun h => absurd h (nI_ge (by omega) (by omega))) (fun c12 => ?_)
    refine wk_lload_n (i := 1) (q := 16) dX12_word_15 rfl rfl rfl ?_
    refine wk_ldc2 (q := 19) dX12_word_16 kX12_227 rfl ?_
    refine wk_lcmp (q := 20) dX12_word_19 rfl ?_
    refine wk_if_le (t := 27) (q := 23) dX12_word_20 rfl rfl (fun c20 => ?_) (fun c20 => ?_)
    · skip
      refine wk_ldc2 (q := 30) dX12_word_27 kX12_229 rfl ?_
      refine wk_lload_n (i := 1) (q := 31) dX12_word_30 rfl rfl rfl ?_
      refine wk_lmul (q := 32) dX12_word_31 rfl ?_
      refine wk_aload_n (i := 0) (q := 33) dX12_word_32 rfl rfl rfl ?_
      refine wk_get (q := 36) fgX12_25 dX12_word_33 rfl rfl rfl rfl ?_
      refine wk_iload_n (i := 3) (q := 37) dX12_word_36 rfl rfl rfl ?_
      refine wk_iald (n := (tkS (m 78) tn p + k)) (q := 38) dX12_word_37 rfl rfl (by show _ < 120; omega) rfl ?_
      refine wk_bipush (v := 96) (q := 40) dX12_word_38 rfl rfl ?_
      refine wk_isub (q := 41) dX12_word_40 rfl ?_
      refine wk_i2l (q := 42) dX12_word_41 rfl ?_
      refine wk_ladd (q := 43) dX12_word_42 rfl ?_
      refine wk_lstore_n (i := 1) (q := 44) (lv' := [_, _, _]) dX12_word_43 rfl rfl rfl rfl ?_
      refine wk_iinc (w := 1) (q := 47) (lv' := [_, _, _]) dX12_word_44 rfl rfl rfl rfl rfl ?_
      rw [nI_1]
      refine wk_goto (t := 7) dX12_word_47 rfl ?_
      refine wk_pick [0, 2, 1] (lv' := [_, _, _]) rfl ?_
      exact ih (k + 1) _ (by omega)
    · skip
      refine wk_lload_n (i := 1) (q := 24) dX12_word_23 rfl rfl rfl ?_
      refine wk_goto (t := 43) dX12_word_24 rfl ?_
      refine wk_lstore_n (i := 1) (q := 44) (lv' := [_, _, _]) dX12_word_43 rfl rfl rfl rfl ?_
      refine wk_iinc (w := 1) (q := 47) (lv' := [_, _, _]) dX12_word_44 rfl rfl rfl rfl rfl ?_
      rw [nI_1]
      refine wk_goto (t := 7) dX12_word_47 rfl ?_
      refine wk_pick [0, 2, 1] (lv' := [_, _, _]) rfl ?_
      exact ih (k + 1) _ (by omega)
theorem ck_word_w (ht : tn ≤ 120) (hp : p ≤ tn) (hW : WS S tn (m 78) p) (hQ : Q (.long 0) (wr (wr m 72 S) 73 A) L) : CK E 3 MX12_word [.ref (ev_z E + 72)] (wr (wr m 72 S) 73 A) L Q := by
  refine CK.of rfl rfl (lv := [(0, _)]) rfl ?_
  refine wk_lconst (v := 0) (q := 1) dX12_word_0 rfl rfl ?_
  refine wk_lstore_n (i := 1) (q := 2) (lv' := [_, _]) dX12_word_1 rfl rfl rfl rfl ?_
  refine wk_aload_n (i := 0) (q := 3) dX12_word_2 rfl rfl rfl ?_
  refine wk_gM (q := 6) fgX12_208 dX12_word_3 rfl rfl ?_
  rw [hW.2.1]
  refine wk_istore_n (i := 3) (q := 7) (lv' := [_, _, _]) dX12_word_6 rfl rfl rfl rfl ?_
  exact lp_X12_word_w ht hp hW hQ (tkE (m 78) tn p - tkS (m 78) tn p) 0 0 (by omega)
theorem addA_hi {k : Int32} {j : Nat} (hc : cA A < 8) (hj : 73 ≤ j) : addA A k j = A j := (upd_n (by omega)).trans (gput_n (by omega))
theorem ck_X12_garmentItem {k : Nat} (ht : tn ≤ 120) (hp : p ≤ tn) (hM : MS S tn (m 78) p) (hc : A 1 = nI (cA A)) (hc8 : cA A ≤ 8) (h1 : ∀ A' p' S', garS (m 78) tn A p k = (true, A', p') → MS S' tn (m 78) p' → S' 5 = S 5 → Q .null (wr (wr m 72 S') 73 A') L) (h0 : ∀ A0 p' S' A', garS (m 78) tn A p k = (false, A0, p') → WS S' tn (m 78) p' → S' 5 = S 5 → (∀ j, 73 ≤ j → A' j = A j) → Q .null (wr (wr m 72 S') 73 A') L) : CK E 6 MX12_garmentItem [.ref (ev_z E + 72), .int (nI k)] (wr (wr m 72 S) 73 A) L Q := by
  have hp1 : tkE (m 78) tn p ≤ tn := tkE_ub hp
  have hp2 := tkE_ub (T := m 78) hp1
  have hp3 := tkE_ub (T := m 78) hp2
  have hp4 := tkE_ub (T := m 78) hp3
  have hR : garS (m 78) tn A p k = if cA A < 8 then spnS (m 78) tn (addA A (nI k)) (cA A) (tkE (m 78) tn p) else (false, A, p) := rfl
  by_cases hlt : cA A < 8
  · rw [if_pos hlt] at hR
    unfold spnS at hR
    refine CK.of rfl rfl (lv := [(0, _), (1, _)]) rfl ?_
    refine wk_aload_n (i := 0) (q := 1) dX12_garmentItem_0 rfl rfl rfl ?_
    refine wk_aload_n (i := 0) (q := 2) dX12_garmentItem_1 rfl rfl rfl ?_
    refine wk_get (q := 5) fgX12_7 dX12_garmentItem_2 rfl rfl rfl rfl ?_
    refine wk_iconst (v := 1) (q := 6) dX12_garmentItem_5 rfl rfl ?_
    refine wk_sld (n := 1) (q := 7) dX12_garmentItem_6 rfl (by decide) rfl ?_
    refine wk_bipush (v := 8) (q := 9) dX12_garmentItem_7 rfl rfl ?_
    rw [hc]
    refine wk_icmp_ge (t := 16) (q := 12) dX12_garmentItem_9 rfl rfl (fun h => absurd h (nI_ge (b := 8) hlt (by omega))) (fun c9 => ?_)
    refine wk_iconst (v := 1) (q := 13) dX12_garmentItem_12 rfl rfl ?_
    refine wk_goto (t := 17) dX12_garmentItem_13 rfl ?_
    refine wk_V1v (d' := 4) (q := 20) lkX12_234 dX12_garmentItem_17 rfl rfl rfl rfl rfl rfl rfl ?_
    refine ck_must1 ht hp hM (fun S1 hM1 e51 e101 => ?_)
    refine wk_aload_n (i := 0) (q := 21) dX12_garmentItem_20 rfl rfl rfl ?_
    refine wk_gM (q := 24) fgX12_220 dX12_garmentItem_21 rfl rfl ?_
    rw [hM1.2.2.2]
    refine wk_if_eq (t := 28) (q := 27) dX12_garmentItem_24 rfl rfl (fun _ => ?_) (fun h => absurd (by decide) h)
    refine wk_aload_n (i := 0) (q := 29) dX12_garmentItem_28 rfl rfl rfl ?_
    refine wk_iload_n (i := 1) (q := 30) dX12_garmentItem_29 rfl rfl rfl ?_
    refine wk_V1r (d' := 2) (q := 33) lkX12_100 dX12_garmentItem_30 rfl rfl rfl rfl rfl rfl rfl ?_
    refine ck_X12_adds hc hlt rfl ?_
    refine wk_istore_n (i := 2) (q := 34) (lv' := [_, _, _]) dX12_garmentItem_33 rfl rfl rfl rfl ?_
    refine wk_aload_n (i := 0) (q := 35) dX12_garmentItem_34 rfl rfl rfl ?_
    refine wk_V0r (d' := 3) (q := 38) lkX12_238 dX12_garmentItem_35 rfl rfl rfl rfl rfl rfl rfl ?_
    refine ck_X12_word ht hp1 hM1 ?_
    refine wk_ldc2 (q := 41) dX12_garmentItem_38 kX12_254 rfl ?_
    refine wk_lcmp (q := 42) dX12_garmentItem_41 rfl ?_
    refine wk_if_ne (t := 96) (q := 45) dX12_garmentItem_42 rfl rfl (fun c42 => ?_) (fun c42 => ?_)
    · skip
      rw [lg_cmp_eq, ← cd_6, wd_iff (by decide), ← wB_iff] at c42
      rw [if_neg c42] at hR
      unfold thkS at hR
      refine wk_aload_n (i := 0) (q := 97) dX12_garmentItem_96 rfl rfl rfl ?_
      refine wk_V0r (d' := 3) (q := 100) lkX12_238 dX12_garmentItem_97 rfl rfl rfl rfl rfl rfl rfl ?_
      refine ck_X12_word ht hp1 hM1 ?_
      refine wk_ldc2 (q := 103) dX12_garmentItem_100 kX12_259 rfl ?_
      refine wk_lcmp (q := 104) dX12_garmentItem_103 rfl ?_
      refine wk_if_ne (t := 133) (q := 107) dX12_garmentItem_104 rfl rfl (fun c104 => ?_) (fun c104 => ?_)
      · skip
        rw [lg_cmp_eq, ← cd_7, wd_iff (by decide), ← wB_iff] at c104
        rw [if_neg c104] at hR
        refine wk_return dX12_garmentItem_133 rfl ?_
        exact h1 _ _ _ hR hM1 e51
      · skip
        rw [lg_cmp_eq, ← cd_7, wd_iff (by decide), ← wB_iff] at c104
        rw [if_pos c104] at hR
        refine wk_aload_n (i := 0) (q := 108) dX12_garmentItem_107 rfl rfl rfl ?_
        refine wk_iconst (v := 1) (q := 109) dX12_garmentItem_108 rfl rfl ?_
        refine wk_V1v (d' := 4) (q := 112) lkX12_234 dX12_garmentItem_109 rfl rfl rfl rfl rfl rfl rfl ?_
        refine ck_must1 ht hp1 hM1 (fun S5 hM5 e55 e105 => ?_)
        refine wk_aload_n (i := 0) (q := 113) dX12_garmentItem_112 rfl rfl rfl ?_
        refine wk_iconst (v := 1) (q := 114) dX12_garmentItem_113 rfl rfl ?_
        refine wk_bipush (v := 99) (q := 116) dX12_garmentItem_114 rfl rfl ?_
        refine wk_V2v (d' := 5) (q := 119) lkX12_256 dX12_garmentItem_116 rfl rfl rfl rfl rfl rfl rfl ?_
        refine ck_number (lo := 1) (hi := 99) (by decide) (by decide) ht hp2 hM5 (fun hn5 S6 hM6 e56 e106 => ?_) (fun hn5 S6 hW6 e56 => ?_)
        · skip
          rw [← numB_iff] at hn5
          rw [if_pos hn5] at hR
          refine wk_aload_n (i := 0) (q := 120) dX12_garmentItem_119 rfl rfl rfl ?_
          refine wk_get (q := 123) fgX12_7 dX12_garmentItem_120 rfl rfl rfl rfl ?_
          refine wk_iload_n (i := 2) (q := 124) dX12_garmentItem_123 rfl rfl rfl ?_
          refine wk_iconst (v := 3) (q := 125) dX12_garmentItem_124 rfl rfl ?_
          refine wk_S2r (d' := 1) (q := 128) lkX12_42 dX12_garmentItem_125 rfl rfl rfl rfl ?_
          refine ck_X12_spot (g := (cA A)) (w := 3) ?_
          refine wk_aload_n (i := 0) (q := 129) dX12_garmentItem_128 rfl rfl rfl ?_
          refine wk_gM (q := 132) fgX12_231 dX12_garmentItem_129 rfl rfl ?_
          rw [e106]
          refine wk_sst (n := (5 + 7 * (cA A) + 3)) (q := 133) dX12_garmentItem_132 rfl (by omega) rfl ?_
          refine wk_return dX12_garmentItem_133 rfl ?_
          exact h1 _ _ _ hR hM6 (by rw [e56, e55, e51])
        · skip
          rw [← numB_iff] at hn5
          rw [if_neg hn5] at hR
          refine wk_aload_n (i := 0) (q := 120) dX12_garmentItem_119 rfl rfl rfl ?_
          refine wk_get (q := 123) fgX12_7 dX12_garmentItem_120 rfl rfl rfl rfl ?_
          refine wk_iload_n (i := 2) (q := 124) dX12_garmentItem_123 rfl rfl rfl ?_
          refine wk_iconst (v := 3) (q := 125) dX12_garmentItem_124 rfl rfl ?_
          refine wk_S2r (d' := 1) (q := 128) lkX12_42 dX12_garmentItem_125 rfl rfl rfl rfl ?_
          refine ck_X12_spot (g := (cA A)) (w := 3) ?_
          refine wk_aload_n (i := 0) (q := 129) dX12_garmentItem_128 rfl rfl rfl ?_
          refine wk_gM (q := 132) fgX12_231 dX12_garmentItem_129 rfl rfl ?_
          refine wk_sst (n := (5 + 7 * (cA A) + 3)) (q := 133) dX12_garmentItem_132 rfl (by omega) rfl ?_
          refine wk_return dX12_garmentItem_133 rfl ?_
          exact h0 _ _ _ _ hR hW6 (by rw [e56, e55, e51]) (fun j hj => (upd_n (by omega)).trans (addA_hi hlt hj))
    · skip
      rw [lg_cmp_eq, ← cd_6, wd_iff (by decide), ← wB_iff] at c42
      rw [if_pos c42] at hR
      refine wk_aload_n (i := 0) (q := 46) dX12_garmentItem_45 rfl rfl rfl ?_
      refine wk_iconst (v := 1) (q := 47) dX12_garmentItem_46 rfl rfl ?_
      refine wk_V1v (d' := 4) (q := 50) lkX12_234 dX12_garmentItem_47 rfl rfl rfl rfl rfl rfl rfl ?_
      refine ck_must1 ht hp1 hM1 (fun S2 hM2 e52 e102 => ?_)
      refine wk_aload_n (i := 0) (q := 51) dX12_garmentItem_50 rfl rfl rfl ?_
      refine wk_bipush (v := 10) (q := 53) dX12_garmentItem_51 rfl rfl ?_
      refine wk_sipush (v := 200) (q := 56) dX12_garmentItem_53 rfl rfl ?_
      refine wk_V2v (d' := 5) (q := 59) lkX12_256 dX12_garmentItem_56 rfl rfl rfl rfl rfl rfl rfl ?_
      refine ck_number (lo := 10) (hi := 200) (by decide) (by decide) ht hp2 hM2 (fun hn1 S3 hM3 e53 e103 => ?_) (fun hn1 S3 hW3 e53 => ?_)
      · skip
        rw [← numB_iff] at hn1
        rw [if_pos hn1] at hR
        refine wk_aload_n (i := 0) (q := 60) dX12_garmentItem_59 rfl rfl rfl ?_
        refine wk_get (q := 63) fgX12_7 dX12_garmentItem_60 rfl rfl rfl rfl ?_
        refine wk_iload_n (i := 2) (q := 64) dX12_garmentItem_63 rfl rfl rfl ?_
        refine wk_iconst (v := 1) (q := 65) dX12_garmentItem_64 rfl rfl ?_
        refine wk_S2r (d' := 1) (q := 68) lkX12_42 dX12_garmentItem_65 rfl rfl rfl rfl ?_
        refine ck_X12_spot (g := (cA A)) (w := 1) ?_
        refine wk_aload_n (i := 0) (q := 69) dX12_garmentItem_68 rfl rfl rfl ?_
        refine wk_gM (q := 72) fgX12_231 dX12_garmentItem_69 rfl rfl ?_
        rw [e103]
        refine wk_sst (n := (5 + 7 * (cA A) + 1)) (q := 73) dX12_garmentItem_72 rfl (by omega) rfl ?_
        refine wk_aload_n (i := 0) (q := 74) dX12_garmentItem_73 rfl rfl rfl ?_
        refine wk_bipush (v := 10) (q := 76) dX12_garmentItem_74 rfl rfl ?_
        refine wk_sipush (v := 200) (q := 79) dX12_garmentItem_76 rfl rfl ?_
        refine wk_V2v (d' := 5) (q := 82) lkX12_256 dX12_garmentItem_79 rfl rfl rfl rfl rfl rfl rfl ?_
        refine ck_number (lo := 10) (hi := 200) (by decide) (by decide) ht hp3 hM3 (fun hn2 S4 hM4 e54 e104 => ?_) (fun hn2 S4 hW4 e54 => ?_)
        · skip
          rw [← numB_iff] at hn2
          rw [if_pos hn2] at hR
          unfold thkS at hR
          refine wk_aload_n (i := 0) (q := 83) dX12_garmentItem_82 rfl rfl rfl ?_
          refine wk_get (q := 86) fgX12_7 dX12_garmentItem_83 rfl rfl rfl rfl ?_
          refine wk_iload_n (i := 2) (q := 87) dX12_garmentItem_86 rfl rfl rfl ?_
          refine wk_iconst (v := 2) (q := 88) dX12_garmentItem_87 rfl rfl ?_
          refine wk_S2r (d' := 1) (q := 91) lkX12_42 dX12_garmentItem_88 rfl rfl rfl rfl ?_
          refine ck_X12_spot (g := (cA A)) (w := 2) ?_
          refine wk_aload_n (i := 0) (q := 92) dX12_garmentItem_91 rfl rfl rfl ?_
          refine wk_gM (q := 95) fgX12_231 dX12_garmentItem_92 rfl rfl ?_
          rw [e104]
          refine wk_sst (n := (5 + 7 * (cA A) + 2)) (q := 96) dX12_garmentItem_95 rfl (by omega) rfl ?_
          refine wk_aload_n (i := 0) (q := 97) dX12_garmentItem_96 rfl rfl rfl ?_
          refine wk_V0r (d' := 3) (q := 100) lkX12_238 dX12_garmentItem_97 rfl rfl rfl rfl rfl rfl rfl ?_
          refine ck_X12_word ht hp4 hM4 ?_
          refine wk_ldc2 (q := 103) dX12_garmentItem_100 kX12_259 rfl ?_
          refine wk_lcmp (q := 104) dX12_garmentItem_103 rfl ?_
          refine wk_if_ne (t := 133) (q := 107) dX12_garmentItem_104 rfl rfl (fun c104 => ?_) (fun c104 => ?_)
          · skip
            rw [lg_cmp_eq, ← cd_7, wd_iff (by decide), ← wB_iff] at c104
            rw [if_neg c104] at hR
            refine wk_return dX12_garmentItem_133 rfl ?_
            exact h1 _ _ _ hR hM4 (by rw [e54, e53, e52, e51])
          · skip
            rw [lg_cmp_eq, ← cd_7, wd_iff (by decide), ← wB_iff] at c104
            rw [if_pos c104] at hR
            refine wk_aload_n (i := 0) (q := 108) dX12_garmentItem_107 rfl rfl rfl ?_
            refine wk_iconst (v := 1) (q := 109) dX12_garmentItem_108 rfl rfl ?_
            refine wk_V1v (d' := 4) (q := 112) lkX12_234 dX12_garmentItem_109 rfl rfl rfl rfl rfl rfl rfl ?_
            refine ck_must1 ht hp4 hM4 (fun S5 hM5 e55 e105 => ?_)
            refine wk_aload_n (i := 0) (q := 113) dX12_garmentItem_112 rfl rfl rfl ?_
            refine wk_iconst (v := 1) (q := 114) dX12_garmentItem_113 rfl rfl ?_
            refine wk_bipush (v := 99) (q := 116) dX12_garmentItem_114 rfl rfl ?_
            refine wk_V2v (d' := 5) (q := 119) lkX12_256 dX12_garmentItem_116 rfl rfl rfl rfl rfl rfl rfl ?_
            refine ck_number (lo := 1) (hi := 99) (by decide) (by decide) ht (tkE_ub hp4) hM5 (fun hn5 S6 hM6 e56 e106 => ?_) (fun hn5 S6 hW6 e56 => ?_)
            · skip
              rw [← numB_iff] at hn5
              rw [if_pos hn5] at hR
              refine wk_aload_n (i := 0) (q := 120) dX12_garmentItem_119 rfl rfl rfl ?_
              refine wk_get (q := 123) fgX12_7 dX12_garmentItem_120 rfl rfl rfl rfl ?_
              refine wk_iload_n (i := 2) (q := 124) dX12_garmentItem_123 rfl rfl rfl ?_
              refine wk_iconst (v := 3) (q := 125) dX12_garmentItem_124 rfl rfl ?_
              refine wk_S2r (d' := 1) (q := 128) lkX12_42 dX12_garmentItem_125 rfl rfl rfl rfl ?_
              refine ck_X12_spot (g := (cA A)) (w := 3) ?_
              refine wk_aload_n (i := 0) (q := 129) dX12_garmentItem_128 rfl rfl rfl ?_
              refine wk_gM (q := 132) fgX12_231 dX12_garmentItem_129 rfl rfl ?_
              rw [e106]
              refine wk_sst (n := (5 + 7 * (cA A) + 3)) (q := 133) dX12_garmentItem_132 rfl (by omega) rfl ?_
              refine wk_return dX12_garmentItem_133 rfl ?_
              exact h1 _ _ _ hR hM6 (by rw [e56, e55, e54, e53, e52, e51])
            · skip
              rw [← numB_iff] at hn5
              rw [if_neg hn5] at hR
              refine wk_aload_n (i := 0) (q := 120) dX12_garmentItem_119 rfl rfl rfl ?_
              refine wk_get (q := 123) fgX12_7 dX12_garmentItem_120 rfl rfl rfl rfl ?_
              refine wk_iload_n (i := 2) (q := 124) dX12_garmentItem_123 rfl rfl rfl ?_
              refine wk_iconst (v := 3) (q := 125) dX12_garmentItem_124 rfl rfl ?_
              refine wk_S2r (d' := 1) (q := 128) lkX12_42 dX12_garmentItem_125 rfl rfl rfl rfl ?_
              refine ck_X12_spot (g := (cA A)) (w := 3) ?_
              refine wk_aload_n (i := 0) (q := 129) dX12_garmentItem_128 rfl rfl rfl ?_
              refine wk_gM (q := 132) fgX12_231 dX12_garmentItem_129 rfl rfl ?_
              refine wk_sst (n := (5 + 7 * (cA A) + 3)) (q := 133) dX12_garmentItem_132 rfl (by omega) rfl ?_
              refine wk_return dX12_garmentItem_133 rfl ?_
              exact h0 _ _ _ _ hR hW6 (by rw [e56, e55, e54, e53, e52, e51]) (fun j hj => (upd_n (by omega)).trans ((upd_n (by omega)).trans ((upd_n (by omega)).trans (addA_hi hlt hj))))
        · skip
          rw [← numB_iff] at hn2
          rw [if_neg hn2] at hR
          refine wk_aload_n (i := 0) (q := 83) dX12_garmentItem_82 rfl rfl rfl ?_
          refine wk_get (q := 86) fgX12_7 dX12_garmentItem_83 rfl rfl rfl rfl ?_
          refine wk_iload_n (i := 2) (q := 87) dX12_garmentItem_86 rfl rfl rfl ?_
          refine wk_iconst (v := 2) (q := 88) dX12_garmentItem_87 rfl rfl ?_
          refine wk_S2r (d' := 1) (q := 91) lkX12_42 dX12_garmentItem_88 rfl rfl rfl rfl ?_
          refine ck_X12_spot (g := (cA A)) (w := 2) ?_
          refine wk_aload_n (i := 0) (q := 92) dX12_garmentItem_91 rfl rfl rfl ?_
          refine wk_gM (q := 95) fgX12_231 dX12_garmentItem_92 rfl rfl ?_
          refine wk_sst (n := (5 + 7 * (cA A) + 2)) (q := 96) dX12_garmentItem_95 rfl (by omega) rfl ?_
          refine wk_aload_n (i := 0) (q := 97) dX12_garmentItem_96 rfl rfl rfl ?_
          refine wk_V0r (d' := 3) (q := 100) lkX12_238 dX12_garmentItem_97 rfl rfl rfl rfl rfl rfl rfl ?_
          refine ck_word_w ht hp3 hW4 ?_
          refine wk_ldc2 (q := 103) dX12_garmentItem_100 kX12_259 rfl ?_
          refine wk_lcmp (q := 104) dX12_garmentItem_103 rfl ?_
          refine wk_if_ne (t := 133) (q := 107) dX12_garmentItem_104 rfl rfl (fun c104 => ?_) (fun h => absurd h (by decide))
          refine wk_return dX12_garmentItem_133 rfl ?_
          exact h0 _ _ _ _ hR hW4 (by rw [e54, e53, e52, e51]) (fun j hj => (upd_n (by omega)).trans ((upd_n (by omega)).trans (addA_hi hlt hj)))
      · skip
        rw [← numB_iff] at hn1
        rw [if_neg hn1] at hR
        refine wk_aload_n (i := 0) (q := 60) dX12_garmentItem_59 rfl rfl rfl ?_
        refine wk_get (q := 63) fgX12_7 dX12_garmentItem_60 rfl rfl rfl rfl ?_
        refine wk_iload_n (i := 2) (q := 64) dX12_garmentItem_63 rfl rfl rfl ?_
        refine wk_iconst (v := 1) (q := 65) dX12_garmentItem_64 rfl rfl ?_
        refine wk_S2r (d' := 1) (q := 68) lkX12_42 dX12_garmentItem_65 rfl rfl rfl rfl ?_
        refine ck_X12_spot (g := (cA A)) (w := 1) ?_
        refine wk_aload_n (i := 0) (q := 69) dX12_garmentItem_68 rfl rfl rfl ?_
        refine wk_gM (q := 72) fgX12_231 dX12_garmentItem_69 rfl rfl ?_
        refine wk_sst (n := (5 + 7 * (cA A) + 1)) (q := 73) dX12_garmentItem_72 rfl (by omega) rfl ?_
        refine wk_aload_n (i := 0) (q := 74) dX12_garmentItem_73 rfl rfl rfl ?_
        refine wk_bipush (v := 10) (q := 76) dX12_garmentItem_74 rfl rfl ?_
        refine wk_sipush (v := 200) (q := 79) dX12_garmentItem_76 rfl rfl ?_
        refine wk_V2v (d' := 5) (q := 82) lkX12_256 dX12_garmentItem_79 rfl rfl rfl rfl rfl rfl rfl ?_
        refine ck_number_w hW3 ?_
        refine wk_aload_n (i := 0) (q := 83) dX12_garmentItem_82 rfl rfl rfl ?_
        refine wk_get (q := 86) fgX12_7 dX12_garmentItem_83 rfl rfl rfl rfl ?_
        refine wk_iload_n (i := 2) (q := 87) dX12_garmentItem_86 rfl rfl rfl ?_
        refine wk_iconst (v := 2) (q := 88) dX12_garmentItem_87 rfl rfl ?_
        refine wk_S2r (d' := 1) (q := 91) lkX12_42 dX12_garmentItem_88 rfl rfl rfl rfl ?_
        refine ck_X12_spot (g := (cA A)) (w := 2) ?_
        refine wk_aload_n (i := 0) (q := 92) dX12_garmentItem_91 rfl rfl rfl ?_
        refine wk_gM (q := 95) fgX12_231 dX12_garmentItem_92 rfl rfl ?_
        refine wk_sst (n := (5 + 7 * (cA A) + 2)) (q := 96) dX12_garmentItem_95 rfl (by omega) rfl ?_
        refine wk_aload_n (i := 0) (q := 97) dX12_garmentItem_96 rfl rfl rfl ?_
        refine wk_V0r (d' := 3) (q := 100) lkX12_238 dX12_garmentItem_97 rfl rfl rfl rfl rfl rfl rfl ?_
        refine ck_word_w ht hp2 hW3 ?_
        refine wk_ldc2 (q := 103) dX12_garmentItem_100 kX12_259 rfl ?_
        refine wk_lcmp (q := 104) dX12_garmentItem_103 rfl ?_
        refine wk_if_ne (t := 133) (q := 107) dX12_garmentItem_104 rfl rfl (fun c104 => ?_) (fun h => absurd h (by decide))
        refine wk_return dX12_garmentItem_133 rfl ?_
        exact h0 _ _ _ _ hR hW3 (by rw [e53, e52, e51]) (fun j hj => (upd_n (by omega)).trans ((upd_n (by omega)).trans (addA_hi hlt hj)))
  · rw [if_neg hlt] at hR
    refine CK.of rfl rfl (lv := [(0, _), (1, _)]) rfl ?_
    refine wk_aload_n (i := 0) (q := 1) dX12_garmentItem_0 rfl rfl rfl ?_
    refine wk_aload_n (i := 0) (q := 2) dX12_garmentItem_1 rfl rfl rfl ?_
    refine wk_get (q := 5) fgX12_7 dX12_garmentItem_2 rfl rfl rfl rfl ?_
    refine wk_iconst (v := 1) (q := 6) dX12_garmentItem_5 rfl rfl ?_
    refine wk_sld (n := 1) (q := 7) dX12_garmentItem_6 rfl (by decide) rfl ?_
    refine wk_bipush (v := 8) (q := 9) dX12_garmentItem_7 rfl rfl ?_
    rw [hc]
    refine wk_icmp_ge (t := 16) (q := 12) dX12_garmentItem_9 rfl rfl (fun c9 => ?_) (fun h => absurd (nI_le (a := 8) (by omega) (by omega)) h)
    refine wk_iconst (v := 0) (q := 17) dX12_garmentItem_16 rfl rfl ?_
    refine wk_V1v (d' := 4) (q := 20) lkX12_234 dX12_garmentItem_17 rfl rfl rfl rfl rfl rfl rfl ?_
    refine ck_must0 hM (fun S1 hW1 e51 => ?_)
    refine wk_aload_n (i := 0) (q := 21) dX12_garmentItem_20 rfl rfl rfl ?_
    refine wk_gM (q := 24) fgX12_220 dX12_garmentItem_21 rfl rfl ?_
    rw [hW1.2.2.2]
    refine wk_if_eq (t := 28) (q := 27) dX12_garmentItem_24 rfl rfl (fun h => absurd h (by decide)) (fun _ => ?_)
    refine wk_return dX12_garmentItem_27 rfl ?_
    exact h0 _ _ _ _ hR hW1 e51 (fun _ _ => rfl)
end MI
