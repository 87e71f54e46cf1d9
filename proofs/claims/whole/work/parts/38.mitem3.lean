/-! the reference's other items, and its basket -/
section MJ
variable {E : EVt} {m : Mm} {L : Ml} {Q : Value → Mm → Ml → Prop} {S A : Nat → Int32} {tn p D : Nat}
theorem addP_hi {l w : Int32} {j : Nat} (hc : pA A < 6) (hj : 73 ≤ j) : addP A l w j = A j := (upd_n (by omega)).trans ((upd_n (by omega)).trans (upd_n (by omega)))
theorem ck_X12_personItem (ht : tn ≤ 120) (hp : p ≤ tn) (hM : MS S tn (m 78) p) (hc : A 2 = nI (pA A)) (hc8 : pA A ≤ 6) (h1 : ∀ A' p' S', perS (m 78) tn A p = (true, A', p') → MS S' tn (m 78) p' → S' 5 = S 5 → Q .null (wr (wr m 72 S') 73 A') L) (h0 : ∀ A0 p' S' A', perS (m 78) tn A p = (false, A0, p') → WS S' tn (m 78) p' → S' 5 = S 5 → (∀ j, 73 ≤ j → A' j = A j) → Q .null (wr (wr m 72 S') 73 A') L) : CK E 6 MX12_personItem [.ref (ev_z E + 72)] (wr (wr m 72 S) 73 A) L Q := by
  have hp1 : tkE (m 78) tn p ≤ tn := tkE_ub hp
  have hp2 := tkE_ub (T := m 78) hp1
  have hR : perS (m 78) tn A p = if pA A < 6 then (if numB (m 78) tn (tkE (m 78) tn p) 10 200 = true then (if numB (m 78) tn (tkE (m 78) tn (tkE (m 78) tn p)) 10 200 = true then (true, addP A (nI (tkV (m 78) tn (tkE (m 78) tn p))) (nI (tkV (m 78) tn (tkE (m 78) tn (tkE (m 78) tn p)))), tkE (m 78) tn (tkE (m 78) tn (tkE (m 78) tn p))) else (false, A, tkE (m 78) tn (tkE (m 78) tn p))) else (false, A, tkE (m 78) tn p)) else (false, A, p) := rfl
  by_cases hlt : pA A < 6
  · rw [if_pos hlt] at hR
    refine CK.of rfl rfl (lv := [(0, _)]) rfl ?_
    refine wk_aload_n (i := 0) (q := 1) dX12_personItem_0 rfl rfl rfl ?_
    refine wk_aload_n (i := 0) (q := 2) dX12_personItem_1 rfl rfl rfl ?_
    refine wk_get (q := 5) fgX12_7 dX12_personItem_2 rfl rfl rfl rfl ?_
    refine wk_iconst (v := 2) (q := 6) dX12_personItem_5 rfl rfl ?_
    refine wk_sld (n := 2) (q := 7) dX12_personItem_6 rfl (by decide) rfl ?_
    refine wk_bipush (v := 6) (q := 9) dX12_personItem_7 rfl rfl ?_
    rw [hc]
    refine wk_icmp_ge (t := 16) (q := 12) dX12_personItem_9 rfl rfl (fun h => absurd h (nI_ge (b := 6) hlt (by omega))) (fun c9 => ?_)
    refine wk_iconst (v := 1) (q := 13) dX12_personItem_12 rfl rfl ?_
    refine wk_goto (t := 17) dX12_personItem_13 rfl ?_
    refine wk_V1v (d' := 4) (q := 20) lkX12_234 dX12_personItem_17 rfl rfl rfl rfl rfl rfl rfl ?_
    refine ck_must1 ht hp hM (fun S1 hM1 e51 e101 => ?_)
    refine wk_aload_n (i := 0) (q := 21) dX12_personItem_20 rfl rfl rfl ?_
    refine wk_bipush (v := 10) (q := 23) dX12_personItem_21 rfl rfl ?_
    refine wk_sipush (v := 200) (q := 26) dX12_personItem_23 rfl rfl ?_
    refine wk_V2v (d' := 5) (q := 29) lkX12_256 dX12_personItem_26 rfl rfl rfl rfl rfl rfl rfl ?_
    refine ck_number (lo := 10) (hi := 200) (by decide) (by decide) ht hp1 hM1 (fun hn1 S2 hM2 e52 e102 => ?_) (fun hn1 S2 hW2 e52 => ?_)
    · skip
      rw [← numB_iff] at hn1
      rw [if_pos hn1] at hR
      refine wk_aload_n (i := 0) (q := 30) dX12_personItem_29 rfl rfl rfl ?_
      refine wk_gM (q := 33) fgX12_231 dX12_personItem_30 rfl rfl ?_
      rw [e102]
      refine wk_istore_n (i := 1) (q := 34) (lv' := [_, _]) dX12_personItem_33 rfl rfl rfl rfl ?_
      refine wk_aload_n (i := 0) (q := 35) dX12_personItem_34 rfl rfl rfl ?_
      refine wk_bipush (v := 10) (q := 37) dX12_personItem_35 rfl rfl ?_
      refine wk_sipush (v := 200) (q := 40) dX12_personItem_37 rfl rfl ?_
      refine wk_V2v (d' := 5) (q := 43) lkX12_256 dX12_personItem_40 rfl rfl rfl rfl rfl rfl rfl ?_
      refine ck_number (lo := 10) (hi := 200) (by decide) (by decide) ht hp2 hM2 (fun hn2 S3 hM3 e53 e103 => ?_) (fun hn2 S3 hW3 e53 => ?_)
      · skip
        rw [← numB_iff] at hn2
        rw [if_pos hn2] at hR
        refine wk_aload_n (i := 0) (q := 44) dX12_personItem_43 rfl rfl rfl ?_
        refine wk_gM (q := 47) fgX12_220 dX12_personItem_44 rfl rfl ?_
        rw [hM3.2.2.2]
        refine wk_if_ne (t := 60) (q := 50) dX12_personItem_47 rfl rfl (fun h => absurd (by decide) h) (fun _ => ?_)
        refine wk_aload_n (i := 0) (q := 51) dX12_personItem_50 rfl rfl rfl ?_
        refine wk_iload_n (i := 1) (q := 52) dX12_personItem_51 rfl rfl rfl ?_
        refine wk_aload_n (i := 0) (q := 53) dX12_personItem_52 rfl rfl rfl ?_
        refine wk_gM (q := 56) fgX12_231 dX12_personItem_53 rfl rfl ?_
        rw [e103]
        refine wk_V2r (d' := 1) (q := 59) lkX12_147 dX12_personItem_56 rfl rfl rfl rfl rfl rfl rfl ?_
        refine ck_X12_addsPerson hc hlt rfl ?_
        refine wk_pop (q := 60) dX12_personItem_59 rfl rfl ?_
        refine wk_return dX12_personItem_60 rfl ?_
        exact h1 _ _ _ hR hM3 (by rw [e53, e52, e51])
      · skip
        rw [← numB_iff] at hn2
        rw [if_neg hn2] at hR
        refine wk_aload_n (i := 0) (q := 44) dX12_personItem_43 rfl rfl rfl ?_
        refine wk_gM (q := 47) fgX12_220 dX12_personItem_44 rfl rfl ?_
        rw [hW3.2.2.2]
        refine wk_if_ne (t := 60) (q := 50) dX12_personItem_47 rfl rfl (fun _ => ?_) (fun h => absurd h (by decide))
        refine wk_return dX12_personItem_60 rfl ?_
        exact h0 _ _ _ _ hR hW3 (by rw [e53, e52, e51]) (fun _ _ => rfl)
    · skip
      rw [← numB_iff] at hn1
      rw [if_neg hn1] at hR
      refine wk_aload_n (i := 0) (q := 30) dX12_personItem_29 rfl rfl rfl ?_
      refine wk_gM (q := 33) fgX12_231 dX12_personItem_30 rfl rfl ?_
      refine wk_istore_n (i := 1) (q := 34) (lv' := [_, _]) dX12_personItem_33 rfl rfl rfl rfl ?_
      refine wk_aload_n (i := 0) (q := 35) dX12_personItem_34 rfl rfl rfl ?_
      refine wk_bipush (v := 10) (q := 37) dX12_personItem_35 rfl rfl ?_
      refine wk_sipush (v := 200) (q := 40) dX12_personItem_37 rfl rfl ?_
      refine wk_V2v (d' := 5) (q := 43) lkX12_256 dX12_personItem_40 rfl rfl rfl rfl rfl rfl rfl ?_
      refine ck_number_w hW2 ?_
      refine wk_aload_n (i := 0) (q := 44) dX12_personItem_43 rfl rfl rfl ?_
      refine wk_gM (q := 47) fgX12_220 dX12_personItem_44 rfl rfl ?_
      rw [hW2.2.2.2]
      refine wk_if_ne (t := 60) (q := 50) dX12_personItem_47 rfl rfl (fun _ => ?_) (fun h => absurd h (by decide))
      refine wk_return dX12_personItem_60 rfl ?_
      exact h0 _ _ _ _ hR hW2 (by rw [e52, e51]) (fun _ _ => rfl)
  · rw [if_neg hlt] at hR
    refine CK.of rfl rfl (lv := [(0, _)]) rfl ?_
    refine wk_aload_n (i := 0) (q := 1) dX12_personItem_0 rfl rfl rfl ?_
    refine wk_aload_n (i := 0) (q := 2) dX12_personItem_1 rfl rfl rfl ?_
    refine wk_get (q := 5) fgX12_7 dX12_personItem_2 rfl rfl rfl rfl ?_
    refine wk_iconst (v := 2) (q := 6) dX12_personItem_5 rfl rfl ?_
    refine wk_sld (n := 2) (q := 7) dX12_personItem_6 rfl (by decide) rfl ?_
    refine wk_bipush (v := 6) (q := 9) dX12_personItem_7 rfl rfl ?_
    rw [hc]
    refine wk_icmp_ge (t := 16) (q := 12) dX12_personItem_9 rfl rfl (fun c9 => ?_) (fun h => absurd (nI_le (a := 6) (by omega) (by omega)) h)
    refine wk_iconst (v := 0) (q := 17) dX12_personItem_16 rfl rfl ?_
    refine wk_V1v (d' := 4) (q := 20) lkX12_234 dX12_personItem_17 rfl rfl rfl rfl rfl rfl rfl ?_
    refine ck_must0 hM (fun S1 hW1 e51 => ?_)
    refine wk_aload_n (i := 0) (q := 21) dX12_personItem_20 rfl rfl rfl ?_
    refine wk_bipush (v := 10) (q := 23) dX12_personItem_21 rfl rfl ?_
    refine wk_sipush (v := 200) (q := 26) dX12_personItem_23 rfl rfl ?_
    refine wk_V2v (d' := 5) (q := 29) lkX12_256 dX12_personItem_26 rfl rfl rfl rfl rfl rfl rfl ?_
    refine ck_number_w hW1 ?_
    refine wk_aload_n (i := 0) (q := 30) dX12_personItem_29 rfl rfl rfl ?_
    refine wk_gM (q := 33) fgX12_231 dX12_personItem_30 rfl rfl ?_
    refine wk_istore_n (i := 1) (q := 34) (lv' := [_, _]) dX12_personItem_33 rfl rfl rfl rfl ?_
    refine wk_aload_n (i := 0) (q := 35) dX12_personItem_34 rfl rfl rfl ?_
    refine wk_bipush (v := 10) (q := 37) dX12_personItem_35 rfl rfl ?_
    refine wk_sipush (v := 200) (q := 40) dX12_personItem_37 rfl rfl ?_
    refine wk_V2v (d' := 5) (q := 43) lkX12_256 dX12_personItem_40 rfl rfl rfl rfl rfl rfl rfl ?_
    refine ck_number_w hW1 ?_
    refine wk_aload_n (i := 0) (q := 44) dX12_personItem_43 rfl rfl rfl ?_
    refine wk_gM (q := 47) fgX12_220 dX12_personItem_44 rfl rfl ?_
    rw [hW1.2.2.2]
    refine wk_if_ne (t := 60) (q := 50) dX12_personItem_47 rfl rfl (fun _ => ?_) (fun h => absurd h (by decide))
    refine wk_return dX12_personItem_60 rfl ?_
    exact h0 _ _ _ _ hR hW1 e51 (fun _ _ => rfl)
theorem ck_X12_degreesItem (ht : tn ≤ 120) (hp : p ≤ tn) (hM : MS S tn (m 78) p) (h1 : ∀ A' p' S', degS (m 78) tn A p = (true, A', p') → MS S' tn (m 78) p' → S' 5 = S 5 → Q .null (wr (wr m 72 S') 73 A') L) (h0 : ∀ A0 p' S' A', degS (m 78) tn A p = (false, A0, p') → WS S' tn (m 78) p' → S' 5 = S 5 → (∀ j, 73 ≤ j → A' j = A j) → Q .null (wr (wr m 72 S') 73 A') L) : CK E 6 MX12_degreesItem [.ref (ev_z E + 72)] (wr (wr m 72 S) 73 A) L Q := by
  have hp1 : tkE (m 78) tn p ≤ tn := tkE_ub hp
  have hR : degS (m 78) tn A p = if numB (m 78) tn (tkE (m 78) tn p) 20 95 = true then (true, upd A 3 (nI (tkV (m 78) tn (tkE (m 78) tn p))), tkE (m 78) tn (tkE (m 78) tn p)) else (false, A, tkE (m 78) tn p) := rfl
  refine CK.of rfl rfl (lv := [(0, _)]) rfl ?_
  refine wk_aload_n (i := 0) (q := 1) dX12_degreesItem_0 rfl rfl rfl ?_
  refine wk_iconst (v := 1) (q := 2) dX12_degreesItem_1 rfl rfl ?_
  refine wk_V1v (d' := 4) (q := 5) lkX12_234 dX12_degreesItem_2 rfl rfl rfl rfl rfl rfl rfl ?_
  refine ck_must1 ht hp hM (fun S1 hM1 e51 e101 => ?_)
  refine wk_aload_n (i := 0) (q := 6) dX12_degreesItem_5 rfl rfl rfl ?_
  refine wk_bipush (v := 20) (q := 8) dX12_degreesItem_6 rfl rfl ?_
  refine wk_bipush (v := 95) (q := 10) dX12_degreesItem_8 rfl rfl ?_
  refine wk_V2v (d' := 5) (q := 13) lkX12_256 dX12_degreesItem_10 rfl rfl rfl rfl rfl rfl rfl ?_
  refine ck_number (lo := 20) (hi := 95) (by decide) (by decide) ht hp1 hM1 (fun hn1 S2 hM2 e52 e102 => ?_) (fun hn1 S2 hW2 e52 => ?_)
  · skip
    rw [← numB_iff] at hn1
    rw [if_pos hn1] at hR
    refine wk_aload_n (i := 0) (q := 14) dX12_degreesItem_13 rfl rfl rfl ?_
    refine wk_get (q := 17) fgX12_7 dX12_degreesItem_14 rfl rfl rfl rfl ?_
    refine wk_iconst (v := 3) (q := 18) dX12_degreesItem_17 rfl rfl ?_
    refine wk_aload_n (i := 0) (q := 19) dX12_degreesItem_18 rfl rfl rfl ?_
    refine wk_gM (q := 22) fgX12_220 dX12_degreesItem_19 rfl rfl ?_
    rw [hM2.2.2.2]
    refine wk_if_eq (t := 34) (q := 25) dX12_degreesItem_22 rfl rfl (fun _ => ?_) (fun h => absurd (by decide) h)
    refine wk_aload_n (i := 0) (q := 35) dX12_degreesItem_34 rfl rfl rfl ?_
    refine wk_gM (q := 38) fgX12_231 dX12_degreesItem_35 rfl rfl ?_
    rw [e102]
    refine wk_sst (n := 3) (q := 39) dX12_degreesItem_38 rfl (by decide) rfl ?_
    refine wk_return dX12_degreesItem_39 rfl ?_
    exact h1 _ _ _ hR hM2 (by rw [e52, e51])
  · skip
    rw [← numB_iff] at hn1
    rw [if_neg hn1] at hR
    refine wk_aload_n (i := 0) (q := 14) dX12_degreesItem_13 rfl rfl rfl ?_
    refine wk_get (q := 17) fgX12_7 dX12_degreesItem_14 rfl rfl rfl rfl ?_
    refine wk_iconst (v := 3) (q := 18) dX12_degreesItem_17 rfl rfl ?_
    refine wk_aload_n (i := 0) (q := 19) dX12_degreesItem_18 rfl rfl rfl ?_
    refine wk_gM (q := 22) fgX12_220 dX12_degreesItem_19 rfl rfl ?_
    rw [hW2.2.2.2]
    refine wk_if_eq (t := 34) (q := 25) dX12_degreesItem_22 rfl rfl (fun h => absurd h (by decide)) (fun _ => ?_)
    refine wk_aload_n (i := 0) (q := 26) dX12_degreesItem_25 rfl rfl rfl ?_
    refine wk_get (q := 29) fgX12_7 dX12_degreesItem_26 rfl rfl rfl rfl ?_
    refine wk_iconst (v := 3) (q := 30) dX12_degreesItem_29 rfl rfl ?_
    refine wk_sld (n := 3) (q := 31) dX12_degreesItem_30 rfl (by decide) rfl ?_
    refine wk_goto (t := 38) dX12_degreesItem_31 rfl ?_
    refine wk_sst (n := 3) (q := 39) dX12_degreesItem_38 rfl (by decide) rfl ?_
    refine wk_return dX12_degreesItem_39 rfl ?_
    exact h0 _ _ _ _ hR hW2 (by rw [e52, e51]) (fun j hj => upd_n (by omega))
theorem ck_X12_washItem (ht : tn ≤ 120) (hp : p ≤ tn) (hM : MS S tn (m 78) p) (hc : A 1 = nI (cA A)) (hc8 : cA A ≤ 8) (h1 : ∀ A' p' S', wasS (m 78) tn A p = (true, A', p') → MS S' tn (m 78) p' → S' 5 = S 5 → Q .null (wr (wr m 72 S') 73 A') L) (h0 : ∀ A0 p' S' A', wasS (m 78) tn A p = (false, A0, p') → WS S' tn (m 78) p' → S' 5 = S 5 → (∀ j, 73 ≤ j → A' j = A j) → Q .null (wr (wr m 72 S') 73 A') L) : CK E 6 MX12_washItem [.ref (ev_z E + 72)] (wr (wr m 72 S) 73 A) L Q := by
  have hp1 : tkE (m 78) tn p ≤ tn := tkE_ub hp
  have hR : wasS (m 78) tn A p = if tkT (m 78) tn (tkE (m 78) tn p) = 2 ∧ tkV (m 78) tn (tkE (m 78) tn p) < cA A then (true, gput A (tkV (m 78) tn (tkE (m 78) tn p)) (wshG (A 3) (A 4) (gv A (tkV (m 78) tn (tkE (m 78) tn p)))), tkE (m 78) tn (tkE (m 78) tn p)) else (false, A, tkE (m 78) tn p) := rfl
  refine CK.of rfl rfl (lv := [(0, _)]) rfl ?_
  refine wk_aload_n (i := 0) (q := 1) dX12_washItem_0 rfl rfl rfl ?_
  refine wk_iconst (v := 1) (q := 2) dX12_washItem_1 rfl rfl ?_
  refine wk_V1v (d' := 4) (q := 5) lkX12_234 dX12_washItem_2 rfl rfl rfl rfl rfl rfl rfl ?_
  refine ck_must1 ht hp hM (fun S1 hM1 e51 e101 => ?_)
  refine wk_aload_n (i := 0) (q := 6) dX12_washItem_5 rfl rfl rfl ?_
  refine wk_iconst (v := 0) (q := 7) dX12_washItem_6 rfl rfl ?_
  refine wk_aload_n (i := 0) (q := 8) dX12_washItem_7 rfl rfl rfl ?_
  refine wk_get (q := 11) fgX12_7 dX12_washItem_8 rfl rfl rfl rfl ?_
  refine wk_iconst (v := 1) (q := 12) dX12_washItem_11 rfl rfl ?_
  refine wk_sld (n := 1) (q := 13) dX12_washItem_12 rfl (by decide) rfl ?_
  refine wk_iconst (v := 1) (q := 14) dX12_washItem_13 rfl rfl ?_
  refine wk_isub (q := 15) dX12_washItem_14 rfl ?_
  rw [hc]
  refine wk_V2v (d' := 5) (q := 18) lkX12_256 dX12_washItem_15 rfl rfl rfl rfl rfl rfl rfl ?_
  refine ck_numberI ht hp1 hM1 (fun hn1 S2 hM2 e52 e102 => ?_) (fun hn1 S2 hW2 e52 => ?_)
  · skip
    have hb := tkV_b hn1.1
    obtain ⟨x, hx, ex⟩ := wi_c (c := cA A) (by omega) hn1.2
    have ex := nI_inj (by omega) (by omega) ex
    subst ex
    rw [if_pos ⟨hn1.1, hx⟩] at hR
    refine wk_aload_n (i := 0) (q := 19) dX12_washItem_18 rfl rfl rfl ?_
    refine wk_gM (q := 22) fgX12_220 dX12_washItem_19 rfl rfl ?_
    rw [hM2.2.2.2]
    refine wk_if_ne (t := 34) (q := 25) dX12_washItem_22 rfl rfl (fun h => absurd (by decide) h) (fun _ => ?_)
    refine wk_aload_n (i := 0) (q := 26) dX12_washItem_25 rfl rfl rfl ?_
    refine wk_aload_n (i := 0) (q := 27) dX12_washItem_26 rfl rfl rfl ?_
    refine wk_gM (q := 30) fgX12_231 dX12_washItem_27 rfl rfl ?_
    rw [e102]
    refine wk_V1r (d' := 5) (q := 33) lkX12_134 dX12_washItem_30 rfl rfl rfl rfl rfl rfl rfl ?_
    refine ck_X12_washed (by omega) ?_
    refine wk_pop (q := 34) dX12_washItem_33 rfl rfl ?_
    refine wk_return dX12_washItem_34 rfl ?_
    exact h1 _ _ _ hR hM2 (by rw [e52, e51])
  · skip
    rw [if_neg (fun h => hn1 ⟨h.1, wi_c' (by omega) h.2⟩)] at hR
    refine wk_aload_n (i := 0) (q := 19) dX12_washItem_18 rfl rfl rfl ?_
    refine wk_gM (q := 22) fgX12_220 dX12_washItem_19 rfl rfl ?_
    rw [hW2.2.2.2]
    refine wk_if_ne (t := 34) (q := 25) dX12_washItem_22 rfl rfl (fun _ => ?_) (fun h => absurd h (by decide))
    refine wk_return dX12_washItem_34 rfl ?_
    exact h0 _ _ _ _ hR hW2 (by rw [e52, e51]) (fun _ _ => rfl)
theorem ck_X12_towelItem {b : Int32} (hb : b = 0 ∨ b = 1) (ht : tn ≤ 120) (hp : p ≤ tn) (hM : MS S tn (m 78) p) (h1 : ∀ S', MS S' tn (m 78) (tkE (m 78) tn p) → S' 5 = S 5 → Q .null (wr (wr m 72 S') 73 (upd A 4 b)) L) : CK E 5 MX12_towelItem [.ref (ev_z E + 72), .int b] (wr (wr m 72 S) 73 A) L Q := by
  rcases hb with rfl | rfl
  · skip
    refine CK.of rfl rfl (lv := [(0, _), (1, _)]) rfl ?_
    refine wk_aload_n (i := 0) (q := 1) dX12_towelItem_0 rfl rfl rfl ?_
    refine wk_iconst (v := 1) (q := 2) dX12_towelItem_1 rfl rfl ?_
    refine wk_V1v (d' := 4) (q := 5) lkX12_234 dX12_towelItem_2 rfl rfl rfl rfl rfl rfl rfl ?_
    refine ck_must1 ht hp hM (fun S1 hM1 e51 e101 => ?_)
    refine wk_aload_n (i := 0) (q := 6) dX12_towelItem_5 rfl rfl rfl ?_
    refine wk_get (q := 9) fgX12_7 dX12_towelItem_6 rfl rfl rfl rfl ?_
    refine wk_iconst (v := 4) (q := 10) dX12_towelItem_9 rfl rfl ?_
    refine wk_iload_n (i := 1) (q := 11) dX12_towelItem_10 rfl rfl rfl ?_
    refine wk_if_eq (t := 18) (q := 14) dX12_towelItem_11 rfl rfl (fun _ => ?_) (fun h => absurd (by decide) h)
    refine wk_iconst (v := 0) (q := 19) dX12_towelItem_18 rfl rfl ?_
    refine wk_sst (n := 4) (q := 20) dX12_towelItem_19 rfl (by decide) rfl ?_
    refine wk_return dX12_towelItem_20 rfl ?_
    exact h1 _ hM1 e51
  · skip
    refine CK.of rfl rfl (lv := [(0, _), (1, _)]) rfl ?_
    refine wk_aload_n (i := 0) (q := 1) dX12_towelItem_0 rfl rfl rfl ?_
    refine wk_iconst (v := 1) (q := 2) dX12_towelItem_1 rfl rfl ?_
    refine wk_V1v (d' := 4) (q := 5) lkX12_234 dX12_towelItem_2 rfl rfl rfl rfl rfl rfl rfl ?_
    refine ck_must1 ht hp hM (fun S1 hM1 e51 e101 => ?_)
    refine wk_aload_n (i := 0) (q := 6) dX12_towelItem_5 rfl rfl rfl ?_
    refine wk_get (q := 9) fgX12_7 dX12_towelItem_6 rfl rfl rfl rfl ?_
    refine wk_iconst (v := 4) (q := 10) dX12_towelItem_9 rfl rfl ?_
    refine wk_iload_n (i := 1) (q := 11) dX12_towelItem_10 rfl rfl rfl ?_
    refine wk_if_eq (t := 18) (q := 14) dX12_towelItem_11 rfl rfl (fun h => absurd h (by decide)) (fun _ => ?_)
    refine wk_iconst (v := 1) (q := 15) dX12_towelItem_14 rfl rfl ?_
    refine wk_goto (t := 19) dX12_towelItem_15 rfl ?_
    refine wk_sst (n := 4) (q := 20) dX12_towelItem_19 rfl (by decide) rfl ?_
    refine wk_return dX12_towelItem_20 rfl ?_
    exact h1 _ hM1 e51
theorem ck_X12_item (ht : tn ≤ 120) (hp : p ≤ tn) (hM : MS S tn (m 78) p) (hO : okA D A) (h1 : ∀ A' p' S', itmS (m 78) tn A p = (true, A', p') → MS S' tn (m 78) p' → S' 5 = S 5 → Q .null (wr (wr m 72 S') 73 A') L) (h0 : ∀ A0 p' S' A', itmS (m 78) tn A p = (false, A0, p') → WS S' tn (m 78) p' → S' 5 = S 5 → (∀ j, 73 ≤ j → A' j = A j) → Q .null (wr (wr m 72 S') 73 A') L) : CK E 7 MX12_item [.ref (ev_z E + 72)] (wr (wr m 72 S) 73 A) L Q := by
  have hR : itmS (m 78) tn A p = itmS (m 78) tn A p := rfl
  have hlk : ∀ k, k < 6 → isW (m 78) tn p k → itmS (m 78) tn A p = garS (m 78) tn A p k := fun k hk h => by
    have e := kdN_of hk h
    unfold itmS
    rw [e, if_pos hk]
  have hno : (∀ k, k < 6 → ¬ isW (m 78) tn p k) → itmS (m 78) tn A p = if wB (m 78) tn p 8 = true then perS (m 78) tn A p else if wB (m 78) tn p 9 = true then degS (m 78) tn A p else if wB (m 78) tn p 10 = true then wasS (m 78) tn A p else if wB (m 78) tn p 11 = true then (true, upd A 4 1, tkE (m 78) tn p) else if wB (m 78) tn p 12 = true then (true, upd A 4 0, tkE (m 78) tn p) else (false, A, p) := fun h => by
    have e := kdN_no h
    unfold itmS
    rw [e, if_neg (by decide)]
  refine CK.of rfl rfl (lv := [(0, _)]) rfl ?_
  refine wk_aload_n (i := 0) (q := 1) dX12_item_0 rfl rfl rfl ?_
  refine wk_V0r (d' := 4) (q := 4) lkX12_261 dX12_item_1 rfl rfl rfl rfl rfl rfl rfl ?_
  refine ck_X12_kindHere ht hp hM (fun k hk hw => ?_) (fun hnk => ?_)
  · skip
    have hR := hlk k hk hw
    refine wk_istore_n (i := 1) (q := 5) (lv' := [_, _]) dX12_item_4 rfl rfl rfl rfl ?_
    refine wk_aload_n (i := 0) (q := 6) dX12_item_5 rfl rfl rfl ?_
    refine wk_V0r (d' := 3) (q := 9) lkX12_238 dX12_item_6 rfl rfl rfl rfl rfl rfl rfl ?_
    refine ck_X12_word ht hp hM ?_
    refine wk_lstore_n (i := 2) (q := 10) (lv' := [_, _, _]) dX12_item_9 rfl rfl rfl rfl ?_
    refine wk_iload_n (i := 1) (q := 11) dX12_item_10 rfl rfl rfl ?_
    refine wk_if_lt (t := 22) (q := 14) dX12_item_11 rfl rfl (fun h => absurd h (nI_pos (by omega))) (fun c11 => ?_)
    refine wk_aload_n (i := 0) (q := 15) dX12_item_14 rfl rfl rfl ?_
    refine wk_iload_n (i := 1) (q := 16) dX12_item_15 rfl rfl rfl ?_
    refine wk_V1v (d' := 6) (q := 19) lkX12_264 dX12_item_16 rfl rfl rfl rfl rfl rfl rfl ?_
    refine ck_X12_garmentItem (k := k) ht hp hM hO.1.1 hO.1.2.1 (fun A1 p1 S1 hr hM1 e5 => ?_) (fun A0 p1 S1 A1 hr hW1 e5 hhi => ?_)
    · skip
      refine wk_goto (t := 108) dX12_item_19 rfl ?_
      refine wk_return dX12_item_108 rfl ?_
      exact h1 _ _ _ (hR.trans hr) hM1 e5
    · skip
      refine wk_goto (t := 108) dX12_item_19 rfl ?_
      refine wk_return dX12_item_108 rfl ?_
      exact h0 _ _ _ _ (hR.trans hr) hW1 e5 hhi
  · skip
    have hR := hno hnk
    refine wk_istore_n (i := 1) (q := 5) (lv' := [_, _]) dX12_item_4 rfl rfl rfl rfl ?_
    refine wk_aload_n (i := 0) (q := 6) dX12_item_5 rfl rfl rfl ?_
    refine wk_V0r (d' := 3) (q := 9) lkX12_238 dX12_item_6 rfl rfl rfl rfl rfl rfl rfl ?_
    refine ck_X12_word ht hp hM ?_
    refine wk_lstore_n (i := 2) (q := 10) (lv' := [_, _, _]) dX12_item_9 rfl rfl rfl rfl ?_
    refine wk_iload_n (i := 1) (q := 11) dX12_item_10 rfl rfl rfl ?_
    refine wk_if_lt (t := 22) (q := 14) dX12_item_11 rfl rfl (fun _ => ?_) (fun h => absurd (by decide) h)
    refine wk_lload_n (i := 2) (q := 23) dX12_item_22 rfl rfl rfl ?_
    refine wk_ldc2 (q := 26) dX12_item_23 kX12_267 rfl ?_
    refine wk_lcmp (q := 27) dX12_item_26 rfl ?_
    refine wk_if_ne (t := 37) (q := 30) dX12_item_27 rfl rfl (fun c27 => ?_) (fun c27 => ?_)
    · skip
      rw [lg_cmp_eq, ← cd_8, wd_iff (by decide), ← wB_iff] at c27
      rw [if_neg c27] at hR
      refine wk_lload_n (i := 2) (q := 38) dX12_item_37 rfl rfl rfl ?_
      refine wk_ldc2 (q := 41) dX12_item_38 kX12_272 rfl ?_
      refine wk_lcmp (q := 42) dX12_item_41 rfl ?_
      refine wk_if_ne (t := 52) (q := 45) dX12_item_42 rfl rfl (fun c42 => ?_) (fun c42 => ?_)
      · skip
        rw [lg_cmp_eq, ← cd_9, wd_iff (by decide), ← wB_iff] at c42
        rw [if_neg c42] at hR
        refine wk_lload_n (i := 2) (q := 53) dX12_item_52 rfl rfl rfl ?_
        refine wk_ldc2 (q := 56) dX12_item_53 kX12_277 rfl ?_
        refine wk_lcmp (q := 57) dX12_item_56 rfl ?_
        refine wk_if_eq (t := 68) (q := 60) dX12_item_57 rfl rfl (fun c57 => ?_) (fun c57 => ?_)
        · skip
          rw [lg_cmp_eq, ← cd_11, wd_iff (by decide), ← wB_iff] at c57
          rw [if_neg (show ¬ wB (m 78) tn p 10 = true from fun q => absurd (isW_uq (by decide) (by decide) (wB_iff.mp q) (wB_iff.mp c57)) (by decide)), if_pos c57] at hR
          refine wk_aload_n (i := 0) (q := 69) dX12_item_68 rfl rfl rfl ?_
          refine wk_lload_n (i := 2) (q := 70) dX12_item_69 rfl rfl rfl ?_
          refine wk_ldc2 (q := 73) dX12_item_70 kX12_277 rfl ?_
          refine wk_lcmp (q := 74) dX12_item_73 rfl ?_
          refine wk_if_ne (t := 81) (q := 77) dX12_item_74 rfl rfl (fun c74 => ?_) (fun c74 => ?_)
          · skip
            rw [lg_cmp_eq, ← cd_11, wd_iff (by decide), ← wB_iff] at c74
            refine wk_iconst (v := 0) (q := 82) dX12_item_81 rfl rfl ?_
            refine wk_V1v (d' := 5) (q := 85) lkX12_281 dX12_item_82 rfl rfl rfl rfl rfl rfl rfl ?_
            refine ck_X12_towelItem (Or.inl rfl) ht hp hM (fun S1 hM1 e5 => ?_)
            refine wk_goto (t := 108) dX12_item_85 rfl ?_
            refine wk_return dX12_item_108 rfl ?_
            first | exact h1 _ _ _ hR hM1 e5 | exact h0 _ _ _ _ hR hW1 e5 (fun _ _ => rfl) | exact absurd c57 c74 | exact absurd c74 c57
          · skip
            rw [lg_cmp_eq, ← cd_11, wd_iff (by decide), ← wB_iff] at c74
            refine wk_iconst (v := 1) (q := 78) dX12_item_77 rfl rfl ?_
            refine wk_goto (t := 82) dX12_item_78 rfl ?_
            refine wk_V1v (d' := 5) (q := 85) lkX12_281 dX12_item_82 rfl rfl rfl rfl rfl rfl rfl ?_
            refine ck_X12_towelItem (Or.inr rfl) ht hp hM (fun S1 hM1 e5 => ?_)
            refine wk_goto (t := 108) dX12_item_85 rfl ?_
            refine wk_return dX12_item_108 rfl ?_
            first | exact h1 _ _ _ hR hM1 e5 | exact h0 _ _ _ _ hR hW1 e5 (fun _ _ => rfl) | exact absurd c57 c74 | exact absurd c74 c57
        · skip
          rw [lg_cmp_eq, ← cd_11, wd_iff (by decide), ← wB_iff] at c57
          refine wk_lload_n (i := 2) (q := 61) dX12_item_60 rfl rfl rfl ?_
          refine wk_ldc2 (q := 64) dX12_item_61 kX12_279 rfl ?_
          refine wk_lcmp (q := 65) dX12_item_64 rfl ?_
          refine wk_if_ne (t := 88) (q := 68) dX12_item_65 rfl rfl (fun c65 => ?_) (fun c65 => ?_)
          · skip
            rw [lg_cmp_eq, ← cd_12, wd_iff (by decide), ← wB_iff] at c65
            refine wk_lload_n (i := 2) (q := 89) dX12_item_88 rfl rfl rfl ?_
            refine wk_ldc2 (q := 92) dX12_item_89 kX12_284 rfl ?_
            refine wk_lcmp (q := 93) dX12_item_92 rfl ?_
            refine wk_if_ne (t := 103) (q := 96) dX12_item_93 rfl rfl (fun c93 => ?_) (fun c93 => ?_)
            · skip
              rw [lg_cmp_eq, ← cd_10, wd_iff (by decide), ← wB_iff] at c93
              rw [if_neg c93, if_neg c57, if_neg c65] at hR
              refine wk_aload_n (i := 0) (q := 104) dX12_item_103 rfl rfl rfl ?_
              refine wk_iconst (v := 0) (q := 105) dX12_item_104 rfl rfl ?_
              refine wk_V1v (d' := 4) (q := 108) lkX12_234 dX12_item_105 rfl rfl rfl rfl rfl rfl rfl ?_
              refine ck_must0 hM (fun S1 hW1 e5 => ?_)
              refine wk_return dX12_item_108 rfl ?_
              first | exact h1 _ _ _ hR hM1 e5 | exact h0 _ _ _ _ hR hW1 e5 (fun _ _ => rfl) | exact absurd c57 c74 | exact absurd c74 c57
            · skip
              rw [lg_cmp_eq, ← cd_10, wd_iff (by decide), ← wB_iff] at c93
              rw [if_pos c93] at hR
              refine wk_aload_n (i := 0) (q := 97) dX12_item_96 rfl rfl rfl ?_
              refine wk_V0v (d' := 6) (q := 100) lkX12_286 dX12_item_97 rfl rfl rfl rfl rfl rfl rfl ?_
              refine ck_X12_washItem ht hp hM hO.1.1 hO.1.2.1 (fun A1 p1 S1 hr hM1 e5 => ?_) (fun A0 p1 S1 A1 hr hW1 e5 hhi => ?_)
              · skip
                refine wk_goto (t := 108) dX12_item_100 rfl ?_
                refine wk_return dX12_item_108 rfl ?_
                exact h1 _ _ _ (hR.trans hr) hM1 e5
              · skip
                refine wk_goto (t := 108) dX12_item_100 rfl ?_
                refine wk_return dX12_item_108 rfl ?_
                exact h0 _ _ _ _ (hR.trans hr) hW1 e5 hhi
          · skip
            rw [lg_cmp_eq, ← cd_12, wd_iff (by decide), ← wB_iff] at c65
            rw [if_neg (show ¬ wB (m 78) tn p 10 = true from fun q => absurd (isW_uq (by decide) (by decide) (wB_iff.mp q) (wB_iff.mp c65)) (by decide)), if_neg c57, if_pos c65] at hR
            refine wk_aload_n (i := 0) (q := 69) dX12_item_68 rfl rfl rfl ?_
            refine wk_lload_n (i := 2) (q := 70) dX12_item_69 rfl rfl rfl ?_
            refine wk_ldc2 (q := 73) dX12_item_70 kX12_277 rfl ?_
            refine wk_lcmp (q := 74) dX12_item_73 rfl ?_
            refine wk_if_ne (t := 81) (q := 77) dX12_item_74 rfl rfl (fun c74 => ?_) (fun c74 => ?_)
            · skip
              rw [lg_cmp_eq, ← cd_11, wd_iff (by decide), ← wB_iff] at c74
              refine wk_iconst (v := 0) (q := 82) dX12_item_81 rfl rfl ?_
              refine wk_V1v (d' := 5) (q := 85) lkX12_281 dX12_item_82 rfl rfl rfl rfl rfl rfl rfl ?_
              refine ck_X12_towelItem (Or.inl rfl) ht hp hM (fun S1 hM1 e5 => ?_)
              refine wk_goto (t := 108) dX12_item_85 rfl ?_
              refine wk_return dX12_item_108 rfl ?_
              first | exact h1 _ _ _ hR hM1 e5 | exact h0 _ _ _ _ hR hW1 e5 (fun _ _ => rfl) | exact absurd c57 c74 | exact absurd c74 c57
            · skip
              rw [lg_cmp_eq, ← cd_11, wd_iff (by decide), ← wB_iff] at c74
              refine wk_iconst (v := 1) (q := 78) dX12_item_77 rfl rfl ?_
              refine wk_goto (t := 82) dX12_item_78 rfl ?_
              refine wk_V1v (d' := 5) (q := 85) lkX12_281 dX12_item_82 rfl rfl rfl rfl rfl rfl rfl ?_
              refine ck_X12_towelItem (Or.inr rfl) ht hp hM (fun S1 hM1 e5 => ?_)
              refine wk_goto (t := 108) dX12_item_85 rfl ?_
              refine wk_return dX12_item_108 rfl ?_
              first | exact h1 _ _ _ hR hM1 e5 | exact h0 _ _ _ _ hR hW1 e5 (fun _ _ => rfl) | exact absurd c57 c74 | exact absurd c74 c57
      · skip
        rw [lg_cmp_eq, ← cd_9, wd_iff (by decide), ← wB_iff] at c42
        rw [if_pos c42] at hR
        refine wk_aload_n (i := 0) (q := 46) dX12_item_45 rfl rfl rfl ?_
        refine wk_V0v (d' := 6) (q := 49) lkX12_274 dX12_item_46 rfl rfl rfl rfl rfl rfl rfl ?_
        refine ck_X12_degreesItem ht hp hM (fun A1 p1 S1 hr hM1 e5 => ?_) (fun A0 p1 S1 A1 hr hW1 e5 hhi => ?_)
        · skip
          refine wk_goto (t := 108) dX12_item_49 rfl ?_
          refine wk_return dX12_item_108 rfl ?_
          exact h1 _ _ _ (hR.trans hr) hM1 e5
        · skip
          refine wk_goto (t := 108) dX12_item_49 rfl ?_
          refine wk_return dX12_item_108 rfl ?_
          exact h0 _ _ _ _ (hR.trans hr) hW1 e5 hhi
    · skip
      rw [lg_cmp_eq, ← cd_8, wd_iff (by decide), ← wB_iff] at c27
      rw [if_pos c27] at hR
      refine wk_aload_n (i := 0) (q := 31) dX12_item_30 rfl rfl rfl ?_
      refine wk_V0v (d' := 6) (q := 34) lkX12_269 dX12_item_31 rfl rfl rfl rfl rfl rfl rfl ?_
      refine ck_X12_personItem ht hp hM hO.2.1.1 hO.2.1.2.1 (fun A1 p1 S1 hr hM1 e5 => ?_) (fun A0 p1 S1 A1 hr hW1 e5 hhi => ?_)
      · skip
        refine wk_goto (t := 108) dX12_item_34 rfl ?_
        refine wk_return dX12_item_108 rfl ?_
        exact h1 _ _ _ (hR.trans hr) hM1 e5
      · skip
        refine wk_goto (t := 108) dX12_item_34 rfl ?_
        refine wk_return dX12_item_108 rfl ?_
        exact h0 _ _ _ _ (hR.trans hr) hW1 e5 hhi
end MJ
