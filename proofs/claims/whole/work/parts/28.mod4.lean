/-! the reference's calls, second part: what is tried and taken back -/
theorem okA_gput {A : Nat → Int32} {D D' g : Nat} {v : Nat → Int32} (hg8 : g < 8) (h : okA D A) (hD : D ≤ D') (hv : okG D' v) : okA D' (gput A g v) ∧ cA (gput A g v) = cA A ∧ pA (gput A g v) = pA A := by
  obtain ⟨⟨h1, h2, h3⟩, ⟨h4, h5, h6⟩, h7, h8, h9⟩ := h
  have e1 : gput A g v 1 = A 1 := gput_n (by omega)
  have e2 : gput A g v 2 = A 2 := gput_n (by omega)
  have e3 : gput A g v 3 = A 3 := gput_n (by omega)
  have e4 : gput A g v 4 = A 4 := gput_n (by omega)
  have c1 : cA (gput A g v) = cA A := by unfold cA; rw [e1]
  have c2 : pA (gput A g v) = pA A := by unfold pA; rw [e2]
  refine ⟨⟨⟨by rw [e1, c1]; exact h1, by rw [c1]; exact h2, fun j hj => ?_⟩, ⟨by rw [e2, c2]; exact h4, by rw [c2]; exact h5, fun p hp => ?_⟩, h7, by rw [e3]; exact h8, by rw [e4]; exact h9⟩, c1, c2⟩
  · rw [c1] at hj
    by_cases e : j = g
    · subst e
      exact gv_gput.ok hv
    · refine ((h3 j hj).up hD).cong (fun f hf => ?_)
      show gput A g v (5 + 7 * j + f) = _
      rw [gput_n (by omega)]
      rfl
  · rw [c2] at hp
    rw [gput_n (by omega), gput_n (by omega)]
    exact h6 p hp
theorem gv_dayA {A : Nat → Int32} {N g : Nat} (hg : g < cA A) : E7 (gv (dayA A N) g) (dryN (gv A g) N) := fun f hf => by
  show dayA A N (5 + 7 * g + f) = _
  unfold dayA
  rw [upd_n (by omega), gmapA_s hg hf]
theorem dayA_hi {A : Nat → Int32} {N j : Nat} (hc : cA A ≤ 8) (hj : 61 ≤ j) : dayA A N j = A j := (upd_n (by omega)).trans (gmapA_n (by omega))
section MP
variable {E : EVt} {m : Mm} {L : Ml} {Q : Value → Mm → Ml → Prop} {A : Nat → Int32} {D : Nat}
theorem ck_X12_on {i n w : Int32} (hO : okA D A) (h1 : ∀ g N f, g < cA A → N ≤ 100 → f ≤ 2 → i = nI g → n = nI N → w = nI f → ∀ B, Q (.int (onR (dryN (gv A g) N) f)) (wr (wr m 76 B) 73 A) L) (h0 : (∀ g N f, g < cA A → N ≤ 100 → f ≤ 2 → ¬ (i = nI g ∧ n = nI N ∧ w = nI f)) → Q (.int (-1000000001)) (rfA (wr m 73 A) 0) L) : CK E 6 MX12_on [.ref (ev_z E + 72), .int i, .int n, .int w] (wr m 73 A) L Q := by
  have hc8 := hO.1.2.1
  refine CK.of rfl rfl (lv := [(0, _), (1, _), (2, _), (3, _)]) rfl ?_
  refine wk_aload_n (i := 0) (q := 1) dX12_on_0 rfl rfl rfl ?_
  refine wk_iload_n (i := 1) (q := 2) dX12_on_1 rfl rfl rfl ?_
  refine wk_V1r (d' := 2) (q := 5) lkX12_103 dX12_on_2 rfl rfl rfl rfl rfl rfl rfl ?_
  refine ck_X12_isGarment hO (fun g hg e => ?_) (fun hno => ?_)
  · skip
    subst e
    refine wk_if_eq (t := 27) (q := 8) dX12_on_5 rfl rfl (fun h => absurd h (by decide)) (fun _ => ?_)
    refine wk_iload_n (i := 2) (q := 9) dX12_on_8 rfl rfl rfl ?_
    refine wk_S1r (d' := 2) (q := 12) lkX12_163 dX12_on_9 rfl rfl rfl rfl ?_
    refine ck_X12_isAhead (fun ha => ?_) (fun ha => ?_)
    · skip
      obtain ⟨N, -, hN2, rfl⟩ := rng (lo := 0) (hi := 100) (by omega) (by omega) ha
      refine wk_if_eq (t := 27) (q := 15) dX12_on_12 rfl rfl (fun h => absurd h (by decide)) (fun _ => ?_)
      refine wk_iload_n (i := 3) (q := 16) dX12_on_15 rfl rfl rfl ?_
      refine wk_i2l (q := 17) dX12_on_16 rfl ?_
      refine wk_lconst (v := 0) (q := 18) dX12_on_17 rfl rfl ?_
      refine wk_ldc2 (q := 21) dX12_on_18 kX12_166 rfl ?_
      refine wk_S3r (d' := 1) (q := 24) lkX12_46 dX12_on_21 rfl rfl rfl rfl ?_
      refine ck_X12_in (lo := 0) (hi := 2) (fun hw => ?_) (fun hw => ?_)
      · skip
        obtain ⟨f, -, hf, rfl⟩ := rng (lo := 0) (hi := 2) (by omega) (by omega) hw
        refine wk_if_ne (t := 34) (q := 27) dX12_on_24 rfl rfl (fun _ => ?_) (fun h => absurd h (by decide))
        refine wk_aload_n (i := 0) (q := 35) dX12_on_34 rfl rfl rfl ?_
        refine wk_V0v (d' := 1) (q := 38) lkX12_168 dX12_on_35 rfl rfl rfl rfl rfl rfl rfl ?_
        refine ck_X12_laysAside (fun B hBA => ?_)
        refine wk_aload_n (i := 0) (q := 39) dX12_on_38 rfl rfl rfl ?_
        refine wk_iload_n (i := 2) (q := 40) dX12_on_39 rfl rfl rfl ?_
        refine wk_V1v (d' := 5) (q := 43) lkX12_160 dX12_on_40 rfl rfl rfl rfl rfl rfl rfl ?_
        refine ck_X12_daysGo (N := N) (by omega) hO ?_
        have hv := gv_dayA (N := N) hg
        refine wk_aload_n (i := 0) (q := 44) dX12_on_43 rfl rfl rfl ?_
        refine wk_aload_n (i := 0) (q := 45) dX12_on_44 rfl rfl rfl ?_
        refine wk_iload_n (i := 1) (q := 46) dX12_on_45 rfl rfl rfl ?_
        refine wk_iload_n (i := 3) (q := 47) dX12_on_46 rfl rfl rfl ?_
        refine wk_if_ne (t := 54) (q := 50) dX12_on_47 rfl rfl (fun c47 => ?_) (fun c47 => ?_)
        · skip
          refine wk_iload_n (i := 3) (q := 55) dX12_on_54 rfl rfl rfl ?_
          refine wk_iconst (v := 1) (q := 56) dX12_on_55 rfl rfl ?_
          refine wk_icmp_ne (t := 63) (q := 59) dX12_on_56 rfl rfl (fun c56 => ?_) (fun c56 => ?_)
          · skip
            refine wk_iconst (v := 4) (q := 64) dX12_on_63 rfl rfl ?_
            refine wk_V2r (d' := 2) (q := 67) lkX12_67 dX12_on_64 rfl rfl rfl rfl rfl rfl rfl ?_
            refine ck_X12_its (g := g) (w := 4) (by omega) (by omega) ?_
            skip
            refine wk_V1r (d' := 1) (q := 70) lkX12_171 dX12_on_67 rfl rfl rfl rfl rfl rfl rfl ?_
            refine ck_X12_takesBack hBA (fun j hj => dayA_hi hc8 (by omega)) ?_
            refine wk_ireturn dX12_on_70 rfl rfl ?_
            first | (have e : f = 0 := nI_inj (b := 0) (by omega) (by omega) c47; subst e; have hr := h1 g N 0 hg hN2 hf rfl rfl rfl B; rw [show onR (dryN (gv A g) N) 0 = dayA A N (5 + 7 * g + 1) from (hv 1 (by decide)).symm] at hr; exact hr) | (have e : f = 1 := nI_inj (b := 1) (by omega) (by omega) c56; subst e; have hr := h1 g N 1 hg hN2 hf rfl rfl rfl B; rw [show onR (dryN (gv A g) N) 1 = dayA A N (5 + 7 * g + 2) from (hv 2 (by decide)).symm] at hr; exact hr) | (have q0 : f ≠ 0 := fun e => c47 (by rw [e]; rfl); have q1 : f ≠ 1 := fun e => c56 (by rw [e]; rfl); have e : f = 2 := (by omega); subst e; have hr := h1 g N 2 hg hN2 hf rfl rfl rfl B; rw [show onR (dryN (gv A g) N) 2 = dayA A N (5 + 7 * g + 4) from (hv 4 (by decide)).symm] at hr; exact hr)
          · skip
            refine wk_iconst (v := 2) (q := 60) dX12_on_59 rfl rfl ?_
            refine wk_goto (t := 64) dX12_on_60 rfl ?_
            refine wk_V2r (d' := 2) (q := 67) lkX12_67 dX12_on_64 rfl rfl rfl rfl rfl rfl rfl ?_
            refine ck_X12_its (g := g) (w := 2) (by omega) (by omega) ?_
            skip
            refine wk_V1r (d' := 1) (q := 70) lkX12_171 dX12_on_67 rfl rfl rfl rfl rfl rfl rfl ?_
            refine ck_X12_takesBack hBA (fun j hj => dayA_hi hc8 (by omega)) ?_
            refine wk_ireturn dX12_on_70 rfl rfl ?_
            first | (have e : f = 0 := nI_inj (b := 0) (by omega) (by omega) c47; subst e; have hr := h1 g N 0 hg hN2 hf rfl rfl rfl B; rw [show onR (dryN (gv A g) N) 0 = dayA A N (5 + 7 * g + 1) from (hv 1 (by decide)).symm] at hr; exact hr) | (have e : f = 1 := nI_inj (b := 1) (by omega) (by omega) c56; subst e; have hr := h1 g N 1 hg hN2 hf rfl rfl rfl B; rw [show onR (dryN (gv A g) N) 1 = dayA A N (5 + 7 * g + 2) from (hv 2 (by decide)).symm] at hr; exact hr) | (have q0 : f ≠ 0 := fun e => c47 (by rw [e]; rfl); have q1 : f ≠ 1 := fun e => c56 (by rw [e]; rfl); have e : f = 2 := (by omega); subst e; have hr := h1 g N 2 hg hN2 hf rfl rfl rfl B; rw [show onR (dryN (gv A g) N) 2 = dayA A N (5 + 7 * g + 4) from (hv 4 (by decide)).symm] at hr; exact hr)
        · skip
          refine wk_iconst (v := 1) (q := 51) dX12_on_50 rfl rfl ?_
          refine wk_goto (t := 64) dX12_on_51 rfl ?_
          refine wk_V2r (d' := 2) (q := 67) lkX12_67 dX12_on_64 rfl rfl rfl rfl rfl rfl rfl ?_
          refine ck_X12_its (g := g) (w := 1) (by omega) (by omega) ?_
          skip
          refine wk_V1r (d' := 1) (q := 70) lkX12_171 dX12_on_67 rfl rfl rfl rfl rfl rfl rfl ?_
          refine ck_X12_takesBack hBA (fun j hj => dayA_hi hc8 (by omega)) ?_
          refine wk_ireturn dX12_on_70 rfl rfl ?_
          first | (have e : f = 0 := nI_inj (b := 0) (by omega) (by omega) c47; subst e; have hr := h1 g N 0 hg hN2 hf rfl rfl rfl B; rw [show onR (dryN (gv A g) N) 0 = dayA A N (5 + 7 * g + 1) from (hv 1 (by decide)).symm] at hr; exact hr) | (have e : f = 1 := nI_inj (b := 1) (by omega) (by omega) c56; subst e; have hr := h1 g N 1 hg hN2 hf rfl rfl rfl B; rw [show onR (dryN (gv A g) N) 1 = dayA A N (5 + 7 * g + 2) from (hv 2 (by decide)).symm] at hr; exact hr) | (have q0 : f ≠ 0 := fun e => c47 (by rw [e]; rfl); have q1 : f ≠ 1 := fun e => c56 (by rw [e]; rfl); have e : f = 2 := (by omega); subst e; have hr := h1 g N 2 hg hN2 hf rfl rfl rfl B; rw [show onR (dryN (gv A g) N) 2 = dayA A N (5 + 7 * g + 4) from (hv 4 (by decide)).symm] at hr; exact hr)
      · skip
        refine wk_if_ne (t := 34) (q := 27) dX12_on_24 rfl rfl (fun h => absurd (by decide) h) (fun _ => ?_)
        refine wk_aload_n (i := 0) (q := 28) dX12_on_27 rfl rfl rfl ?_
        refine wk_ldc (q := 30) dX12_on_28 kX12_41 rfl ?_
        refine wk_V1r (d' := 1) (q := 33) lkX12_63 dX12_on_30 rfl rfl rfl rfl rfl rfl rfl ?_
        refine ck_X12_finds (i := 0) (by decide) (by decide) ?_
        refine wk_ireturn dX12_on_33 rfl rfl ?_
        refine h0 (fun g' N' f' q1 q2 q3 hh => ?_)
        first | exact hno g' q1 hh.1 | (have h2 := hh.2.1; subst h2; exact ha (rng' (lo := 0) (hi := 100) (by omega) (by omega) q2)) | (have h2 := hh.2.2; subst h2; exact hw (rng' (lo := 0) (hi := 2) (by omega) (by omega) q3))
    · skip
      refine wk_if_eq (t := 27) (q := 15) dX12_on_12 rfl rfl (fun _ => ?_) (fun h => absurd (by decide) h)
      refine wk_aload_n (i := 0) (q := 28) dX12_on_27 rfl rfl rfl ?_
      refine wk_ldc (q := 30) dX12_on_28 kX12_41 rfl ?_
      refine wk_V1r (d' := 1) (q := 33) lkX12_63 dX12_on_30 rfl rfl rfl rfl rfl rfl rfl ?_
      refine ck_X12_finds (i := 0) (by decide) (by decide) ?_
      refine wk_ireturn dX12_on_33 rfl rfl ?_
      refine h0 (fun g' N' f' q1 q2 q3 hh => ?_)
      first | exact hno g' q1 hh.1 | (have h2 := hh.2.1; subst h2; exact ha (rng' (lo := 0) (hi := 100) (by omega) (by omega) q2)) | (have h2 := hh.2.2; subst h2; exact hw (rng' (lo := 0) (hi := 2) (by omega) (by omega) q3))
  · skip
    refine wk_if_eq (t := 27) (q := 8) dX12_on_5 rfl rfl (fun _ => ?_) (fun h => absurd (by decide) h)
    refine wk_aload_n (i := 0) (q := 28) dX12_on_27 rfl rfl rfl ?_
    refine wk_ldc (q := 30) dX12_on_28 kX12_41 rfl ?_
    refine wk_V1r (d' := 1) (q := 33) lkX12_63 dX12_on_30 rfl rfl rfl rfl rfl rfl rfl ?_
    refine ck_X12_finds (i := 0) (by decide) (by decide) ?_
    refine wk_ireturn dX12_on_33 rfl rfl ?_
    refine h0 (fun g' N' f' q1 q2 q3 hh => ?_)
    first | exact hno g' q1 hh.1 | (have h2 := hh.2.1; subst h2; exact ha (rng' (lo := 0) (hi := 100) (by omega) (by omega) q2)) | (have h2 := hh.2.2; subst h2; exact hw (rng' (lo := 0) (hi := 2) (by omega) (by omega) q3))
theorem ck_X12_again {i n w : Int32} (hO : okA D A) (h1 : ∀ g N f, g < cA A → N ≤ 40 → f ≤ 2 → i = nI g → n = nI N → w = nI f → ∀ B, Q (.int (agR (wshN (A 3) (A 4) (gv A g) N) f)) (wr (wr m 76 B) 73 A) L) (h0 : (∀ g N f, g < cA A → N ≤ 40 → f ≤ 2 → ¬ (i = nI g ∧ n = nI N ∧ w = nI f)) → Q (.int (-1000000001)) (rfA (wr m 73 A) 0) L) : CK E 8 MX12_again [.ref (ev_z E + 72), .int i, .int n, .int w] (wr m 73 A) L Q := by
  have hc8 := hO.1.2.1
  refine CK.of rfl rfl (lv := [(0, _), (1, _), (2, _), (3, _)]) rfl ?_
  refine wk_aload_n (i := 0) (q := 1) dX12_again_0 rfl rfl rfl ?_
  refine wk_iload_n (i := 1) (q := 2) dX12_again_1 rfl rfl rfl ?_
  refine wk_V1r (d' := 2) (q := 5) lkX12_103 dX12_again_2 rfl rfl rfl rfl rfl rfl rfl ?_
  refine ck_X12_isGarment hO (fun g hg e => ?_) (fun hno => ?_)
  · skip
    subst e
    refine wk_if_eq (t := 44) (q := 8) dX12_again_5 rfl rfl (fun h => absurd h (by decide)) (fun _ => ?_)
    refine wk_iload_n (i := 2) (q := 9) dX12_again_8 rfl rfl rfl ?_
    refine wk_i2l (q := 10) dX12_again_9 rfl ?_
    refine wk_lconst (v := 0) (q := 11) dX12_again_10 rfl rfl ?_
    refine wk_ldc2 (q := 14) dX12_again_11 kX12_178 rfl ?_
    refine wk_S3r (d' := 1) (q := 17) lkX12_46 dX12_again_14 rfl rfl rfl rfl ?_
    refine ck_X12_in (lo := 0) (hi := 40) (fun hw => ?_) (fun hw => ?_)
    · skip
      obtain ⟨N, -, hN2, rfl⟩ := rng (lo := 0) (hi := 40) (by omega) (by omega) hw
      have hwN := hw
      refine wk_if_eq (t := 44) (q := 20) dX12_again_17 rfl rfl (fun h => absurd h (by decide)) (fun _ => ?_)
      refine wk_iload_n (i := 3) (q := 21) dX12_again_20 rfl rfl rfl ?_
      refine wk_i2l (q := 22) dX12_again_21 rfl ?_
      refine wk_lconst (v := 0) (q := 23) dX12_again_22 rfl rfl ?_
      refine wk_ldc2 (q := 26) dX12_again_23 kX12_166 rfl ?_
      refine wk_S3r (d' := 1) (q := 29) lkX12_46 dX12_again_26 rfl rfl rfl rfl ?_
      refine ck_X12_in (lo := 0) (hi := 2) (fun hw => ?_) (fun hw => ?_)
      · skip
        obtain ⟨f, -, hf, rfl⟩ := rng (lo := 0) (hi := 2) (by omega) (by omega) hw
        refine wk_if_eq (t := 44) (q := 32) dX12_again_29 rfl rfl (fun h => absurd h (by decide)) (fun _ => ?_)
        refine wk_aload_n (i := 0) (q := 33) dX12_again_32 rfl rfl rfl ?_
        refine wk_iload_n (i := 1) (q := 34) dX12_again_33 rfl rfl rfl ?_
        refine wk_iload_n (i := 2) (q := 35) dX12_again_34 rfl rfl rfl ?_
        refine wk_iconst (v := 1) (q := 36) dX12_again_35 rfl rfl ?_
        refine wk_iload_n (i := 3) (q := 37) dX12_again_36 rfl rfl rfl ?_
        refine wk_iadd (q := 38) dX12_again_37 rfl ?_
        rw [show (1 : Int32) = nI 1 from rfl, nI_add]
        refine wk_V3r (d' := 7) (q := 41) lkX12_180 dX12_again_38 rfl rfl rfl rfl rfl rfl rfl ?_
        refine ck_X12_washedTo (g := g) (N := N) (w := 1 + f) (by omega) (by omega) (by omega) (fun B => ?_)
        refine wk_goto (t := 50) dX12_again_41 rfl ?_
        refine wk_ireturn dX12_again_50 rfl rfl ?_
        first | (have hr := h1 g N f hg hN2 hf rfl rfl rfl B; rw [show agR (wshN (A 3) (A 4) (gv A g) N) f = wshN (A 3) (A 4) (gv A g) N (1 + f) from (by obtain rfl | rfl | rfl : f = 0 ∨ f = 1 ∨ f = 2 := (by omega); all_goals rfl)] at hr; exact hr) | (refine h0 (fun g' N' f' q1 q2 q3 hh => ?_); first | exact hno g' q1 hh.1 | (have h2 := hh.2.1; subst h2; exact hwN (rng' (lo := 0) (hi := 40) (by omega) (by omega) q2)) | (have h2 := hh.2.2; subst h2; exact hw (rng' (lo := 0) (hi := 2) (by omega) (by omega) q3)))
      · skip
        refine wk_if_eq (t := 44) (q := 32) dX12_again_29 rfl rfl (fun _ => ?_) (fun h => absurd (by decide) h)
        refine wk_aload_n (i := 0) (q := 45) dX12_again_44 rfl rfl rfl ?_
        refine wk_ldc (q := 47) dX12_again_45 kX12_41 rfl ?_
        refine wk_V1r (d' := 1) (q := 50) lkX12_63 dX12_again_47 rfl rfl rfl rfl rfl rfl rfl ?_
        refine ck_X12_finds (i := 0) (by decide) (by decide) ?_
        refine wk_ireturn dX12_again_50 rfl rfl ?_
        first | (have hr := h1 g N f hg hN2 hf rfl rfl rfl B; rw [show agR (wshN (A 3) (A 4) (gv A g) N) f = wshN (A 3) (A 4) (gv A g) N (1 + f) from (by obtain rfl | rfl | rfl : f = 0 ∨ f = 1 ∨ f = 2 := (by omega); all_goals rfl)] at hr; exact hr) | (refine h0 (fun g' N' f' q1 q2 q3 hh => ?_); first | exact hno g' q1 hh.1 | (have h2 := hh.2.1; subst h2; exact hwN (rng' (lo := 0) (hi := 40) (by omega) (by omega) q2)) | (have h2 := hh.2.2; subst h2; exact hw (rng' (lo := 0) (hi := 2) (by omega) (by omega) q3)))
    · skip
      have hwN := hw
      refine wk_if_eq (t := 44) (q := 20) dX12_again_17 rfl rfl (fun _ => ?_) (fun h => absurd (by decide) h)
      refine wk_aload_n (i := 0) (q := 45) dX12_again_44 rfl rfl rfl ?_
      refine wk_ldc (q := 47) dX12_again_45 kX12_41 rfl ?_
      refine wk_V1r (d' := 1) (q := 50) lkX12_63 dX12_again_47 rfl rfl rfl rfl rfl rfl rfl ?_
      refine ck_X12_finds (i := 0) (by decide) (by decide) ?_
      refine wk_ireturn dX12_again_50 rfl rfl ?_
      first | (have hr := h1 g N f hg hN2 hf rfl rfl rfl B; rw [show agR (wshN (A 3) (A 4) (gv A g) N) f = wshN (A 3) (A 4) (gv A g) N (1 + f) from (by obtain rfl | rfl | rfl : f = 0 ∨ f = 1 ∨ f = 2 := (by omega); all_goals rfl)] at hr; exact hr) | (refine h0 (fun g' N' f' q1 q2 q3 hh => ?_); first | exact hno g' q1 hh.1 | (have h2 := hh.2.1; subst h2; exact hwN (rng' (lo := 0) (hi := 40) (by omega) (by omega) q2)) | (have h2 := hh.2.2; subst h2; exact hw (rng' (lo := 0) (hi := 2) (by omega) (by omega) q3)))
  · skip
    refine wk_if_eq (t := 44) (q := 8) dX12_again_5 rfl rfl (fun _ => ?_) (fun h => absurd (by decide) h)
    refine wk_aload_n (i := 0) (q := 45) dX12_again_44 rfl rfl rfl ?_
    refine wk_ldc (q := 47) dX12_again_45 kX12_41 rfl ?_
    refine wk_V1r (d' := 1) (q := 50) lkX12_63 dX12_again_47 rfl rfl rfl rfl rfl rfl rfl ?_
    refine ck_X12_finds (i := 0) (by decide) (by decide) ?_
    refine wk_ireturn dX12_again_50 rfl rfl ?_
    first | (have hr := h1 g N f hg hN2 hf rfl rfl rfl B; rw [show agR (wshN (A 3) (A 4) (gv A g) N) f = wshN (A 3) (A 4) (gv A g) N (1 + f) from (by obtain rfl | rfl | rfl : f = 0 ∨ f = 1 ∨ f = 2 := (by omega); all_goals rfl)] at hr; exact hr) | (refine h0 (fun g' N' f' q1 q2 q3 hh => ?_); first | exact hno g' q1 hh.1 | (have h2 := hh.2.1; subst h2; exact hwN (rng' (lo := 0) (hi := 40) (by omega) (by omega) q2)) | (have h2 := hh.2.2; subst h2; exact hw (rng' (lo := 0) (hi := 2) (by omega) (by omega) q3)))
theorem ck_X12_isFittingBy {g p N : Nat} {pu : Int32} (hD : D ≤ 10000000) (hN : N < 2 ^ 31) (hO : okA D A) (hg : g < cA A) (hp : p < pA A) (p1 : 0 ≤ pu.toInt) (p2 : pu.toInt ≤ 50) (h1 : fitP (wsd (A 3) (A 4) (gv A g) N pu) (A (61 + 2 * p)) (A (61 + 2 * p + 1)) → ∀ B, Q (.int 1) (wr (wr m 76 B) 73 A) L) (h0 : ¬ fitP (wsd (A 3) (A 4) (gv A g) N pu) (A (61 + 2 * p)) (A (61 + 2 * p + 1)) → ∀ B, Q (.int 0) (wr (wr m 76 B) 73 A) L) : CK E 7 MX12_isFittingBy [.ref (ev_z E + 72), .int (nI g), .int (nI p), .int (nI N), .int pu] (wr m 73 A) L Q := by
  have hc8 := hO.1.2.1
  have hp6 := hO.2.1.2.1
  have hdg := hO.2.2.2.1
  have z0 : (0 : Int32).toInt = 0 := by decide
  have ho := ok_wshN (t := A 4) (hO.1.2.2 g hg) (by omega) (show (A 3).toInt ≤ 95 by omega) N
  refine CK.of rfl rfl (lv := [(0, _), (1, _), (2, _), (3, _), (4, _)]) rfl ?_
  refine wk_aload_n (i := 0) (q := 1) dX12_isFittingBy_0 rfl rfl rfl ?_
  refine wk_V0v (d' := 1) (q := 4) lkX12_168 dX12_isFittingBy_1 rfl rfl rfl rfl rfl rfl rfl ?_
  refine ck_X12_laysAside (fun B hBA => ?_)
  refine wk_aload_n (i := 0) (q := 5) dX12_isFittingBy_4 rfl rfl rfl ?_
  refine wk_iload_n (i := 1) (q := 6) dX12_isFittingBy_5 rfl rfl rfl ?_
  refine wk_iload_n (i := 3) (q := 7) dX12_isFittingBy_6 rfl rfl rfl ?_
  refine wk_V2v (d' := 6) (q := 10) lkX12_174 dX12_isFittingBy_7 rfl rfl rfl rfl rfl rfl rfl ?_
  refine ck_X12_isWashed (g := g) (N := N) hN (by omega) ?_
  refine wk_iload (i := 4) (q := 12) dX12_isFittingBy_10 rfl rfl ?_
  refine wk_if_le (t := 23) (q := 15) dX12_isFittingBy_12 rfl rfl (fun c12 => ?_) (fun c12 => ?_)
  · skip
    have hx := okA_gput (g := g) (by omega) hO (D' := D + 50) (by omega) (ho.up (by omega))
    have e : wsd (A 3) (A 4) (gv A g) N pu = dryN (wshN (A 3) (A 4) (gv A g) N) 3 := by (unfold wsd; rw [if_neg (by rw [fa_lt]; rw [fa_le] at c12; omega)])
    have hgc : g < cA (gput A g (wshN (A 3) (A 4) (gv A g) N)) := by (rw [hx.2.1]; exact hg)
    have hf : fitB (dayA (gput A g (wshN (A 3) (A 4) (gv A g) N)) 3) p g = true ↔ fitP (wsd (A 3) (A 4) (gv A g) N pu) (A (61 + 2 * p)) (A (61 + 2 * p + 1)) := by (unfold fitB; rw [decide_eq_true_iff, dayA_hi (by rw [hx.2.1]; exact hc8) (by omega), dayA_hi (by rw [hx.2.1]; exact hc8) (by omega), gput_n (by omega), gput_n (by omega), e]; exact ((gv_dayA hgc).trans (gv_gput.dryN 3)).fit)
    have hdy := okA_day (N := 3) hx.1
    have hhi : ∀ j, 73 ≤ j → dayA (gput A g (wshN (A 3) (A 4) (gv A g) N)) 3 j = A j := fun j hj => by (rw [dayA_hi (by rw [hx.2.1]; exact hc8) (by omega), gput_n (by omega)])
    refine wk_aload_n (i := 0) (q := 24) dX12_isFittingBy_23 rfl rfl rfl ?_
    refine wk_iconst (v := 3) (q := 25) dX12_isFittingBy_24 rfl rfl ?_
    refine wk_V1v (d' := 5) (q := 28) lkX12_160 dX12_isFittingBy_25 rfl rfl rfl rfl rfl rfl rfl ?_
    refine ck_X12_daysGo (N := 3) (by omega) hx.1 ?_
    refine wk_aload_n (i := 0) (q := 29) dX12_isFittingBy_28 rfl rfl rfl ?_
    refine wk_aload_n (i := 0) (q := 30) dX12_isFittingBy_29 rfl rfl rfl ?_
    refine wk_iload_n (i := 1) (q := 31) dX12_isFittingBy_30 rfl rfl rfl ?_
    refine wk_iload_n (i := 2) (q := 32) dX12_isFittingBy_31 rfl rfl rfl ?_
    refine wk_V2r (d' := 3) (q := 35) lkX12_75 dX12_isFittingBy_32 rfl rfl rfl rfl rfl rfl rfl ?_
    refine ck_X12_isFitting (g := g) (p := p) (by omega) (by omega) (fun hft => ?_) (fun hft => ?_)
    · skip
      refine wk_if_eq (t := 42) (q := 38) dX12_isFittingBy_35 rfl rfl (fun h => absurd h (by decide)) (fun _ => ?_)
      refine wk_iconst (v := 1) (q := 39) dX12_isFittingBy_38 rfl rfl ?_
      refine wk_goto (t := 43) dX12_isFittingBy_39 rfl ?_
      refine wk_V1r (d' := 1) (q := 46) lkX12_171 dX12_isFittingBy_43 rfl rfl rfl rfl rfl rfl rfl ?_
      refine ck_X12_takesBack hBA hhi ?_
      refine wk_iconst (v := 1) (q := 47) dX12_isFittingBy_46 rfl rfl ?_
      refine wk_icmp_ne (t := 54) (q := 50) dX12_isFittingBy_47 rfl rfl (fun c47 => ?_) (fun c47 => ?_)
      · skip
        refine wk_iconst (v := 0) (q := 55) dX12_isFittingBy_54 rfl rfl ?_
        refine wk_ireturn dX12_isFittingBy_55 rfl rfl ?_
        first | exact h0 (fun q => hft (hf.mpr q)) B | exact absurd rfl c47
      · skip
        refine wk_iconst (v := 1) (q := 51) dX12_isFittingBy_50 rfl rfl ?_
        refine wk_goto (t := 55) dX12_isFittingBy_51 rfl ?_
        refine wk_ireturn dX12_isFittingBy_55 rfl rfl ?_
        first | exact h1 (hf.mp hft) B | exact absurd c47 (by decide)
    · skip
      refine wk_if_eq (t := 42) (q := 38) dX12_isFittingBy_35 rfl rfl (fun _ => ?_) (fun h => absurd (by decide) h)
      refine wk_iconst (v := 0) (q := 43) dX12_isFittingBy_42 rfl rfl ?_
      refine wk_V1r (d' := 1) (q := 46) lkX12_171 dX12_isFittingBy_43 rfl rfl rfl rfl rfl rfl rfl ?_
      refine ck_X12_takesBack hBA hhi ?_
      refine wk_iconst (v := 1) (q := 47) dX12_isFittingBy_46 rfl rfl ?_
      refine wk_icmp_ne (t := 54) (q := 50) dX12_isFittingBy_47 rfl rfl (fun c47 => ?_) (fun c47 => ?_)
      · skip
        refine wk_iconst (v := 0) (q := 55) dX12_isFittingBy_54 rfl rfl ?_
        refine wk_ireturn dX12_isFittingBy_55 rfl rfl ?_
        first | exact h0 (fun q => hft (hf.mpr q)) B | exact absurd rfl c47
      · skip
        refine wk_iconst (v := 1) (q := 51) dX12_isFittingBy_50 rfl rfl ?_
        refine wk_goto (t := 55) dX12_isFittingBy_51 rfl ?_
        refine wk_ireturn dX12_isFittingBy_55 rfl rfl ?_
        first | exact h1 (hf.mp hft) B | exact absurd c47 (by decide)
  · skip
    have hx := okA_gput (g := g) (by omega) hO (D' := D + 50) (by omega) (ok_drw (n := pu) ho (by omega) p1 p2)
    have e : wsd (A 3) (A 4) (gv A g) N pu = dryN (drwG pu (wshN (A 3) (A 4) (gv A g) N)) 3 := by (unfold wsd; rw [if_pos (by rw [fa_lt]; rw [fa_le] at c12; omega)])
    have hgc : g < cA (gput A g (drwG pu (wshN (A 3) (A 4) (gv A g) N))) := by (rw [hx.2.1]; exact hg)
    have hf : fitB (dayA (gput A g (drwG pu (wshN (A 3) (A 4) (gv A g) N))) 3) p g = true ↔ fitP (wsd (A 3) (A 4) (gv A g) N pu) (A (61 + 2 * p)) (A (61 + 2 * p + 1)) := by (unfold fitB; rw [decide_eq_true_iff, dayA_hi (by rw [hx.2.1]; exact hc8) (by omega), dayA_hi (by rw [hx.2.1]; exact hc8) (by omega), gput_n (by omega), gput_n (by omega), e]; exact ((gv_dayA hgc).trans (gv_gput.dryN 3)).fit)
    have hdy := okA_day (N := 3) hx.1
    have hhi : ∀ j, 73 ≤ j → dayA (gput A g (drwG pu (wshN (A 3) (A 4) (gv A g) N))) 3 j = A j := fun j hj => by (rw [dayA_hi (by rw [hx.2.1]; exact hc8) (by omega), gput_n (by omega)])
    refine wk_aload_n (i := 0) (q := 16) dX12_isFittingBy_15 rfl rfl rfl ?_
    refine wk_iload_n (i := 1) (q := 17) dX12_isFittingBy_16 rfl rfl rfl ?_
    refine wk_iload (i := 4) (q := 19) dX12_isFittingBy_17 rfl rfl ?_
    refine wk_V2r (d' := 4) (q := 22) lkX12_140 dX12_isFittingBy_19 rfl rfl rfl rfl rfl rfl rfl ?_
    refine ck_X12_drawn (g := g) (by omega) ?_
    rw [gput_gput, gput_cong (E7.drw gv_gput)]
    refine wk_pop (q := 23) dX12_isFittingBy_22 rfl rfl ?_
    refine wk_aload_n (i := 0) (q := 24) dX12_isFittingBy_23 rfl rfl rfl ?_
    refine wk_iconst (v := 3) (q := 25) dX12_isFittingBy_24 rfl rfl ?_
    refine wk_V1v (d' := 5) (q := 28) lkX12_160 dX12_isFittingBy_25 rfl rfl rfl rfl rfl rfl rfl ?_
    refine ck_X12_daysGo (N := 3) (by omega) hx.1 ?_
    refine wk_aload_n (i := 0) (q := 29) dX12_isFittingBy_28 rfl rfl rfl ?_
    refine wk_aload_n (i := 0) (q := 30) dX12_isFittingBy_29 rfl rfl rfl ?_
    refine wk_iload_n (i := 1) (q := 31) dX12_isFittingBy_30 rfl rfl rfl ?_
    refine wk_iload_n (i := 2) (q := 32) dX12_isFittingBy_31 rfl rfl rfl ?_
    refine wk_V2r (d' := 3) (q := 35) lkX12_75 dX12_isFittingBy_32 rfl rfl rfl rfl rfl rfl rfl ?_
    refine ck_X12_isFitting (g := g) (p := p) (by omega) (by omega) (fun hft => ?_) (fun hft => ?_)
    · skip
      refine wk_if_eq (t := 42) (q := 38) dX12_isFittingBy_35 rfl rfl (fun h => absurd h (by decide)) (fun _ => ?_)
      refine wk_iconst (v := 1) (q := 39) dX12_isFittingBy_38 rfl rfl ?_
      refine wk_goto (t := 43) dX12_isFittingBy_39 rfl ?_
      refine wk_V1r (d' := 1) (q := 46) lkX12_171 dX12_isFittingBy_43 rfl rfl rfl rfl rfl rfl rfl ?_
      refine ck_X12_takesBack hBA hhi ?_
      refine wk_iconst (v := 1) (q := 47) dX12_isFittingBy_46 rfl rfl ?_
      refine wk_icmp_ne (t := 54) (q := 50) dX12_isFittingBy_47 rfl rfl (fun c47 => ?_) (fun c47 => ?_)
      · skip
        refine wk_iconst (v := 0) (q := 55) dX12_isFittingBy_54 rfl rfl ?_
        refine wk_ireturn dX12_isFittingBy_55 rfl rfl ?_
        first | exact h0 (fun q => hft (hf.mpr q)) B | exact absurd rfl c47
      · skip
        refine wk_iconst (v := 1) (q := 51) dX12_isFittingBy_50 rfl rfl ?_
        refine wk_goto (t := 55) dX12_isFittingBy_51 rfl ?_
        refine wk_ireturn dX12_isFittingBy_55 rfl rfl ?_
        first | exact h1 (hf.mp hft) B | exact absurd c47 (by decide)
    · skip
      refine wk_if_eq (t := 42) (q := 38) dX12_isFittingBy_35 rfl rfl (fun _ => ?_) (fun h => absurd (by decide) h)
      refine wk_iconst (v := 0) (q := 43) dX12_isFittingBy_42 rfl rfl ?_
      refine wk_V1r (d' := 1) (q := 46) lkX12_171 dX12_isFittingBy_43 rfl rfl rfl rfl rfl rfl rfl ?_
      refine ck_X12_takesBack hBA hhi ?_
      refine wk_iconst (v := 1) (q := 47) dX12_isFittingBy_46 rfl rfl ?_
      refine wk_icmp_ne (t := 54) (q := 50) dX12_isFittingBy_47 rfl rfl (fun c47 => ?_) (fun c47 => ?_)
      · skip
        refine wk_iconst (v := 0) (q := 55) dX12_isFittingBy_54 rfl rfl ?_
        refine wk_ireturn dX12_isFittingBy_55 rfl rfl ?_
        first | exact h0 (fun q => hft (hf.mpr q)) B | exact absurd rfl c47
      · skip
        refine wk_iconst (v := 1) (q := 51) dX12_isFittingBy_50 rfl rfl ?_
        refine wk_goto (t := 55) dX12_isFittingBy_51 rfl ?_
        refine wk_ireturn dX12_isFittingBy_55 rfl rfl ?_
        first | exact h1 (hf.mp hft) B | exact absurd c47 (by decide)
theorem fn_X12_washes {g p N : Nat} {x : Int32} {B : Nat → Int32} (h1 : 1 ≤ N) (h2 : N ≤ 40) (hQ : Q (.int (nI N)) (wr (wr m 76 B) 73 A) L) : WK E 8 MX12_washes 28 [(0, .ref (ev_z E + 72)), (1, .int (nI g)), (2, .int (nI p)), (3, .int (nI N)), (4, .int x)] [] (wr (wr m 76 B) 73 A) L Q := by
  refine wk_iload (i := 4) (q := 30) dX12_washes_28 rfl rfl ?_
  refine wk_bipush (v := 40) (q := 32) dX12_washes_30 rfl rfl ?_
  refine wk_icmp_gt (t := 64) (q := 35) dX12_washes_32 rfl rfl (fun c32 => ?_) (fun c32 => ?_)
  · skip
    refine wk_iload_n (i := 3) (q := 65) dX12_washes_64 rfl rfl rfl ?_
    refine wk_if_ne (t := 77) (q := 68) dX12_washes_65 rfl rfl (fun c65 => ?_) (fun h => absurd h (nI_ne0 (by omega) (by omega)))
    refine wk_iload_n (i := 3) (q := 78) dX12_washes_77 rfl rfl rfl ?_
    refine wk_ireturn dX12_washes_78 rfl rfl ?_
    exact hQ
  · skip
    refine wk_iload_n (i := 3) (q := 36) dX12_washes_35 rfl rfl rfl ?_
    refine wk_if_ne (t := 64) (q := 39) dX12_washes_36 rfl rfl (fun c36 => ?_) (fun h => absurd h (nI_ne0 (by omega) (by omega)))
    refine wk_iload_n (i := 3) (q := 65) dX12_washes_64 rfl rfl rfl ?_
    refine wk_if_ne (t := 77) (q := 68) dX12_washes_65 rfl rfl (fun c65 => ?_) (fun h => absurd h (nI_ne0 (by omega) (by omega)))
    refine wk_iload_n (i := 3) (q := 78) dX12_washes_77 rfl rfl rfl ?_
    refine wk_ireturn dX12_washes_78 rfl rfl ?_
    exact hQ
theorem lp_X12_washes {g p : Nat} (hD : D ≤ 10000000) (hO : okA D A) (hg : g < cA A) (hp : p < pA A) (h1 : ∀ N, 1 ≤ N → N ≤ 40 → fitP (wsd (A 3) (A 4) (gv A g) N 0) (A (61 + 2 * p)) (A (61 + 2 * p + 1)) → (∀ k, 1 ≤ k → k < N → ¬ fitP (wsd (A 3) (A 4) (gv A g) k 0) (A (61 + 2 * p)) (A (61 + 2 * p + 1))) → ∀ B, Q (.int (nI N)) (wr (wr m 76 B) 73 A) L) (h0 : (∀ k, 1 ≤ k → k ≤ 40 → ¬ fitP (wsd (A 3) (A 4) (gv A g) k 0) (A (61 + 2 * p)) (A (61 + 2 * p + 1))) → ∀ B, Q (.int (-1000000004)) (rfA (wr (wr m 76 B) 73 A) 3) L) : ∀ (r j : Nat) (B : Nat → Int32), j + r = 41 → 1 ≤ j → (∀ k, 1 ≤ k → k < j → ¬ fitP (wsd (A 3) (A 4) (gv A g) k 0) (A (61 + 2 * p)) (A (61 + 2 * p + 1))) → WK E 8 MX12_washes 28 [(0, .ref (ev_z E + 72)), (1, .int (nI g)), (2, .int (nI p)), (3, .int 0), (4, .int (nI j))] [] (wr (wr m 76 B) 73 A) L Q := by
  have hc8 := hO.1.2.1
  have hp6 := hO.2.1.2.1
  intro r
  induction r with
  | zero =>
    intro j B hj hj1 hno
    refine wk_iload (i := 4) (q := 30) dX12_washes_28 rfl rfl ?_
    refine wk_bipush (v := 40) (q := 32) dX12_washes_30 rfl rfl ?_
    refine wk_icmp_gt (t := 64) (q := 35) dX12_washes_32 rfl rfl (fun c32 => ?_) (fun h => absurd (nI_lt (a := 40) (by omega) (by omega)) h)
    refine wk_iload_n (i := 3) (q := 65) dX12_washes_64 rfl rfl rfl ?_
    refine wk_if_ne (t := 77) (q := 68) dX12_washes_65 rfl rfl (fun h => absurd (by decide) h) (fun _ => ?_)
    refine wk_aload_n (i := 0) (q := 69) dX12_washes_68 rfl rfl rfl ?_
    refine wk_ldc (q := 71) dX12_washes_69 kX12_187 rfl ?_
    refine wk_V1r (d' := 1) (q := 74) lkX12_63 dX12_washes_71 rfl rfl rfl rfl rfl rfl rfl ?_
    refine ck_X12_finds (i := 3) (by decide) (by decide) ?_
    refine wk_goto (t := 78) dX12_washes_74 rfl ?_
    refine wk_ireturn dX12_washes_78 rfl rfl ?_
    exact h0 (fun k q1 q2 => hno k q1 (by omega)) B
  | succ r ih =>
    intro j B hj hj1 hno
    refine wk_iload (i := 4) (q := 30) dX12_washes_28 rfl rfl ?_
    refine wk_bipush (v := 40) (q := 32) dX12_washes_30 rfl rfl ?_
    refine wk_icmp_gt (t := 64) (q := 35) dX12_washes_32 rfl rfl (fun h => absurd h (nI_nlt (a := 40) (by omega) (by omega))) (fun c32 => ?_)
    refine wk_iload_n (i := 3) (q := 36) dX12_washes_35 rfl rfl rfl ?_
    refine wk_if_ne (t := 64) (q := 39) dX12_washes_36 rfl rfl (fun h => absurd (by decide) h) (fun _ => ?_)
    refine wk_aload_n (i := 0) (q := 40) dX12_washes_39 rfl rfl rfl ?_
    refine wk_iload_n (i := 1) (q := 41) dX12_washes_40 rfl rfl rfl ?_
    refine wk_iload_n (i := 2) (q := 42) dX12_washes_41 rfl rfl rfl ?_
    refine wk_iload (i := 4) (q := 44) dX12_washes_42 rfl rfl ?_
    refine wk_iconst (v := 0) (q := 45) dX12_washes_44 rfl rfl ?_
    refine wk_V4r (d' := 7) (q := 48) lkX12_183 dX12_washes_45 rfl rfl rfl rfl rfl rfl rfl ?_
    refine ck_X12_isFittingBy (g := g) (p := p) (N := j) hD (by omega) hO hg hp (by decide) (by decide) (fun hf B1 => ?_) (fun hf B1 => ?_)
    · skip
      rw [wr_wr]
      have hfin := h1 j hj1 (by omega) hf hno B1
      refine wk_if_eq (t := 56) (q := 51) dX12_washes_48 rfl rfl (fun h => absurd h (by decide)) (fun _ => ?_)
      refine wk_iload (i := 4) (q := 53) dX12_washes_51 rfl rfl ?_
      refine wk_goto (t := 57) dX12_washes_53 rfl ?_
      refine wk_istore_n (i := 3) (q := 58) (lv' := [_, _, _, _, _]) dX12_washes_57 rfl rfl rfl rfl ?_
      refine wk_iinc (w := 1) (q := 61) (lv' := [_, _, _, _, _]) dX12_washes_58 rfl rfl rfl rfl rfl ?_
      rw [nI_1]
      refine wk_goto (t := 28) dX12_washes_61 rfl ?_
      first | exact fn_X12_washes hj1 (by omega) hfin | (refine ih (j + 1) B1 (by omega) (by omega) (fun k q1 q2 => ?_); rcases Nat.lt_or_ge k j with h | h; exact hno k q1 h; (have e : k = j := (by omega); subst e; exact hf))
    · skip
      rw [wr_wr]
      refine wk_if_eq (t := 56) (q := 51) dX12_washes_48 rfl rfl (fun _ => ?_) (fun h => absurd (by decide) h)
      refine wk_iconst (v := 0) (q := 57) dX12_washes_56 rfl rfl ?_
      refine wk_istore_n (i := 3) (q := 58) (lv' := [_, _, _, _, _]) dX12_washes_57 rfl rfl rfl rfl ?_
      refine wk_iinc (w := 1) (q := 61) (lv' := [_, _, _, _, _]) dX12_washes_58 rfl rfl rfl rfl rfl ?_
      rw [nI_1]
      refine wk_goto (t := 28) dX12_washes_61 rfl ?_
      first | exact fn_X12_washes hj1 (by omega) hfin | (refine ih (j + 1) B1 (by omega) (by omega) (fun k q1 q2 => ?_); rcases Nat.lt_or_ge k j with h | h; exact hno k q1 h; (have e : k = j := (by omega); subst e; exact hf))
theorem ck_X12_washes {i pi : Int32} (hD : D ≤ 10000000) (hO : okA D A) (h1 : ∀ g p N, g < cA A → p < pA A → i = nI g → pi = nI p → 1 ≤ N → N ≤ 40 → fitP (wsd (A 3) (A 4) (gv A g) N 0) (A (61 + 2 * p)) (A (61 + 2 * p + 1)) → (∀ k, 1 ≤ k → k < N → ¬ fitP (wsd (A 3) (A 4) (gv A g) k 0) (A (61 + 2 * p)) (A (61 + 2 * p + 1))) → ∀ B, Q (.int (nI N)) (wr (wr m 76 B) 73 A) L) (h2 : ∀ g p, g < cA A → p < pA A → i = nI g → pi = nI p → (∀ k, 1 ≤ k → k ≤ 40 → ¬ fitP (wsd (A 3) (A 4) (gv A g) k 0) (A (61 + 2 * p)) (A (61 + 2 * p + 1))) → ∀ B, Q (.int (-1000000004)) (rfA (wr (wr m 76 B) 73 A) 3) L) (h0 : (∀ g p, g < cA A → p < pA A → ¬ (i = nI g ∧ pi = nI p)) → Q (.int (-1000000001)) (rfA (wr m 73 A) 0) L) : CK E 8 MX12_washes [.ref (ev_z E + 72), .int i, .int pi] (wr m 73 A) L Q := by
  refine CK.of rfl rfl (lv := [(0, _), (1, _), (2, _)]) rfl ?_
  refine wk_aload_n (i := 0) (q := 1) dX12_washes_0 rfl rfl rfl ?_
  refine wk_iload_n (i := 1) (q := 2) dX12_washes_1 rfl rfl rfl ?_
  refine wk_V1r (d' := 2) (q := 5) lkX12_103 dX12_washes_2 rfl rfl rfl rfl rfl rfl rfl ?_
  refine ck_X12_isGarment hO (fun g hg e => ?_) (fun hno => ?_)
  · skip
    subst e
    refine wk_if_eq (t := 16) (q := 8) dX12_washes_5 rfl rfl (fun h => absurd h (by decide)) (fun _ => ?_)
    refine wk_aload_n (i := 0) (q := 9) dX12_washes_8 rfl rfl rfl ?_
    refine wk_iload_n (i := 2) (q := 10) dX12_washes_9 rfl rfl rfl ?_
    refine wk_V1r (d' := 2) (q := 13) lkX12_150 dX12_washes_10 rfl rfl rfl rfl rfl rfl rfl ?_
    refine ck_X12_isPerson hO (fun p hp e => ?_) (fun hnp => ?_)
    · skip
      subst e
      refine wk_if_ne (t := 23) (q := 16) dX12_washes_13 rfl rfl (fun _ => ?_) (fun h => absurd h (by decide))
      refine wk_iconst (v := 0) (q := 24) dX12_washes_23 rfl rfl ?_
      refine wk_istore_n (i := 3) (q := 25) (lv' := [_, _, _, _]) dX12_washes_24 rfl rfl rfl rfl ?_
      refine wk_iconst (v := 1) (q := 26) dX12_washes_25 rfl rfl ?_
      refine wk_istore (i := 4) (q := 28) (lv' := [_, _, _, _, _]) dX12_washes_26 rfl rfl rfl ?_
      have hl := lp_X12_washes (E := E) (m := m) hD hO hg hp (fun N => h1 g p N hg hp rfl rfl) (h2 g p hg hp rfl rfl) 40 1 (m 76) (by omega) (by omega) (fun k q1 q2 => absurd q1 (by omega))
      rw [wr_self] at hl
      exact hl
    · skip
      refine wk_if_ne (t := 23) (q := 16) dX12_washes_13 rfl rfl (fun h => absurd (by decide) h) (fun _ => ?_)
      refine wk_aload_n (i := 0) (q := 17) dX12_washes_16 rfl rfl rfl ?_
      refine wk_ldc (q := 19) dX12_washes_17 kX12_41 rfl ?_
      refine wk_V1r (d' := 1) (q := 22) lkX12_63 dX12_washes_19 rfl rfl rfl rfl rfl rfl rfl ?_
      refine ck_X12_finds (i := 0) (by decide) (by decide) ?_
      refine wk_ireturn dX12_washes_22 rfl rfl ?_
      refine h0 (fun g' p' hg' hp' h => ?_)
      first | exact hno g' hg' h.1 | exact hnp p' hp' h.2
  · skip
    refine wk_if_eq (t := 16) (q := 8) dX12_washes_5 rfl rfl (fun _ => ?_) (fun h => absurd (by decide) h)
    refine wk_aload_n (i := 0) (q := 17) dX12_washes_16 rfl rfl rfl ?_
    refine wk_ldc (q := 19) dX12_washes_17 kX12_41 rfl ?_
    refine wk_V1r (d' := 1) (q := 22) lkX12_63 dX12_washes_19 rfl rfl rfl rfl rfl rfl rfl ?_
    refine ck_X12_finds (i := 0) (by decide) (by decide) ?_
    refine wk_ireturn dX12_washes_22 rfl rfl ?_
    refine h0 (fun g' p' hg' hp' h => ?_)
    first | exact hno g' hg' h.1 | exact hnp p' hp' h.2
theorem fn_X12_pull {g p N : Nat} {x : Int32} {B : Nat → Int32} (h2 : N ≤ 50) (hQ : Q (.int (nI N)) (wr (wr m 76 B) 73 A) L) : WK E 8 MX12_pull 28 [(0, .ref (ev_z E + 72)), (1, .int (nI g)), (2, .int (nI p)), (3, .int (nI N)), (4, .int x)] [] (wr (wr m 76 B) 73 A) L Q := by
  refine wk_iload (i := 4) (q := 30) dX12_pull_28 rfl rfl ?_
  refine wk_bipush (v := 50) (q := 32) dX12_pull_30 rfl rfl ?_
  refine wk_icmp_gt (t := 64) (q := 35) dX12_pull_32 rfl rfl (fun c32 => ?_) (fun c32 => ?_)
  · skip
    refine wk_iload_n (i := 3) (q := 65) dX12_pull_64 rfl rfl rfl ?_
    refine wk_if_ge (t := 77) (q := 68) dX12_pull_65 rfl rfl (fun c65 => ?_) (fun h => absurd (nI_pos' (by omega)) h)
    refine wk_iload_n (i := 3) (q := 78) dX12_pull_77 rfl rfl rfl ?_
    refine wk_ireturn dX12_pull_78 rfl rfl ?_
    exact hQ
  · skip
    refine wk_iload_n (i := 3) (q := 36) dX12_pull_35 rfl rfl rfl ?_
    refine wk_if_ge (t := 64) (q := 39) dX12_pull_36 rfl rfl (fun c36 => ?_) (fun h => absurd (nI_pos' (by omega)) h)
    refine wk_iload_n (i := 3) (q := 65) dX12_pull_64 rfl rfl rfl ?_
    refine wk_if_ge (t := 77) (q := 68) dX12_pull_65 rfl rfl (fun c65 => ?_) (fun h => absurd (nI_pos' (by omega)) h)
    refine wk_iload_n (i := 3) (q := 78) dX12_pull_77 rfl rfl rfl ?_
    refine wk_ireturn dX12_pull_78 rfl rfl ?_
    exact hQ
theorem lp_X12_pull {g p : Nat} (hD : D ≤ 10000000) (hO : okA D A) (hg : g < cA A) (hp : p < pA A) (h1 : ∀ N, N ≤ 50 → fitP (wsd (A 3) (A 4) (gv A g) 1 (nI N)) (A (61 + 2 * p)) (A (61 + 2 * p + 1)) → (∀ k, k < N → ¬ fitP (wsd (A 3) (A 4) (gv A g) 1 (nI k)) (A (61 + 2 * p)) (A (61 + 2 * p + 1))) → ∀ B, Q (.int (nI N)) (wr (wr m 76 B) 73 A) L) (h0 : (∀ k, k ≤ 50 → ¬ fitP (wsd (A 3) (A 4) (gv A g) 1 (nI k)) (A (61 + 2 * p)) (A (61 + 2 * p + 1))) → ∀ B, Q (.int (-1000000004)) (rfA (wr (wr m 76 B) 73 A) 3) L) : ∀ (r j : Nat) (B : Nat → Int32), j + r = 51 → (∀ k, k < j → ¬ fitP (wsd (A 3) (A 4) (gv A g) 1 (nI k)) (A (61 + 2 * p)) (A (61 + 2 * p + 1))) → WK E 8 MX12_pull 28 [(0, .ref (ev_z E + 72)), (1, .int (nI g)), (2, .int (nI p)), (3, .int (-1)), (4, .int (nI j))] [] (wr (wr m 76 B) 73 A) L Q := by
  have hc8 := hO.1.2.1
  have hp6 := hO.2.1.2.1
  intro r
  induction r with
  | zero =>
    intro j B hj hno
    refine wk_iload (i := 4) (q := 30) dX12_pull_28 rfl rfl ?_
    refine wk_bipush (v := 50) (q := 32) dX12_pull_30 rfl rfl ?_
    refine wk_icmp_gt (t := 64) (q := 35) dX12_pull_32 rfl rfl (fun c32 => ?_) (fun h => absurd (nI_lt (a := 50) (by omega) (by omega)) h)
    refine wk_iload_n (i := 3) (q := 65) dX12_pull_64 rfl rfl rfl ?_
    refine wk_if_ge (t := 77) (q := 68) dX12_pull_65 rfl rfl (fun h => absurd h (by decide)) (fun _ => ?_)
    refine wk_aload_n (i := 0) (q := 69) dX12_pull_68 rfl rfl rfl ?_
    refine wk_ldc (q := 71) dX12_pull_69 kX12_187 rfl ?_
    refine wk_V1r (d' := 1) (q := 74) lkX12_63 dX12_pull_71 rfl rfl rfl rfl rfl rfl rfl ?_
    refine ck_X12_finds (i := 3) (by decide) (by decide) ?_
    refine wk_goto (t := 78) dX12_pull_74 rfl ?_
    refine wk_ireturn dX12_pull_78 rfl rfl ?_
    exact h0 (fun k q2 => hno k (by omega)) B
  | succ r ih =>
    intro j B hj hno
    have hi := nI_toInt (n := j) (by omega)
    refine wk_iload (i := 4) (q := 30) dX12_pull_28 rfl rfl ?_
    refine wk_bipush (v := 50) (q := 32) dX12_pull_30 rfl rfl ?_
    refine wk_icmp_gt (t := 64) (q := 35) dX12_pull_32 rfl rfl (fun h => absurd h (nI_nlt (a := 50) (by omega) (by omega))) (fun c32 => ?_)
    refine wk_iload_n (i := 3) (q := 36) dX12_pull_35 rfl rfl rfl ?_
    refine wk_if_ge (t := 64) (q := 39) dX12_pull_36 rfl rfl (fun h => absurd h (by decide)) (fun _ => ?_)
    refine wk_aload_n (i := 0) (q := 40) dX12_pull_39 rfl rfl rfl ?_
    refine wk_iload_n (i := 1) (q := 41) dX12_pull_40 rfl rfl rfl ?_
    refine wk_iload_n (i := 2) (q := 42) dX12_pull_41 rfl rfl rfl ?_
    refine wk_iconst (v := 1) (q := 43) dX12_pull_42 rfl rfl ?_
    refine wk_iload (i := 4) (q := 45) dX12_pull_43 rfl rfl ?_
    refine wk_V4r (d' := 7) (q := 48) lkX12_183 dX12_pull_45 rfl rfl rfl rfl rfl rfl rfl ?_
    refine ck_X12_isFittingBy (g := g) (p := p) (N := 1) hD (by omega) hO hg hp (by omega) (by omega) (fun hf B1 => ?_) (fun hf B1 => ?_)
    · skip
      rw [wr_wr]
      have hfin := h1 j (by omega) hf hno B1
      refine wk_if_eq (t := 56) (q := 51) dX12_pull_48 rfl rfl (fun h => absurd h (by decide)) (fun _ => ?_)
      refine wk_iload (i := 4) (q := 53) dX12_pull_51 rfl rfl ?_
      refine wk_goto (t := 57) dX12_pull_53 rfl ?_
      refine wk_istore_n (i := 3) (q := 58) (lv' := [_, _, _, _, _]) dX12_pull_57 rfl rfl rfl rfl ?_
      refine wk_iinc (w := 1) (q := 61) (lv' := [_, _, _, _, _]) dX12_pull_58 rfl rfl rfl rfl rfl ?_
      rw [nI_1]
      refine wk_goto (t := 28) dX12_pull_61 rfl ?_
      first | exact fn_X12_pull (by omega) hfin | (refine ih (j + 1) B1 (by omega) (fun k q2 => ?_); rcases Nat.lt_or_ge k j with h | h; exact hno k h; (have e : k = j := (by omega); subst e; exact hf))
    · skip
      rw [wr_wr]
      refine wk_if_eq (t := 56) (q := 51) dX12_pull_48 rfl rfl (fun _ => ?_) (fun h => absurd (by decide) h)
      refine wk_iconst (v := -1) (q := 57) dX12_pull_56 rfl rfl ?_
      refine wk_istore_n (i := 3) (q := 58) (lv' := [_, _, _, _, _]) dX12_pull_57 rfl rfl rfl rfl ?_
      refine wk_iinc (w := 1) (q := 61) (lv' := [_, _, _, _, _]) dX12_pull_58 rfl rfl rfl rfl rfl ?_
      rw [nI_1]
      refine wk_goto (t := 28) dX12_pull_61 rfl ?_
      first | exact fn_X12_pull (by omega) hfin | (refine ih (j + 1) B1 (by omega) (fun k q2 => ?_); rcases Nat.lt_or_ge k j with h | h; exact hno k h; (have e : k = j := (by omega); subst e; exact hf))
theorem ck_X12_pull {i pi : Int32} (hD : D ≤ 10000000) (hO : okA D A) (h1 : ∀ g p N, g < cA A → p < pA A → i = nI g → pi = nI p → N ≤ 50 → fitP (wsd (A 3) (A 4) (gv A g) 1 (nI N)) (A (61 + 2 * p)) (A (61 + 2 * p + 1)) → (∀ k, k < N → ¬ fitP (wsd (A 3) (A 4) (gv A g) 1 (nI k)) (A (61 + 2 * p)) (A (61 + 2 * p + 1))) → ∀ B, Q (.int (nI N)) (wr (wr m 76 B) 73 A) L) (h2 : ∀ g p, g < cA A → p < pA A → i = nI g → pi = nI p → (∀ k, k ≤ 50 → ¬ fitP (wsd (A 3) (A 4) (gv A g) 1 (nI k)) (A (61 + 2 * p)) (A (61 + 2 * p + 1))) → ∀ B, Q (.int (-1000000004)) (rfA (wr (wr m 76 B) 73 A) 3) L) (h0 : (∀ g p, g < cA A → p < pA A → ¬ (i = nI g ∧ pi = nI p)) → Q (.int (-1000000001)) (rfA (wr m 73 A) 0) L) : CK E 8 MX12_pull [.ref (ev_z E + 72), .int i, .int pi] (wr m 73 A) L Q := by
  refine CK.of rfl rfl (lv := [(0, _), (1, _), (2, _)]) rfl ?_
  refine wk_aload_n (i := 0) (q := 1) dX12_pull_0 rfl rfl rfl ?_
  refine wk_iload_n (i := 1) (q := 2) dX12_pull_1 rfl rfl rfl ?_
  refine wk_V1r (d' := 2) (q := 5) lkX12_103 dX12_pull_2 rfl rfl rfl rfl rfl rfl rfl ?_
  refine ck_X12_isGarment hO (fun g hg e => ?_) (fun hno => ?_)
  · skip
    subst e
    refine wk_if_eq (t := 16) (q := 8) dX12_pull_5 rfl rfl (fun h => absurd h (by decide)) (fun _ => ?_)
    refine wk_aload_n (i := 0) (q := 9) dX12_pull_8 rfl rfl rfl ?_
    refine wk_iload_n (i := 2) (q := 10) dX12_pull_9 rfl rfl rfl ?_
    refine wk_V1r (d' := 2) (q := 13) lkX12_150 dX12_pull_10 rfl rfl rfl rfl rfl rfl rfl ?_
    refine ck_X12_isPerson hO (fun p hp e => ?_) (fun hnp => ?_)
    · skip
      subst e
      refine wk_if_ne (t := 23) (q := 16) dX12_pull_13 rfl rfl (fun _ => ?_) (fun h => absurd h (by decide))
      refine wk_iconst (v := -1) (q := 24) dX12_pull_23 rfl rfl ?_
      refine wk_istore_n (i := 3) (q := 25) (lv' := [_, _, _, _]) dX12_pull_24 rfl rfl rfl rfl ?_
      refine wk_iconst (v := 0) (q := 26) dX12_pull_25 rfl rfl ?_
      refine wk_istore (i := 4) (q := 28) (lv' := [_, _, _, _, _]) dX12_pull_26 rfl rfl rfl ?_
      have hl := lp_X12_pull (E := E) (m := m) hD hO hg hp (fun N => h1 g p N hg hp rfl rfl) (h2 g p hg hp rfl rfl) 51 0 (m 76) (by omega) (fun k q1 => absurd q1 (by omega))
      rw [wr_self] at hl
      exact hl
    · skip
      refine wk_if_ne (t := 23) (q := 16) dX12_pull_13 rfl rfl (fun h => absurd (by decide) h) (fun _ => ?_)
      refine wk_aload_n (i := 0) (q := 17) dX12_pull_16 rfl rfl rfl ?_
      refine wk_ldc (q := 19) dX12_pull_17 kX12_41 rfl ?_
      refine wk_V1r (d' := 1) (q := 22) lkX12_63 dX12_pull_19 rfl rfl rfl rfl rfl rfl rfl ?_
      refine ck_X12_finds (i := 0) (by decide) (by decide) ?_
      refine wk_ireturn dX12_pull_22 rfl rfl ?_
      refine h0 (fun g' p' hg' hp' h => ?_)
      first | exact hno g' hg' h.1 | exact hnp p' hp' h.2
  · skip
    refine wk_if_eq (t := 16) (q := 8) dX12_pull_5 rfl rfl (fun _ => ?_) (fun h => absurd (by decide) h)
    refine wk_aload_n (i := 0) (q := 17) dX12_pull_16 rfl rfl rfl ?_
    refine wk_ldc (q := 19) dX12_pull_17 kX12_41 rfl ?_
    refine wk_V1r (d' := 1) (q := 22) lkX12_63 dX12_pull_19 rfl rfl rfl rfl rfl rfl rfl ?_
    refine ck_X12_finds (i := 0) (by decide) (by decide) ?_
    refine wk_ireturn dX12_pull_22 rfl rfl ?_
    refine h0 (fun g' p' hg' hp' h => ?_)
    first | exact hno g' hg' h.1 | exact hnp p' hp' h.2
theorem okA_deg {d : Int32} (h : okA D A) (d1 : 20 ≤ d.toInt) (d2 : d.toInt ≤ 95) : okA D (upd A 3 d) ∧ cA (upd A 3 d) = cA A ∧ pA (upd A 3 d) = pA A := by
  obtain ⟨⟨h1, h2, h3⟩, ⟨h4, h5, h6⟩, h7, h8, h9⟩ := h
  have e1 : upd A 3 d 1 = A 1 := upd_n (by decide)
  have e2 : upd A 3 d 2 = A 2 := upd_n (by decide)
  have c1 : cA (upd A 3 d) = cA A := by unfold cA; rw [e1]
  have c2 : pA (upd A 3 d) = pA A := by unfold pA; rw [e2]
  refine ⟨⟨⟨by rw [e1, c1]; exact h1, by rw [c1]; exact h2, fun g hg => ?_⟩, ⟨by rw [e2, c2]; exact h4, by rw [c2]; exact h5, fun p hp => ?_⟩, h7, by rw [upd_s]; exact ⟨d1, d2⟩, by rw [upd_n (by decide)]; exact h9⟩, c1, c2⟩
  · rw [c1] at hg
    exact (h3 g hg).cong (fun f hf => upd_n (by omega))
  · rw [c2] at hp
    rw [upd_n (by omega), upd_n (by omega)]
    exact h6 p hp
theorem gv_deg {d : Int32} {g : Nat} : gv (upd A 3 d) g = gv A g := by
  funext f
  exact upd_n (by omega)
theorem upd_upd {f : Nat → Int32} {i : Nat} {x y : Int32} : upd (upd f i x) i y = upd f i y := by
  funext j
  unfold upd
  split <;> rfl
theorem upd_same {f : Nat → Int32} {i : Nat} : upd f i (f i) = f := by
  funext j
  unfold upd
  split
  · rename_i h; rw [h]
  · rfl
theorem ex_X12_warmest {g p : Nat} {x y : Int32} {B : Nat → Int32} (hQ0 : y = 0 → Q (.int (-1000000004)) (rfA (wr (wr m 76 B) 73 A) 3) L) (hQ1 : ¬ y = 0 → Q (.int y) (wr (wr m 76 B) 73 A) L) : ∀ (z : Int32), WK E 8 MX12_warmest 82 [(0, .ref (ev_z E + 72)), (1, .int (nI g)), (2, .int (nI p)), (3, .int (A 3)), (4, .int y), (5, .int z)] [] (wr (wr m 76 B) 73 (upd A 3 x)) L Q := by
  intro z
  refine wk_aload_n (i := 0) (q := 83) dX12_warmest_82 rfl rfl rfl ?_
  refine wk_get (q := 86) fgX12_7 dX12_warmest_83 rfl rfl rfl rfl ?_
  refine wk_iconst (v := 3) (q := 87) dX12_warmest_86 rfl rfl ?_
  refine wk_iload_n (i := 3) (q := 88) dX12_warmest_87 rfl rfl rfl ?_
  refine wk_sst (n := 3) (q := 89) dX12_warmest_88 rfl (by decide) rfl ?_
  rw [upd_upd, upd_same]
  refine wk_iload (i := 4) (q := 91) dX12_warmest_89 rfl rfl ?_
  refine wk_if_ne (t := 103) (q := 94) dX12_warmest_91 rfl rfl (fun c91 => ?_) (fun c91 => ?_)
  · skip
    refine wk_iload (i := 4) (q := 105) dX12_warmest_103 rfl rfl ?_
    refine wk_ireturn dX12_warmest_105 rfl rfl ?_
    first | exact hQ0 c91 | exact hQ1 c91
  · skip
    refine wk_aload_n (i := 0) (q := 95) dX12_warmest_94 rfl rfl rfl ?_
    refine wk_ldc (q := 97) dX12_warmest_95 kX12_187 rfl ?_
    refine wk_V1r (d' := 1) (q := 100) lkX12_63 dX12_warmest_97 rfl rfl rfl rfl rfl rfl rfl ?_
    refine ck_X12_finds (i := 3) (by decide) (by decide) ?_
    refine wk_goto (t := 105) dX12_warmest_100 rfl ?_
    refine wk_ireturn dX12_warmest_105 rfl rfl ?_
    first | exact hQ0 c91 | exact hQ1 c91
theorem fe_X12_warmest {g p : Nat} {x y z : Int32} {B : Nat → Int32} (hy : ¬ y = 0) (hQ1 : Q (.int y) (wr (wr m 76 B) 73 A) L) : WK E 8 MX12_warmest 37 [(0, .ref (ev_z E + 72)), (1, .int (nI g)), (2, .int (nI p)), (3, .int (A 3)), (4, .int y), (5, .int z)] [] (wr (wr m 76 B) 73 (upd A 3 x)) L Q := by
  refine wk_iload (i := 5) (q := 39) dX12_warmest_37 rfl rfl ?_
  refine wk_bipush (v := 20) (q := 41) dX12_warmest_39 rfl rfl ?_
  refine wk_icmp_lt (t := 82) (q := 44) dX12_warmest_41 rfl rfl (fun c41 => ?_) (fun c41 => ?_)
  · skip
    exact ex_X12_warmest (fun q => absurd q hy) (fun _ => hQ1) _
  · skip
    refine wk_iload (i := 4) (q := 46) dX12_warmest_44 rfl rfl ?_
    refine wk_if_ne (t := 82) (q := 49) dX12_warmest_46 rfl rfl (fun c46 => ?_) (fun h => absurd h hy)
    exact ex_X12_warmest (fun q => absurd q hy) (fun _ => hQ1) _
theorem lp_X12_warmest {g p : Nat} (hD : D ≤ 10000000) (hO : okA D A) (hg : g < cA A) (hp : p < pA A) (h1 : ∀ N, 20 ≤ N → N ≤ 95 → fitP (wsd (nI N) (A 4) (gv A g) 1 0) (A (61 + 2 * p)) (A (61 + 2 * p + 1)) → (∀ k, N < k → k ≤ 95 → ¬ fitP (wsd (nI k) (A 4) (gv A g) 1 0) (A (61 + 2 * p)) (A (61 + 2 * p + 1))) → ∀ B, Q (.int (nI N)) (wr (wr m 76 B) 73 A) L) (h0 : (∀ k, 20 ≤ k → k ≤ 95 → ¬ fitP (wsd (nI k) (A 4) (gv A g) 1 0) (A (61 + 2 * p)) (A (61 + 2 * p + 1))) → ∀ B, Q (.int (-1000000004)) (rfA (wr (wr m 76 B) 73 A) 3) L) : ∀ (r : Nat) (B : Nat → Int32) (x : Int32), 19 + r ≤ 95 → (∀ k, 19 + r < k → k ≤ 95 → ¬ fitP (wsd (nI k) (A 4) (gv A g) 1 0) (A (61 + 2 * p)) (A (61 + 2 * p + 1))) → WK E 8 MX12_warmest 37 [(0, .ref (ev_z E + 72)), (1, .int (nI g)), (2, .int (nI p)), (3, .int (A 3)), (4, .int 0), (5, .int (nI (19 + r)))] [] (wr (wr m 76 B) 73 (upd A 3 x)) L Q := by
  have hc8 := hO.1.2.1
  have hp6 := hO.2.1.2.1
  intro r
  induction r with
  | zero =>
    intro B x hj hno
    refine wk_iload (i := 5) (q := 39) dX12_warmest_37 rfl rfl ?_
    refine wk_bipush (v := 20) (q := 41) dX12_warmest_39 rfl rfl ?_
    refine wk_icmp_lt (t := 82) (q := 44) dX12_warmest_41 rfl rfl (fun c41 => ?_) (fun h => absurd (by decide) h)
    exact ex_X12_warmest (fun _ => h0 (fun k q1 q2 => hno k (by omega) q2) B) (fun q => absurd rfl q) _
  | succ r ih =>
    intro B x hj hno
    have hi := nI_toInt (n := 19 + (r + 1)) (by omega)
    have hod := okA_deg (d := nI (19 + (r + 1))) hO (by omega) (by omega)
    have ef : ∀ b : Nat, fitP (wsd (upd A 3 (nI (19 + (r + 1))) 3) (upd A 3 (nI (19 + (r + 1))) 4) (gv (upd A 3 (nI (19 + (r + 1)))) g) 1 0) (upd A 3 (nI (19 + (r + 1))) (61 + 2 * p)) (upd A 3 (nI (19 + (r + 1))) (61 + 2 * p + 1)) ↔ fitP (wsd (nI (19 + (r + 1))) (A 4) (gv A g) 1 0) (A (61 + 2 * p)) (A (61 + 2 * p + 1)) := fun _ => by
      rw [upd_s, upd_n (show (4 : Nat) ≠ 3 by decide), gv_deg, upd_n (show 61 + 2 * p ≠ 3 by omega), upd_n (show 61 + 2 * p + 1 ≠ 3 by omega)]
    refine wk_iload (i := 5) (q := 39) dX12_warmest_37 rfl rfl ?_
    refine wk_bipush (v := 20) (q := 41) dX12_warmest_39 rfl rfl ?_
    refine wk_icmp_lt (t := 82) (q := 44) dX12_warmest_41 rfl rfl (fun h => absurd h (nI_nlt (b := 20) (by omega) (by omega))) (fun c41 => ?_)
    refine wk_iload (i := 4) (q := 46) dX12_warmest_44 rfl rfl ?_
    refine wk_if_ne (t := 82) (q := 49) dX12_warmest_46 rfl rfl (fun h => absurd (by decide) h) (fun _ => ?_)
    refine wk_aload_n (i := 0) (q := 50) dX12_warmest_49 rfl rfl rfl ?_
    refine wk_get (q := 53) fgX12_7 dX12_warmest_50 rfl rfl rfl rfl ?_
    refine wk_iconst (v := 3) (q := 54) dX12_warmest_53 rfl rfl ?_
    refine wk_iload (i := 5) (q := 56) dX12_warmest_54 rfl rfl ?_
    refine wk_sst (n := 3) (q := 57) dX12_warmest_56 rfl (by decide) rfl ?_
    rw [upd_upd]
    refine wk_aload_n (i := 0) (q := 58) dX12_warmest_57 rfl rfl rfl ?_
    refine wk_iload_n (i := 1) (q := 59) dX12_warmest_58 rfl rfl rfl ?_
    refine wk_iload_n (i := 2) (q := 60) dX12_warmest_59 rfl rfl rfl ?_
    refine wk_iconst (v := 1) (q := 61) dX12_warmest_60 rfl rfl ?_
    refine wk_iconst (v := 0) (q := 62) dX12_warmest_61 rfl rfl ?_
    refine wk_V4r (d' := 7) (q := 65) lkX12_183 dX12_warmest_62 rfl rfl rfl rfl rfl rfl rfl ?_
    refine ck_X12_isFittingBy (g := g) (p := p) (N := 1) hD (by omega) hod.1 (by rw [hod.2.1]; exact hg) (by rw [hod.2.2]; exact hp) (by decide) (by decide) (fun hf B1 => ?_) (fun hf B1 => ?_)
    · skip
      rw [wr_wr]
      rw [ef 0] at hf
      have hfin := h1 (19 + (r + 1)) (by omega) (by omega) hf hno B1
      refine wk_if_eq (t := 73) (q := 68) dX12_warmest_65 rfl rfl (fun h => absurd h (by decide)) (fun _ => ?_)
      refine wk_iload (i := 5) (q := 70) dX12_warmest_68 rfl rfl ?_
      refine wk_goto (t := 74) dX12_warmest_70 rfl ?_
      refine wk_istore (i := 4) (q := 76) (lv' := [_, _, _, _, _, _]) dX12_warmest_74 rfl rfl rfl ?_
      refine wk_iinc (w := -1) (q := 79) (lv' := [_, _, _, _, _, _]) dX12_warmest_76 rfl rfl rfl rfl rfl ?_
      skip
      refine wk_goto (t := 37) dX12_warmest_79 rfl ?_
      first | (have hnz := nI_ne0 (n := 19 + (r + 1)) (by omega) (by omega); exact fe_X12_warmest hnz hfin) | (rw [show 19 + (r + 1) = (19 + r) + 1 from rfl, nI_dec]; refine ih B1 _ (by omega) (fun k q2 q3 => ?_); rcases Nat.lt_or_ge (19 + (r + 1)) k with h | h; exact hno k h q3; (have e : k = 19 + (r + 1) := (by omega); subst e; exact hf))
    · skip
      rw [wr_wr]
      rw [ef 0] at hf
      refine wk_if_eq (t := 73) (q := 68) dX12_warmest_65 rfl rfl (fun _ => ?_) (fun h => absurd (by decide) h)
      refine wk_iconst (v := 0) (q := 74) dX12_warmest_73 rfl rfl ?_
      refine wk_istore (i := 4) (q := 76) (lv' := [_, _, _, _, _, _]) dX12_warmest_74 rfl rfl rfl ?_
      refine wk_iinc (w := -1) (q := 79) (lv' := [_, _, _, _, _, _]) dX12_warmest_76 rfl rfl rfl rfl rfl ?_
      skip
      refine wk_goto (t := 37) dX12_warmest_79 rfl ?_
      first | (have hnz := nI_ne0 (n := 19 + (r + 1)) (by omega) (by omega); exact fe_X12_warmest hnz hfin) | (rw [show 19 + (r + 1) = (19 + r) + 1 from rfl, nI_dec]; refine ih B1 _ (by omega) (fun k q2 q3 => ?_); rcases Nat.lt_or_ge (19 + (r + 1)) k with h | h; exact hno k h q3; (have e : k = 19 + (r + 1) := (by omega); subst e; exact hf))
theorem ck_X12_warmest {i pi : Int32} (hD : D ≤ 10000000) (hO : okA D A) (h1 : ∀ g p N, g < cA A → p < pA A → i = nI g → pi = nI p → 20 ≤ N → N ≤ 95 → fitP (wsd (nI N) (A 4) (gv A g) 1 0) (A (61 + 2 * p)) (A (61 + 2 * p + 1)) → (∀ k, N < k → k ≤ 95 → ¬ fitP (wsd (nI k) (A 4) (gv A g) 1 0) (A (61 + 2 * p)) (A (61 + 2 * p + 1))) → ∀ B, Q (.int (nI N)) (wr (wr m 76 B) 73 A) L) (h2 : ∀ g p, g < cA A → p < pA A → i = nI g → pi = nI p → (∀ k, 20 ≤ k → k ≤ 95 → ¬ fitP (wsd (nI k) (A 4) (gv A g) 1 0) (A (61 + 2 * p)) (A (61 + 2 * p + 1))) → ∀ B, Q (.int (-1000000004)) (rfA (wr (wr m 76 B) 73 A) 3) L) (h0 : (∀ g p, g < cA A → p < pA A → ¬ (i = nI g ∧ pi = nI p)) → Q (.int (-1000000001)) (rfA (wr m 73 A) 0) L) : CK E 8 MX12_warmest [.ref (ev_z E + 72), .int i, .int pi] (wr m 73 A) L Q := by
  refine CK.of rfl rfl (lv := [(0, _), (1, _), (2, _)]) rfl ?_
  refine wk_aload_n (i := 0) (q := 1) dX12_warmest_0 rfl rfl rfl ?_
  refine wk_iload_n (i := 1) (q := 2) dX12_warmest_1 rfl rfl rfl ?_
  refine wk_V1r (d' := 2) (q := 5) lkX12_103 dX12_warmest_2 rfl rfl rfl rfl rfl rfl rfl ?_
  refine ck_X12_isGarment hO (fun g hg e => ?_) (fun hno => ?_)
  · skip
    subst e
    refine wk_if_eq (t := 16) (q := 8) dX12_warmest_5 rfl rfl (fun h => absurd h (by decide)) (fun _ => ?_)
    refine wk_aload_n (i := 0) (q := 9) dX12_warmest_8 rfl rfl rfl ?_
    refine wk_iload_n (i := 2) (q := 10) dX12_warmest_9 rfl rfl rfl ?_
    refine wk_V1r (d' := 2) (q := 13) lkX12_150 dX12_warmest_10 rfl rfl rfl rfl rfl rfl rfl ?_
    refine ck_X12_isPerson hO (fun p hp e => ?_) (fun hnp => ?_)
    · skip
      subst e
      refine wk_if_ne (t := 23) (q := 16) dX12_warmest_13 rfl rfl (fun _ => ?_) (fun h => absurd h (by decide))
      refine wk_aload_n (i := 0) (q := 24) dX12_warmest_23 rfl rfl rfl ?_
      refine wk_get (q := 27) fgX12_7 dX12_warmest_24 rfl rfl rfl rfl ?_
      refine wk_iconst (v := 3) (q := 28) dX12_warmest_27 rfl rfl ?_
      refine wk_sld (n := 3) (q := 29) dX12_warmest_28 rfl (by decide) rfl ?_
      refine wk_istore_n (i := 3) (q := 30) (lv' := [_, _, _, _]) dX12_warmest_29 rfl rfl rfl rfl ?_
      refine wk_iconst (v := 0) (q := 31) dX12_warmest_30 rfl rfl ?_
      refine wk_istore (i := 4) (q := 33) (lv' := [_, _, _, _, _]) dX12_warmest_31 rfl rfl rfl ?_
      refine wk_bipush (v := 95) (q := 35) dX12_warmest_33 rfl rfl ?_
      refine wk_istore (i := 5) (q := 37) (lv' := [_, _, _, _, _, _]) dX12_warmest_35 rfl rfl rfl ?_
      have hl := lp_X12_warmest (E := E) (m := m) hD hO hg hp (fun N => h1 g p N hg hp rfl rfl) (h2 g p hg hp rfl rfl) 76 (m 76) (A 3) (by omega) (fun k q1 q2 => absurd q1 (by omega))
      rw [wr_self, upd_same] at hl
      exact hl
    · skip
      refine wk_if_ne (t := 23) (q := 16) dX12_warmest_13 rfl rfl (fun h => absurd (by decide) h) (fun _ => ?_)
      refine wk_aload_n (i := 0) (q := 17) dX12_warmest_16 rfl rfl rfl ?_
      refine wk_ldc (q := 19) dX12_warmest_17 kX12_41 rfl ?_
      refine wk_V1r (d' := 1) (q := 22) lkX12_63 dX12_warmest_19 rfl rfl rfl rfl rfl rfl rfl ?_
      refine ck_X12_finds (i := 0) (by decide) (by decide) ?_
      refine wk_ireturn dX12_warmest_22 rfl rfl ?_
      refine h0 (fun g' p' hg' hp' h => ?_)
      first | exact hno g' hg' h.1 | exact hnp p' hp' h.2
  · skip
    refine wk_if_eq (t := 16) (q := 8) dX12_warmest_5 rfl rfl (fun _ => ?_) (fun h => absurd (by decide) h)
    refine wk_aload_n (i := 0) (q := 17) dX12_warmest_16 rfl rfl rfl ?_
    refine wk_ldc (q := 19) dX12_warmest_17 kX12_41 rfl ?_
    refine wk_V1r (d' := 1) (q := 22) lkX12_63 dX12_warmest_19 rfl rfl rfl rfl rfl rfl rfl ?_
    refine ck_X12_finds (i := 0) (by decide) (by decide) ?_
    refine wk_ireturn dX12_warmest_22 rfl rfl ?_
    refine h0 (fun g' p' hg' hp' h => ?_)
    first | exact hno g' hg' h.1 | exact hnp p' hp' h.2
theorem gv_upd0 {g : Nat} {x : Int32} : gv (upd A (5 + 7 * g + 0) x) g = upd (gv A g) 0 x := by
  funext f
  unfold gv upd
  by_cases e : f = 0
  · subst e; rw [if_pos rfl, if_pos rfl]
  · rw [if_neg e, if_neg (by omega)]
theorem lp_X12_kind {g N : Nat} (hg : g < 8) (hN : N ≤ 40) (hQ : ∀ B, Q (.int (bkS (A 3) (A 4) (gv A g) N 6).1) (wr (wr m 76 B) 73 A) L) : ∀ (r j : Nat) (B : Nat → Int32) (be lo x : Int32), j + r = 6 → (be, lo) = bkS (A 3) (A 4) (gv A g) N j → ∀ lv', (lv' = [(0, Value.ref (ev_z E + 72)), (1, .int (nI g)), (2, .int (nI N)), (3, .int (A (5 + 7 * g + 0))), (4, .int be), (5, .int lo), (6, .int (nI j))]) → WK E 8 MX12_kind 43 lv' [] (wr (wr m 76 B) 73 (upd A (5 + 7 * g + 0) x)) L Q := by
  intro r
  induction r with
  | zero =>
    intro j B be lo x hj hb lv' hlv
    subst hlv
    refine wk_iload (i := 6) (q := 45) dX12_kind_43 rfl rfl ?_
    refine wk_iconst (v := 5) (q := 46) dX12_kind_45 rfl rfl ?_
    refine wk_icmp_gt (t := 108) (q := 49) dX12_kind_46 rfl rfl (fun c46 => ?_) (fun h => absurd (nI_lt (a := 5) (by omega) (by omega)) h)
    refine wk_aload_n (i := 0) (q := 109) dX12_kind_108 rfl rfl rfl ?_
    refine wk_get (q := 112) fgX12_7 dX12_kind_109 rfl rfl rfl rfl ?_
    refine wk_iload_n (i := 1) (q := 113) dX12_kind_112 rfl rfl rfl ?_
    refine wk_iconst (v := 0) (q := 114) dX12_kind_113 rfl rfl ?_
    refine wk_S2r (d' := 1) (q := 117) lkX12_42 dX12_kind_114 rfl rfl rfl rfl ?_
    refine ck_X12_spot (g := g) (w := 0) ?_
    refine wk_iload_n (i := 3) (q := 118) dX12_kind_117 rfl rfl rfl ?_
    refine wk_sst (n := (5 + 7 * g + 0)) (q := 119) dX12_kind_118 rfl (by omega) rfl ?_
    rw [upd_upd, upd_same]
    refine wk_iload (i := 4) (q := 121) dX12_kind_119 rfl rfl ?_
    refine wk_ireturn dX12_kind_121 rfl rfl ?_
    have e : j = 6 := by omega
    subst e
    have hq := hQ B
    rw [← hb] at hq
    exact hq
  | succ r ih =>
    intro j B be lo x hj hb lv' hlv
    subst hlv
    have hlen : wshN (upd A (5 + 7 * g + 0) (nI j) 3) (upd A (5 + 7 * g + 0) (nI j) 4) (gv (upd A (5 + 7 * g + 0) (nI j)) g) N 1 = lenK (A 3) (A 4) (gv A g) N j := by
      rw [upd_n (show (3 : Nat) ≠ 5 + 7 * g + 0 by omega), upd_n (show (4 : Nat) ≠ 5 + 7 * g + 0 by omega), gv_upd0]
      rfl
    have hbs : bkS (A 3) (A 4) (gv A g) N (j + 1) = if lo < lenK (A 3) (A 4) (gv A g) N j then (nI j, lenK (A 3) (A 4) (gv A g) N j) else (be, lo) := by
      show (if (bkS (A 3) (A 4) (gv A g) N j).2 < _ then _ else bkS (A 3) (A 4) (gv A g) N j) = _
      rw [← hb]
    refine wk_iload (i := 6) (q := 45) dX12_kind_43 rfl rfl ?_
    refine wk_iconst (v := 5) (q := 46) dX12_kind_45 rfl rfl ?_
    refine wk_icmp_gt (t := 108) (q := 49) dX12_kind_46 rfl rfl (fun h => absurd h (nI_nlt (a := 5) (by omega) (by omega))) (fun c46 => ?_)
    refine wk_aload_n (i := 0) (q := 50) dX12_kind_49 rfl rfl rfl ?_
    refine wk_get (q := 53) fgX12_7 dX12_kind_50 rfl rfl rfl rfl ?_
    refine wk_iload_n (i := 1) (q := 54) dX12_kind_53 rfl rfl rfl ?_
    refine wk_iconst (v := 0) (q := 55) dX12_kind_54 rfl rfl ?_
    refine wk_S2r (d' := 1) (q := 58) lkX12_42 dX12_kind_55 rfl rfl rfl rfl ?_
    refine ck_X12_spot (g := g) (w := 0) ?_
    refine wk_iload (i := 6) (q := 60) dX12_kind_58 rfl rfl ?_
    refine wk_sst (n := (5 + 7 * g + 0)) (q := 61) dX12_kind_60 rfl (by omega) rfl ?_
    rw [upd_upd]
    refine wk_aload_n (i := 0) (q := 62) dX12_kind_61 rfl rfl rfl ?_
    refine wk_iload_n (i := 1) (q := 63) dX12_kind_62 rfl rfl rfl ?_
    refine wk_iload_n (i := 2) (q := 64) dX12_kind_63 rfl rfl rfl ?_
    refine wk_iconst (v := 1) (q := 65) dX12_kind_64 rfl rfl ?_
    refine wk_V3r (d' := 7) (q := 68) lkX12_180 dX12_kind_65 rfl rfl rfl rfl rfl rfl rfl ?_
    refine ck_X12_washedTo (g := g) (N := N) (w := 1) (by omega) hg (by decide) (fun B1 => ?_)
    rw [wr_wr, hlen]
    refine wk_istore (i := 7) (q := 70) (lv' := [_, _, _, _, _, _, _, _]) dX12_kind_68 rfl rfl rfl ?_
    refine wk_iload (i := 7) (q := 72) dX12_kind_70 rfl rfl ?_
    refine wk_iload (i := 5) (q := 74) dX12_kind_72 rfl rfl ?_
    refine wk_icmp_le (t := 82) (q := 77) dX12_kind_74 rfl rfl (fun c74 => ?_) (fun c74 => ?_)
    · skip
      rw [if_neg (by rw [fa_lt]; rw [fa_le] at c74; omega)] at hbs
      refine wk_iload (i := 4) (q := 84) dX12_kind_82 rfl rfl ?_
      refine wk_istore (i := 4) (q := 86) (lv' := [_, _, _, _, _, _, _, _]) dX12_kind_84 rfl rfl rfl ?_
      refine wk_iload (i := 7) (q := 88) dX12_kind_86 rfl rfl ?_
      refine wk_iload (i := 5) (q := 90) dX12_kind_88 rfl rfl ?_
      refine wk_icmp_le (t := 98) (q := 93) dX12_kind_90 rfl rfl (fun c90 => ?_) (fun c90 => ?_)
      · skip
        refine wk_iload (i := 5) (q := 100) dX12_kind_98 rfl rfl ?_
        refine wk_istore (i := 5) (q := 102) (lv' := [_, _, _, _, _, _, _, _]) dX12_kind_100 rfl rfl rfl ?_
        refine wk_iinc (w := 1) (q := 105) (lv' := [_, _, _, _, _, _, _, _]) dX12_kind_102 rfl rfl rfl rfl rfl ?_
        rw [nI_1]
        refine wk_goto (t := 43) dX12_kind_105 rfl ?_
        refine wk_pick [0, 1, 2, 3, 4, 5, 6] (lv' := [_, _, _, _, _, _, _]) rfl ?_
        first | exact ih (j + 1) _ _ _ _ (by omega) hbs.symm _ rfl | exact absurd c90 c74 | exact absurd c74 c90
      · skip
        refine wk_iload (i := 7) (q := 95) dX12_kind_93 rfl rfl ?_
        refine wk_goto (t := 100) dX12_kind_95 rfl ?_
        refine wk_istore (i := 5) (q := 102) (lv' := [_, _, _, _, _, _, _, _]) dX12_kind_100 rfl rfl rfl ?_
        refine wk_iinc (w := 1) (q := 105) (lv' := [_, _, _, _, _, _, _, _]) dX12_kind_102 rfl rfl rfl rfl rfl ?_
        rw [nI_1]
        refine wk_goto (t := 43) dX12_kind_105 rfl ?_
        refine wk_pick [0, 1, 2, 3, 4, 5, 6] (lv' := [_, _, _, _, _, _, _]) rfl ?_
        first | exact ih (j + 1) _ _ _ _ (by omega) hbs.symm _ rfl | exact absurd c90 c74 | exact absurd c74 c90
    · skip
      rw [if_pos (by rw [fa_lt]; rw [fa_le] at c74; omega)] at hbs
      refine wk_iload (i := 6) (q := 79) dX12_kind_77 rfl rfl ?_
      refine wk_goto (t := 84) dX12_kind_79 rfl ?_
      refine wk_istore (i := 4) (q := 86) (lv' := [_, _, _, _, _, _, _, _]) dX12_kind_84 rfl rfl rfl ?_
      refine wk_iload (i := 7) (q := 88) dX12_kind_86 rfl rfl ?_
      refine wk_iload (i := 5) (q := 90) dX12_kind_88 rfl rfl ?_
      refine wk_icmp_le (t := 98) (q := 93) dX12_kind_90 rfl rfl (fun c90 => ?_) (fun c90 => ?_)
      · skip
        refine wk_iload (i := 5) (q := 100) dX12_kind_98 rfl rfl ?_
        refine wk_istore (i := 5) (q := 102) (lv' := [_, _, _, _, _, _, _, _]) dX12_kind_100 rfl rfl rfl ?_
        refine wk_iinc (w := 1) (q := 105) (lv' := [_, _, _, _, _, _, _, _]) dX12_kind_102 rfl rfl rfl rfl rfl ?_
        rw [nI_1]
        refine wk_goto (t := 43) dX12_kind_105 rfl ?_
        refine wk_pick [0, 1, 2, 3, 4, 5, 6] (lv' := [_, _, _, _, _, _, _]) rfl ?_
        first | exact ih (j + 1) _ _ _ _ (by omega) hbs.symm _ rfl | exact absurd c90 c74 | exact absurd c74 c90
      · skip
        refine wk_iload (i := 7) (q := 95) dX12_kind_93 rfl rfl ?_
        refine wk_goto (t := 100) dX12_kind_95 rfl ?_
        refine wk_istore (i := 5) (q := 102) (lv' := [_, _, _, _, _, _, _, _]) dX12_kind_100 rfl rfl rfl ?_
        refine wk_iinc (w := 1) (q := 105) (lv' := [_, _, _, _, _, _, _, _]) dX12_kind_102 rfl rfl rfl rfl rfl ?_
        rw [nI_1]
        refine wk_goto (t := 43) dX12_kind_105 rfl ?_
        refine wk_pick [0, 1, 2, 3, 4, 5, 6] (lv' := [_, _, _, _, _, _, _]) rfl ?_
        first | exact ih (j + 1) _ _ _ _ (by omega) hbs.symm _ rfl | exact absurd c90 c74 | exact absurd c74 c90
theorem ck_X12_kind {i n : Int32} (hO : okA D A) (h1 : ∀ g N, g < cA A → 1 ≤ N → N ≤ 40 → i = nI g → n = nI N → ∀ B, Q (.int (bkS (A 3) (A 4) (gv A g) N 6).1) (wr (wr m 76 B) 73 A) L) (h0 : (∀ g N, g < cA A → 1 ≤ N → N ≤ 40 → ¬ (i = nI g ∧ n = nI N)) → Q (.int (-1000000001)) (rfA (wr m 73 A) 0) L) : CK E 8 MX12_kind [.ref (ev_z E + 72), .int i, .int n] (wr m 73 A) L Q := by
  have hc8 := hO.1.2.1
  refine CK.of rfl rfl (lv := [(0, _), (1, _), (2, _)]) rfl ?_
  refine wk_aload_n (i := 0) (q := 1) dX12_kind_0 rfl rfl rfl ?_
  refine wk_iload_n (i := 1) (q := 2) dX12_kind_1 rfl rfl rfl ?_
  refine wk_V1r (d' := 2) (q := 5) lkX12_103 dX12_kind_2 rfl rfl rfl rfl rfl rfl rfl ?_
  refine ck_X12_isGarment hO (fun g hg e => ?_) (fun hno => ?_)
  · skip
    subst e
    refine wk_if_eq (t := 20) (q := 8) dX12_kind_5 rfl rfl (fun h => absurd h (by decide)) (fun _ => ?_)
    refine wk_iload_n (i := 2) (q := 9) dX12_kind_8 rfl rfl rfl ?_
    refine wk_i2l (q := 10) dX12_kind_9 rfl ?_
    refine wk_lconst (v := 1) (q := 11) dX12_kind_10 rfl rfl ?_
    refine wk_ldc2 (q := 14) dX12_kind_11 kX12_178 rfl ?_
    refine wk_S3r (d' := 1) (q := 17) lkX12_46 dX12_kind_14 rfl rfl rfl rfl ?_
    refine ck_X12_in (lo := 1) (hi := 40) (fun hw => ?_) (fun hw => ?_)
    · skip
      obtain ⟨N, hN1, hN2, rfl⟩ := rng (lo := 1) (hi := 40) (by omega) (by omega) hw
      refine wk_if_ne (t := 27) (q := 20) dX12_kind_17 rfl rfl (fun _ => ?_) (fun h => absurd h (by decide))
      refine wk_aload_n (i := 0) (q := 28) dX12_kind_27 rfl rfl rfl ?_
      refine wk_iload_n (i := 1) (q := 29) dX12_kind_28 rfl rfl rfl ?_
      refine wk_iconst (v := 0) (q := 30) dX12_kind_29 rfl rfl ?_
      refine wk_V2r (d' := 2) (q := 33) lkX12_67 dX12_kind_30 rfl rfl rfl rfl rfl rfl rfl ?_
      refine ck_X12_its (g := g) (w := 0) (by omega) (by omega) ?_
      refine wk_istore_n (i := 3) (q := 34) (lv' := [_, _, _, _]) dX12_kind_33 rfl rfl rfl rfl ?_
      refine wk_iconst (v := 0) (q := 35) dX12_kind_34 rfl rfl ?_
      refine wk_istore (i := 4) (q := 37) (lv' := [_, _, _, _, _]) dX12_kind_35 rfl rfl rfl ?_
      refine wk_iconst (v := -1) (q := 38) dX12_kind_37 rfl rfl ?_
      refine wk_istore (i := 5) (q := 40) (lv' := [_, _, _, _, _, _]) dX12_kind_38 rfl rfl rfl ?_
      refine wk_iconst (v := 0) (q := 41) dX12_kind_40 rfl rfl ?_
      refine wk_istore (i := 6) (q := 43) (lv' := [_, _, _, _, _, _, _]) dX12_kind_41 rfl rfl rfl ?_
      have hl := lp_X12_kind (E := E) (m := m) (by omega) hN2 (h1 g N hg hN1 hN2 rfl rfl) 6 0 (m 76) 0 (-1) (A (5 + 7 * g + 0)) (by omega) rfl _ rfl
      rw [wr_self, upd_same] at hl
      exact hl
    · skip
      refine wk_if_ne (t := 27) (q := 20) dX12_kind_17 rfl rfl (fun h => absurd (by decide) h) (fun _ => ?_)
      refine wk_aload_n (i := 0) (q := 21) dX12_kind_20 rfl rfl rfl ?_
      refine wk_ldc (q := 23) dX12_kind_21 kX12_41 rfl ?_
      refine wk_V1r (d' := 1) (q := 26) lkX12_63 dX12_kind_23 rfl rfl rfl rfl rfl rfl rfl ?_
      refine ck_X12_finds (i := 0) (by decide) (by decide) ?_
      refine wk_ireturn dX12_kind_26 rfl rfl ?_
      refine h0 (fun g' N q1 q2 q3 h => ?_)
      first | exact hno g' q1 h.1 | (have h2 := h.2; subst h2; exact hw (rng' (lo := 1) (hi := 40) (by omega) q2 q3))
  · skip
    refine wk_if_eq (t := 20) (q := 8) dX12_kind_5 rfl rfl (fun _ => ?_) (fun h => absurd (by decide) h)
    refine wk_aload_n (i := 0) (q := 21) dX12_kind_20 rfl rfl rfl ?_
    refine wk_ldc (q := 23) dX12_kind_21 kX12_41 rfl ?_
    refine wk_V1r (d' := 1) (q := 26) lkX12_63 dX12_kind_23 rfl rfl rfl rfl rfl rfl rfl ?_
    refine ck_X12_finds (i := 0) (by decide) (by decide) ?_
    refine wk_ireturn dX12_kind_26 rfl rfl ?_
    refine h0 (fun g' N q1 q2 q3 h => ?_)
    first | exact hno g' q1 h.1 | (have h2 := h.2; subst h2; exact hw (rng' (lo := 1) (hi := 40) (by omega) q2 q3))
theorem lp_X12_manyFitting {c p : Nat} (hc : A 1 = nI c) (hc8 : c ≤ 8) (hp : p < 6) (hQ : Q (.int (cntS (fitB A p) c)) (wr m 73 A) L) : ∀ (r j : Nat) (a : Int32), j + r = c → a = cntS (fitB A p) j → WK E 4 MX12_manyFitting 4 [(0, .ref (ev_z E + 72)), (1, .int (nI p)), (2, .int a), (3, .int (nI j))] [] (wr m 73 A) L Q := by
  intro r
  induction r with
  | zero =>
    intro j a hj ha
    refine wk_iload_n (i := 3) (q := 5) dX12_manyFitting_4 rfl rfl rfl ?_
    refine wk_aload_n (i := 0) (q := 6) dX12_manyFitting_5 rfl rfl rfl ?_
    refine wk_get (q := 9) fgX12_7 dX12_manyFitting_6 rfl rfl rfl rfl ?_
    refine wk_iconst (v := 1) (q := 10) dX12_manyFitting_9 rfl rfl ?_
    refine wk_sld (n := 1) (q := 11) dX12_manyFitting_10 rfl (by decide) rfl ?_
    refine wk_icmp_ge (t := 37) (q := 14) dX12_manyFitting_11 rfl rfl (fun c11 => ?_) (fun h => absurd (by rw [hc]; exact nI_le (by omega) (by omega)) h)
    refine wk_iload_n (i := 2) (q := 38) dX12_manyFitting_37 rfl rfl rfl ?_
    refine wk_ireturn dX12_manyFitting_38 rfl rfl ?_
    have e : j = c := by omega
    subst e
    rw [ha]
    exact hQ
  | succ r ih =>
    intro j a hj ha
    refine wk_iload_n (i := 3) (q := 5) dX12_manyFitting_4 rfl rfl rfl ?_
    refine wk_aload_n (i := 0) (q := 6) dX12_manyFitting_5 rfl rfl rfl ?_
    refine wk_get (q := 9) fgX12_7 dX12_manyFitting_6 rfl rfl rfl rfl ?_
    refine wk_iconst (v := 1) (q := 10) dX12_manyFitting_9 rfl rfl ?_
    refine wk_sld (n := 1) (q := 11) dX12_manyFitting_10 rfl (by decide) rfl ?_
    refine wk_icmp_ge (t := 37) (q := 14) dX12_manyFitting_11 rfl rfl (fun h => absurd h (by rw [hc]; exact nI_ge (by omega) (by omega))) (fun c11 => ?_)
    refine wk_iload_n (i := 2) (q := 15) dX12_manyFitting_14 rfl rfl rfl ?_
    refine wk_aload_n (i := 0) (q := 16) dX12_manyFitting_15 rfl rfl rfl ?_
    refine wk_iload_n (i := 3) (q := 17) dX12_manyFitting_16 rfl rfl rfl ?_
    refine wk_iload_n (i := 1) (q := 18) dX12_manyFitting_17 rfl rfl rfl ?_
    refine wk_V2r (d' := 3) (q := 21) lkX12_75 dX12_manyFitting_18 rfl rfl rfl rfl rfl rfl rfl ?_
    refine ck_X12_isFitting (g := j) (p := p) (by omega) (by omega) (fun hf => ?_) (fun hf => ?_)
    · skip
      have hcn : cntS (fitB A p) (j + 1) = cntS (fitB A p) j + 1 := by (show cntS (fitB A p) j + (if _ then _ else _) = _; rw [if_pos hf])
      refine wk_if_eq (t := 28) (q := 24) dX12_manyFitting_21 rfl rfl (fun h => absurd h (by decide)) (fun _ => ?_)
      refine wk_iconst (v := 1) (q := 25) dX12_manyFitting_24 rfl rfl ?_
      refine wk_goto (t := 29) dX12_manyFitting_25 rfl ?_
      refine wk_iadd (q := 30) dX12_manyFitting_29 rfl ?_
      refine wk_istore_n (i := 2) (q := 31) (lv' := [_, _, _, _]) dX12_manyFitting_30 rfl rfl rfl rfl ?_
      refine wk_iinc (w := 1) (q := 34) (lv' := [_, _, _, _]) dX12_manyFitting_31 rfl rfl rfl rfl rfl ?_
      rw [nI_1]
      refine wk_goto (t := 4) dX12_manyFitting_34 rfl ?_
      exact ih (j + 1) _ (by omega) (by rw [ha, hcn])
    · skip
      have hcn : cntS (fitB A p) (j + 1) = cntS (fitB A p) j + 0 := by (show cntS (fitB A p) j + (if _ then _ else _) = _; rw [if_neg hf])
      refine wk_if_eq (t := 28) (q := 24) dX12_manyFitting_21 rfl rfl (fun _ => ?_) (fun h => absurd (by decide) h)
      refine wk_iconst (v := 0) (q := 29) dX12_manyFitting_28 rfl rfl ?_
      refine wk_iadd (q := 30) dX12_manyFitting_29 rfl ?_
      refine wk_istore_n (i := 2) (q := 31) (lv' := [_, _, _, _]) dX12_manyFitting_30 rfl rfl rfl rfl ?_
      refine wk_iinc (w := 1) (q := 34) (lv' := [_, _, _, _]) dX12_manyFitting_31 rfl rfl rfl rfl rfl ?_
      rw [nI_1]
      refine wk_goto (t := 4) dX12_manyFitting_34 rfl ?_
      exact ih (j + 1) _ (by omega) (by rw [ha, hcn])
theorem ck_X12_manyFitting {c p : Nat} (hc : A 1 = nI c) (hc8 : c ≤ 8) (hp : p < 6) (hQ : Q (.int (cntS (fitB A p) c)) (wr m 73 A) L) : CK E 4 MX12_manyFitting [.ref (ev_z E + 72), .int (nI p)] (wr m 73 A) L Q := by
  refine CK.of rfl rfl (lv := [(0, _), (1, _)]) rfl ?_
  refine wk_iconst (v := 0) (q := 1) dX12_manyFitting_0 rfl rfl ?_
  refine wk_istore_n (i := 2) (q := 2) (lv' := [_, _, _]) dX12_manyFitting_1 rfl rfl rfl rfl ?_
  refine wk_iconst (v := 0) (q := 3) dX12_manyFitting_2 rfl rfl ?_
  refine wk_istore_n (i := 3) (q := 4) (lv' := [_, _, _, _]) dX12_manyFitting_3 rfl rfl rfl rfl ?_
  exact lp_X12_manyFitting hc hc8 hp hQ c 0 0 (by omega) rfl
theorem lp_X12_dressed {A0 B : Nat → Int32} {n : Int32} {c np : Nat} (hBA : eq73 B A0) (hhi : ∀ j, 73 ≤ j → A j = A0 j) (hc : A 1 = nI c) (hc8 : c ≤ 8) (hn : A 2 = nI np) (hn6 : np ≤ 6) (hQ : Q (.int (nI (bst A c np))) (wr (wr m 76 B) 73 A0) L) : ∀ (r j : Nat), j + r = np → 1 ≤ j → WK E 6 MX12_dressed 43 [(0, .ref (ev_z E + 72)), (1, .int n), (2, .int (nI (bst A c j))), (3, .int (nI j))] [] (wr (wr m 76 B) 73 A) L Q := by
  intro r
  induction r with
  | zero =>
    intro j hj h1
    refine wk_iload_n (i := 3) (q := 44) dX12_dressed_43 rfl rfl rfl ?_
    refine wk_aload_n (i := 0) (q := 45) dX12_dressed_44 rfl rfl rfl ?_
    refine wk_get (q := 48) fgX12_7 dX12_dressed_45 rfl rfl rfl rfl ?_
    refine wk_iconst (v := 2) (q := 49) dX12_dressed_48 rfl rfl ?_
    refine wk_sld (n := 2) (q := 50) dX12_dressed_49 rfl (by decide) rfl ?_
    refine wk_icmp_ge (t := 78) (q := 53) dX12_dressed_50 rfl rfl (fun c50 => ?_) (fun h => absurd (by rw [hn]; exact nI_le (by omega) (by omega)) h)
    refine wk_aload_n (i := 0) (q := 79) dX12_dressed_78 rfl rfl rfl ?_
    refine wk_iload_n (i := 2) (q := 80) dX12_dressed_79 rfl rfl rfl ?_
    refine wk_V1r (d' := 1) (q := 83) lkX12_171 dX12_dressed_80 rfl rfl rfl rfl rfl rfl rfl ?_
    refine ck_X12_takesBack hBA hhi ?_
    refine wk_ireturn dX12_dressed_83 rfl rfl ?_
    have e : j = np := by omega
    subst e
    exact hQ
  | succ r ih =>
    intro j hj h1
    have hbl := bst_lt A c j (by omega)
    refine wk_iload_n (i := 3) (q := 44) dX12_dressed_43 rfl rfl rfl ?_
    refine wk_aload_n (i := 0) (q := 45) dX12_dressed_44 rfl rfl rfl ?_
    refine wk_get (q := 48) fgX12_7 dX12_dressed_45 rfl rfl rfl rfl ?_
    refine wk_iconst (v := 2) (q := 49) dX12_dressed_48 rfl rfl ?_
    refine wk_sld (n := 2) (q := 50) dX12_dressed_49 rfl (by decide) rfl ?_
    refine wk_icmp_ge (t := 78) (q := 53) dX12_dressed_50 rfl rfl (fun h => absurd h (by rw [hn]; exact nI_ge (by omega) (by omega))) (fun c50 => ?_)
    refine wk_aload_n (i := 0) (q := 54) dX12_dressed_53 rfl rfl rfl ?_
    refine wk_iload_n (i := 3) (q := 55) dX12_dressed_54 rfl rfl rfl ?_
    refine wk_V1r (d' := 4) (q := 58) lkX12_188 dX12_dressed_55 rfl rfl rfl rfl rfl rfl rfl ?_
    refine ck_X12_manyFitting (p := j) hc hc8 (by omega) ?_
    refine wk_aload_n (i := 0) (q := 59) dX12_dressed_58 rfl rfl rfl ?_
    refine wk_iload_n (i := 2) (q := 60) dX12_dressed_59 rfl rfl rfl ?_
    refine wk_V1r (d' := 4) (q := 63) lkX12_188 dX12_dressed_60 rfl rfl rfl rfl rfl rfl rfl ?_
    refine ck_X12_manyFitting (p := bst A c j) hc hc8 (by omega) ?_
    refine wk_icmp_le (t := 70) (q := 66) dX12_dressed_63 rfl rfl (fun c63 => ?_) (fun c63 => ?_)
    · skip
      have hs : bst A c (j + 1) = bst A c j := by (show (if _ then _ else _) = _; rw [if_neg (by rw [fa_lt]; rw [fa_le] at c63; omega)])
      refine wk_iload_n (i := 2) (q := 71) dX12_dressed_70 rfl rfl rfl ?_
      refine wk_istore_n (i := 2) (q := 72) (lv' := [_, _, _, _]) dX12_dressed_71 rfl rfl rfl rfl ?_
      refine wk_iinc (w := 1) (q := 75) (lv' := [_, _, _, _]) dX12_dressed_72 rfl rfl rfl rfl rfl ?_
      rw [nI_1]
      refine wk_goto (t := 43) dX12_dressed_75 rfl ?_
      have hr := ih (j + 1) (by omega) (by omega)
      rw [hs] at hr
      exact hr
    · skip
      have hs : bst A c (j + 1) = j := by (show (if _ then _ else _) = _; rw [if_pos (by rw [fa_lt]; rw [fa_le] at c63; omega)])
      refine wk_iload_n (i := 3) (q := 67) dX12_dressed_66 rfl rfl rfl ?_
      refine wk_goto (t := 71) dX12_dressed_67 rfl ?_
      refine wk_istore_n (i := 2) (q := 72) (lv' := [_, _, _, _]) dX12_dressed_71 rfl rfl rfl rfl ?_
      refine wk_iinc (w := 1) (q := 75) (lv' := [_, _, _, _]) dX12_dressed_72 rfl rfl rfl rfl rfl ?_
      rw [nI_1]
      refine wk_goto (t := 43) dX12_dressed_75 rfl ?_
      have hr := ih (j + 1) (by omega) (by omega)
      rw [hs] at hr
      exact hr
theorem ck_X12_dressed {n : Int32} (hO : okA D A) (h1 : ∀ N, N ≤ 100 → n = nI N → 0 < pA A → ∀ B, Q (.int (nI (bst (dayA A N) (cA A) (pA A)))) (wr (wr m 76 B) 73 A) L) (h2 : ∀ N, N ≤ 100 → n = nI N → pA A = 0 → Q (.int (-1000000004)) (rfA (wr m 73 A) 3) L) (h0 : ¬ (0 ≤ n ∧ n ≤ 100) → Q (.int (-1000000001)) (rfA (wr m 73 A) 0) L) : CK E 6 MX12_dressed [.ref (ev_z E + 72), .int n] (wr m 73 A) L Q := by
  have hc8 := hO.1.2.1
  have hp6 := hO.2.1.2.1
  refine CK.of rfl rfl (lv := [(0, _), (1, _)]) rfl ?_
  refine wk_iload_n (i := 1) (q := 1) dX12_dressed_0 rfl rfl rfl ?_
  refine wk_S1r (d' := 2) (q := 4) lkX12_163 dX12_dressed_1 rfl rfl rfl rfl ?_
  refine ck_X12_isAhead (fun ha => ?_) (fun ha => ?_)
  · skip
    obtain ⟨N, hN1, hN2, rfl⟩ := rng (lo := 0) (hi := 100) (by omega) (by omega) ha
    have hdy := okA_day (N := N) hO
    refine wk_if_ne (t := 14) (q := 7) dX12_dressed_4 rfl rfl (fun _ => ?_) (fun h => absurd h (by decide))
    refine wk_aload_n (i := 0) (q := 15) dX12_dressed_14 rfl rfl rfl ?_
    refine wk_get (q := 18) fgX12_7 dX12_dressed_15 rfl rfl rfl rfl ?_
    refine wk_iconst (v := 2) (q := 19) dX12_dressed_18 rfl rfl ?_
    refine wk_sld (n := 2) (q := 20) dX12_dressed_19 rfl (by decide) rfl ?_
    rw [hO.2.1.1]
    refine wk_if_ne (t := 30) (q := 23) dX12_dressed_20 rfl rfl (fun c20 => ?_) (fun c20 => ?_)
    · skip
      have hp0 : 0 < pA A := by (rcases Nat.eq_zero_or_pos (pA A) with h | h; (rw [h] at c20; exact absurd rfl c20); exact h)
      refine wk_aload_n (i := 0) (q := 31) dX12_dressed_30 rfl rfl rfl ?_
      refine wk_V0v (d' := 1) (q := 34) lkX12_168 dX12_dressed_31 rfl rfl rfl rfl rfl rfl rfl ?_
      refine ck_X12_laysAside (fun B hBA => ?_)
      refine wk_aload_n (i := 0) (q := 35) dX12_dressed_34 rfl rfl rfl ?_
      refine wk_iload_n (i := 1) (q := 36) dX12_dressed_35 rfl rfl rfl ?_
      refine wk_V1v (d' := 5) (q := 39) lkX12_160 dX12_dressed_36 rfl rfl rfl rfl rfl rfl rfl ?_
      refine ck_X12_daysGo (N := N) (by omega) hO ?_
      refine wk_iconst (v := 0) (q := 40) dX12_dressed_39 rfl rfl ?_
      refine wk_istore_n (i := 2) (q := 41) (lv' := [_, _, _]) dX12_dressed_40 rfl rfl rfl rfl ?_
      refine wk_iconst (v := 1) (q := 42) dX12_dressed_41 rfl rfl ?_
      refine wk_istore_n (i := 3) (q := 43) (lv' := [_, _, _, _]) dX12_dressed_42 rfl rfl rfl rfl ?_
      have hl := lp_X12_dressed (E := E) (m := m) (A := dayA A N) (A0 := A) (B := B) (n := nI N) (c := cA A) (np := pA A) hBA (fun j hj => dayA_hi hc8 (by omega)) (by rw [← hdy.2.1]; exact hdy.1.1.1) hc8 (by rw [← hdy.2.2]; exact hdy.1.2.1.1) hp6 (h1 N hN2 rfl hp0 B) (pA A - 1) 1 (by omega) (by omega)
      rw [show bst (dayA A N) (cA A) 1 = 0 from by show (if _ then 0 else bst (dayA A N) (cA A) 0) = 0; split <;> rfl] at hl
      exact hl
    · skip
      have hp0 : pA A = 0 := by (rcases Nat.eq_zero_or_pos (pA A) with h | h; exact h; exact absurd c20 (nI_ne0 h (by omega)))
      refine wk_aload_n (i := 0) (q := 24) dX12_dressed_23 rfl rfl rfl ?_
      refine wk_ldc (q := 26) dX12_dressed_24 kX12_187 rfl ?_
      refine wk_V1r (d' := 1) (q := 29) lkX12_63 dX12_dressed_26 rfl rfl rfl rfl rfl rfl rfl ?_
      refine ck_X12_finds (i := 3) (by decide) (by decide) ?_
      refine wk_ireturn dX12_dressed_29 rfl rfl ?_
      exact h2 N hN2 rfl hp0
  · skip
    refine wk_if_ne (t := 14) (q := 7) dX12_dressed_4 rfl rfl (fun h => absurd (by decide) h) (fun _ => ?_)
    refine wk_aload_n (i := 0) (q := 8) dX12_dressed_7 rfl rfl rfl ?_
    refine wk_ldc (q := 10) dX12_dressed_8 kX12_41 rfl ?_
    refine wk_V1r (d' := 1) (q := 13) lkX12_63 dX12_dressed_10 rfl rfl rfl rfl rfl rfl rfl ?_
    refine ck_X12_finds (i := 0) (by decide) (by decide) ?_
    refine wk_ireturn dX12_dressed_13 rfl rfl ?_
    exact h0 ha
theorem lp_X12_shortest {N : Nat} (hO : okA D A) (hN : N ≤ 40) (h1 : ∀ j, j < cA A → (shS A N (cA A)).1 = nI j → ∀ B, Q (.int (nI j)) (wr (wr m 76 B) 73 A) L) (h0 : cA A = 0 → ∀ B, Q (.int (-1000000004)) (rfA (wr (wr m 76 B) 73 A) 3) L) : ∀ (r j : Nat) (B : Nat → Int32) (be le : Int32), j + r = cA A → (be, le) = shS A N j → ∀ lv', (lv' = [(0, Value.ref (ev_z E + 72)), (1, .int (nI N)), (2, .int be), (3, .int le), (4, .int (nI j))]) → WK E 8 MX12_shortest 28 lv' [] (wr (wr m 76 B) 73 A) L Q := by
  have hc8 := hO.1.2.1
  have hdg := hO.2.2.2.1
  have hb : ∀ g, g < cA A → 10 ≤ (wshN (A 3) (A 4) (gv A g) N 1).toInt ∧ (wshN (A 3) (A 4) (gv A g) N 1).toInt ≤ 200 := fun g hg => (ok_wshN (t := A 4) (hO.1.2.2 g hg) (by omega) (by omega) N).2.1
  intro r
  induction r with
  | zero =>
    intro j B be le hj hi lv' hlv
    subst hlv
    have e : j = cA A := by omega
    refine wk_iload (i := 4) (q := 30) dX12_shortest_28 rfl rfl ?_
    refine wk_aload_n (i := 0) (q := 31) dX12_shortest_30 rfl rfl rfl ?_
    refine wk_get (q := 34) fgX12_7 dX12_shortest_31 rfl rfl rfl rfl ?_
    refine wk_iconst (v := 1) (q := 35) dX12_shortest_34 rfl rfl ?_
    refine wk_sld (n := 1) (q := 36) dX12_shortest_35 rfl (by decide) rfl ?_
    refine wk_icmp_ge (t := 81) (q := 39) dX12_shortest_36 rfl rfl (fun c36 => ?_) (fun h => absurd (by rw [hO.1.1]; exact nI_le (by omega) (by omega)) h)
    refine wk_iload_n (i := 2) (q := 82) dX12_shortest_81 rfl rfl rfl ?_
    refine wk_if_ge (t := 94) (q := 85) dX12_shortest_82 rfl rfl (fun c82 => ?_) (fun c82 => ?_)
    · skip
      have hj0 : 0 < j := by (rcases Nat.eq_zero_or_pos j with h | h; (subst h; have hbe : be = -1 := congrArg Prod.fst hi; rw [hbe] at c82; exact absurd c82 (by decide)); exact h)
      obtain ⟨⟨jj, hjj, ejj⟩, -⟩ := shS_b hb j hj0 (by omega)
      refine wk_iload_n (i := 2) (q := 95) dX12_shortest_94 rfl rfl rfl ?_
      refine wk_ireturn dX12_shortest_95 rfl rfl ?_
      first | exact h0 (by omega) B | (rw [← e] at h1; have hr := h1 jj (by omega) ejj B; rw [← hi] at ejj; have ejj : be = nI jj := ejj; rw [ejj]; exact hr)
    · skip
      have hj0 : j = 0 := by (rcases Nat.eq_zero_or_pos j with h | h; exact h; (obtain ⟨⟨jj, hjj, ejj⟩, -⟩ := shS_b hb j h (by omega); rw [← hi] at ejj; have ejj : be = nI jj := ejj; rw [ejj] at c82; exact absurd (nI_pos' (by omega)) c82))
      refine wk_aload_n (i := 0) (q := 86) dX12_shortest_85 rfl rfl rfl ?_
      refine wk_ldc (q := 88) dX12_shortest_86 kX12_187 rfl ?_
      refine wk_V1r (d' := 1) (q := 91) lkX12_63 dX12_shortest_88 rfl rfl rfl rfl rfl rfl rfl ?_
      refine ck_X12_finds (i := 3) (by decide) (by decide) ?_
      refine wk_goto (t := 95) dX12_shortest_91 rfl ?_
      refine wk_ireturn dX12_shortest_95 rfl rfl ?_
      first | exact h0 (by omega) B | (rw [← e] at h1; have hr := h1 jj (by omega) ejj B; rw [← hi] at ejj; have ejj : be = nI jj := ejj; rw [ejj]; exact hr)
  | succ r ih =>
    intro j B be le hj hi lv' hlv
    subst hlv
    have hnx : shS A N (j + 1) = if wshN (A 3) (A 4) (gv A j) N 1 < le then (nI j, wshN (A 3) (A 4) (gv A j) N 1) else (be, le) := by
      show (if _ < (shS A N j).2 then _ else shS A N j) = _
      rw [← hi]
    refine wk_iload (i := 4) (q := 30) dX12_shortest_28 rfl rfl ?_
    refine wk_aload_n (i := 0) (q := 31) dX12_shortest_30 rfl rfl rfl ?_
    refine wk_get (q := 34) fgX12_7 dX12_shortest_31 rfl rfl rfl rfl ?_
    refine wk_iconst (v := 1) (q := 35) dX12_shortest_34 rfl rfl ?_
    refine wk_sld (n := 1) (q := 36) dX12_shortest_35 rfl (by decide) rfl ?_
    refine wk_icmp_ge (t := 81) (q := 39) dX12_shortest_36 rfl rfl (fun h => absurd h (by rw [hO.1.1]; exact nI_ge (by omega) (by omega))) (fun c36 => ?_)
    refine wk_aload_n (i := 0) (q := 40) dX12_shortest_39 rfl rfl rfl ?_
    refine wk_iload (i := 4) (q := 42) dX12_shortest_40 rfl rfl ?_
    refine wk_iload_n (i := 1) (q := 43) dX12_shortest_42 rfl rfl rfl ?_
    refine wk_iconst (v := 1) (q := 44) dX12_shortest_43 rfl rfl ?_
    refine wk_V3r (d' := 7) (q := 47) lkX12_180 dX12_shortest_44 rfl rfl rfl rfl rfl rfl rfl ?_
    refine ck_X12_washedTo (g := j) (N := N) (w := 1) (by omega) (by omega) (by decide) (fun B1 => ?_)
    rw [wr_wr]
    refine wk_istore (i := 5) (q := 49) (lv' := [_, _, _, _, _, _]) dX12_shortest_47 rfl rfl rfl ?_
    refine wk_iload (i := 5) (q := 51) dX12_shortest_49 rfl rfl ?_
    refine wk_iload_n (i := 3) (q := 52) dX12_shortest_51 rfl rfl rfl ?_
    refine wk_icmp_ge (t := 60) (q := 55) dX12_shortest_52 rfl rfl (fun c52 => ?_) (fun c52 => ?_)
    · skip
      rw [if_neg (by rw [fa_lt]; rw [fa_le] at c52; omega)] at hnx
      refine wk_iload_n (i := 2) (q := 61) dX12_shortest_60 rfl rfl rfl ?_
      refine wk_istore_n (i := 2) (q := 62) (lv' := [_, _, _, _, _, _]) dX12_shortest_61 rfl rfl rfl rfl ?_
      refine wk_iload (i := 5) (q := 64) dX12_shortest_62 rfl rfl ?_
      refine wk_iload_n (i := 3) (q := 65) dX12_shortest_64 rfl rfl rfl ?_
      refine wk_icmp_ge (t := 73) (q := 68) dX12_shortest_65 rfl rfl (fun c65 => ?_) (fun c65 => ?_)
      · skip
        refine wk_iload_n (i := 3) (q := 74) dX12_shortest_73 rfl rfl rfl ?_
        refine wk_istore_n (i := 3) (q := 75) (lv' := [_, _, _, _, _, _]) dX12_shortest_74 rfl rfl rfl rfl ?_
        refine wk_iinc (w := 1) (q := 78) (lv' := [_, _, _, _, _, _]) dX12_shortest_75 rfl rfl rfl rfl rfl ?_
        rw [nI_1]
        refine wk_goto (t := 28) dX12_shortest_78 rfl ?_
        refine wk_pick [0, 1, 2, 3, 4] (lv' := [_, _, _, _, _]) rfl ?_
        first | exact ih (j + 1) _ _ _ (by omega) hnx.symm _ rfl | exact absurd c65 c52 | exact absurd c52 c65
      · skip
        refine wk_iload (i := 5) (q := 70) dX12_shortest_68 rfl rfl ?_
        refine wk_goto (t := 74) dX12_shortest_70 rfl ?_
        refine wk_istore_n (i := 3) (q := 75) (lv' := [_, _, _, _, _, _]) dX12_shortest_74 rfl rfl rfl rfl ?_
        refine wk_iinc (w := 1) (q := 78) (lv' := [_, _, _, _, _, _]) dX12_shortest_75 rfl rfl rfl rfl rfl ?_
        rw [nI_1]
        refine wk_goto (t := 28) dX12_shortest_78 rfl ?_
        refine wk_pick [0, 1, 2, 3, 4] (lv' := [_, _, _, _, _]) rfl ?_
        first | exact ih (j + 1) _ _ _ (by omega) hnx.symm _ rfl | exact absurd c65 c52 | exact absurd c52 c65
    · skip
      rw [if_pos (by rw [fa_lt]; rw [fa_le] at c52; omega)] at hnx
      refine wk_iload (i := 4) (q := 57) dX12_shortest_55 rfl rfl ?_
      refine wk_goto (t := 61) dX12_shortest_57 rfl ?_
      refine wk_istore_n (i := 2) (q := 62) (lv' := [_, _, _, _, _, _]) dX12_shortest_61 rfl rfl rfl rfl ?_
      refine wk_iload (i := 5) (q := 64) dX12_shortest_62 rfl rfl ?_
      refine wk_iload_n (i := 3) (q := 65) dX12_shortest_64 rfl rfl rfl ?_
      refine wk_icmp_ge (t := 73) (q := 68) dX12_shortest_65 rfl rfl (fun c65 => ?_) (fun c65 => ?_)
      · skip
        refine wk_iload_n (i := 3) (q := 74) dX12_shortest_73 rfl rfl rfl ?_
        refine wk_istore_n (i := 3) (q := 75) (lv' := [_, _, _, _, _, _]) dX12_shortest_74 rfl rfl rfl rfl ?_
        refine wk_iinc (w := 1) (q := 78) (lv' := [_, _, _, _, _, _]) dX12_shortest_75 rfl rfl rfl rfl rfl ?_
        rw [nI_1]
        refine wk_goto (t := 28) dX12_shortest_78 rfl ?_
        refine wk_pick [0, 1, 2, 3, 4] (lv' := [_, _, _, _, _]) rfl ?_
        first | exact ih (j + 1) _ _ _ (by omega) hnx.symm _ rfl | exact absurd c65 c52 | exact absurd c52 c65
      · skip
        refine wk_iload (i := 5) (q := 70) dX12_shortest_68 rfl rfl ?_
        refine wk_goto (t := 74) dX12_shortest_70 rfl ?_
        refine wk_istore_n (i := 3) (q := 75) (lv' := [_, _, _, _, _, _]) dX12_shortest_74 rfl rfl rfl rfl ?_
        refine wk_iinc (w := 1) (q := 78) (lv' := [_, _, _, _, _, _]) dX12_shortest_75 rfl rfl rfl rfl rfl ?_
        rw [nI_1]
        refine wk_goto (t := 28) dX12_shortest_78 rfl ?_
        refine wk_pick [0, 1, 2, 3, 4] (lv' := [_, _, _, _, _]) rfl ?_
        first | exact ih (j + 1) _ _ _ (by omega) hnx.symm _ rfl | exact absurd c65 c52 | exact absurd c52 c65
theorem ck_X12_shortest {n : Int32} (hO : okA D A) (h1 : ∀ N j, N ≤ 40 → n = nI N → j < cA A → (shS A N (cA A)).1 = nI j → ∀ B, Q (.int (nI j)) (wr (wr m 76 B) 73 A) L) (h2 : ∀ N, N ≤ 40 → n = nI N → cA A = 0 → ∀ B, Q (.int (-1000000004)) (rfA (wr (wr m 76 B) 73 A) 3) L) (h0 : ¬ (0 ≤ n ∧ n ≤ 40) → Q (.int (-1000000001)) (rfA (wr m 73 A) 0) L) : CK E 8 MX12_shortest [.ref (ev_z E + 72), .int n] (wr m 73 A) L Q := by
  refine CK.of rfl rfl (lv := [(0, _), (1, _)]) rfl ?_
  refine wk_iload_n (i := 1) (q := 1) dX12_shortest_0 rfl rfl rfl ?_
  refine wk_i2l (q := 2) dX12_shortest_1 rfl ?_
  refine wk_lconst (v := 0) (q := 3) dX12_shortest_2 rfl rfl ?_
  refine wk_ldc2 (q := 6) dX12_shortest_3 kX12_178 rfl ?_
  refine wk_S3r (d' := 1) (q := 9) lkX12_46 dX12_shortest_6 rfl rfl rfl rfl ?_
  refine ck_X12_in (lo := 0) (hi := 40) (fun hw => ?_) (fun hw => ?_)
  · skip
    obtain ⟨N, hN1, hN2, rfl⟩ := rng (lo := 0) (hi := 40) (by omega) (by omega) hw
    refine wk_if_ne (t := 19) (q := 12) dX12_shortest_9 rfl rfl (fun _ => ?_) (fun h => absurd h (by decide))
    refine wk_iconst (v := -1) (q := 20) dX12_shortest_19 rfl rfl ?_
    refine wk_istore_n (i := 2) (q := 21) (lv' := [_, _, _]) dX12_shortest_20 rfl rfl rfl rfl ?_
    refine wk_sipush (v := 999) (q := 24) dX12_shortest_21 rfl rfl ?_
    refine wk_istore_n (i := 3) (q := 25) (lv' := [_, _, _, _]) dX12_shortest_24 rfl rfl rfl rfl ?_
    refine wk_iconst (v := 0) (q := 26) dX12_shortest_25 rfl rfl ?_
    refine wk_istore (i := 4) (q := 28) (lv' := [_, _, _, _, _]) dX12_shortest_26 rfl rfl rfl ?_
    have hl := lp_X12_shortest (E := E) (m := m) hO hN2 (fun j => h1 N j hN2 rfl) (h2 N hN2 rfl) (cA A) 0 (m 76) (-1) 999 (by omega) rfl _ rfl
    rw [wr_self] at hl
    exact hl
  · skip
    refine wk_if_ne (t := 19) (q := 12) dX12_shortest_9 rfl rfl (fun h => absurd (by decide) h) (fun _ => ?_)
    refine wk_aload_n (i := 0) (q := 13) dX12_shortest_12 rfl rfl rfl ?_
    refine wk_ldc (q := 15) dX12_shortest_13 kX12_41 rfl ?_
    refine wk_V1r (d' := 1) (q := 18) lkX12_63 dX12_shortest_15 rfl rfl rfl rfl rfl rfl rfl ?_
    refine ck_X12_finds (i := 0) (by decide) (by decide) ?_
    refine wk_ireturn dX12_shortest_18 rfl rfl ?_
    exact h0 hw
end MP
