/-! the class's calls, first part -/
theorem rng {x : Int32} {lo hi : Nat} (hh : hi < 2 ^ 31) (hl : lo ≤ hi) (h : nI lo ≤ x ∧ x ≤ nI hi) : ∃ n, lo ≤ n ∧ n ≤ hi ∧ x = nI n := by
  have h0 : ¬ x < 0 := by
    rw [fa_lt]
    have e : (0 : Int32).toInt = 0 := by decide
    rw [fa_le, nI_toInt (by omega)] at h
    omega
  obtain ⟨n, hn, rfl⟩ := nI_of h0
  exact ⟨n, (nI_leI (by omega) hn).mp h.1, (nI_leI hn (by omega)).mp h.2, rfl⟩
theorem rng' {n lo hi : Nat} (hh : hi < 2 ^ 31) (h1 : lo ≤ n) (h2 : n ≤ hi) : nI lo ≤ nI n ∧ nI n ≤ nI hi := ⟨nI_le h1 (by omega), nI_le h2 hh⟩
theorem nI_inj {a b : Nat} (ha : a < 2 ^ 31) (hb : b < 2 ^ 31) (h : nI a = nI b) : a = b := (nI_eq ha hb).mp h
theorem gput_upd {A : Nat → Int32} {g f : Nat} {x : Int32} (hf : f < 7) : gput A g (upd (gv A g) f x) = upd A (5 + 7 * g + f) x := by
  funext j
  by_cases h : 5 + 7 * g ≤ j ∧ j < 12 + 7 * g
  · obtain ⟨i, hi⟩ : ∃ i, j = 5 + 7 * g + i := ⟨j - (5 + 7 * g), by omega⟩
    subst hi
    rw [gput_s (by omega)]
    by_cases e : i = f
    · subst e
      rw [upd_s, upd_s]
    · rw [upd_n e, upd_n (by omega)]
      rfl
  · rw [gput_n (by omega), upd_n (by omega)]
theorem E7_upd {v w : Nat → Int32} {f : Nat} {x : Int32} (h : E7 v w) : E7 (upd v f x) (upd w f x) := by
  intro j hj
  by_cases e : j = f
  · subst e; rw [upd_s, upd_s]
  · rw [upd_n e, upd_n e]; exact h j hj
theorem hasB_deg {m : Mm} {b : Nat} {A : Nat → Int32} {v : Int32} (h : hasB m b A) : hasB (wr m b (upd (m b) 6 v)) b (upd A 3 v) := by
  obtain ⟨q1, q2, q3, q4, q5, q6, q7⟩ := h
  refine ⟨?_, ?_, ?_, ?_, ?_, fun j hj f hf => ?_, fun j hj f hf => ?_⟩
  · rw [wr_s, upd_n (by decide), upd_n (by decide)]; exact q1
  · rw [wr_s, upd_n (by decide), upd_n (by decide)]; exact q2
  · rw [wr_s, upd_n (by decide), upd_n (by decide)]; exact q3
  · rw [wr_s, upd_s, upd_s]
  · rw [wr_s, upd_n (by decide), upd_n (by decide)]; exact q5
  · rw [wr_n (by omega), upd_n (by omega)]; exact q6 j hj f hf
  · rw [wr_n (by omega), upd_n (by omega)]; exact q7 j hj f hf
theorem hasB_tow {m : Mm} {b : Nat} {A : Nat → Int32} {v : Int32} (h : hasB m b A) : hasB (wr m b (upd (m b) 7 v)) b (upd A 4 v) := by
  obtain ⟨q1, q2, q3, q4, q5, q6, q7⟩ := h
  refine ⟨?_, ?_, ?_, ?_, ?_, fun j hj f hf => ?_, fun j hj f hf => ?_⟩
  · rw [wr_s, upd_n (by decide), upd_n (by decide)]; exact q1
  · rw [wr_s, upd_n (by decide), upd_n (by decide)]; exact q2
  · rw [wr_s, upd_n (by decide), upd_n (by decide)]; exact q3
  · rw [wr_s, upd_n (by decide), upd_n (by decide)]; exact q4
  · rw [wr_s, upd_s, upd_s]
  · rw [wr_n (by omega), upd_n (by omega)]; exact q6 j hj f hf
  · rw [wr_n (by omega), upd_n (by omega)]; exact q7 j hj f hf
theorem frB_b {m : Mm} {b : Nat} {v : Nat → Int32} : frB m (wr m b v) b := fun k hk => wr_n (by omega)
def nowR (A : Nat → Int32) (w : Nat) : Int32 := match w with
  | 0 => A 0
  | 1 => A 3
  | 2 => A 4
  | 3 => bitsS (wetB A) (cA A)
  | 4 => bitsS (holB A) (cA A)
  | _ => anyS A (cA A) (pA A)
def ofR (v : Nat → Int32) (d t : Int32) (w : Nat) : Int32 := match w with
  | 7 => shrF (v 0) d t
  | 8 => felF (v 0) (shrF (v 0) d t)
  | 9 => beaF (v 0) (v 3) (v 6)
  | 10 => keeF (v 0)
  | f => v f
section CM
variable {E : EVt} {m : Mm} {L : Ml} {Q : Value → Mm → Ml → Prop} {a : Mm} {aL : Ml} {D : Nat}
theorem ck_X11_machine {w v : Int32} (hC : CR m L a aL) (h1 : w = 0 → 20 ≤ v ∧ v ≤ 95 → Po m L (wr a 73 (upd (a 73) 3 v)) aL Q (.int (a 73 3))) (h2 : w = 1 → 0 ≤ v ∧ v ≤ 1 → Po m L (wr a 73 (upd (a 73) 4 v)) aL Q (.int (a 73 4))) (h0 : ¬ (w = 0 ∧ 20 ≤ v ∧ v ≤ 95) → ¬ (w = 1 ∧ 0 ≤ v ∧ v ≤ 1) → Po m L (rfA a 0) aL Q (.int (-1000000001))) : CK E 2 MX11_machine [.ref (ev_z E + 0), .int w, .int v] m L Q := by
  have hB := hC.1
  have e3 : m 8 6 = a 73 3 := hB.2.2.2.1
  have e4 : m 8 7 = a 73 4 := hB.2.2.2.2.1
  refine CK.of rfl rfl (lv := [(0, _), (1, _), (2, _)]) rfl ?_
  refine wk_iload_n (i := 1) (q := 1) dX11_machine_0 rfl rfl rfl ?_
  refine wk_if_ne (t := 33) (q := 4) dX11_machine_1 rfl rfl (fun c1 => ?_) (fun c1 => ?_)
  · skip
    refine wk_iload_n (i := 1) (q := 34) dX11_machine_33 rfl rfl rfl ?_
    refine wk_iconst (v := 1) (q := 35) dX11_machine_34 rfl rfl ?_
    refine wk_icmp_ne (t := 65) (q := 38) dX11_machine_35 rfl rfl (fun c35 => ?_) (fun c35 => ?_)
    · skip
      refine wk_aload_n (i := 0) (q := 66) dX11_machine_65 rfl rfl rfl ?_
      refine wk_ldc (q := 68) dX11_machine_66 kX11_72 rfl ?_
      refine wk_V1r (d' := 1) (q := 71) lkX11_73 dX11_machine_68 rfl rfl rfl rfl rfl rfl rfl ?_
      refine ck_X11_refuse (i := 0) (by decide) (by decide) ?_
      refine wk_ireturn dX11_machine_71 rfl rfl ?_
      refine h0 ?_ ?_ _ _ hC.found (FC.rf.wr rfl)
      · (rintro ⟨r1, r2⟩; first | exact c1 r1 | exact absurd r2 ‹¬ (20 ≤ v ∧ v ≤ 95)›)
      · (rintro ⟨r1, r2⟩; first | exact c35 r1 | exact absurd r2 ‹¬ (0 ≤ v ∧ v ≤ 1)›)
    · skip
      refine wk_iload_n (i := 2) (q := 39) dX11_machine_38 rfl rfl rfl ?_
      refine wk_iconst (v := 0) (q := 40) dX11_machine_39 rfl rfl ?_
      refine wk_iconst (v := 1) (q := 41) dX11_machine_40 rfl rfl ?_
      refine wk_S3r (d' := 1) (q := 44) lkX11_61 dX11_machine_41 rfl rfl rfl rfl ?_
      refine ck_X11_within (fun hw => ?_) (fun hw => ?_)
      · skip
        refine wk_if_eq (t := 65) (q := 47) dX11_machine_44 rfl rfl (fun h => absurd h (by decide)) (fun _ => ?_)
        refine wk_aload_n (i := 0) (q := 48) dX11_machine_47 rfl rfl rfl ?_
        refine wk_get (q := 51) fgX11_18 dX11_machine_48 rfl rfl rfl rfl ?_
        refine wk_get (q := 54) fgX11_69 dX11_machine_51 rfl rfl rfl rfl ?_
        refine wk_istore_n (i := 3) (q := 55) (lv' := [_, _, _, _]) dX11_machine_54 rfl rfl rfl rfl ?_
        refine wk_aload_n (i := 0) (q := 56) dX11_machine_55 rfl rfl rfl ?_
        refine wk_get (q := 59) fgX11_18 dX11_machine_56 rfl rfl rfl rfl ?_
        refine wk_iload_n (i := 2) (q := 60) dX11_machine_59 rfl rfl rfl ?_
        refine wk_put (q := 63) fpX11_69 dX11_machine_60 rfl rfl rfl rfl rfl rfl ?_
        refine wk_iload_n (i := 3) (q := 64) dX11_machine_63 rfl rfl rfl ?_
        refine wk_ireturn dX11_machine_64 rfl rfl ?_
        rw [e4]
        exact h2 c35 hw _ _ (hC.b8 (hasB_tow hB) frB_b) (FC.rf.wr rfl)
      · skip
        refine wk_if_eq (t := 65) (q := 47) dX11_machine_44 rfl rfl (fun _ => ?_) (fun h => absurd (by decide) h)
        refine wk_aload_n (i := 0) (q := 66) dX11_machine_65 rfl rfl rfl ?_
        refine wk_ldc (q := 68) dX11_machine_66 kX11_72 rfl ?_
        refine wk_V1r (d' := 1) (q := 71) lkX11_73 dX11_machine_68 rfl rfl rfl rfl rfl rfl rfl ?_
        refine ck_X11_refuse (i := 0) (by decide) (by decide) ?_
        refine wk_ireturn dX11_machine_71 rfl rfl ?_
        refine h0 ?_ ?_ _ _ hC.found (FC.rf.wr rfl)
        · (rintro ⟨r1, r2⟩; first | exact c1 r1 | exact absurd r2 ‹¬ (20 ≤ v ∧ v ≤ 95)›)
        · (rintro ⟨r1, r2⟩; first | exact c35 r1 | exact absurd r2 ‹¬ (0 ≤ v ∧ v ≤ 1)›)
  · skip
    refine wk_iload_n (i := 2) (q := 5) dX11_machine_4 rfl rfl rfl ?_
    refine wk_bipush (v := 20) (q := 7) dX11_machine_5 rfl rfl ?_
    refine wk_bipush (v := 95) (q := 9) dX11_machine_7 rfl rfl ?_
    refine wk_S3r (d' := 1) (q := 12) lkX11_61 dX11_machine_9 rfl rfl rfl rfl ?_
    refine ck_X11_within (fun hw => ?_) (fun hw => ?_)
    · skip
      refine wk_if_eq (t := 33) (q := 15) dX11_machine_12 rfl rfl (fun h => absurd h (by decide)) (fun _ => ?_)
      refine wk_aload_n (i := 0) (q := 16) dX11_machine_15 rfl rfl rfl ?_
      refine wk_get (q := 19) fgX11_18 dX11_machine_16 rfl rfl rfl rfl ?_
      refine wk_get (q := 22) fgX11_65 dX11_machine_19 rfl rfl rfl rfl ?_
      refine wk_istore_n (i := 3) (q := 23) (lv' := [_, _, _, _]) dX11_machine_22 rfl rfl rfl rfl ?_
      refine wk_aload_n (i := 0) (q := 24) dX11_machine_23 rfl rfl rfl ?_
      refine wk_get (q := 27) fgX11_18 dX11_machine_24 rfl rfl rfl rfl ?_
      refine wk_iload_n (i := 2) (q := 28) dX11_machine_27 rfl rfl rfl ?_
      refine wk_put (q := 31) fpX11_65 dX11_machine_28 rfl rfl rfl rfl rfl rfl ?_
      refine wk_iload_n (i := 3) (q := 32) dX11_machine_31 rfl rfl rfl ?_
      refine wk_ireturn dX11_machine_32 rfl rfl ?_
      rw [e3]
      exact h1 c1 hw _ _ (hC.b8 (hasB_deg hB) frB_b) (FC.rf.wr rfl)
    · skip
      refine wk_if_eq (t := 33) (q := 15) dX11_machine_12 rfl rfl (fun _ => ?_) (fun h => absurd (by decide) h)
      refine wk_iload_n (i := 1) (q := 34) dX11_machine_33 rfl rfl rfl ?_
      refine wk_iconst (v := 1) (q := 35) dX11_machine_34 rfl rfl ?_
      refine wk_icmp_ne (t := 65) (q := 38) dX11_machine_35 rfl rfl (fun c35 => ?_) (fun c35 => ?_)
      · skip
        refine wk_aload_n (i := 0) (q := 66) dX11_machine_65 rfl rfl rfl ?_
        refine wk_ldc (q := 68) dX11_machine_66 kX11_72 rfl ?_
        refine wk_V1r (d' := 1) (q := 71) lkX11_73 dX11_machine_68 rfl rfl rfl rfl rfl rfl rfl ?_
        refine ck_X11_refuse (i := 0) (by decide) (by decide) ?_
        refine wk_ireturn dX11_machine_71 rfl rfl ?_
        refine h0 ?_ ?_ _ _ hC.found (FC.rf.wr rfl)
        · (rintro ⟨r1, r2⟩; first | exact c1 r1 | exact absurd r2 ‹¬ (20 ≤ v ∧ v ≤ 95)›)
        · (rintro ⟨r1, r2⟩; first | exact c35 r1 | exact absurd r2 ‹¬ (0 ≤ v ∧ v ≤ 1)›)
      · skip
        refine wk_iload_n (i := 2) (q := 39) dX11_machine_38 rfl rfl rfl ?_
        refine wk_iconst (v := 0) (q := 40) dX11_machine_39 rfl rfl ?_
        refine wk_iconst (v := 1) (q := 41) dX11_machine_40 rfl rfl ?_
        refine wk_S3r (d' := 1) (q := 44) lkX11_61 dX11_machine_41 rfl rfl rfl rfl ?_
        refine ck_X11_within (fun hw => ?_) (fun hw => ?_)
        · skip
          refine wk_if_eq (t := 65) (q := 47) dX11_machine_44 rfl rfl (fun h => absurd h (by decide)) (fun _ => ?_)
          refine wk_aload_n (i := 0) (q := 48) dX11_machine_47 rfl rfl rfl ?_
          refine wk_get (q := 51) fgX11_18 dX11_machine_48 rfl rfl rfl rfl ?_
          refine wk_get (q := 54) fgX11_69 dX11_machine_51 rfl rfl rfl rfl ?_
          refine wk_istore_n (i := 3) (q := 55) (lv' := [_, _, _, _]) dX11_machine_54 rfl rfl rfl rfl ?_
          refine wk_aload_n (i := 0) (q := 56) dX11_machine_55 rfl rfl rfl ?_
          refine wk_get (q := 59) fgX11_18 dX11_machine_56 rfl rfl rfl rfl ?_
          refine wk_iload_n (i := 2) (q := 60) dX11_machine_59 rfl rfl rfl ?_
          refine wk_put (q := 63) fpX11_69 dX11_machine_60 rfl rfl rfl rfl rfl rfl ?_
          refine wk_iload_n (i := 3) (q := 64) dX11_machine_63 rfl rfl rfl ?_
          refine wk_ireturn dX11_machine_64 rfl rfl ?_
          rw [e4]
          exact h2 c35 hw _ _ (hC.b8 (hasB_tow hB) frB_b) (FC.rf.wr rfl)
        · skip
          refine wk_if_eq (t := 65) (q := 47) dX11_machine_44 rfl rfl (fun _ => ?_) (fun h => absurd (by decide) h)
          refine wk_aload_n (i := 0) (q := 66) dX11_machine_65 rfl rfl rfl ?_
          refine wk_ldc (q := 68) dX11_machine_66 kX11_72 rfl ?_
          refine wk_V1r (d' := 1) (q := 71) lkX11_73 dX11_machine_68 rfl rfl rfl rfl rfl rfl rfl ?_
          refine ck_X11_refuse (i := 0) (by decide) (by decide) ?_
          refine wk_ireturn dX11_machine_71 rfl rfl ?_
          refine h0 ?_ ?_ _ _ hC.found (FC.rf.wr rfl)
          · (rintro ⟨r1, r2⟩; first | exact c1 r1 | exact absurd r2 ‹¬ (20 ≤ v ∧ v ≤ 95)›)
          · (rintro ⟨r1, r2⟩; first | exact c35 r1 | exact absurd r2 ‹¬ (0 ≤ v ∧ v ≤ 1)›)
theorem ck_X11_now {w : Int32} (hC : CR m L a aL) (hO : OK D a) (h1 : ∀ n, n ≤ 5 → w = nI n → Q (.int (nowR (a 73) n)) m L) (h0 : (∀ n, n ≤ 5 → ¬ w = nI n) → Po m L (rfA a 0) aL Q (.int (-1000000001))) : CK E 5 MX11_now [.ref (ev_z E + 0), .int w] m L Q := by
  have hB := hC.1
  have hA := hO.1
  refine CK.of rfl rfl (lv := [(0, _), (1, _)]) rfl ?_
  refine wk_iload_n (i := 1) (q := 1) dX11_now_0 rfl rfl rfl ?_
  refine wk_table (cs := [(0, 40), (1, 48), (2, 56), (3, 64), (4, 72), (5, 80)]) (td := 88) dX11_now_1 (by decide +kernel) ?_
  refine And.intro (fun c1_0 => ?_) (fun n1_0 => ?_)
  · skip
    refine wk_aload_n (i := 0) (q := 41) dX11_now_40 rfl rfl rfl ?_
    refine wk_get (q := 44) fgX11_18 dX11_now_41 rfl rfl rfl rfl ?_
    refine wk_get (q := 47) fgX11_77 dX11_now_44 rfl rfl rfl rfl ?_
    refine wk_ireturn dX11_now_47 rfl rfl ?_
    rw [hB.2.2.1]
    exact h1 0 (by decide) c1_0
  refine And.intro (fun c1_1 => ?_) (fun n1_1 => ?_)
  · skip
    refine wk_aload_n (i := 0) (q := 49) dX11_now_48 rfl rfl rfl ?_
    refine wk_get (q := 52) fgX11_18 dX11_now_49 rfl rfl rfl rfl ?_
    refine wk_get (q := 55) fgX11_65 dX11_now_52 rfl rfl rfl rfl ?_
    refine wk_ireturn dX11_now_55 rfl rfl ?_
    rw [hB.2.2.2.1]
    exact h1 1 (by decide) c1_1
  refine And.intro (fun c1_2 => ?_) (fun n1_2 => ?_)
  · skip
    refine wk_aload_n (i := 0) (q := 57) dX11_now_56 rfl rfl rfl ?_
    refine wk_get (q := 60) fgX11_18 dX11_now_57 rfl rfl rfl rfl ?_
    refine wk_get (q := 63) fgX11_69 dX11_now_60 rfl rfl rfl rfl ?_
    refine wk_ireturn dX11_now_63 rfl rfl ?_
    rw [hB.2.2.2.2.1]
    exact h1 2 (by decide) c1_2
  refine And.intro (fun c1_3 => ?_) (fun n1_3 => ?_)
  · skip
    refine wk_aload_n (i := 0) (q := 65) dX11_now_64 rfl rfl rfl ?_
    refine wk_get (q := 68) fgX11_18 dX11_now_65 rfl rfl rfl rfl ?_
    refine wk_V0r (d' := 1) (q := 71) lkX11_80 dX11_now_68 rfl rfl rfl rfl rfl rfl rfl ?_
    refine ck_X0_wetOnes (b := 8) rfl hB hA.1.1 hA.1.2.1 ?_
    refine wk_ireturn dX11_now_71 rfl rfl ?_
    exact h1 3 (by decide) c1_3
  refine And.intro (fun c1_4 => ?_) (fun n1_4 => ?_)
  · skip
    refine wk_aload_n (i := 0) (q := 73) dX11_now_72 rfl rfl rfl ?_
    refine wk_get (q := 76) fgX11_18 dX11_now_73 rfl rfl rfl rfl ?_
    refine wk_V0r (d' := 1) (q := 79) lkX11_84 dX11_now_76 rfl rfl rfl rfl rfl rfl rfl ?_
    refine ck_X0_onesWithHoles (b := 8) rfl hB hA.1.1 hA.1.2.1 ?_
    refine wk_ireturn dX11_now_79 rfl rfl ?_
    exact h1 4 (by decide) c1_4
  refine And.intro (fun c1_5 => ?_) (fun n1_5 => ?_)
  · skip
    refine wk_aload_n (i := 0) (q := 81) dX11_now_80 rfl rfl rfl ?_
    refine wk_get (q := 84) fgX11_18 dX11_now_81 rfl rfl rfl rfl ?_
    refine wk_V0r (d' := 4) (q := 87) lkX11_87 dX11_now_84 rfl rfl rfl rfl rfl rfl rfl ?_
    refine ck_X0_onesForAnybody (b := 8) rfl hB hA rfl rfl ?_
    refine wk_ireturn dX11_now_87 rfl rfl ?_
    exact h1 5 (by decide) c1_5
  refine wk_aload_n (i := 0) (q := 89) dX11_now_88 rfl rfl rfl ?_
  refine wk_ldc (q := 91) dX11_now_89 kX11_72 rfl ?_
  refine wk_V1r (d' := 1) (q := 94) lkX11_73 dX11_now_91 rfl rfl rfl rfl rfl rfl rfl ?_
  refine ck_X11_refuse (i := 0) (by decide) (by decide) ?_
  refine wk_ireturn dX11_now_94 rfl rfl ?_
  refine h0 (fun n hn e => ?_) _ _ hC.found (FC.rf.wr rfl)
  obtain rfl | rfl | rfl | rfl | rfl | rfl : n = 0 ∨ n = 1 ∨ n = 2 ∨ n = 3 ∨ n = 4 ∨ n = 5 := (by omega)
  all_goals first | exact n1_0 e | exact n1_1 e | exact n1_2 e | exact n1_3 e | exact n1_4 e | exact n1_5 e
theorem ck_X11_garment {k : Int32} (hC : CR m L a aL) (hO : OK D a) (h1 : 0 ≤ k ∧ k ≤ 5 → cA (a 73) < 8 → Po m L (wr a 73 (addA (a 73) k)) aL Q (.int (nI (cA (a 73))))) (h2 : 0 ≤ k ∧ k ≤ 5 → cA (a 73) = 8 → Po m L (rfA a 1) aL Q (.int (-1000000002))) (h0 : ¬ (0 ≤ k ∧ k ≤ 5) → Po m L (rfA a 0) aL Q (.int (-1000000001))) : CK E 3 MX11_garment [.ref (ev_z E + 0), .int k] m L Q := by
  have hB := hC.1
  have hA := hO.1
  refine CK.of rfl rfl (lv := [(0, _), (1, _)]) rfl ?_
  refine wk_iload_n (i := 1) (q := 1) dX11_garment_0 rfl rfl rfl ?_
  refine wk_S1r (d' := 2) (q := 4) lkX11_90 dX11_garment_1 rfl rfl rfl rfl ?_
  refine ck_X11_isKind (fun hk => ?_) (fun hk => ?_)
  · skip
    refine wk_if_ne (t := 14) (q := 7) dX11_garment_4 rfl rfl (fun _ => ?_) (fun h => absurd h (by decide))
    refine wk_aload_n (i := 0) (q := 15) dX11_garment_14 rfl rfl rfl ?_
    refine wk_get (q := 18) fgX11_18 dX11_garment_15 rfl rfl rfl rfl ?_
    refine wk_iload_n (i := 1) (q := 19) dX11_garment_18 rfl rfl rfl ?_
    refine wk_V1r (d' := 2) (q := 22) lkX11_94 dX11_garment_19 rfl rfl rfl rfl rfl rfl rfl ?_
    refine ck_X0_addGarment (b := 8) (A := a 73) rfl hk hB hA.1.1 hA.1.2.1 (fun hlt m' hB' hf' => ?_) (fun heq => ?_)
    · skip
      refine wk_astore_n (i := 2) (q := 23) (lv' := [_, _, _]) dX11_garment_22 rfl rfl rfl rfl ?_
      refine wk_aload_n (i := 2) (q := 24) dX11_garment_23 rfl rfl rfl ?_
      refine wk_ifnonnull (t := 36) dX11_garment_24 rfl ?_
      refine wk_aload_n (i := 0) (q := 37) dX11_garment_36 rfl rfl rfl ?_
      refine wk_get (q := 40) fgX11_18 dX11_garment_37 rfl rfl rfl rfl ?_
      refine wk_get (q := 43) fgX11_99 dX11_garment_40 rfl rfl rfl rfl ?_
      refine wk_iconst (v := 1) (q := 44) dX11_garment_43 rfl rfl ?_
      refine wk_isub (q := 45) dX11_garment_44 rfl ?_
      refine wk_ireturn dX11_garment_45 rfl rfl ?_
      first | exact h2 hk heq _ _ hC.found (FC.rf.wr rfl) | (rw [hB'.1, show addA (a 73) k 1 = a 73 1 + 1 from upd_s, hA.1.1, nI_1, nI_pred]; exact h1 hk hlt _ _ (hC.b8 hB' hf') (FC.rf.bk sb_8 hf'))
    · skip
      refine wk_astore_nN (i := 2) (q := 23) (lv' := [_, _, _]) dX11_garment_22 rfl rfl rfl rfl ?_
      refine wk_aload_nN (i := 2) (q := 24) dX11_garment_23 rfl rfl rfl ?_
      refine wk_ifnonnullN (q := 27) dX11_garment_24 rfl ?_
      refine wk_aload_n (i := 0) (q := 28) dX11_garment_27 rfl rfl rfl ?_
      refine wk_ldc (q := 30) dX11_garment_28 kX11_98 rfl ?_
      refine wk_V1r (d' := 1) (q := 33) lkX11_73 dX11_garment_30 rfl rfl rfl rfl rfl rfl rfl ?_
      refine ck_X11_refuse (i := 1) (by decide) (by decide) ?_
      refine wk_goto (t := 45) dX11_garment_33 rfl ?_
      refine wk_ireturn dX11_garment_45 rfl rfl ?_
      first | exact h2 hk heq _ _ hC.found (FC.rf.wr rfl) | (rw [hB'.1, show addA (a 73) k 1 = a 73 1 + 1 from upd_s, hA.1.1, nI_1, nI_pred]; exact h1 hk hlt _ _ (hC.b8 hB' hf') (FC.rf.bk sb_8 hf'))
  · skip
    refine wk_if_ne (t := 14) (q := 7) dX11_garment_4 rfl rfl (fun h => absurd (by decide) h) (fun _ => ?_)
    refine wk_aload_n (i := 0) (q := 8) dX11_garment_7 rfl rfl rfl ?_
    refine wk_ldc (q := 10) dX11_garment_8 kX11_72 rfl ?_
    refine wk_V1r (d' := 1) (q := 13) lkX11_73 dX11_garment_10 rfl rfl rfl rfl rfl rfl rfl ?_
    refine ck_X11_refuse (i := 0) (by decide) (by decide) ?_
    refine wk_ireturn dX11_garment_13 rfl rfl ?_
    exact h0 hk _ _ hC.found (FC.rf.wr rfl)
theorem ck_X11_of {i w : Int32} (hC : CR m L a aL) (hO : OK D a) (h1 : ∀ g n, g < cA (a 73) → n ≤ 10 → i = nI g → w = nI n → Q (.int (ofR (gv (a 73) g) (a 73 3) (a 73 4) n)) m L) (h0 : (∀ g n, g < cA (a 73) → n ≤ 10 → ¬ (i = nI g ∧ w = nI n)) → Po m L (rfA a 0) aL Q (.int (-1000000001))) : CK E 4 MX11_of [.ref (ev_z E + 0), .int i, .int w] m L Q := by
  have hB := hC.1
  have hA := hO.1
  have hc8 := hA.1.2.1
  have e3 : m 8 6 = a 73 3 := hB.2.2.2.1
  have e4 : m 8 7 = a 73 4 := hB.2.2.2.2.1
  have z0 : (0 : Int32).toInt = 0 := by decide
  refine CK.of rfl rfl (lv := [(0, _), (1, _), (2, _)]) rfl ?_
  refine wk_aload_n (i := 0) (q := 1) dX11_of_0 rfl rfl rfl ?_
  refine wk_get (q := 4) fgX11_18 dX11_of_1 rfl rfl rfl rfl ?_
  refine wk_iload_n (i := 1) (q := 5) dX11_of_4 rfl rfl rfl ?_
  refine wk_V1r (d' := 1) (q := 8) lkX11_102 dX11_of_5 rfl rfl rfl rfl rfl rfl rfl ?_
  refine ck_X0_garmentAt (b := 8) (c := cA (a 73)) rfl (hB.1.trans hA.1.1) hc8 (fun n hn e => ?_) (fun hno => ?_)
  · skip
    subst e
    have hE := hB.e7 (g := n) (by omega)
    have ho := hA.1.2.2 n hn
    have hsb := shr_b (c := gv (a 73) n 0) (d := a 73 3) (t := a 73 4) (by have := hA.2.2.2.1; omega) (by have := hA.2.2.2.1; omega)
    refine wk_astore_n (i := 3) (q := 9) (lv' := [_, _, _, _]) dX11_of_8 rfl rfl rfl rfl ?_
    refine wk_aload_n (i := 3) (q := 10) dX11_of_9 rfl rfl rfl ?_
    refine wk_ifnonnull (t := 20) dX11_of_10 rfl ?_
    refine wk_aload_n (i := 3) (q := 21) dX11_of_20 rfl rfl rfl ?_
    refine wk_get (q := 24) fgX11_105 dX11_of_21 (sh_g sb_8 (by omega)) rfl rfl rfl ?_
    refine wk_aload_n (i := 0) (q := 25) dX11_of_24 rfl rfl rfl ?_
    refine wk_get (q := 28) fgX11_18 dX11_of_25 rfl rfl rfl rfl ?_
    refine wk_get (q := 31) fgX11_65 dX11_of_28 rfl rfl rfl rfl ?_
    refine wk_aload_n (i := 0) (q := 32) dX11_of_31 rfl rfl rfl ?_
    refine wk_get (q := 35) fgX11_18 dX11_of_32 rfl rfl rfl rfl ?_
    refine wk_get (q := 38) fgX11_69 dX11_of_35 rfl rfl rfl rfl ?_
    refine wk_kshr lkX11_109_1 lkX11_109_3 lkX11_109_4 lkX11_109_7 lkX11_109_8 lkX11_109_10  dX11_of_38 rfl rfl (q := 41) rfl ?_
    rw [e3, e4, hE 0 (by decide)]
    refine wk_istore (i := 4) (q := 43) (lv' := [_, _, _, _, _]) dX11_of_41 rfl rfl rfl ?_
    refine wk_iload_n (i := 2) (q := 44) dX11_of_43 rfl rfl rfl ?_
    refine wk_table (cs := [(0, 104), (1, 112), (2, 117), (3, 122), (4, 127), (5, 132), (6, 137), (7, 142), (8, 145), (9, 155), (10, 171)]) (td := 179) dX11_of_44 (by decide +kernel) ?_
    refine And.intro (fun c44_0 => ?_) (fun n44_0 => ?_)
    · skip
      simp only [hE 0 (by decide)]
      refine wk_aload_n (i := 3) (q := 105) dX11_of_104 rfl rfl rfl ?_
      refine wk_get (q := 108) fgX11_105 dX11_of_105 (sh_g sb_8 (by omega)) rfl rfl rfl ?_
      rw [hE 0 (by decide)]
      refine wk_gnum (q := 111) fgX11_113_1 fgX11_113_3 fgX11_113_4 fgX11_113_7 fgX11_113_8 fgX11_113_10 ho.1 dX11_of_108 rfl ?_
      refine wk_ireturn dX11_of_111 rfl rfl ?_
      exact h1 n 0 hn (by decide) rfl c44_0
    refine And.intro (fun c44_1 => ?_) (fun n44_1 => ?_)
    · skip
      refine wk_aload_n (i := 3) (q := 113) dX11_of_112 rfl rfl rfl ?_
      refine wk_get (q := 116) fgX11_116 dX11_of_113 (sh_g sb_8 (by omega)) rfl rfl rfl ?_
      refine wk_ireturn dX11_of_116 rfl rfl ?_
      rw [hE 1 (by decide)]
      exact h1 n 1 hn (by decide) rfl c44_1
    refine And.intro (fun c44_2 => ?_) (fun n44_2 => ?_)
    · skip
      refine wk_aload_n (i := 3) (q := 118) dX11_of_117 rfl rfl rfl ?_
      refine wk_get (q := 121) fgX11_119 dX11_of_118 (sh_g sb_8 (by omega)) rfl rfl rfl ?_
      refine wk_ireturn dX11_of_121 rfl rfl ?_
      rw [hE 2 (by decide)]
      exact h1 n 2 hn (by decide) rfl c44_2
    refine And.intro (fun c44_3 => ?_) (fun n44_3 => ?_)
    · skip
      refine wk_aload_n (i := 3) (q := 123) dX11_of_122 rfl rfl rfl ?_
      refine wk_get (q := 126) fgX11_122 dX11_of_123 (sh_g sb_8 (by omega)) rfl rfl rfl ?_
      refine wk_ireturn dX11_of_126 rfl rfl ?_
      rw [hE 3 (by decide)]
      exact h1 n 3 hn (by decide) rfl c44_3
    refine And.intro (fun c44_4 => ?_) (fun n44_4 => ?_)
    · skip
      refine wk_aload_n (i := 3) (q := 128) dX11_of_127 rfl rfl rfl ?_
      refine wk_get (q := 131) fgX11_125 dX11_of_128 (sh_g sb_8 (by omega)) rfl rfl rfl ?_
      refine wk_ireturn dX11_of_131 rfl rfl ?_
      rw [hE 4 (by decide)]
      exact h1 n 4 hn (by decide) rfl c44_4
    refine And.intro (fun c44_5 => ?_) (fun n44_5 => ?_)
    · skip
      refine wk_aload_n (i := 3) (q := 133) dX11_of_132 rfl rfl rfl ?_
      refine wk_get (q := 136) fgX11_128 dX11_of_133 (sh_g sb_8 (by omega)) rfl rfl rfl ?_
      refine wk_ireturn dX11_of_136 rfl rfl ?_
      rw [hE 5 (by decide)]
      exact h1 n 5 hn (by decide) rfl c44_5
    refine And.intro (fun c44_6 => ?_) (fun n44_6 => ?_)
    · skip
      refine wk_aload_n (i := 3) (q := 138) dX11_of_137 rfl rfl rfl ?_
      refine wk_get (q := 141) fgX11_131 dX11_of_138 (sh_g sb_8 (by omega)) rfl rfl rfl ?_
      refine wk_ireturn dX11_of_141 rfl rfl ?_
      rw [hE 6 (by decide)]
      exact h1 n 6 hn (by decide) rfl c44_6
    refine And.intro (fun c44_7 => ?_) (fun n44_7 => ?_)
    · skip
      refine wk_iload (i := 4) (q := 144) dX11_of_142 rfl rfl ?_
      refine wk_ireturn dX11_of_144 rfl rfl ?_
      exact h1 n 7 hn (by decide) rfl c44_7
    refine And.intro (fun c44_8 => ?_) (fun n44_8 => ?_)
    · skip
      skip
      refine wk_aload_n (i := 3) (q := 146) dX11_of_145 rfl rfl rfl ?_
      refine wk_get (q := 149) fgX11_105 dX11_of_146 (sh_g sb_8 (by omega)) rfl rfl rfl ?_
      refine wk_iload (i := 4) (q := 151) dX11_of_149 rfl rfl ?_
      rw [hE 0 (by decide)]
      refine wk_kfel lkX11_134_1 lkX11_134_3 lkX11_134_4 lkX11_134_7 lkX11_134_8 lkX11_134_10 (by rw [fa_le, z0]; exact hsb.1) dX11_of_151 rfl rfl (q := 154) rfl ?_
      refine wk_ireturn dX11_of_154 rfl rfl ?_
      exact h1 n 8 hn (by decide) rfl c44_8
    refine And.intro (fun c44_9 => ?_) (fun n44_9 => ?_)
    · skip
      refine wk_aload_n (i := 3) (q := 156) dX11_of_155 rfl rfl rfl ?_
      refine wk_get (q := 159) fgX11_105 dX11_of_156 (sh_g sb_8 (by omega)) rfl rfl rfl ?_
      refine wk_aload_n (i := 3) (q := 160) dX11_of_159 rfl rfl rfl ?_
      refine wk_get (q := 163) fgX11_122 dX11_of_160 (sh_g sb_8 (by omega)) rfl rfl rfl ?_
      refine wk_aload_n (i := 3) (q := 164) dX11_of_163 rfl rfl rfl ?_
      refine wk_get (q := 167) fgX11_131 dX11_of_164 (sh_g sb_8 (by omega)) rfl rfl rfl ?_
      rw [hE 0 (by decide), hE 3 (by decide), hE 6 (by decide)]
      refine wk_kbea lkX11_137_1 lkX11_137_3 lkX11_137_4 lkX11_137_7 lkX11_137_8 lkX11_137_10  dX11_of_167 rfl rfl (q := 170) rfl ?_
      refine wk_ireturn dX11_of_170 rfl rfl ?_
      exact h1 n 9 hn (by decide) rfl c44_9
    refine And.intro (fun c44_10 => ?_) (fun n44_10 => ?_)
    · skip
      refine wk_aload_n (i := 3) (q := 172) dX11_of_171 rfl rfl rfl ?_
      refine wk_get (q := 175) fgX11_105 dX11_of_172 (sh_g sb_8 (by omega)) rfl rfl rfl ?_
      rw [hE 0 (by decide)]
      refine wk_kkee lkX11_140_1 lkX11_140_3 lkX11_140_4 lkX11_140_7 lkX11_140_8 lkX11_140_10  dX11_of_175 rfl rfl (q := 178) rfl ?_
      refine wk_ireturn dX11_of_178 rfl rfl ?_
      exact h1 n 10 hn (by decide) rfl c44_10
    refine wk_aload_n (i := 0) (q := 180) dX11_of_179 rfl rfl rfl ?_
    refine wk_ldc (q := 182) dX11_of_180 kX11_72 rfl ?_
    refine wk_V1r (d' := 1) (q := 185) lkX11_73 dX11_of_182 rfl rfl rfl rfl rfl rfl rfl ?_
    refine ck_X11_refuse (i := 0) (by decide) (by decide) ?_
    refine wk_ireturn dX11_of_185 rfl rfl ?_
    refine h0 (fun g k hg hk h => ?_) _ _ hC.found (FC.rf.wr rfl)
    have h2 := h.2
    obtain rfl | rfl | rfl | rfl | rfl | rfl | rfl | rfl | rfl | rfl | rfl : k = 0 ∨ k = 1 ∨ k = 2 ∨ k = 3 ∨ k = 4 ∨ k = 5 ∨ k = 6 ∨ k = 7 ∨ k = 8 ∨ k = 9 ∨ k = 10 := (by omega)
    all_goals first | exact n44_0 h2 | exact n44_1 h2 | exact n44_2 h2 | exact n44_3 h2 | exact n44_4 h2 | exact n44_5 h2 | exact n44_6 h2 | exact n44_7 h2 | exact n44_8 h2 | exact n44_9 h2 | exact n44_10 h2
  · skip
    refine wk_astore_nN (i := 3) (q := 9) (lv' := [_, _, _, _]) dX11_of_8 rfl rfl rfl rfl ?_
    refine wk_aload_nN (i := 3) (q := 10) dX11_of_9 rfl rfl rfl ?_
    refine wk_ifnonnullN (q := 13) dX11_of_10 rfl ?_
    refine wk_aload_n (i := 0) (q := 14) dX11_of_13 rfl rfl rfl ?_
    refine wk_ldc (q := 16) dX11_of_14 kX11_72 rfl ?_
    refine wk_V1r (d' := 1) (q := 19) lkX11_73 dX11_of_16 rfl rfl rfl rfl rfl rfl rfl ?_
    refine ck_X11_refuse (i := 0) (by decide) (by decide) ?_
    refine wk_ireturn dX11_of_19 rfl rfl ?_
    refine h0 (fun g n hg _ h => hno g hg h.1) _ _ hC.found (FC.rf.wr rfl)
theorem ck_X11_wash {i : Int32} (hC : CR m L a aL) (hO : OK D a) (h1 : ∀ g, g < cA (a 73) → i = nI g → Po m L (wr a 73 (gput (a 73) g (wshG (a 73 3) (a 73 4) (gv (a 73) g)))) aL Q (.int (wshG (a 73 3) (a 73 4) (gv (a 73) g) 1))) (h0 : (∀ g, g < cA (a 73) → ¬ i = nI g) → Po m L (rfA a 0) aL Q (.int (-1000000001))) : CK E 4 MX11_wash [.ref (ev_z E + 0), .int i] m L Q := by
  have hB := hC.1
  have hA := hO.1
  have hc8 := hA.1.2.1
  have e3 : m 8 6 = a 73 3 := hB.2.2.2.1
  have e4 : m 8 7 = a 73 4 := hB.2.2.2.2.1
  have hdg := hA.2.2.2.1
  refine CK.of rfl rfl (lv := [(0, _), (1, _)]) rfl ?_
  refine wk_aload_n (i := 0) (q := 1) dX11_wash_0 rfl rfl rfl ?_
  refine wk_get (q := 4) fgX11_18 dX11_wash_1 rfl rfl rfl rfl ?_
  refine wk_iload_n (i := 1) (q := 5) dX11_wash_4 rfl rfl rfl ?_
  refine wk_V1r (d' := 1) (q := 8) lkX11_102 dX11_wash_5 rfl rfl rfl rfl rfl rfl rfl ?_
  refine ck_X0_garmentAt (b := 8) (c := cA (a 73)) rfl (hB.1.trans hA.1.1) hc8 (fun n hn e => ?_) (fun hno => ?_)
  · skip
    subst e
    have hE := hB.e7 (g := n) (by omega)
    have ho := hA.1.2.2 n hn
    refine wk_astore_n (i := 2) (q := 9) (lv' := [_, _, _]) dX11_wash_8 rfl rfl rfl rfl ?_
    refine wk_aload_n (i := 2) (q := 10) dX11_wash_9 rfl rfl rfl ?_
    refine wk_ifnonnull (t := 20) dX11_wash_10 rfl ?_
    refine wk_aload_n (i := 2) (q := 21) dX11_wash_20 rfl rfl rfl ?_
    refine wk_aload_n (i := 0) (q := 22) dX11_wash_21 rfl rfl rfl ?_
    refine wk_get (q := 25) fgX11_18 dX11_wash_22 rfl rfl rfl rfl ?_
    refine wk_get (q := 28) fgX11_65 dX11_wash_25 rfl rfl rfl rfl ?_
    refine wk_aload_n (i := 0) (q := 29) dX11_wash_28 rfl rfl rfl ?_
    refine wk_get (q := 32) fgX11_18 dX11_wash_29 rfl rfl rfl rfl ?_
    refine wk_get (q := 35) fgX11_69 dX11_wash_32 rfl rfl rfl rfl ?_
    rw [e3, e4]
    refine wk_V2v (d' := 3) (q := 38) lkX11_147 dX11_wash_35 (sh_g sb_8 (by omega)) rfl rfl rfl rfl rfl rfl ?_
    refine ck_X2_goThroughWash (sh_g sb_8 (by omega)) (hE.ok ho) (by omega) (by omega) ?_
    refine wk_aload_n (i := 2) (q := 39) dX11_wash_38 rfl rfl rfl ?_
    refine wk_get (q := 42) fgX11_116 dX11_wash_39 (sh_g sb_8 (by omega)) rfl rfl rfl ?_
    refine wk_ireturn dX11_wash_42 rfl rfl ?_
    rw [wr_s, hE.wsh 1 (by decide)]
    exact h1 n hn rfl _ _ (hC.b8 (hB.row (by omega) hE.wsh) (frB_row (by omega))) (FC.rf.bk sb_8 (frB_row (by omega)))
  · skip
    refine wk_astore_nN (i := 2) (q := 9) (lv' := [_, _, _]) dX11_wash_8 rfl rfl rfl rfl ?_
    refine wk_aload_nN (i := 2) (q := 10) dX11_wash_9 rfl rfl rfl ?_
    refine wk_ifnonnullN (q := 13) dX11_wash_10 rfl ?_
    refine wk_aload_n (i := 0) (q := 14) dX11_wash_13 rfl rfl rfl ?_
    refine wk_ldc (q := 16) dX11_wash_14 kX11_72 rfl ?_
    refine wk_V1r (d' := 1) (q := 19) lkX11_73 dX11_wash_16 rfl rfl rfl rfl rfl rfl rfl ?_
    refine ck_X11_refuse (i := 0) (by decide) (by decide) ?_
    refine wk_ireturn dX11_wash_19 rfl rfl ?_
    exact h0 hno _ _ hC.found (FC.rf.wr rfl)
end CM
