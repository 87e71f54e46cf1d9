/-! the reference's garments: washing, drawing, drying; what is laid aside and taken back -/
theorem shrF_1 {d t : Int32} : shrF 1 d t = woolF d := rfl
theorem shrF_2 {d t : Int32} : shrF 2 d t = d / 20 := rfl
theorem shrF_3 {d t : Int32} : shrF 3 d t = (if 60 < d then 50 else 0) := rfl
theorem shrF_4 {d t : Int32} : shrF 4 d t = (if t = 1 then 2 * woolF d else woolF d) := rfl
theorem shrF_5 {d t : Int32} : shrF 5 d t = (if 60 ≤ d then d / 20 + 1 else d / 20) := rfl
theorem shrF_o {c d t : Int32} (e1 : ¬ c = 1) (e2 : ¬ c = 2) (e3 : ¬ c = 3) (e4 : ¬ c = 4) (e5 : ¬ c = 5) : shrF c d t = 0 := by
  unfold shrF
  rw [if_neg e1, if_neg e2, if_neg e3, if_neg e4, if_neg e5]
theorem felF_1 {s : Int32} : felF 1 s = s / 3 := rfl
theorem felF_2 {s : Int32} : felF 2 s = 0 := rfl
theorem felF_3 {s : Int32} : felF 3 s = 0 := rfl
theorem felF_4 {s : Int32} : felF 4 s = (if 0 < s then s / 3 + 1 else 0) := rfl
theorem felF_5 {s : Int32} : felF 5 s = 2 := rfl
theorem felF_o {c s : Int32} (e1 : ¬ c = 1) (e4 : ¬ c = 4) (e5 : ¬ c = 5) : felF c s = 0 := by
  unfold felF
  rw [if_neg e1, if_neg e4, if_neg e5]
theorem beaF_1 {t h : Int32} : beaF 1 t h = 10 + t / 4 := rfl
theorem beaF_2 {t h : Int32} : beaF 2 t h = 5 := rfl
theorem beaF_3 {t h : Int32} : beaF 3 t h = 3 := rfl
theorem beaF_4 {t h : Int32} : beaF 4 t h = 2 * (10 + t / 4) := rfl
theorem beaF_5 {t h : Int32} : beaF 5 t h = 5 + h := rfl
theorem beaF_o {c t h : Int32} (e1 : ¬ c = 1) (e2 : ¬ c = 2) (e3 : ¬ c = 3) (e4 : ¬ c = 4) (e5 : ¬ c = 5) : beaF c t h = 10 := by
  unfold beaF
  rw [if_neg e1, if_neg e2, if_neg e3, if_neg e4, if_neg e5]
theorem keeF_2 : keeF 2 = 20 := rfl
theorem keeF_3 : keeF 3 = 100 := rfl
theorem keeF_4 : keeF 4 = 40 := rfl
theorem keeF_5 : keeF 5 = 20 := rfl
theorem keeF_o {c : Int32} (e2 : ¬ c = 2) (e3 : ¬ c = 3) (e4 : ¬ c = 4) (e5 : ¬ c = 5) : keeF c = 50 := by
  unfold keeF
  rw [if_neg e2, if_neg e5, if_neg e3, if_neg e4]
def eq73 (A B : Nat → Int32) : Prop := ∀ j, j < 73 → A j = B j
def cp73 (A B : Nat → Int32) (n : Nat) : Nat → Int32 := fun j => if j < n then A j else B j
theorem cp73_s {A B : Nat → Int32} {n : Nat} : upd (cp73 A B n) n (A n) = cp73 A B (n + 1) := by
  funext j
  unfold upd cp73
  by_cases e : j = n
  · rw [if_pos e, if_pos (by omega), e]
  · rw [if_neg e]
    by_cases e2 : j < n
    · rw [if_pos e2, if_pos (by omega)]
    · rw [if_neg e2, if_neg (by omega)]
theorem cp73_0 {A B : Nat → Int32} : cp73 A B 0 = B := by
  funext j
  unfold cp73
  rw [if_neg (by omega)]
/-- the row after k days and j garments more -/
def dyR (A : Nat → Int32) (c k j : Nat) : Nat → Int32 := fun i => if i = 0 then A 0 + nI k else if 5 ≤ i ∧ i < 5 + 7 * c then dryN (gv A ((i - 5) / 7)) (if (i - 5) / 7 < j then k + 1 else k) ((i - 5) % 7) else A i
theorem dyR_g {A : Nat → Int32} {c k j g f : Nat} (hg : g < c) (hf : f < 7) : dyR A c k j (5 + 7 * g + f) = dryN (gv A g) (if g < j then k + 1 else k) f := by
  unfold dyR
  rw [if_neg (by omega), if_pos (by omega), show (5 + 7 * g + f - 5) / 7 = g by omega, show (5 + 7 * g + f - 5) % 7 = f by omega]
theorem dyR_n {A : Nat → Int32} {c k j i : Nat} (h0 : i ≠ 0) (h : i < 5 ∨ 5 + 7 * c ≤ i) : dyR A c k j i = A i := by
  unfold dyR
  rw [if_neg h0, if_neg (by omega)]
theorem dyR_0 {A : Nat → Int32} {c k j : Nat} : dyR A c k j 0 = A 0 + nI k := if_pos rfl
theorem dyR_i {A : Nat → Int32} {c k j i : Nat} (h0 : i ≠ 0) (h : 5 ≤ i ∧ i < 5 + 7 * c) : ∃ g f, g < c ∧ f < 7 ∧ i = 5 + 7 * g + f := ⟨(i - 5) / 7, (i - 5) % 7, by omega, by omega, by omega⟩
theorem dyR_step {A : Nat → Int32} {c k j : Nat} (hj : j < c) : gput (dyR A c k j) j (dryG (gv (dyR A c k j) j)) = dyR A c k (j + 1) := by
  have hE : E7 (gv (dyR A c k j) j) (dryN (gv A j) k) := fun f hf => by
    show dyR A c k j (5 + 7 * j + f) = _
    rw [dyR_g hj hf, if_neg (Nat.lt_irrefl j)]
  funext i
  by_cases h : 5 + 7 * j ≤ i ∧ i < 12 + 7 * j
  · obtain ⟨f, hf⟩ : ∃ f, i = 5 + 7 * j + f := ⟨i - (5 + 7 * j), by omega⟩
    subst hf
    rw [gput_s (by omega), dyR_g hj (by omega), if_pos (Nat.lt_succ_self j)]
    exact hE.dry f (by omega)
  · rw [gput_n (by omega)]
    by_cases e0 : i = 0
    · subst e0; rw [dyR_0, dyR_0]
    · by_cases hr : 5 ≤ i ∧ i < 5 + 7 * c
      · obtain ⟨g, f, hg, hf, rfl⟩ := dyR_i (A := A) (k := k) (j := j) e0 hr
        rw [dyR_g hg hf, dyR_g hg hf]
        by_cases e : g < j
        · rw [if_pos e, if_pos (by omega)]
        · rw [if_neg e, if_neg (by omega)]
      · rw [dyR_n e0 (by omega), dyR_n e0 (by omega)]
theorem dyR_skip {A : Nat → Int32} {c k j : Nat} (hj : j < c) (hw : ¬ 0 < dyR A c k j (5 + 7 * j + 4)) : dyR A c k j = dyR A c k (j + 1) := by
  rw [← dyR_step hj]
  have : dryG (gv (dyR A c k j) j) = gv (dyR A c k j) j := by
    unfold dryG
    rw [if_neg (show ¬ 0 < gv (dyR A c k j) j 4 from hw)]
  rw [this, gput_gv]
theorem dyR_day {A : Nat → Int32} {c k : Nat} : upd (dyR A c k c) 0 (dyR A c k c 0 + 1) = dyR A c (k + 1) 0 := by
  funext i
  by_cases e0 : i = 0
  · subst e0
    rw [upd_s, dyR_0, dyR_0, nI_succ, Int32.add_assoc]
  · rw [upd_n e0]
    by_cases hr : 5 ≤ i ∧ i < 5 + 7 * c
    · obtain ⟨g, f, hg, hf, rfl⟩ := dyR_i (A := A) (k := k) (j := c) e0 hr
      rw [dyR_g hg hf, dyR_g hg hf, if_pos hg, if_neg (by omega)]
    · rw [dyR_n e0 (by omega), dyR_n e0 (by omega)]
theorem dyR_00 {A : Nat → Int32} {c : Nat} : dyR A c 0 0 = A := by
  funext i
  by_cases e0 : i = 0
  · subst e0
    rw [dyR_0, show nI 0 = 0 from rfl, Int32.add_zero]
  · by_cases hr : 5 ≤ i ∧ i < 5 + 7 * c
    · obtain ⟨g, f, hg, hf, rfl⟩ := dyR_i (A := A) (k := 0) (j := 0) e0 hr
      rw [dyR_g hg hf, if_neg (by omega)]
      rfl
    · rw [dyR_n e0 (by omega)]
theorem dyR_dayA {A : Nat → Int32} {N : Nat} : dyR A (cA A) N 0 = dayA A N := by
  funext i
  unfold dayA
  by_cases e0 : i = 0
  · subst e0
    rw [dyR_0, upd_s]
  · rw [upd_n e0]
    by_cases hr : 5 ≤ i ∧ i < 5 + 7 * cA A
    · obtain ⟨g, f, hg, hf, rfl⟩ := dyR_i (A := A) (k := N) (j := 0) e0 hr
      rw [dyR_g hg hf, if_neg (by omega), gmapA_s hg hf]
    · rw [dyR_n e0 (by omega), gmapA_n (by omega)]
section MG
variable {E : EVt} {m : Mm} {L : Ml} {Q : Value → Mm → Ml → Prop} {A : Nat → Int32} {g : Nat}
theorem ck_X12_shrinksOf (hg : g < 8) (hQ : Q (.int (shrF (A (5 + 7 * g + 0)) (A 3) (A 4))) (wr m 73 A) L) : CK E 3 MX12_shrinksOf [.ref (ev_z E + 72), .int (nI g)] (wr m 73 A) L Q := by
  refine CK.of rfl rfl (lv := [(0, _), (1, _)]) rfl ?_
  refine wk_aload_n (i := 0) (q := 1) dX12_shrinksOf_0 rfl rfl rfl ?_
  refine wk_get (q := 4) fgX12_7 dX12_shrinksOf_1 rfl rfl rfl rfl ?_
  refine wk_iconst (v := 3) (q := 5) dX12_shrinksOf_4 rfl rfl ?_
  refine wk_sld (n := 3) (q := 6) dX12_shrinksOf_5 rfl (by decide) rfl ?_
  refine wk_istore_n (i := 2) (q := 7) (lv' := [_, _, _]) dX12_shrinksOf_6 rfl rfl rfl rfl ?_
  refine wk_iload_n (i := 2) (q := 8) dX12_shrinksOf_7 rfl rfl rfl ?_
  refine wk_bipush (v := 40) (q := 10) dX12_shrinksOf_8 rfl rfl ?_
  refine wk_icmp_le (t := 22) (q := 13) dX12_shrinksOf_10 rfl rfl (fun c10 => ?_) (fun c10 => ?_)
  · skip
    have hw : woolF (A 3) = 0 := by (unfold woolF; rw [if_neg (by rw [fa_lt]; rw [fa_le] at c10; omega)])
    refine wk_iconst (v := 0) (q := 23) dX12_shrinksOf_22 rfl rfl ?_
    refine wk_istore_n (i := 3) (q := 24) (lv' := [_, _, _, _]) dX12_shrinksOf_23 rfl rfl rfl rfl ?_
    refine wk_aload_n (i := 0) (q := 25) dX12_shrinksOf_24 rfl rfl rfl ?_
    refine wk_iload_n (i := 1) (q := 26) dX12_shrinksOf_25 rfl rfl rfl ?_
    refine wk_iconst (v := 0) (q := 27) dX12_shrinksOf_26 rfl rfl ?_
    refine wk_V2r (d' := 2) (q := 30) lkX12_67 dX12_shrinksOf_27 rfl rfl rfl rfl rfl rfl rfl ?_
    refine ck_X12_its (g := g) (w := 0) (by omega) (by omega) ?_
    refine wk_table (cs := [(1, 64), (2, 66), (3, 71), (4, 84), (5, 102)]) (td := 122) dX12_shrinksOf_30 (by decide +kernel) ?_
    refine And.intro (fun c30_0 => ?_) (fun n30_0 => ?_)
    · skip
      rw [c30_0, shrF_1, hw] at hQ
      refine wk_iload_n (i := 3) (q := 65) dX12_shrinksOf_64 rfl rfl rfl ?_
      refine wk_ireturn dX12_shrinksOf_65 rfl rfl ?_
      exact hQ
    refine And.intro (fun c30_1 => ?_) (fun n30_1 => ?_)
    · skip
      rw [c30_1, shrF_2] at hQ
      refine wk_iload_n (i := 2) (q := 67) dX12_shrinksOf_66 rfl rfl rfl ?_
      refine wk_bipush (v := 20) (q := 69) dX12_shrinksOf_67 rfl rfl ?_
      refine wk_idiv (q := 70) dX12_shrinksOf_69 (by decide) rfl ?_
      refine wk_ireturn dX12_shrinksOf_70 rfl rfl ?_
      exact hQ
    refine And.intro (fun c30_2 => ?_) (fun n30_2 => ?_)
    · skip
      rw [c30_2, shrF_3] at hQ
      refine wk_iload_n (i := 2) (q := 72) dX12_shrinksOf_71 rfl rfl rfl ?_
      refine wk_bipush (v := 60) (q := 74) dX12_shrinksOf_72 rfl rfl ?_
      refine wk_icmp_le (t := 82) (q := 77) dX12_shrinksOf_74 rfl rfl (fun c74 => ?_) (fun c74 => ?_)
      · skip
        rw [if_neg (by rw [fa_lt]; rw [fa_le] at c74; omega)] at hQ
        refine wk_iconst (v := 0) (q := 83) dX12_shrinksOf_82 rfl rfl ?_
        refine wk_ireturn dX12_shrinksOf_83 rfl rfl ?_
        exact hQ
      · skip
        rw [if_pos (by rw [fa_lt]; rw [fa_le] at c74; omega)] at hQ
        refine wk_bipush (v := 50) (q := 79) dX12_shrinksOf_77 rfl rfl ?_
        refine wk_goto (t := 83) dX12_shrinksOf_79 rfl ?_
        refine wk_ireturn dX12_shrinksOf_83 rfl rfl ?_
        exact hQ
    refine And.intro (fun c30_3 => ?_) (fun n30_3 => ?_)
    · skip
      rw [c30_3, shrF_4, hw] at hQ
      refine wk_aload_n (i := 0) (q := 85) dX12_shrinksOf_84 rfl rfl rfl ?_
      refine wk_get (q := 88) fgX12_7 dX12_shrinksOf_85 rfl rfl rfl rfl ?_
      refine wk_iconst (v := 4) (q := 89) dX12_shrinksOf_88 rfl rfl ?_
      refine wk_sld (n := 4) (q := 90) dX12_shrinksOf_89 rfl (by decide) rfl ?_
      refine wk_iconst (v := 1) (q := 91) dX12_shrinksOf_90 rfl rfl ?_
      refine wk_icmp_ne (t := 100) (q := 94) dX12_shrinksOf_91 rfl rfl (fun c91 => ?_) (fun c91 => ?_)
      · skip
        rw [if_neg c91] at hQ
        refine wk_iload_n (i := 3) (q := 101) dX12_shrinksOf_100 rfl rfl rfl ?_
        refine wk_ireturn dX12_shrinksOf_101 rfl rfl ?_
        exact hQ
      · skip
        rw [if_pos c91] at hQ
        refine wk_iconst (v := 2) (q := 95) dX12_shrinksOf_94 rfl rfl ?_
        refine wk_iload_n (i := 3) (q := 96) dX12_shrinksOf_95 rfl rfl rfl ?_
        refine wk_imul (q := 97) dX12_shrinksOf_96 rfl ?_
        refine wk_goto (t := 101) dX12_shrinksOf_97 rfl ?_
        refine wk_ireturn dX12_shrinksOf_101 rfl rfl ?_
        exact hQ
    refine And.intro (fun c30_4 => ?_) (fun n30_4 => ?_)
    · skip
      rw [c30_4, shrF_5] at hQ
      refine wk_iload_n (i := 2) (q := 103) dX12_shrinksOf_102 rfl rfl rfl ?_
      refine wk_bipush (v := 60) (q := 105) dX12_shrinksOf_103 rfl rfl ?_
      refine wk_icmp_lt (t := 117) (q := 108) dX12_shrinksOf_105 rfl rfl (fun c105 => ?_) (fun c105 => ?_)
      · skip
        rw [if_neg (by rw [fa_le]; rw [fa_lt] at c105; omega)] at hQ
        refine wk_iload_n (i := 2) (q := 118) dX12_shrinksOf_117 rfl rfl rfl ?_
        refine wk_bipush (v := 20) (q := 120) dX12_shrinksOf_118 rfl rfl ?_
        refine wk_idiv (q := 121) dX12_shrinksOf_120 (by decide) rfl ?_
        refine wk_ireturn dX12_shrinksOf_121 rfl rfl ?_
        exact hQ
      · skip
        rw [if_pos (by rw [fa_le]; rw [fa_lt] at c105; omega)] at hQ
        refine wk_iload_n (i := 2) (q := 109) dX12_shrinksOf_108 rfl rfl rfl ?_
        refine wk_bipush (v := 20) (q := 111) dX12_shrinksOf_109 rfl rfl ?_
        refine wk_idiv (q := 112) dX12_shrinksOf_111 (by decide) rfl ?_
        refine wk_iconst (v := 1) (q := 113) dX12_shrinksOf_112 rfl rfl ?_
        refine wk_iadd (q := 114) dX12_shrinksOf_113 rfl ?_
        refine wk_goto (t := 121) dX12_shrinksOf_114 rfl ?_
        refine wk_ireturn dX12_shrinksOf_121 rfl rfl ?_
        exact hQ
    rw [shrF_o n30_0 n30_1 n30_2 n30_3 n30_4] at hQ
    refine wk_iconst (v := 0) (q := 123) dX12_shrinksOf_122 rfl rfl ?_
    refine wk_ireturn dX12_shrinksOf_123 rfl rfl ?_
    exact hQ
  · skip
    have hw : woolF (A 3) = (A 3 - 40) / 2 := by (unfold woolF; rw [if_pos (by rw [fa_lt]; rw [fa_le] at c10; omega)])
    refine wk_iload_n (i := 2) (q := 14) dX12_shrinksOf_13 rfl rfl rfl ?_
    refine wk_bipush (v := 40) (q := 16) dX12_shrinksOf_14 rfl rfl ?_
    refine wk_isub (q := 17) dX12_shrinksOf_16 rfl ?_
    refine wk_iconst (v := 2) (q := 18) dX12_shrinksOf_17 rfl rfl ?_
    refine wk_idiv (q := 19) dX12_shrinksOf_18 (by decide) rfl ?_
    refine wk_goto (t := 23) dX12_shrinksOf_19 rfl ?_
    refine wk_istore_n (i := 3) (q := 24) (lv' := [_, _, _, _]) dX12_shrinksOf_23 rfl rfl rfl rfl ?_
    refine wk_aload_n (i := 0) (q := 25) dX12_shrinksOf_24 rfl rfl rfl ?_
    refine wk_iload_n (i := 1) (q := 26) dX12_shrinksOf_25 rfl rfl rfl ?_
    refine wk_iconst (v := 0) (q := 27) dX12_shrinksOf_26 rfl rfl ?_
    refine wk_V2r (d' := 2) (q := 30) lkX12_67 dX12_shrinksOf_27 rfl rfl rfl rfl rfl rfl rfl ?_
    refine ck_X12_its (g := g) (w := 0) (by omega) (by omega) ?_
    refine wk_table (cs := [(1, 64), (2, 66), (3, 71), (4, 84), (5, 102)]) (td := 122) dX12_shrinksOf_30 (by decide +kernel) ?_
    refine And.intro (fun c30_0 => ?_) (fun n30_0 => ?_)
    · skip
      rw [c30_0, shrF_1, hw] at hQ
      refine wk_iload_n (i := 3) (q := 65) dX12_shrinksOf_64 rfl rfl rfl ?_
      refine wk_ireturn dX12_shrinksOf_65 rfl rfl ?_
      exact hQ
    refine And.intro (fun c30_1 => ?_) (fun n30_1 => ?_)
    · skip
      rw [c30_1, shrF_2] at hQ
      refine wk_iload_n (i := 2) (q := 67) dX12_shrinksOf_66 rfl rfl rfl ?_
      refine wk_bipush (v := 20) (q := 69) dX12_shrinksOf_67 rfl rfl ?_
      refine wk_idiv (q := 70) dX12_shrinksOf_69 (by decide) rfl ?_
      refine wk_ireturn dX12_shrinksOf_70 rfl rfl ?_
      exact hQ
    refine And.intro (fun c30_2 => ?_) (fun n30_2 => ?_)
    · skip
      rw [c30_2, shrF_3] at hQ
      refine wk_iload_n (i := 2) (q := 72) dX12_shrinksOf_71 rfl rfl rfl ?_
      refine wk_bipush (v := 60) (q := 74) dX12_shrinksOf_72 rfl rfl ?_
      refine wk_icmp_le (t := 82) (q := 77) dX12_shrinksOf_74 rfl rfl (fun c74 => ?_) (fun c74 => ?_)
      · skip
        rw [if_neg (by rw [fa_lt]; rw [fa_le] at c74; omega)] at hQ
        refine wk_iconst (v := 0) (q := 83) dX12_shrinksOf_82 rfl rfl ?_
        refine wk_ireturn dX12_shrinksOf_83 rfl rfl ?_
        exact hQ
      · skip
        rw [if_pos (by rw [fa_lt]; rw [fa_le] at c74; omega)] at hQ
        refine wk_bipush (v := 50) (q := 79) dX12_shrinksOf_77 rfl rfl ?_
        refine wk_goto (t := 83) dX12_shrinksOf_79 rfl ?_
        refine wk_ireturn dX12_shrinksOf_83 rfl rfl ?_
        exact hQ
    refine And.intro (fun c30_3 => ?_) (fun n30_3 => ?_)
    · skip
      rw [c30_3, shrF_4, hw] at hQ
      refine wk_aload_n (i := 0) (q := 85) dX12_shrinksOf_84 rfl rfl rfl ?_
      refine wk_get (q := 88) fgX12_7 dX12_shrinksOf_85 rfl rfl rfl rfl ?_
      refine wk_iconst (v := 4) (q := 89) dX12_shrinksOf_88 rfl rfl ?_
      refine wk_sld (n := 4) (q := 90) dX12_shrinksOf_89 rfl (by decide) rfl ?_
      refine wk_iconst (v := 1) (q := 91) dX12_shrinksOf_90 rfl rfl ?_
      refine wk_icmp_ne (t := 100) (q := 94) dX12_shrinksOf_91 rfl rfl (fun c91 => ?_) (fun c91 => ?_)
      · skip
        rw [if_neg c91] at hQ
        refine wk_iload_n (i := 3) (q := 101) dX12_shrinksOf_100 rfl rfl rfl ?_
        refine wk_ireturn dX12_shrinksOf_101 rfl rfl ?_
        exact hQ
      · skip
        rw [if_pos c91] at hQ
        refine wk_iconst (v := 2) (q := 95) dX12_shrinksOf_94 rfl rfl ?_
        refine wk_iload_n (i := 3) (q := 96) dX12_shrinksOf_95 rfl rfl rfl ?_
        refine wk_imul (q := 97) dX12_shrinksOf_96 rfl ?_
        refine wk_goto (t := 101) dX12_shrinksOf_97 rfl ?_
        refine wk_ireturn dX12_shrinksOf_101 rfl rfl ?_
        exact hQ
    refine And.intro (fun c30_4 => ?_) (fun n30_4 => ?_)
    · skip
      rw [c30_4, shrF_5] at hQ
      refine wk_iload_n (i := 2) (q := 103) dX12_shrinksOf_102 rfl rfl rfl ?_
      refine wk_bipush (v := 60) (q := 105) dX12_shrinksOf_103 rfl rfl ?_
      refine wk_icmp_lt (t := 117) (q := 108) dX12_shrinksOf_105 rfl rfl (fun c105 => ?_) (fun c105 => ?_)
      · skip
        rw [if_neg (by rw [fa_le]; rw [fa_lt] at c105; omega)] at hQ
        refine wk_iload_n (i := 2) (q := 118) dX12_shrinksOf_117 rfl rfl rfl ?_
        refine wk_bipush (v := 20) (q := 120) dX12_shrinksOf_118 rfl rfl ?_
        refine wk_idiv (q := 121) dX12_shrinksOf_120 (by decide) rfl ?_
        refine wk_ireturn dX12_shrinksOf_121 rfl rfl ?_
        exact hQ
      · skip
        rw [if_pos (by rw [fa_le]; rw [fa_lt] at c105; omega)] at hQ
        refine wk_iload_n (i := 2) (q := 109) dX12_shrinksOf_108 rfl rfl rfl ?_
        refine wk_bipush (v := 20) (q := 111) dX12_shrinksOf_109 rfl rfl ?_
        refine wk_idiv (q := 112) dX12_shrinksOf_111 (by decide) rfl ?_
        refine wk_iconst (v := 1) (q := 113) dX12_shrinksOf_112 rfl rfl ?_
        refine wk_iadd (q := 114) dX12_shrinksOf_113 rfl ?_
        refine wk_goto (t := 121) dX12_shrinksOf_114 rfl ?_
        refine wk_ireturn dX12_shrinksOf_121 rfl rfl ?_
        exact hQ
    rw [shrF_o n30_0 n30_1 n30_2 n30_3 n30_4] at hQ
    refine wk_iconst (v := 0) (q := 123) dX12_shrinksOf_122 rfl rfl ?_
    refine wk_ireturn dX12_shrinksOf_123 rfl rfl ?_
    exact hQ
theorem ck_X12_feltsOf (hg : g < 8) (hQ : Q (.int (felF (A (5 + 7 * g + 0)) (shrF (A (5 + 7 * g + 0)) (A 3) (A 4)))) (wr m 73 A) L) : CK E 4 MX12_feltsOf [.ref (ev_z E + 72), .int (nI g)] (wr m 73 A) L Q := by
  refine CK.of rfl rfl (lv := [(0, _), (1, _)]) rfl ?_
  generalize hsh : shrF (A (5 + 7 * g + 0)) (A 3) (A 4) = sh at hQ
  refine wk_aload_n (i := 0) (q := 1) dX12_feltsOf_0 rfl rfl rfl ?_
  refine wk_iload_n (i := 1) (q := 2) dX12_feltsOf_1 rfl rfl rfl ?_
  refine wk_V1r (d' := 3) (q := 5) lkX12_92 dX12_feltsOf_2 rfl rfl rfl rfl rfl rfl rfl ?_
  refine ck_X12_shrinksOf (g := g) (by omega) ?_
  rw [hsh]
  refine wk_istore_n (i := 2) (q := 6) (lv' := [_, _, _]) dX12_feltsOf_5 rfl rfl rfl rfl ?_
  refine wk_aload_n (i := 0) (q := 7) dX12_feltsOf_6 rfl rfl rfl ?_
  refine wk_iload_n (i := 1) (q := 8) dX12_feltsOf_7 rfl rfl rfl ?_
  refine wk_iconst (v := 0) (q := 9) dX12_feltsOf_8 rfl rfl ?_
  refine wk_V2r (d' := 2) (q := 12) lkX12_67 dX12_feltsOf_9 rfl rfl rfl rfl rfl rfl rfl ?_
  refine ck_X12_its (g := g) (w := 0) (by omega) (by omega) ?_
  refine wk_table (cs := [(1, 48), (2, 68), (3, 68), (4, 52), (5, 66)]) (td := 68) dX12_feltsOf_12 (by decide +kernel) ?_
  refine And.intro (fun c12_0 => ?_) (fun n12_0 => ?_)
  · skip
    rw [c12_0, felF_1] at hQ
    refine wk_iload_n (i := 2) (q := 49) dX12_feltsOf_48 rfl rfl rfl ?_
    refine wk_iconst (v := 3) (q := 50) dX12_feltsOf_49 rfl rfl ?_
    refine wk_idiv (q := 51) dX12_feltsOf_50 (by decide) rfl ?_
    refine wk_ireturn dX12_feltsOf_51 rfl rfl ?_
    exact hQ
  refine And.intro (fun c12_1 => ?_) (fun n12_1 => ?_)
  · skip
    rw [c12_1, felF_2] at hQ
    refine wk_iconst (v := 0) (q := 69) dX12_feltsOf_68 rfl rfl ?_
    refine wk_ireturn dX12_feltsOf_69 rfl rfl ?_
    exact hQ
  refine And.intro (fun c12_2 => ?_) (fun n12_2 => ?_)
  · skip
    rw [c12_2, felF_3] at hQ
    refine wk_iconst (v := 0) (q := 69) dX12_feltsOf_68 rfl rfl ?_
    refine wk_ireturn dX12_feltsOf_69 rfl rfl ?_
    exact hQ
  refine And.intro (fun c12_3 => ?_) (fun n12_3 => ?_)
  · skip
    rw [c12_3, felF_4] at hQ
    refine wk_iload_n (i := 2) (q := 53) dX12_feltsOf_52 rfl rfl rfl ?_
    refine wk_if_le (t := 64) (q := 56) dX12_feltsOf_53 rfl rfl (fun c53 => ?_) (fun c53 => ?_)
    · skip
      rw [if_neg (by rw [fa_lt]; rw [fa_le] at c53; omega)] at hQ
      refine wk_iconst (v := 0) (q := 65) dX12_feltsOf_64 rfl rfl ?_
      refine wk_ireturn dX12_feltsOf_65 rfl rfl ?_
      exact hQ
    · skip
      rw [if_pos (by rw [fa_lt]; rw [fa_le] at c53; omega)] at hQ
      refine wk_iload_n (i := 2) (q := 57) dX12_feltsOf_56 rfl rfl rfl ?_
      refine wk_iconst (v := 3) (q := 58) dX12_feltsOf_57 rfl rfl ?_
      refine wk_idiv (q := 59) dX12_feltsOf_58 (by decide) rfl ?_
      refine wk_iconst (v := 1) (q := 60) dX12_feltsOf_59 rfl rfl ?_
      refine wk_iadd (q := 61) dX12_feltsOf_60 rfl ?_
      refine wk_goto (t := 65) dX12_feltsOf_61 rfl ?_
      refine wk_ireturn dX12_feltsOf_65 rfl rfl ?_
      exact hQ
  refine And.intro (fun c12_4 => ?_) (fun n12_4 => ?_)
  · skip
    rw [c12_4, felF_5] at hQ
    refine wk_iconst (v := 2) (q := 67) dX12_feltsOf_66 rfl rfl ?_
    refine wk_ireturn dX12_feltsOf_67 rfl rfl ?_
    exact hQ
  rw [felF_o n12_0 n12_3 n12_4] at hQ
  refine wk_iconst (v := 0) (q := 69) dX12_feltsOf_68 rfl rfl ?_
  refine wk_ireturn dX12_feltsOf_69 rfl rfl ?_
  exact hQ
theorem ck_X12_bearsOf (hg : g < 8) (hQ : Q (.int (beaF (A (5 + 7 * g + 0)) (A (5 + 7 * g + 3)) (A (5 + 7 * g + 6)))) (wr m 73 A) L) : CK E 3 MX12_bearsOf [.ref (ev_z E + 72), .int (nI g)] (wr m 73 A) L Q := by
  refine CK.of rfl rfl (lv := [(0, _), (1, _)]) rfl ?_
  refine wk_bipush (v := 10) (q := 2) dX12_bearsOf_0 rfl rfl ?_
  refine wk_aload_n (i := 0) (q := 3) dX12_bearsOf_2 rfl rfl rfl ?_
  refine wk_iload_n (i := 1) (q := 4) dX12_bearsOf_3 rfl rfl rfl ?_
  refine wk_iconst (v := 3) (q := 5) dX12_bearsOf_4 rfl rfl ?_
  refine wk_V2r (d' := 2) (q := 8) lkX12_67 dX12_bearsOf_5 rfl rfl rfl rfl rfl rfl rfl ?_
  refine ck_X12_its (g := g) (w := 3) (by omega) (by omega) ?_
  refine wk_iconst (v := 4) (q := 9) dX12_bearsOf_8 rfl rfl ?_
  refine wk_idiv (q := 10) dX12_bearsOf_9 (by decide) rfl ?_
  refine wk_iadd (q := 11) dX12_bearsOf_10 rfl ?_
  refine wk_istore_n (i := 2) (q := 12) (lv' := [_, _, _]) dX12_bearsOf_11 rfl rfl rfl rfl ?_
  refine wk_aload_n (i := 0) (q := 13) dX12_bearsOf_12 rfl rfl rfl ?_
  refine wk_iload_n (i := 1) (q := 14) dX12_bearsOf_13 rfl rfl rfl ?_
  refine wk_iconst (v := 0) (q := 15) dX12_bearsOf_14 rfl rfl ?_
  refine wk_V2r (d' := 2) (q := 18) lkX12_67 dX12_bearsOf_15 rfl rfl rfl rfl rfl rfl rfl ?_
  refine ck_X12_its (g := g) (w := 0) (by omega) (by omega) ?_
  refine wk_table (cs := [(1, 52), (2, 54), (3, 56), (4, 58), (5, 62)]) (td := 72) dX12_bearsOf_18 (by decide +kernel) ?_
  refine And.intro (fun c18_0 => ?_) (fun n18_0 => ?_)
  · skip
    rw [c18_0, beaF_1] at hQ
    refine wk_iload_n (i := 2) (q := 53) dX12_bearsOf_52 rfl rfl rfl ?_
    refine wk_ireturn dX12_bearsOf_53 rfl rfl ?_
    exact hQ
  refine And.intro (fun c18_1 => ?_) (fun n18_1 => ?_)
  · skip
    rw [c18_1, beaF_2] at hQ
    refine wk_iconst (v := 5) (q := 55) dX12_bearsOf_54 rfl rfl ?_
    refine wk_ireturn dX12_bearsOf_55 rfl rfl ?_
    exact hQ
  refine And.intro (fun c18_2 => ?_) (fun n18_2 => ?_)
  · skip
    rw [c18_2, beaF_3] at hQ
    refine wk_iconst (v := 3) (q := 57) dX12_bearsOf_56 rfl rfl ?_
    refine wk_ireturn dX12_bearsOf_57 rfl rfl ?_
    exact hQ
  refine And.intro (fun c18_3 => ?_) (fun n18_3 => ?_)
  · skip
    rw [c18_3, beaF_4] at hQ
    refine wk_iconst (v := 2) (q := 59) dX12_bearsOf_58 rfl rfl ?_
    refine wk_iload_n (i := 2) (q := 60) dX12_bearsOf_59 rfl rfl rfl ?_
    refine wk_imul (q := 61) dX12_bearsOf_60 rfl ?_
    refine wk_ireturn dX12_bearsOf_61 rfl rfl ?_
    exact hQ
  refine And.intro (fun c18_4 => ?_) (fun n18_4 => ?_)
  · skip
    rw [c18_4, beaF_5] at hQ
    refine wk_iconst (v := 5) (q := 63) dX12_bearsOf_62 rfl rfl ?_
    refine wk_aload_n (i := 0) (q := 64) dX12_bearsOf_63 rfl rfl rfl ?_
    refine wk_iload_n (i := 1) (q := 65) dX12_bearsOf_64 rfl rfl rfl ?_
    refine wk_bipush (v := 6) (q := 67) dX12_bearsOf_65 rfl rfl ?_
    refine wk_V2r (d' := 2) (q := 70) lkX12_67 dX12_bearsOf_67 rfl rfl rfl rfl rfl rfl rfl ?_
    refine ck_X12_its (g := g) (w := 6) (by omega) (by omega) ?_
    refine wk_iadd (q := 71) dX12_bearsOf_70 rfl ?_
    refine wk_ireturn dX12_bearsOf_71 rfl rfl ?_
    exact hQ
  rw [beaF_o n18_0 n18_1 n18_2 n18_3 n18_4] at hQ
  refine wk_bipush (v := 10) (q := 74) dX12_bearsOf_72 rfl rfl ?_
  refine wk_ireturn dX12_bearsOf_74 rfl rfl ?_
  exact hQ
theorem ck_X12_keepsOf (hg : g < 8) (hQ : Q (.int (keeF (A (5 + 7 * g + 0)))) (wr m 73 A) L) : CK E 3 MX12_keepsOf [.ref (ev_z E + 72), .int (nI g)] (wr m 73 A) L Q := by
  refine CK.of rfl rfl (lv := [(0, _), (1, _)]) rfl ?_
  refine wk_aload_n (i := 0) (q := 1) dX12_keepsOf_0 rfl rfl rfl ?_
  refine wk_iload_n (i := 1) (q := 2) dX12_keepsOf_1 rfl rfl rfl ?_
  refine wk_iconst (v := 0) (q := 3) dX12_keepsOf_2 rfl rfl ?_
  refine wk_V2r (d' := 2) (q := 6) lkX12_67 dX12_keepsOf_3 rfl rfl rfl rfl rfl rfl rfl ?_
  refine ck_X12_its (g := g) (w := 0) (by omega) (by omega) ?_
  refine wk_table (cs := [(2, 36), (3, 39), (4, 42), (5, 36)]) (td := 45) dX12_keepsOf_6 (by decide +kernel) ?_
  refine And.intro (fun c6_0 => ?_) (fun n6_0 => ?_)
  · skip
    rw [c6_0, keeF_2] at hQ
    refine wk_bipush (v := 20) (q := 38) dX12_keepsOf_36 rfl rfl ?_
    refine wk_ireturn dX12_keepsOf_38 rfl rfl ?_
    exact hQ
  refine And.intro (fun c6_1 => ?_) (fun n6_1 => ?_)
  · skip
    rw [c6_1, keeF_3] at hQ
    refine wk_bipush (v := 100) (q := 41) dX12_keepsOf_39 rfl rfl ?_
    refine wk_ireturn dX12_keepsOf_41 rfl rfl ?_
    exact hQ
  refine And.intro (fun c6_2 => ?_) (fun n6_2 => ?_)
  · skip
    rw [c6_2, keeF_4] at hQ
    refine wk_bipush (v := 40) (q := 44) dX12_keepsOf_42 rfl rfl ?_
    refine wk_ireturn dX12_keepsOf_44 rfl rfl ?_
    exact hQ
  refine And.intro (fun c6_3 => ?_) (fun n6_3 => ?_)
  · skip
    rw [c6_3, keeF_5] at hQ
    refine wk_bipush (v := 20) (q := 38) dX12_keepsOf_36 rfl rfl ?_
    refine wk_ireturn dX12_keepsOf_38 rfl rfl ?_
    exact hQ
  rw [keeF_o n6_0 n6_1 n6_2 n6_3] at hQ
  refine wk_bipush (v := 50) (q := 47) dX12_keepsOf_45 rfl rfl ?_
  refine wk_ireturn dX12_keepsOf_47 rfl rfl ?_
  exact hQ
theorem ck_X12_shrinks {w : Nat} {y : Int32} (hg : g < 8) (hw : w < 7) (hQ : Q .null (wr m 73 (upd A (5 + 7 * g + w) (heldF (A (5 + 7 * g + w) - A (5 + 7 * g + w) * y / 100) 10 200))) L) : CK E 3 MX12_shrinks [.ref (ev_z E + 72), .int (nI g), .int (nI w), .int y] (wr m 73 A) L Q := by
  refine CK.of rfl rfl (lv := [(0, _), (1, _), (2, _), (3, _)]) rfl ?_
  refine wk_aload_n (i := 0) (q := 1) dX12_shrinks_0 rfl rfl rfl ?_
  refine wk_get (q := 4) fgX12_7 dX12_shrinks_1 rfl rfl rfl rfl ?_
  refine wk_iload_n (i := 1) (q := 5) dX12_shrinks_4 rfl rfl rfl ?_
  refine wk_iload_n (i := 2) (q := 6) dX12_shrinks_5 rfl rfl rfl ?_
  refine wk_S2r (d' := 1) (q := 9) lkX12_42 dX12_shrinks_6 rfl rfl rfl rfl ?_
  refine ck_X12_spot (g := g) (w := w) ?_
  refine wk_aload_n (i := 0) (q := 10) dX12_shrinks_9 rfl rfl rfl ?_
  refine wk_iload_n (i := 1) (q := 11) dX12_shrinks_10 rfl rfl rfl ?_
  refine wk_iload_n (i := 2) (q := 12) dX12_shrinks_11 rfl rfl rfl ?_
  refine wk_V2r (d' := 2) (q := 15) lkX12_67 dX12_shrinks_12 rfl rfl rfl rfl rfl rfl rfl ?_
  refine ck_X12_its (g := g) (w := w) (by omega) (by omega) ?_
  refine wk_aload_n (i := 0) (q := 16) dX12_shrinks_15 rfl rfl rfl ?_
  refine wk_iload_n (i := 1) (q := 17) dX12_shrinks_16 rfl rfl rfl ?_
  refine wk_iload_n (i := 2) (q := 18) dX12_shrinks_17 rfl rfl rfl ?_
  refine wk_V2r (d' := 2) (q := 21) lkX12_67 dX12_shrinks_18 rfl rfl rfl rfl rfl rfl rfl ?_
  refine ck_X12_its (g := g) (w := w) (by omega) (by omega) ?_
  refine wk_iload_n (i := 3) (q := 22) dX12_shrinks_21 rfl rfl rfl ?_
  refine wk_imul (q := 23) dX12_shrinks_22 rfl ?_
  refine wk_bipush (v := 100) (q := 25) dX12_shrinks_23 rfl rfl ?_
  refine wk_idiv (q := 26) dX12_shrinks_25 (by decide) rfl ?_
  refine wk_isub (q := 27) dX12_shrinks_26 rfl ?_
  refine wk_bipush (v := 10) (q := 29) dX12_shrinks_27 rfl rfl ?_
  refine wk_sipush (v := 200) (q := 32) dX12_shrinks_29 rfl rfl ?_
  refine wk_S3r (d' := 1) (q := 35) lkX12_126 dX12_shrinks_32 rfl rfl rfl rfl ?_
  refine ck_X12_held ?_
  refine wk_sst (n := (5 + 7 * g + w)) (q := 36) dX12_shrinks_35 rfl (by omega) rfl ?_
  refine wk_return dX12_shrinks_36 rfl ?_
  exact hQ
theorem ck_X12_washed (hg : g < 8) (hQ : Q (.int (wshG (A 3) (A 4) (gv A g) 1)) (wr m 73 (gput A g (wshG (A 3) (A 4) (gv A g)))) L) : CK E 5 MX12_washed [.ref (ev_z E + 72), .int (nI g)] (wr m 73 A) L Q := by
  refine CK.of rfl rfl (lv := [(0, _), (1, _)]) rfl ?_
  refine wk_aload_n (i := 0) (q := 1) dX12_washed_0 rfl rfl rfl ?_
  refine wk_iload_n (i := 1) (q := 2) dX12_washed_1 rfl rfl rfl ?_
  refine wk_V1r (d' := 3) (q := 5) lkX12_92 dX12_washed_2 rfl rfl rfl rfl rfl rfl rfl ?_
  refine ck_X12_shrinksOf (g := g) (by omega) ?_
  refine wk_istore_n (i := 2) (q := 6) (lv' := [_, _, _]) dX12_washed_5 rfl rfl rfl rfl ?_
  refine wk_aload_n (i := 0) (q := 7) dX12_washed_6 rfl rfl rfl ?_
  refine wk_iload_n (i := 1) (q := 8) dX12_washed_7 rfl rfl rfl ?_
  refine wk_V1r (d' := 4) (q := 11) lkX12_106 dX12_washed_8 rfl rfl rfl rfl rfl rfl rfl ?_
  refine ck_X12_feltsOf (g := g) (by omega) ?_
  refine wk_istore_n (i := 3) (q := 12) (lv' := [_, _, _, _]) dX12_washed_11 rfl rfl rfl rfl ?_
  refine wk_aload_n (i := 0) (q := 13) dX12_washed_12 rfl rfl rfl ?_
  refine wk_iload_n (i := 1) (q := 14) dX12_washed_13 rfl rfl rfl ?_
  refine wk_iconst (v := 1) (q := 15) dX12_washed_14 rfl rfl ?_
  refine wk_iload_n (i := 2) (q := 16) dX12_washed_15 rfl rfl rfl ?_
  refine wk_V3v (d' := 3) (q := 19) lkX12_130 dX12_washed_16 rfl rfl rfl rfl rfl rfl rfl ?_
  refine ck_X12_shrinks (g := g) (w := 1) (by omega) (by omega) ?_
  refine wk_aload_n (i := 0) (q := 20) dX12_washed_19 rfl rfl rfl ?_
  refine wk_iload_n (i := 1) (q := 21) dX12_washed_20 rfl rfl rfl ?_
  refine wk_iconst (v := 2) (q := 22) dX12_washed_21 rfl rfl ?_
  refine wk_iload_n (i := 2) (q := 23) dX12_washed_22 rfl rfl rfl ?_
  refine wk_V3v (d' := 3) (q := 26) lkX12_130 dX12_washed_23 rfl rfl rfl rfl rfl rfl rfl ?_
  refine ck_X12_shrinks (g := g) (w := 2) (by omega) (by omega) ?_
  rw [upd_n (show 5 + 7 * g + 2 ≠ 5 + 7 * g + 1 by omega)]
  refine wk_aload_n (i := 0) (q := 27) dX12_washed_26 rfl rfl rfl ?_
  refine wk_get (q := 30) fgX12_7 dX12_washed_27 rfl rfl rfl rfl ?_
  refine wk_iload_n (i := 1) (q := 31) dX12_washed_30 rfl rfl rfl ?_
  refine wk_iconst (v := 3) (q := 32) dX12_washed_31 rfl rfl ?_
  refine wk_S2r (d' := 1) (q := 35) lkX12_42 dX12_washed_32 rfl rfl rfl rfl ?_
  refine ck_X12_spot (g := g) (w := 3) ?_
  refine wk_aload_n (i := 0) (q := 36) dX12_washed_35 rfl rfl rfl ?_
  refine wk_iload_n (i := 1) (q := 37) dX12_washed_36 rfl rfl rfl ?_
  refine wk_iconst (v := 3) (q := 38) dX12_washed_37 rfl rfl ?_
  refine wk_V2r (d' := 2) (q := 41) lkX12_67 dX12_washed_38 rfl rfl rfl rfl rfl rfl rfl ?_
  refine ck_X12_its (g := g) (w := 3) (by omega) (by omega) ?_
  rw [upd_n (show 5 + 7 * g + 3 ≠ 5 + 7 * g + 2 by omega), upd_n (show 5 + 7 * g + 3 ≠ 5 + 7 * g + 1 by omega)]
  refine wk_iload_n (i := 3) (q := 42) dX12_washed_41 rfl rfl rfl ?_
  refine wk_iadd (q := 43) dX12_washed_42 rfl ?_
  refine wk_iconst (v := 1) (q := 44) dX12_washed_43 rfl rfl ?_
  refine wk_bipush (v := 99) (q := 46) dX12_washed_44 rfl rfl ?_
  refine wk_S3r (d' := 1) (q := 49) lkX12_126 dX12_washed_46 rfl rfl rfl rfl ?_
  refine ck_X12_held ?_
  refine wk_sst (n := (5 + 7 * g + 3)) (q := 50) dX12_washed_49 rfl (by omega) rfl ?_
  refine wk_aload_n (i := 0) (q := 51) dX12_washed_50 rfl rfl rfl ?_
  refine wk_get (q := 54) fgX12_7 dX12_washed_51 rfl rfl rfl rfl ?_
  refine wk_iload_n (i := 1) (q := 55) dX12_washed_54 rfl rfl rfl ?_
  refine wk_iconst (v := 4) (q := 56) dX12_washed_55 rfl rfl ?_
  refine wk_S2r (d' := 1) (q := 59) lkX12_42 dX12_washed_56 rfl rfl rfl rfl ?_
  refine ck_X12_spot (g := g) (w := 4) ?_
  refine wk_iconst (v := 3) (q := 60) dX12_washed_59 rfl rfl ?_
  refine wk_sst (n := (5 + 7 * g + 4)) (q := 61) dX12_washed_60 rfl (by omega) rfl ?_
  refine wk_aload_n (i := 0) (q := 62) dX12_washed_61 rfl rfl rfl ?_
  refine wk_get (q := 65) fgX12_7 dX12_washed_62 rfl rfl rfl rfl ?_
  refine wk_iload_n (i := 1) (q := 66) dX12_washed_65 rfl rfl rfl ?_
  refine wk_iconst (v := 5) (q := 67) dX12_washed_66 rfl rfl ?_
  refine wk_S2r (d' := 1) (q := 70) lkX12_42 dX12_washed_67 rfl rfl rfl rfl ?_
  refine ck_X12_spot (g := g) (w := 5) ?_
  refine wk_iconst (v := 0) (q := 71) dX12_washed_70 rfl rfl ?_
  refine wk_sst (n := (5 + 7 * g + 5)) (q := 72) dX12_washed_71 rfl (by omega) rfl ?_
  refine wk_aload_n (i := 0) (q := 73) dX12_washed_72 rfl rfl rfl ?_
  refine wk_iload_n (i := 1) (q := 74) dX12_washed_73 rfl rfl rfl ?_
  refine wk_iconst (v := 1) (q := 75) dX12_washed_74 rfl rfl ?_
  refine wk_V2r (d' := 2) (q := 78) lkX12_67 dX12_washed_75 rfl rfl rfl rfl rfl rfl rfl ?_
  refine ck_X12_its (g := g) (w := 1) (by omega) (by omega) ?_
  rw [upd_n (show 5 + 7 * g + 1 ≠ 5 + 7 * g + 5 by omega), upd_n (show 5 + 7 * g + 1 ≠ 5 + 7 * g + 4 by omega), upd_n (show 5 + 7 * g + 1 ≠ 5 + 7 * g + 3 by omega), upd_n (show 5 + 7 * g + 1 ≠ 5 + 7 * g + 2 by omega), upd_s]
  refine wk_ireturn dX12_washed_78 rfl rfl ?_
  rw [← gput_upd (A := A) (g := g) (f := 1) (by decide), gput_u (by decide), gput_u (by decide), gput_u (by decide), gput_u (by decide)]
  rw [gput_cong (w := wshG (A 3) (A 4) (gv A g)) (fun f hf => by obtain rfl | rfl | rfl | rfl | rfl | rfl | rfl : f = 0 ∨ f = 1 ∨ f = 2 ∨ f = 3 ∨ f = 4 ∨ f = 5 ∨ f = 6 := (by omega); all_goals rfl)]
  exact hQ
theorem ck_X12_drawn {n : Int32} (hg : g < 8) (hQ : Q (.int (drwG n (gv A g) 1)) (wr m 73 (gput A g (drwG n (gv A g)))) L) : CK E 4 MX12_drawn [.ref (ev_z E + 72), .int (nI g), .int n] (wr m 73 A) L Q := by
  refine CK.of rfl rfl (lv := [(0, _), (1, _), (2, _)]) rfl ?_
  refine wk_aload_n (i := 0) (q := 1) dX12_drawn_0 rfl rfl rfl ?_
  refine wk_get (q := 4) fgX12_7 dX12_drawn_1 rfl rfl rfl rfl ?_
  refine wk_iload_n (i := 1) (q := 5) dX12_drawn_4 rfl rfl rfl ?_
  refine wk_iconst (v := 1) (q := 6) dX12_drawn_5 rfl rfl ?_
  refine wk_S2r (d' := 1) (q := 9) lkX12_42 dX12_drawn_6 rfl rfl rfl rfl ?_
  refine ck_X12_spot (g := g) (w := 1) ?_
  refine wk_aload_n (i := 0) (q := 10) dX12_drawn_9 rfl rfl rfl ?_
  refine wk_iload_n (i := 1) (q := 11) dX12_drawn_10 rfl rfl rfl ?_
  refine wk_iconst (v := 1) (q := 12) dX12_drawn_11 rfl rfl ?_
  refine wk_V2r (d' := 2) (q := 15) lkX12_67 dX12_drawn_12 rfl rfl rfl rfl rfl rfl rfl ?_
  refine ck_X12_its (g := g) (w := 1) (by omega) (by omega) ?_
  refine wk_iload_n (i := 2) (q := 16) dX12_drawn_15 rfl rfl rfl ?_
  refine wk_iadd (q := 17) dX12_drawn_16 rfl ?_
  refine wk_bipush (v := 10) (q := 19) dX12_drawn_17 rfl rfl ?_
  refine wk_sipush (v := 200) (q := 22) dX12_drawn_19 rfl rfl ?_
  refine wk_S3r (d' := 1) (q := 25) lkX12_126 dX12_drawn_22 rfl rfl rfl rfl ?_
  refine ck_X12_held ?_
  refine wk_sst (n := (5 + 7 * g + 1)) (q := 26) dX12_drawn_25 rfl (by omega) rfl ?_
  refine wk_aload_n (i := 0) (q := 27) dX12_drawn_26 rfl rfl rfl ?_
  refine wk_get (q := 30) fgX12_7 dX12_drawn_27 rfl rfl rfl rfl ?_
  refine wk_iload_n (i := 1) (q := 31) dX12_drawn_30 rfl rfl rfl ?_
  refine wk_iconst (v := 2) (q := 32) dX12_drawn_31 rfl rfl ?_
  refine wk_S2r (d' := 1) (q := 35) lkX12_42 dX12_drawn_32 rfl rfl rfl rfl ?_
  refine ck_X12_spot (g := g) (w := 2) ?_
  refine wk_aload_n (i := 0) (q := 36) dX12_drawn_35 rfl rfl rfl ?_
  refine wk_iload_n (i := 1) (q := 37) dX12_drawn_36 rfl rfl rfl ?_
  refine wk_iconst (v := 2) (q := 38) dX12_drawn_37 rfl rfl ?_
  refine wk_V2r (d' := 2) (q := 41) lkX12_67 dX12_drawn_38 rfl rfl rfl rfl rfl rfl rfl ?_
  refine ck_X12_its (g := g) (w := 2) (by omega) (by omega) ?_
  rw [upd_n (show 5 + 7 * g + 2 ≠ 5 + 7 * g + 1 by omega)]
  refine wk_iload_n (i := 2) (q := 42) dX12_drawn_41 rfl rfl rfl ?_
  refine wk_iconst (v := 2) (q := 43) dX12_drawn_42 rfl rfl ?_
  refine wk_idiv (q := 44) dX12_drawn_43 (by decide) rfl ?_
  refine wk_isub (q := 45) dX12_drawn_44 rfl ?_
  refine wk_bipush (v := 10) (q := 47) dX12_drawn_45 rfl rfl ?_
  refine wk_sipush (v := 200) (q := 50) dX12_drawn_47 rfl rfl ?_
  refine wk_S3r (d' := 1) (q := 53) lkX12_126 dX12_drawn_50 rfl rfl rfl rfl ?_
  refine ck_X12_held ?_
  refine wk_sst (n := (5 + 7 * g + 2)) (q := 54) dX12_drawn_53 rfl (by omega) rfl ?_
  refine wk_aload_n (i := 0) (q := 55) dX12_drawn_54 rfl rfl rfl ?_
  refine wk_get (q := 58) fgX12_7 dX12_drawn_55 rfl rfl rfl rfl ?_
  refine wk_iload_n (i := 1) (q := 59) dX12_drawn_58 rfl rfl rfl ?_
  refine wk_iconst (v := 5) (q := 60) dX12_drawn_59 rfl rfl ?_
  refine wk_S2r (d' := 1) (q := 63) lkX12_42 dX12_drawn_60 rfl rfl rfl rfl ?_
  refine ck_X12_spot (g := g) (w := 5) ?_
  refine wk_dup2 (q := 64) dX12_drawn_63 rfl rfl rfl ?_
  refine wk_sld (n := (5 + 7 * g + 5)) (q := 65) dX12_drawn_64 rfl (by omega) rfl ?_
  rw [upd_n (show 5 + 7 * g + 5 ≠ 5 + 7 * g + 2 by omega), upd_n (show 5 + 7 * g + 5 ≠ 5 + 7 * g + 1 by omega)]
  refine wk_iload_n (i := 2) (q := 66) dX12_drawn_65 rfl rfl rfl ?_
  refine wk_iadd (q := 67) dX12_drawn_66 rfl ?_
  refine wk_sst (n := (5 + 7 * g + 5)) (q := 68) dX12_drawn_67 rfl (by omega) rfl ?_
  refine wk_aload_n (i := 0) (q := 69) dX12_drawn_68 rfl rfl rfl ?_
  refine wk_iload_n (i := 1) (q := 70) dX12_drawn_69 rfl rfl rfl ?_
  refine wk_iconst (v := 5) (q := 71) dX12_drawn_70 rfl rfl ?_
  refine wk_V2r (d' := 2) (q := 74) lkX12_67 dX12_drawn_71 rfl rfl rfl rfl rfl rfl rfl ?_
  refine ck_X12_its (g := g) (w := 5) (by omega) (by omega) ?_
  rw [upd_s]
  refine wk_aload_n (i := 0) (q := 75) dX12_drawn_74 rfl rfl rfl ?_
  refine wk_iload_n (i := 1) (q := 76) dX12_drawn_75 rfl rfl rfl ?_
  refine wk_V1r (d' := 3) (q := 79) lkX12_109 dX12_drawn_76 rfl rfl rfl rfl rfl rfl rfl ?_
  refine ck_X12_bearsOf (g := g) (by omega) ?_
  rw [upd_n (show 5 + 7 * g + 0 ≠ 5 + 7 * g + 5 by omega), upd_n (show 5 + 7 * g + 0 ≠ 5 + 7 * g + 2 by omega), upd_n (show 5 + 7 * g + 0 ≠ 5 + 7 * g + 1 by omega), upd_n (show 5 + 7 * g + 3 ≠ 5 + 7 * g + 5 by omega), upd_n (show 5 + 7 * g + 3 ≠ 5 + 7 * g + 2 by omega), upd_n (show 5 + 7 * g + 3 ≠ 5 + 7 * g + 1 by omega), upd_n (show 5 + 7 * g + 6 ≠ 5 + 7 * g + 5 by omega), upd_n (show 5 + 7 * g + 6 ≠ 5 + 7 * g + 2 by omega), upd_n (show 5 + 7 * g + 6 ≠ 5 + 7 * g + 1 by omega)]
  refine wk_icmp_le (t := 86) (q := 82) dX12_drawn_79 rfl rfl (fun c79 => ?_) (fun c79 => ?_)
  · skip
    have hd0 : drwG n (gv A g) = rw7 (gv A g 0) (heldF (gv A g 1 + n) 10 200) (heldF (gv A g 2 - n / 2) 10 200) (gv A g 3) (gv A g 4) (gv A g 5 + n) (heldF (gv A g 6 + 0) 0 9999) (gv A g) := by (unfold drwG; rw [if_neg (show ¬ beaF (gv A g 0) (gv A g 3) (gv A g 6) < gv A g 5 + n by rw [fa_lt]; rw [fa_le] at c79; exact Int.not_lt.mpr c79)])
    refine wk_iconst (v := 0) (q := 87) dX12_drawn_86 rfl rfl ?_
    refine wk_istore_n (i := 3) (q := 88) (lv' := [_, _, _, _]) dX12_drawn_87 rfl rfl rfl rfl ?_
    refine wk_aload_n (i := 0) (q := 89) dX12_drawn_88 rfl rfl rfl ?_
    refine wk_get (q := 92) fgX12_7 dX12_drawn_89 rfl rfl rfl rfl ?_
    refine wk_iload_n (i := 1) (q := 93) dX12_drawn_92 rfl rfl rfl ?_
    refine wk_bipush (v := 6) (q := 95) dX12_drawn_93 rfl rfl ?_
    refine wk_S2r (d' := 1) (q := 98) lkX12_42 dX12_drawn_95 rfl rfl rfl rfl ?_
    refine ck_X12_spot (g := g) (w := 6) ?_
    refine wk_aload_n (i := 0) (q := 99) dX12_drawn_98 rfl rfl rfl ?_
    refine wk_iload_n (i := 1) (q := 100) dX12_drawn_99 rfl rfl rfl ?_
    refine wk_bipush (v := 6) (q := 102) dX12_drawn_100 rfl rfl ?_
    refine wk_V2r (d' := 2) (q := 105) lkX12_67 dX12_drawn_102 rfl rfl rfl rfl rfl rfl rfl ?_
    refine ck_X12_its (g := g) (w := 6) (by omega) (by omega) ?_
    rw [upd_n (show 5 + 7 * g + 6 ≠ 5 + 7 * g + 5 by omega), upd_n (show 5 + 7 * g + 6 ≠ 5 + 7 * g + 2 by omega), upd_n (show 5 + 7 * g + 6 ≠ 5 + 7 * g + 1 by omega)]
    refine wk_iload_n (i := 3) (q := 106) dX12_drawn_105 rfl rfl rfl ?_
    refine wk_if_eq (t := 113) (q := 109) dX12_drawn_106 rfl rfl (fun _ => ?_) (fun h => absurd (by decide) h)
    refine wk_iconst (v := 0) (q := 114) dX12_drawn_113 rfl rfl ?_
    refine wk_iadd (q := 115) dX12_drawn_114 rfl ?_
    refine wk_iconst (v := 0) (q := 116) dX12_drawn_115 rfl rfl ?_
    refine wk_sipush (v := 9999) (q := 119) dX12_drawn_116 rfl rfl ?_
    refine wk_S3r (d' := 1) (q := 122) lkX12_126 dX12_drawn_119 rfl rfl rfl rfl ?_
    refine ck_X12_held ?_
    refine wk_sst (n := (5 + 7 * g + 6)) (q := 123) dX12_drawn_122 rfl (by omega) rfl ?_
    refine wk_aload_n (i := 0) (q := 124) dX12_drawn_123 rfl rfl rfl ?_
    refine wk_iload_n (i := 1) (q := 125) dX12_drawn_124 rfl rfl rfl ?_
    refine wk_iconst (v := 1) (q := 126) dX12_drawn_125 rfl rfl ?_
    refine wk_V2r (d' := 2) (q := 129) lkX12_67 dX12_drawn_126 rfl rfl rfl rfl rfl rfl rfl ?_
    refine ck_X12_its (g := g) (w := 1) (by omega) (by omega) ?_
    rw [upd_n (show 5 + 7 * g + 1 ≠ 5 + 7 * g + 6 by omega), upd_n (show 5 + 7 * g + 1 ≠ 5 + 7 * g + 5 by omega), upd_n (show 5 + 7 * g + 1 ≠ 5 + 7 * g + 2 by omega), upd_s]
    refine wk_ireturn dX12_drawn_129 rfl rfl ?_
    rw [hd0] at hQ
    rw [← gput_upd (A := A) (g := g) (f := 1) (by decide), gput_u (by decide), gput_u (by decide), gput_u (by decide)]
    refine cast ?_ hQ
    congr 2
    exact gput_cong (fun f hf => by obtain rfl | rfl | rfl | rfl | rfl | rfl | rfl : f = 0 ∨ f = 1 ∨ f = 2 ∨ f = 3 ∨ f = 4 ∨ f = 5 ∨ f = 6 := (by omega); all_goals rfl)
  · skip
    have hd0 : drwG n (gv A g) = rw7 (gv A g 0) (heldF (gv A g 1 + n) 10 200) (heldF (gv A g 2 - n / 2) 10 200) (gv A g 3) (gv A g 4) (gv A g 5 + n) (heldF (gv A g 6 + 1) 0 9999) (gv A g) := by (unfold drwG; rw [if_pos (show beaF (gv A g 0) (gv A g 3) (gv A g 6) < gv A g 5 + n by rw [fa_lt]; rw [fa_le] at c79; exact Int.not_le.mp c79)])
    refine wk_iconst (v := 1) (q := 83) dX12_drawn_82 rfl rfl ?_
    refine wk_goto (t := 87) dX12_drawn_83 rfl ?_
    refine wk_istore_n (i := 3) (q := 88) (lv' := [_, _, _, _]) dX12_drawn_87 rfl rfl rfl rfl ?_
    refine wk_aload_n (i := 0) (q := 89) dX12_drawn_88 rfl rfl rfl ?_
    refine wk_get (q := 92) fgX12_7 dX12_drawn_89 rfl rfl rfl rfl ?_
    refine wk_iload_n (i := 1) (q := 93) dX12_drawn_92 rfl rfl rfl ?_
    refine wk_bipush (v := 6) (q := 95) dX12_drawn_93 rfl rfl ?_
    refine wk_S2r (d' := 1) (q := 98) lkX12_42 dX12_drawn_95 rfl rfl rfl rfl ?_
    refine ck_X12_spot (g := g) (w := 6) ?_
    refine wk_aload_n (i := 0) (q := 99) dX12_drawn_98 rfl rfl rfl ?_
    refine wk_iload_n (i := 1) (q := 100) dX12_drawn_99 rfl rfl rfl ?_
    refine wk_bipush (v := 6) (q := 102) dX12_drawn_100 rfl rfl ?_
    refine wk_V2r (d' := 2) (q := 105) lkX12_67 dX12_drawn_102 rfl rfl rfl rfl rfl rfl rfl ?_
    refine ck_X12_its (g := g) (w := 6) (by omega) (by omega) ?_
    rw [upd_n (show 5 + 7 * g + 6 ≠ 5 + 7 * g + 5 by omega), upd_n (show 5 + 7 * g + 6 ≠ 5 + 7 * g + 2 by omega), upd_n (show 5 + 7 * g + 6 ≠ 5 + 7 * g + 1 by omega)]
    refine wk_iload_n (i := 3) (q := 106) dX12_drawn_105 rfl rfl rfl ?_
    refine wk_if_eq (t := 113) (q := 109) dX12_drawn_106 rfl rfl (fun h => absurd h (by decide)) (fun _ => ?_)
    refine wk_iconst (v := 1) (q := 110) dX12_drawn_109 rfl rfl ?_
    refine wk_goto (t := 114) dX12_drawn_110 rfl ?_
    refine wk_iadd (q := 115) dX12_drawn_114 rfl ?_
    refine wk_iconst (v := 0) (q := 116) dX12_drawn_115 rfl rfl ?_
    refine wk_sipush (v := 9999) (q := 119) dX12_drawn_116 rfl rfl ?_
    refine wk_S3r (d' := 1) (q := 122) lkX12_126 dX12_drawn_119 rfl rfl rfl rfl ?_
    refine ck_X12_held ?_
    refine wk_sst (n := (5 + 7 * g + 6)) (q := 123) dX12_drawn_122 rfl (by omega) rfl ?_
    refine wk_aload_n (i := 0) (q := 124) dX12_drawn_123 rfl rfl rfl ?_
    refine wk_iload_n (i := 1) (q := 125) dX12_drawn_124 rfl rfl rfl ?_
    refine wk_iconst (v := 1) (q := 126) dX12_drawn_125 rfl rfl ?_
    refine wk_V2r (d' := 2) (q := 129) lkX12_67 dX12_drawn_126 rfl rfl rfl rfl rfl rfl rfl ?_
    refine ck_X12_its (g := g) (w := 1) (by omega) (by omega) ?_
    rw [upd_n (show 5 + 7 * g + 1 ≠ 5 + 7 * g + 6 by omega), upd_n (show 5 + 7 * g + 1 ≠ 5 + 7 * g + 5 by omega), upd_n (show 5 + 7 * g + 1 ≠ 5 + 7 * g + 2 by omega), upd_s]
    refine wk_ireturn dX12_drawn_129 rfl rfl ?_
    rw [hd0] at hQ
    rw [← gput_upd (A := A) (g := g) (f := 1) (by decide), gput_u (by decide), gput_u (by decide), gput_u (by decide)]
    refine cast ?_ hQ
    congr 2
    exact gput_cong (fun f hf => by obtain rfl | rfl | rfl | rfl | rfl | rfl | rfl : f = 0 ∨ f = 1 ∨ f = 2 ∨ f = 3 ∨ f = 4 ∨ f = 5 ∨ f = 6 := (by omega); all_goals rfl)
theorem ck_X12_dries (hg : g < 8) (hw : 0 < A (5 + 7 * g + 4)) (hQ : Q .null (wr m 73 (gput A g (dryG (gv A g)))) L) : CK E 4 MX12_dries [.ref (ev_z E + 72), .int (nI g)] (wr m 73 A) L Q := by
  unfold dryG at hQ
  rw [if_pos (show 0 < gv A g 4 from hw)] at hQ
  refine CK.of rfl rfl (lv := [(0, _), (1, _)]) rfl ?_
  refine wk_aload_n (i := 0) (q := 1) dX12_dries_0 rfl rfl rfl ?_
  refine wk_get (q := 4) fgX12_7 dX12_dries_1 rfl rfl rfl rfl ?_
  refine wk_iload_n (i := 1) (q := 5) dX12_dries_4 rfl rfl rfl ?_
  refine wk_iconst (v := 4) (q := 6) dX12_dries_5 rfl rfl ?_
  refine wk_S2r (d' := 1) (q := 9) lkX12_42 dX12_dries_6 rfl rfl rfl rfl ?_
  refine ck_X12_spot (g := g) (w := 4) ?_
  refine wk_dup2 (q := 10) dX12_dries_9 rfl rfl rfl ?_
  refine wk_sld (n := (5 + 7 * g + 4)) (q := 11) dX12_dries_10 rfl (by omega) rfl ?_
  refine wk_iconst (v := 1) (q := 12) dX12_dries_11 rfl rfl ?_
  refine wk_isub (q := 13) dX12_dries_12 rfl ?_
  refine wk_sst (n := (5 + 7 * g + 4)) (q := 14) dX12_dries_13 rfl (by omega) rfl ?_
  refine wk_aload_n (i := 0) (q := 15) dX12_dries_14 rfl rfl rfl ?_
  refine wk_iload_n (i := 1) (q := 16) dX12_dries_15 rfl rfl rfl ?_
  refine wk_iconst (v := 4) (q := 17) dX12_dries_16 rfl rfl ?_
  refine wk_V2r (d' := 2) (q := 20) lkX12_67 dX12_dries_17 rfl rfl rfl rfl rfl rfl rfl ?_
  refine ck_X12_its (g := g) (w := 4) (by omega) (by omega) ?_
  rw [upd_s]
  refine wk_if_ne (t := 79) (q := 23) dX12_dries_20 rfl rfl (fun c20 => ?_) (fun c20 => ?_)
  · skip
    rw [if_neg (show ¬ gv A g 4 - 1 = 0 from c20)] at hQ
    refine wk_return dX12_dries_79 rfl ?_
    (rw [← gput_upd (A := A) (g := g) (f := 4) (by decide)]; try rw [gput_u (by decide), gput_u (by decide)])
    refine cast ?_ hQ
    congr 2
    exact gput_cong (fun f hf => by obtain rfl | rfl | rfl | rfl | rfl | rfl | rfl : f = 0 ∨ f = 1 ∨ f = 2 ∨ f = 3 ∨ f = 4 ∨ f = 5 ∨ f = 6 := (by omega); all_goals rfl)
  · skip
    rw [if_pos (show gv A g 4 - 1 = 0 from c20)] at hQ
    refine wk_aload_n (i := 0) (q := 24) dX12_dries_23 rfl rfl rfl ?_
    refine wk_iload_n (i := 1) (q := 25) dX12_dries_24 rfl rfl rfl ?_
    refine wk_iconst (v := 5) (q := 26) dX12_dries_25 rfl rfl ?_
    refine wk_V2r (d' := 2) (q := 29) lkX12_67 dX12_dries_26 rfl rfl rfl rfl rfl rfl rfl ?_
    refine ck_X12_its (g := g) (w := 5) (by omega) (by omega) ?_
    rw [upd_n (show 5 + 7 * g + 5 ≠ 5 + 7 * g + 4 by omega)]
    refine wk_bipush (v := 100) (q := 31) dX12_dries_29 rfl rfl ?_
    refine wk_aload_n (i := 0) (q := 32) dX12_dries_31 rfl rfl rfl ?_
    refine wk_iload_n (i := 1) (q := 33) dX12_dries_32 rfl rfl rfl ?_
    refine wk_V1r (d' := 3) (q := 36) lkX12_112 dX12_dries_33 rfl rfl rfl rfl rfl rfl rfl ?_
    refine ck_X12_keepsOf (g := g) (by omega) ?_
    rw [upd_n (show 5 + 7 * g + 0 ≠ 5 + 7 * g + 4 by omega)]
    refine wk_isub (q := 37) dX12_dries_36 rfl ?_
    refine wk_imul (q := 38) dX12_dries_37 rfl ?_
    refine wk_bipush (v := 100) (q := 40) dX12_dries_38 rfl rfl ?_
    refine wk_idiv (q := 41) dX12_dries_40 (by decide) rfl ?_
    refine wk_istore_n (i := 2) (q := 42) (lv' := [_, _, _]) dX12_dries_41 rfl rfl rfl rfl ?_
    refine wk_aload_n (i := 0) (q := 43) dX12_dries_42 rfl rfl rfl ?_
    refine wk_get (q := 46) fgX12_7 dX12_dries_43 rfl rfl rfl rfl ?_
    refine wk_iload_n (i := 1) (q := 47) dX12_dries_46 rfl rfl rfl ?_
    refine wk_iconst (v := 1) (q := 48) dX12_dries_47 rfl rfl ?_
    refine wk_S2r (d' := 1) (q := 51) lkX12_42 dX12_dries_48 rfl rfl rfl rfl ?_
    refine ck_X12_spot (g := g) (w := 1) ?_
    refine wk_aload_n (i := 0) (q := 52) dX12_dries_51 rfl rfl rfl ?_
    refine wk_iload_n (i := 1) (q := 53) dX12_dries_52 rfl rfl rfl ?_
    refine wk_iconst (v := 1) (q := 54) dX12_dries_53 rfl rfl ?_
    refine wk_V2r (d' := 2) (q := 57) lkX12_67 dX12_dries_54 rfl rfl rfl rfl rfl rfl rfl ?_
    refine ck_X12_its (g := g) (w := 1) (by omega) (by omega) ?_
    rw [upd_n (show 5 + 7 * g + 1 ≠ 5 + 7 * g + 4 by omega)]
    refine wk_iload_n (i := 2) (q := 58) dX12_dries_57 rfl rfl rfl ?_
    refine wk_isub (q := 59) dX12_dries_58 rfl ?_
    refine wk_bipush (v := 10) (q := 61) dX12_dries_59 rfl rfl ?_
    refine wk_sipush (v := 200) (q := 64) dX12_dries_61 rfl rfl ?_
    refine wk_S3r (d' := 1) (q := 67) lkX12_126 dX12_dries_64 rfl rfl rfl rfl ?_
    refine ck_X12_held ?_
    refine wk_sst (n := (5 + 7 * g + 1)) (q := 68) dX12_dries_67 rfl (by omega) rfl ?_
    refine wk_aload_n (i := 0) (q := 69) dX12_dries_68 rfl rfl rfl ?_
    refine wk_get (q := 72) fgX12_7 dX12_dries_69 rfl rfl rfl rfl ?_
    refine wk_iload_n (i := 1) (q := 73) dX12_dries_72 rfl rfl rfl ?_
    refine wk_iconst (v := 5) (q := 74) dX12_dries_73 rfl rfl ?_
    refine wk_S2r (d' := 1) (q := 77) lkX12_42 dX12_dries_74 rfl rfl rfl rfl ?_
    refine ck_X12_spot (g := g) (w := 5) ?_
    refine wk_iconst (v := 0) (q := 78) dX12_dries_77 rfl rfl ?_
    refine wk_sst (n := (5 + 7 * g + 5)) (q := 79) dX12_dries_78 rfl (by omega) rfl ?_
    refine wk_return dX12_dries_79 rfl ?_
    (rw [← gput_upd (A := A) (g := g) (f := 4) (by decide)]; try rw [gput_u (by decide), gput_u (by decide)])
    refine cast ?_ hQ
    congr 2
    exact gput_cong (fun f hf => by obtain rfl | rfl | rfl | rfl | rfl | rfl | rfl : f = 0 ∨ f = 1 ∨ f = 2 ∨ f = 3 ∨ f = 4 ∨ f = 5 ∨ f = 6 := (by omega); all_goals rfl)
theorem lp1_X12_daysGo {c k : Nat} {n : Int32} (hc : A 1 = nI c) (hc8 : c ≤ 8) (hQ : WK E 5 MX12_daysGo 39 [(0, .ref (ev_z E + 72)), (1, .int n), (2, .int (nI k))] [] (wr m 73 (dyR A c k c)) L Q) : ∀ (r j : Nat), j + r = c → WK E 5 MX12_daysGo 9 [(0, .ref (ev_z E + 72)), (1, .int n), (2, .int (nI k)), (3, .int (nI j))] [] (wr m 73 (dyR A c k j)) L Q := by
  have h1 : ∀ j, dyR A c k j 1 = nI c := fun j => (dyR_n (by decide) (by omega)).trans hc
  intro r
  induction r with
  | zero =>
    intro j hj
    refine wk_iload_n (i := 3) (q := 10) dX12_daysGo_9 rfl rfl rfl ?_
    refine wk_aload_n (i := 0) (q := 11) dX12_daysGo_10 rfl rfl rfl ?_
    refine wk_get (q := 14) fgX12_7 dX12_daysGo_11 rfl rfl rfl rfl ?_
    refine wk_iconst (v := 1) (q := 15) dX12_daysGo_14 rfl rfl ?_
    refine wk_sld (n := 1) (q := 16) dX12_daysGo_15 rfl (by decide) rfl ?_
    refine wk_icmp_ge (t := 39) (q := 19) dX12_daysGo_16 rfl rfl (fun c16 => ?_) (fun h => absurd (by rw [h1]; exact nI_le (by omega) (by omega)) h)
    have e : j = c := by omega
    subst e
    refine wk_pick [0, 1, 2] (lv' := [_, _, _]) rfl ?_
    exact hQ
  | succ r ih =>
    intro j hj
    refine wk_iload_n (i := 3) (q := 10) dX12_daysGo_9 rfl rfl rfl ?_
    refine wk_aload_n (i := 0) (q := 11) dX12_daysGo_10 rfl rfl rfl ?_
    refine wk_get (q := 14) fgX12_7 dX12_daysGo_11 rfl rfl rfl rfl ?_
    refine wk_iconst (v := 1) (q := 15) dX12_daysGo_14 rfl rfl ?_
    refine wk_sld (n := 1) (q := 16) dX12_daysGo_15 rfl (by decide) rfl ?_
    refine wk_icmp_ge (t := 39) (q := 19) dX12_daysGo_16 rfl rfl (fun h => absurd h (by rw [h1]; exact nI_ge (by omega) (by omega))) (fun c16 => ?_)
    refine wk_aload_n (i := 0) (q := 20) dX12_daysGo_19 rfl rfl rfl ?_
    refine wk_iload_n (i := 3) (q := 21) dX12_daysGo_20 rfl rfl rfl ?_
    refine wk_iconst (v := 4) (q := 22) dX12_daysGo_21 rfl rfl ?_
    refine wk_V2r (d' := 2) (q := 25) lkX12_67 dX12_daysGo_22 rfl rfl rfl rfl rfl rfl rfl ?_
    refine ck_X12_its (g := j) (w := 4) (by omega) (by omega) ?_
    refine wk_if_le (t := 33) (q := 28) dX12_daysGo_25 rfl rfl (fun c25 => ?_) (fun c25 => ?_)
    · skip
      rw [dyR_skip (by omega) (by rw [fa_lt]; rw [fa_le] at c25; exact Int.not_lt.mpr c25)]
      refine wk_iinc (w := 1) (q := 36) (lv' := [_, _, _, _]) dX12_daysGo_33 rfl rfl rfl rfl rfl ?_
      rw [nI_1]
      refine wk_goto (t := 9) dX12_daysGo_36 rfl ?_
      exact ih (j + 1) (by omega)
    · skip
      refine wk_aload_n (i := 0) (q := 29) dX12_daysGo_28 rfl rfl rfl ?_
      refine wk_iload_n (i := 3) (q := 30) dX12_daysGo_29 rfl rfl rfl ?_
      refine wk_V1v (d' := 4) (q := 33) lkX12_153 dX12_daysGo_30 rfl rfl rfl rfl rfl rfl rfl ?_
      refine ck_X12_dries (g := j) (by omega) (by rw [fa_lt]; rw [fa_le] at c25; exact Int.not_le.mp c25) ?_
      rw [dyR_step (by omega)]
      refine wk_iinc (w := 1) (q := 36) (lv' := [_, _, _, _]) dX12_daysGo_33 rfl rfl rfl rfl rfl ?_
      rw [nI_1]
      refine wk_goto (t := 9) dX12_daysGo_36 rfl ?_
      exact ih (j + 1) (by omega)
theorem lp2_X12_daysGo {N : Nat} {D : Nat} (hN : N < 2 ^ 31) (hO : okA D A) (hQ : Q .null (wr m 73 (dayA A N)) L) : ∀ (r k : Nat), k + r = N → ∀ lv', (lv' = [(0, Value.ref (ev_z E + 72)), (1, .int (nI N)), (2, .int (nI k))]) → WK E 5 MX12_daysGo 2 lv' [] (wr m 73 (dyR A (cA A) k 0)) L Q := by
  intro r
  induction r with
  | zero =>
    intro k hk lv' hlv
    subst hlv
    refine wk_iload_n (i := 2) (q := 3) dX12_daysGo_2 rfl rfl rfl ?_
    refine wk_iload_n (i := 1) (q := 4) dX12_daysGo_3 rfl rfl rfl ?_
    refine wk_icmp_ge (t := 55) (q := 7) dX12_daysGo_4 rfl rfl (fun c4 => ?_) (fun h => absurd (nI_le (by omega) (by omega)) h)
    refine wk_return dX12_daysGo_55 rfl ?_
    have e : k = N := by omega
    subst e
    rw [dyR_dayA]
    exact hQ
  | succ r ih =>
    intro k hk lv' hlv
    subst hlv
    refine wk_iload_n (i := 2) (q := 3) dX12_daysGo_2 rfl rfl rfl ?_
    refine wk_iload_n (i := 1) (q := 4) dX12_daysGo_3 rfl rfl rfl ?_
    refine wk_icmp_ge (t := 55) (q := 7) dX12_daysGo_4 rfl rfl (fun h => absurd h (nI_ge (by omega) hN)) (fun c4 => ?_)
    refine wk_iconst (v := 0) (q := 8) dX12_daysGo_7 rfl rfl ?_
    refine wk_istore_n (i := 3) (q := 9) (lv' := [_, _, _, _]) dX12_daysGo_8 rfl rfl rfl rfl ?_
    refine lp1_X12_daysGo (c := cA A) (k := k) hO.1.1 hO.1.2.1 ?_ (cA A) 0 (by omega)
    refine wk_aload_n (i := 0) (q := 40) dX12_daysGo_39 rfl rfl rfl ?_
    refine wk_get (q := 43) fgX12_7 dX12_daysGo_40 rfl rfl rfl rfl ?_
    refine wk_iconst (v := 0) (q := 44) dX12_daysGo_43 rfl rfl ?_
    refine wk_dup2 (q := 45) dX12_daysGo_44 rfl rfl rfl ?_
    refine wk_sld (n := 0) (q := 46) dX12_daysGo_45 rfl (by decide) rfl ?_
    refine wk_iconst (v := 1) (q := 47) dX12_daysGo_46 rfl rfl ?_
    refine wk_iadd (q := 48) dX12_daysGo_47 rfl ?_
    refine wk_sst (n := 0) (q := 49) dX12_daysGo_48 rfl (by decide) rfl ?_
    rw [dyR_day]
    refine wk_iinc (w := 1) (q := 52) (lv' := [_, _, _]) dX12_daysGo_49 rfl rfl rfl rfl rfl ?_
    rw [nI_1]
    refine wk_goto (t := 2) dX12_daysGo_52 rfl ?_
    exact ih (k + 1) (by omega) _ rfl
theorem ck_X12_daysGo {N D : Nat} (hN : N < 2 ^ 31) (hO : okA D A) (hQ : Q .null (wr m 73 (dayA A N)) L) : CK E 5 MX12_daysGo [.ref (ev_z E + 72), .int (nI N)] (wr m 73 A) L Q := by
  refine CK.of rfl rfl (lv := [(0, _), (1, _)]) rfl ?_
  refine wk_iconst (v := 0) (q := 1) dX12_daysGo_0 rfl rfl ?_
  refine wk_istore_n (i := 2) (q := 2) (lv' := [_, _, _]) dX12_daysGo_1 rfl rfl rfl rfl ?_
  have hl := lp2_X12_daysGo (E := E) hN hO hQ N 0 (by omega) _ rfl
  rw [dyR_00] at hl
  exact hl
theorem lp_X12_laysAside (hQ : ∀ B, eq73 B A → Q .null (wr (wr m 76 B) 73 A) L) : ∀ (r j : Nat), j + r = 73 → WK E 1 MX12_laysAside 2 [(0, .ref (ev_z E + 72)), (1, .int (nI j))] [] (wr (wr m 76 (cp73 A (m 76) j)) 73 A) L Q := by
  intro r
  induction r with
  | zero =>
    intro j hj
    refine wk_iload_n (i := 1) (q := 3) dX12_laysAside_2 rfl rfl rfl ?_
    refine wk_bipush (v := 73) (q := 5) dX12_laysAside_3 rfl rfl ?_
    refine wk_icmp_ge (t := 26) (q := 8) dX12_laysAside_5 rfl rfl (fun c5 => ?_) (fun h => absurd (nI_le (a := 73) (by omega) (by omega)) h)
    refine wk_return dX12_laysAside_26 rfl ?_
    exact hQ _ (fun i hi => by unfold cp73; rw [if_pos (by omega)])
  | succ r ih =>
    intro j hj
    refine wk_iload_n (i := 1) (q := 3) dX12_laysAside_2 rfl rfl rfl ?_
    refine wk_bipush (v := 73) (q := 5) dX12_laysAside_3 rfl rfl ?_
    refine wk_icmp_ge (t := 26) (q := 8) dX12_laysAside_5 rfl rfl (fun h => absurd h (nI_ge (b := 73) (by omega) (by omega))) (fun c5 => ?_)
    refine wk_aload_n (i := 0) (q := 9) dX12_laysAside_8 rfl rfl rfl ?_
    refine wk_get (q := 12) fgX12_19 dX12_laysAside_9 rfl rfl rfl rfl ?_
    refine wk_iload_n (i := 1) (q := 13) dX12_laysAside_12 rfl rfl rfl ?_
    refine wk_aload_n (i := 0) (q := 14) dX12_laysAside_13 rfl rfl rfl ?_
    refine wk_get (q := 17) fgX12_7 dX12_laysAside_14 rfl rfl rfl rfl ?_
    refine wk_iload_n (i := 1) (q := 18) dX12_laysAside_17 rfl rfl rfl ?_
    refine wk_sld (n := j) (q := 19) dX12_laysAside_18 rfl (by omega) rfl ?_
    refine wk_iast (n := j) (q := 20) dX12_laysAside_19 rfl rfl (by show _ < 73; omega) rfl ?_
    rw [wr_n (show (76 : Nat) ≠ 73 by decide), wr_s, wr_comm (show (73 : Nat) ≠ 76 by decide), wr_wr, cp73_s]
    refine wk_iinc (w := 1) (q := 23) (lv' := [_, _]) dX12_laysAside_20 rfl rfl rfl rfl rfl ?_
    rw [nI_1]
    refine wk_goto (t := 2) dX12_laysAside_23 rfl ?_
    exact ih (j + 1) (by omega)
theorem ck_X12_laysAside (hQ : ∀ B, eq73 B A → Q .null (wr (wr m 76 B) 73 A) L) : CK E 1 MX12_laysAside [.ref (ev_z E + 72)] (wr m 73 A) L Q := by
  refine CK.of rfl rfl (lv := [(0, _)]) rfl ?_
  refine wk_iconst (v := 0) (q := 1) dX12_laysAside_0 rfl rfl ?_
  refine wk_istore_n (i := 1) (q := 2) (lv' := [_, _]) dX12_laysAside_1 rfl rfl rfl rfl ?_
  have hl := lp_X12_laysAside (E := E) hQ 73 0 (by omega)
  rw [cp73_0, wr_self] at hl
  exact hl
theorem lp_X12_takesBack {B A' : Nat → Int32} {v : Int32} (hB : eq73 B A) (hA : ∀ j, 73 ≤ j → A' j = A j) (hQ : Q (.int v) (wr (wr m 76 B) 73 A) L) : ∀ (r j : Nat), j + r = 73 → WK E 1 MX12_takesBack 2 [(0, .ref (ev_z E + 72)), (1, .int v), (2, .int (nI j))] [] (wr (wr m 76 B) 73 (cp73 B A' j)) L Q := by
  intro r
  induction r with
  | zero =>
    intro j hj
    refine wk_iload_n (i := 2) (q := 3) dX12_takesBack_2 rfl rfl rfl ?_
    refine wk_bipush (v := 73) (q := 5) dX12_takesBack_3 rfl rfl ?_
    refine wk_icmp_ge (t := 26) (q := 8) dX12_takesBack_5 rfl rfl (fun c5 => ?_) (fun h => absurd (nI_le (a := 73) (by omega) (by omega)) h)
    refine wk_iload_n (i := 1) (q := 27) dX12_takesBack_26 rfl rfl rfl ?_
    refine wk_ireturn dX12_takesBack_27 rfl rfl ?_
    have e : cp73 B A' j = A := by (funext i; unfold cp73; by_cases h : i < j; (rw [if_pos h]; exact hB i (by omega)); (rw [if_neg h]; exact hA i (by omega)))
    rw [e]
    exact hQ
  | succ r ih =>
    intro j hj
    refine wk_iload_n (i := 2) (q := 3) dX12_takesBack_2 rfl rfl rfl ?_
    refine wk_bipush (v := 73) (q := 5) dX12_takesBack_3 rfl rfl ?_
    refine wk_icmp_ge (t := 26) (q := 8) dX12_takesBack_5 rfl rfl (fun h => absurd h (nI_ge (b := 73) (by omega) (by omega))) (fun c5 => ?_)
    refine wk_aload_n (i := 0) (q := 9) dX12_takesBack_8 rfl rfl rfl ?_
    refine wk_get (q := 12) fgX12_7 dX12_takesBack_9 rfl rfl rfl rfl ?_
    refine wk_iload_n (i := 2) (q := 13) dX12_takesBack_12 rfl rfl rfl ?_
    refine wk_aload_n (i := 0) (q := 14) dX12_takesBack_13 rfl rfl rfl ?_
    refine wk_get (q := 17) fgX12_19 dX12_takesBack_14 rfl rfl rfl rfl ?_
    refine wk_iload_n (i := 2) (q := 18) dX12_takesBack_17 rfl rfl rfl ?_
    refine wk_iald (n := j) (q := 19) dX12_takesBack_18 rfl rfl (by show _ < 73; omega) rfl ?_
    rw [wr_n (show (76 : Nat) ≠ 73 by decide), wr_s]
    refine wk_sst (n := j) (q := 20) dX12_takesBack_19 rfl (by omega) rfl ?_
    rw [cp73_s]
    refine wk_iinc (w := 1) (q := 23) (lv' := [_, _, _]) dX12_takesBack_20 rfl rfl rfl rfl rfl ?_
    rw [nI_1]
    refine wk_goto (t := 2) dX12_takesBack_23 rfl ?_
    exact ih (j + 1) (by omega)
theorem ck_X12_takesBack {B A' : Nat → Int32} {v : Int32} (hB : eq73 B A) (hA : ∀ j, 73 ≤ j → A' j = A j) (hQ : Q (.int v) (wr (wr m 76 B) 73 A) L) : CK E 1 MX12_takesBack [.ref (ev_z E + 72), .int v] (wr (wr m 76 B) 73 A') L Q := by
  refine CK.of rfl rfl (lv := [(0, _), (1, _)]) rfl ?_
  refine wk_iconst (v := 0) (q := 1) dX12_takesBack_0 rfl rfl ?_
  refine wk_istore_n (i := 2) (q := 2) (lv' := [_, _, _]) dX12_takesBack_1 rfl rfl rfl rfl ?_
  have hl := lp_X12_takesBack (E := E) hB hA hQ 73 0 (by omega)
  rw [cp73_0] at hl
  exact hl
theorem lp_X12_isWashed {N : Nat} (hN : N < 2 ^ 31) (hg : g < 8) (hQ : Q .null (wr m 73 (gput A g (wshN (A 3) (A 4) (gv A g) N))) L) : ∀ (r j : Nat), j + r = N → WK E 6 MX12_isWashed 2 [(0, .ref (ev_z E + 72)), (1, .int (nI g)), (2, .int (nI N)), (3, .int (nI j))] [] (wr m 73 (gput A g (wshN (A 3) (A 4) (gv A g) j))) L Q := by
  intro r
  induction r with
  | zero =>
    intro j hj
    refine wk_iload_n (i := 3) (q := 3) dX12_isWashed_2 rfl rfl rfl ?_
    refine wk_iload_n (i := 2) (q := 4) dX12_isWashed_3 rfl rfl rfl ?_
    refine wk_icmp_ge (t := 19) (q := 7) dX12_isWashed_4 rfl rfl (fun c4 => ?_) (fun h => absurd (nI_le (by omega) (by omega)) h)
    refine wk_return dX12_isWashed_19 rfl ?_
    have e : j = N := by omega
    subst e
    exact hQ
  | succ r ih =>
    intro j hj
    refine wk_iload_n (i := 3) (q := 3) dX12_isWashed_2 rfl rfl rfl ?_
    refine wk_iload_n (i := 2) (q := 4) dX12_isWashed_3 rfl rfl rfl ?_
    refine wk_icmp_ge (t := 19) (q := 7) dX12_isWashed_4 rfl rfl (fun h => absurd h (nI_ge (by omega) hN)) (fun c4 => ?_)
    refine wk_aload_n (i := 0) (q := 8) dX12_isWashed_7 rfl rfl rfl ?_
    refine wk_iload_n (i := 1) (q := 9) dX12_isWashed_8 rfl rfl rfl ?_
    refine wk_V1r (d' := 5) (q := 12) lkX12_134 dX12_isWashed_9 rfl rfl rfl rfl rfl rfl rfl ?_
    refine ck_X12_washed (g := g) (by omega) ?_
    rw [gput_n (show (3 : Nat) < 5 + 7 * g ∨ 12 + 7 * g ≤ 3 by omega), gput_n (show (4 : Nat) < 5 + 7 * g ∨ 12 + 7 * g ≤ 4 by omega), gput_gput, gput_cong (E7.wsh gv_gput)]
    refine wk_pop (q := 13) dX12_isWashed_12 rfl rfl ?_
    refine wk_iinc (w := 1) (q := 16) (lv' := [_, _, _, _]) dX12_isWashed_13 rfl rfl rfl rfl rfl ?_
    rw [nI_1]
    refine wk_goto (t := 2) dX12_isWashed_16 rfl ?_
    exact ih (j + 1) (by omega)
theorem ck_X12_isWashed {N : Nat} (hN : N < 2 ^ 31) (hg : g < 8) (hQ : Q .null (wr m 73 (gput A g (wshN (A 3) (A 4) (gv A g) N))) L) : CK E 6 MX12_isWashed [.ref (ev_z E + 72), .int (nI g), .int (nI N)] (wr m 73 A) L Q := by
  refine CK.of rfl rfl (lv := [(0, _), (1, _), (2, _)]) rfl ?_
  refine wk_iconst (v := 0) (q := 1) dX12_isWashed_0 rfl rfl ?_
  refine wk_istore_n (i := 3) (q := 2) (lv' := [_, _, _, _]) dX12_isWashed_1 rfl rfl rfl rfl ?_
  have hl := lp_X12_isWashed (E := E) hN hg hQ N 0 (by omega)
  rw [show wshN (A 3) (A 4) (gv A g) 0 = gv A g from rfl, gput_gv] at hl
  exact hl
theorem ck_X12_washedTo {N w : Nat} (hN : N < 2 ^ 31) (hg : g < 8) (hw : w < 7) (hQ : ∀ B, Q (.int (wshN (A 3) (A 4) (gv A g) N w)) (wr (wr m 76 B) 73 A) L) : CK E 7 MX12_washedTo [.ref (ev_z E + 72), .int (nI g), .int (nI N), .int (nI w)] (wr m 73 A) L Q := by
  refine CK.of rfl rfl (lv := [(0, _), (1, _), (2, _), (3, _)]) rfl ?_
  refine wk_aload_n (i := 0) (q := 1) dX12_washedTo_0 rfl rfl rfl ?_
  refine wk_V0v (d' := 1) (q := 4) lkX12_168 dX12_washedTo_1 rfl rfl rfl rfl rfl rfl rfl ?_
  refine ck_X12_laysAside (fun B hBA => ?_)
  refine wk_aload_n (i := 0) (q := 5) dX12_washedTo_4 rfl rfl rfl ?_
  refine wk_iload_n (i := 1) (q := 6) dX12_washedTo_5 rfl rfl rfl ?_
  refine wk_iload_n (i := 2) (q := 7) dX12_washedTo_6 rfl rfl rfl ?_
  refine wk_V2v (d' := 6) (q := 10) lkX12_174 dX12_washedTo_7 rfl rfl rfl rfl rfl rfl rfl ?_
  refine ck_X12_isWashed (N := N) hN hg ?_
  refine wk_aload_n (i := 0) (q := 11) dX12_washedTo_10 rfl rfl rfl ?_
  refine wk_aload_n (i := 0) (q := 12) dX12_washedTo_11 rfl rfl rfl ?_
  refine wk_iload_n (i := 1) (q := 13) dX12_washedTo_12 rfl rfl rfl ?_
  refine wk_iload_n (i := 3) (q := 14) dX12_washedTo_13 rfl rfl rfl ?_
  refine wk_V2r (d' := 2) (q := 17) lkX12_67 dX12_washedTo_14 rfl rfl rfl rfl rfl rfl rfl ?_
  refine ck_X12_its (g := g) (w := w) (by omega) (by omega) ?_
  rw [gput_s hw]
  refine wk_V1r (d' := 1) (q := 20) lkX12_171 dX12_washedTo_17 rfl rfl rfl rfl rfl rfl rfl ?_
  refine ck_X12_takesBack hBA (fun j hj => gput_n (by omega)) ?_
  refine wk_ireturn dX12_washedTo_20 rfl rfl ?_
  exact hQ B
end MG
