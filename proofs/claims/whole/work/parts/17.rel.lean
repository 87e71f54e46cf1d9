/-! how many fit; the class's memory against the reference's rows; the small methods of the class -/
theorem bitsS_cong {P R : Nat → Bool} : ∀ {n : Nat}, (∀ g, g < n → P g = R g) → bitsS P n = bitsS R n
  | 0, _ => rfl
  | n + 1, h => by
    show bitsS P n ||| _ = bitsS R n ||| _
    rw [bitsS_cong (fun g hg => h g (by omega)), h n (by omega)]
theorem cntS_cong {P R : Nat → Bool} : ∀ {n : Nat}, (∀ g, g < n → P g = R g) → cntS P n = cntS R n
  | 0, _ => rfl
  | n + 1, h => by
    show cntS P n + _ = cntS R n + _
    rw [cntS_cong (fun g hg => h g (by omega)), h n (by omega)]
theorem bitsS_pad {P : Nat → Bool} {c : Nat} : ∀ n, bitsS (fun g => P g && decide (g < c)) (c + n) = bitsS P c
  | 0 => bitsS_cong (fun g hg => by have hg : g < c := hg; simp [hg])
  | n + 1 => by
    show bitsS _ (c + n) ||| _ = _
    rw [bitsS_pad n, if_neg (by simp), Int32.or_zero]
theorem cntS_pad {P : Nat → Bool} {c : Nat} : ∀ n, cntS (fun g => P g && decide (g < c)) (c + n) = cntS P c
  | 0 => cntS_cong (fun g hg => by have hg : g < c := hg; simp [hg])
  | n + 1 => by
    show cntS _ (c + n) + _ = _
    rw [cntS_pad n, if_neg (by simp), Int32.add_zero]
theorem bc_8 : ∀ b0 b1 b2 b3 b4 b5 b6 b7 : Bool, bcF (bitsS (fun g => [b0, b1, b2, b3, b4, b5, b6, b7].getD g false) 8) = cntS (fun g => [b0, b1, b2, b3, b4, b5, b6, b7].getD g false) 8 := by decide +kernel
theorem lst8 {R : Nat → Bool} : ∀ g, g < 8 → R g = [R 0, R 1, R 2, R 3, R 4, R 5, R 6, R 7].getD g false := by
  intro g hg
  obtain rfl | rfl | rfl | rfl | rfl | rfl | rfl | rfl : g = 0 ∨ g = 1 ∨ g = 2 ∨ g = 3 ∨ g = 4 ∨ g = 5 ∨ g = 6 ∨ g = 7 := by omega
  all_goals rfl
theorem bc_bits {P : Nat → Bool} {c : Nat} (hc : c ≤ 8) : bcF (bitsS P c) = cntS P c := by
  obtain ⟨n, hn⟩ : ∃ n, c + n = 8 := ⟨8 - c, by omega⟩
  rw [← bitsS_pad n, ← cntS_pad n, hn, bitsS_cong lst8, cntS_cong lst8]
  exact bc_8 _ _ _ _ _ _ _ _
theorem cntS_b {P : Nat → Bool} : ∀ {c : Nat}, c ≤ 8 → 0 ≤ (cntS P c).toInt ∧ (cntS P c).toInt ≤ c
  | 0, _ => ⟨by show 0 ≤ (0 : Int32).toInt; decide, by show (0 : Int32).toInt ≤ 0; decide⟩
  | c + 1, h => by
    have ih := cntS_b (P := P) (c := c) (by omega)
    show 0 ≤ (cntS P c + _).toInt ∧ (cntS P c + _).toInt ≤ _
    have o : (1 : Int32).toInt = 1 := by decide
    split
    · rw [ad_i (by omega) (by omega), o]; omega
    · rw [Int32.add_zero]; omega
def bst (A : Nat → Int32) (c : Nat) : Nat → Nat
  | 0 => 0
  | n + 1 => if cntS (fitB A (bst A c n)) c < cntS (fitB A n) c then n else bst A c n
theorem bst_lt (A : Nat → Int32) (c : Nat) : ∀ n, 0 < n → bst A c n < n
  | 1, _ => by
    show (if _ then 0 else bst A c 0) < 1
    split
    · exact Nat.one_pos
    · exact Nat.one_pos
  | n + 2, _ => by
    have := bst_lt A c (n + 1) (by omega)
    unfold bst
    split <;> omega
section RL
variable {E : EVt} {m : Mm} {L : Ml} {Q : Value → Mm → Ml → Prop} {b : Nat} {A : Nat → Int32}
theorem lp_X0_bestDressed {c n D : Nat} (hb : shp b = 0) (hB : hasB m b A) (hO : okA D A) (hcc : c = cA A) (hn : n = pA A) (hQ : Q (.int (nI (bst A c n))) m L) : ∀ (r j : Nat) (be mo : Int32), j + r = n → be = nI (bst A c j) → ((j = 0 ∧ mo = -1) ∨ (0 < j ∧ mo = cntS (fitB A (bst A c j)) c)) → ∀ lv', lv' = [(0, .ref (ev_z E + b)), (1, .int be), (2, .int mo), (3, .int (nI j))] → WK E 4 MX0_bestDressed 6 lv' [] m L Q := by
  have hc4 : m b 4 = nI n := by rw [hn]; exact hB.2.1.trans hO.2.1.1
  have hp6 := hO.2.1.2.1
  have hc8 := hO.1.2.1
  intro r
  induction r with
  | zero =>
    intro j be mo hj hbe hmo lv' hlv
    subst hlv
    refine wk_iload_n (i := 3) (q := 7) dX0_bestDressed_6 rfl rfl rfl ?_
    refine wk_aload_n (i := 0) (q := 8) dX0_bestDressed_7 rfl rfl rfl ?_
    refine wk_get (q := 11) fgX0_38 dX0_bestDressed_8 hb rfl rfl rfl ?_
    refine wk_icmp_ge (t := 46) (q := 14) dX0_bestDressed_11 rfl rfl (fun c11 => ?_) (fun h => absurd (by rw [hc4]; exact nI_le (by omega) (by omega)) h)
    refine wk_iload_n (i := 1) (q := 47) dX0_bestDressed_46 rfl rfl rfl ?_
    refine wk_ireturn dX0_bestDressed_47 rfl rfl ?_
    have e : j = n := by omega
    subst e
    rw [hbe]
    exact hQ
  | succ r ih =>
    intro j be mo hj hbe hmo lv' hlv
    subst hlv
    have cb1 := cntS_b (P := fitB A j) (c := c) (by omega)
    have cb2 := cntS_b (P := fitB A (bst A c j)) (c := c) (by omega)
    have e1 : (-1 : Int32).toInt = -1 := by decide
    refine wk_iload_n (i := 3) (q := 7) dX0_bestDressed_6 rfl rfl rfl ?_
    refine wk_aload_n (i := 0) (q := 8) dX0_bestDressed_7 rfl rfl rfl ?_
    refine wk_get (q := 11) fgX0_38 dX0_bestDressed_8 hb rfl rfl rfl ?_
    refine wk_icmp_ge (t := 46) (q := 14) dX0_bestDressed_11 rfl rfl (fun h => absurd h (by rw [hc4]; exact nI_ge (by omega) (by omega))) (fun c11 => ?_)
    refine wk_aload_n (i := 0) (q := 15) dX0_bestDressed_14 rfl rfl rfl ?_
    refine wk_aload_n (i := 0) (q := 16) dX0_bestDressed_15 rfl rfl rfl ?_
    refine wk_get (q := 19) fgX0_26 dX0_bestDressed_16 hb rfl rfl rfl ?_
    refine wk_iload_n (i := 3) (q := 20) dX0_bestDressed_19 rfl rfl rfl ?_
    refine wk_aaldP (n := j) (q := 21) dX0_bestDressed_20 (sh_pa hb) rfl (by omega) rfl ?_
    refine wk_V1r (d' := 3) (q := 24) lkX0_78 dX0_bestDressed_21 hb rfl rfl rfl rfl rfl rfl ?_
    refine ck_X0_onesFor (c := c) (p := j) hb hB hO hcc (by omega) ?_
    refine wk_S1r (d' := 1) (q := 27) lkX0_82 dX0_bestDressed_24 rfl rfl rfl rfl ?_
    refine ck_bitCount ?_
    rw [bc_bits (by omega)]
    refine wk_istore (i := 4) (q := 29) (lv' := [_, _, _, _, _]) dX0_bestDressed_27 rfl rfl rfl ?_
    refine wk_iload (i := 4) (q := 31) dX0_bestDressed_29 rfl rfl ?_
    refine wk_iload_n (i := 2) (q := 32) dX0_bestDressed_31 rfl rfl rfl ?_
    refine wk_icmp_le (t := 40) (q := 35) dX0_bestDressed_32 rfl rfl (fun c32 => ?_) (fun c32 => ?_)
    · skip
      have hs : bst A c (j + 1) = bst A c j ∧ 0 < j := by (rcases hmo with ⟨h0, h1⟩ | ⟨h0, h1⟩; (rw [h1, fa_le] at c32; omega); (refine ⟨?_, h0⟩; show (if _ then _ else _) = _; rw [if_neg (by rw [fa_lt]; rw [h1, fa_le] at c32; omega)]))
      refine wk_iinc (w := 1) (q := 43) (lv' := [_, _, _, _, _]) dX0_bestDressed_40 rfl rfl rfl rfl rfl ?_
      rw [nI_1]
      refine wk_goto (t := 6) dX0_bestDressed_43 rfl ?_
      refine wk_pick [0, 1, 2, 3] (lv' := [_, _, _, _]) rfl ?_
      first | exact ih (j + 1) _ _ (by omega) (by rw [hs.1]; exact hbe) (Or.inr ⟨by omega, by rcases hmo with ⟨h0, h1⟩ | ⟨h0, h1⟩; omega; rw [hs.1]; exact h1⟩) _ rfl | (exact ih (j + 1) _ _ (by omega) (by rw [hs]) (Or.inr ⟨by omega, by rw [hs]⟩) _ rfl)
    · skip
      have hs : bst A c (j + 1) = j := by (show (if _ then _ else _) = _; rcases hmo with ⟨h0, h1⟩ | ⟨h0, h1⟩; (subst h0; split <;> rfl); (rw [if_pos (by rw [fa_lt]; rw [h1, fa_le] at c32; omega)]))
      refine wk_iload (i := 4) (q := 37) dX0_bestDressed_35 rfl rfl ?_
      refine wk_istore_n (i := 2) (q := 38) (lv' := [_, _, _, _, _]) dX0_bestDressed_37 rfl rfl rfl rfl ?_
      refine wk_iload_n (i := 3) (q := 39) dX0_bestDressed_38 rfl rfl rfl ?_
      skip
      refine wk_istore_n (i := 1) (q := 40) (lv' := [_, _, _, _, _]) dX0_bestDressed_39 rfl rfl rfl rfl ?_
      refine wk_iinc (w := 1) (q := 43) (lv' := [_, _, _, _, _]) dX0_bestDressed_40 rfl rfl rfl rfl rfl ?_
      rw [nI_1]
      refine wk_goto (t := 6) dX0_bestDressed_43 rfl ?_
      refine wk_pick [0, 1, 2, 3] (lv' := [_, _, _, _]) rfl ?_
      first | exact ih (j + 1) _ _ (by omega) (by rw [hs.1]; exact hbe) (Or.inr ⟨by omega, by rcases hmo with ⟨h0, h1⟩ | ⟨h0, h1⟩; omega; rw [hs.1]; exact h1⟩) _ rfl | (exact ih (j + 1) _ _ (by omega) (by rw [hs]) (Or.inr ⟨by omega, by rw [hs]⟩) _ rfl)
theorem ck_X0_bestDressed {c n D : Nat} (hb : shp b = 0) (hB : hasB m b A) (hO : okA D A) (hcc : c = cA A) (hn : n = pA A) (hQ : Q (.int (nI (bst A c n))) m L) : CK E 4 MX0_bestDressed [.ref (ev_z E + b)] m L Q := by
  refine CK.of rfl rfl (lv := [(0, _)]) rfl ?_
  refine wk_iconst (v := 0) (q := 1) dX0_bestDressed_0 rfl rfl ?_
  refine wk_istore_n (i := 1) (q := 2) (lv' := [_, _]) dX0_bestDressed_1 rfl rfl rfl rfl ?_
  refine wk_iconst (v := -1) (q := 3) dX0_bestDressed_2 rfl rfl ?_
  refine wk_istore_n (i := 2) (q := 4) (lv' := [_, _, _]) dX0_bestDressed_3 rfl rfl rfl rfl ?_
  refine wk_iconst (v := 0) (q := 5) dX0_bestDressed_4 rfl rfl ?_
  refine wk_istore_n (i := 3) (q := 6) (lv' := [_, _, _, _]) dX0_bestDressed_5 rfl rfl rfl rfl ?_
  exact lp_X0_bestDressed hb hB hO hcc hn hQ n 0 0 (-1) (by omega) rfl (Or.inl ⟨rfl, rfl⟩) _ rfl
theorem ck_X11_isKind {v : Int32} (h1 : 0 ≤ v ∧ v ≤ 5 → Q (.int 1) m L) (h0 : ¬ (0 ≤ v ∧ v ≤ 5) → Q (.int 0) m L) : CK E 2 MX11_isKind [.int v] m L Q := by
  refine CK.of rfl rfl (lv := [(0, _)]) rfl ?_
  refine wk_iload_n (i := 0) (q := 1) dX11_isKind_0 rfl rfl rfl ?_
  refine wk_iconst (v := 0) (q := 2) dX11_isKind_1 rfl rfl ?_
  refine wk_iconst (v := 5) (q := 3) dX11_isKind_2 rfl rfl ?_
  refine wk_S3r (d' := 1) (q := 6) lkX11_61 dX11_isKind_3 rfl rfl rfl rfl ?_
  refine ck_X11_within (fun hw => ?_) (fun hw => ?_)
  · skip
    refine wk_ireturn dX11_isKind_6 rfl rfl ?_
    exact h1 hw
  · skip
    refine wk_ireturn dX11_isKind_6 rfl rfl ?_
    exact h0 hw
theorem ck_X11_isSpan {v : Int32} (h1 : 10 ≤ v ∧ v ≤ 200 → Q (.int 1) m L) (h0 : ¬ (10 ≤ v ∧ v ≤ 200) → Q (.int 0) m L) : CK E 2 MX11_isSpan [.int v] m L Q := by
  refine CK.of rfl rfl (lv := [(0, _)]) rfl ?_
  refine wk_iload_n (i := 0) (q := 1) dX11_isSpan_0 rfl rfl rfl ?_
  refine wk_bipush (v := 10) (q := 3) dX11_isSpan_1 rfl rfl ?_
  refine wk_sipush (v := 200) (q := 6) dX11_isSpan_3 rfl rfl ?_
  refine wk_S3r (d' := 1) (q := 9) lkX11_61 dX11_isSpan_6 rfl rfl rfl rfl ?_
  refine ck_X11_within (fun hw => ?_) (fun hw => ?_)
  · skip
    refine wk_ireturn dX11_isSpan_9 rfl rfl ?_
    exact h1 hw
  · skip
    refine wk_ireturn dX11_isSpan_9 rfl rfl ?_
    exact h0 hw
def maySetP (w v : Int32) : Prop := ((w = 1 ∨ w = 2) ∧ 10 ≤ v ∧ v ≤ 200) ∨ (w = 3 ∧ 1 ≤ v ∧ v ≤ 99) ∨ (w = 6 ∧ 0 ≤ v ∧ v ≤ 9999)
theorem ck_X11_maySet {w v : Int32} (h1 : maySetP w v → Q (.int 1) m L) (h0 : ¬ maySetP w v → Q (.int 0) m L) : CK E 3 MX11_maySet [.int w, .int v] m L Q := by
  refine CK.of rfl rfl (lv := [(0, _), (1, _)]) rfl ?_
  refine wk_iload_n (i := 0) (q := 1) dX11_maySet_0 rfl rfl rfl ?_
  refine wk_table (cs := [(1, 40), (2, 45), (3, 50), (4, 67), (5, 67), (6, 58)]) (td := 67) dX11_maySet_1 (by decide +kernel) ?_
  refine And.intro (fun c1_0 => ?_) (fun n1_0 => ?_)
  · skip
    refine wk_iload_n (i := 1) (q := 41) dX11_maySet_40 rfl rfl rfl ?_
    refine wk_S1r (d' := 2) (q := 44) lkX11_164 dX11_maySet_41 rfl rfl rfl rfl ?_
    refine ck_X11_isSpan (fun hw => ?_) (fun hw => ?_)
    · skip
      refine wk_ireturn dX11_maySet_44 rfl rfl ?_
      refine h1 ?_
      unfold maySetP
      first | exact Or.inl ⟨Or.inl ‹_›, hw⟩ | exact Or.inl ⟨Or.inr ‹_›, hw⟩ | exact Or.inr (Or.inl ⟨‹_›, hw⟩) | exact Or.inr (Or.inr ⟨‹_›, hw⟩)
    · skip
      refine wk_ireturn dX11_maySet_44 rfl rfl ?_
      refine h0 ?_
      unfold maySetP
      intro hh
      rcases hh with ⟨e | e, hx⟩ | ⟨e, hx⟩ | ⟨e, hx⟩ <;> first | contradiction | exact hw hx | (subst e; first | contradiction | exact absurd ‹_› (by decide))
  refine And.intro (fun c1_1 => ?_) (fun n1_1 => ?_)
  · skip
    refine wk_iload_n (i := 1) (q := 46) dX11_maySet_45 rfl rfl rfl ?_
    refine wk_S1r (d' := 2) (q := 49) lkX11_164 dX11_maySet_46 rfl rfl rfl rfl ?_
    refine ck_X11_isSpan (fun hw => ?_) (fun hw => ?_)
    · skip
      refine wk_ireturn dX11_maySet_49 rfl rfl ?_
      refine h1 ?_
      unfold maySetP
      first | exact Or.inl ⟨Or.inl ‹_›, hw⟩ | exact Or.inl ⟨Or.inr ‹_›, hw⟩ | exact Or.inr (Or.inl ⟨‹_›, hw⟩) | exact Or.inr (Or.inr ⟨‹_›, hw⟩)
    · skip
      refine wk_ireturn dX11_maySet_49 rfl rfl ?_
      refine h0 ?_
      unfold maySetP
      intro hh
      rcases hh with ⟨e | e, hx⟩ | ⟨e, hx⟩ | ⟨e, hx⟩ <;> first | contradiction | exact hw hx | (subst e; first | contradiction | exact absurd ‹_› (by decide))
  refine And.intro (fun c1_2 => ?_) (fun n1_2 => ?_)
  · skip
    refine wk_iload_n (i := 1) (q := 51) dX11_maySet_50 rfl rfl rfl ?_
    refine wk_iconst (v := 1) (q := 52) dX11_maySet_51 rfl rfl ?_
    refine wk_bipush (v := 99) (q := 54) dX11_maySet_52 rfl rfl ?_
    refine wk_S3r (d' := 1) (q := 57) lkX11_61 dX11_maySet_54 rfl rfl rfl rfl ?_
    refine ck_X11_within (fun hw => ?_) (fun hw => ?_)
    · skip
      refine wk_ireturn dX11_maySet_57 rfl rfl ?_
      refine h1 ?_
      unfold maySetP
      first | exact Or.inl ⟨Or.inl ‹_›, hw⟩ | exact Or.inl ⟨Or.inr ‹_›, hw⟩ | exact Or.inr (Or.inl ⟨‹_›, hw⟩) | exact Or.inr (Or.inr ⟨‹_›, hw⟩)
    · skip
      refine wk_ireturn dX11_maySet_57 rfl rfl ?_
      refine h0 ?_
      unfold maySetP
      intro hh
      rcases hh with ⟨e | e, hx⟩ | ⟨e, hx⟩ | ⟨e, hx⟩ <;> first | contradiction | exact hw hx | (subst e; first | contradiction | exact absurd ‹_› (by decide))
  refine And.intro (fun c1_3 => ?_) (fun n1_3 => ?_)
  · skip
    refine wk_iconst (v := 0) (q := 68) dX11_maySet_67 rfl rfl ?_
    refine wk_ireturn dX11_maySet_68 rfl rfl ?_
    refine h0 ?_
    unfold maySetP
    intro hh
    rcases hh with ⟨e | e, hx⟩ | ⟨e, hx⟩ | ⟨e, hx⟩ <;> first | contradiction | exact hw hx | (subst e; first | contradiction | exact absurd ‹_› (by decide))
  refine And.intro (fun c1_4 => ?_) (fun n1_4 => ?_)
  · skip
    refine wk_iconst (v := 0) (q := 68) dX11_maySet_67 rfl rfl ?_
    refine wk_ireturn dX11_maySet_68 rfl rfl ?_
    refine h0 ?_
    unfold maySetP
    intro hh
    rcases hh with ⟨e | e, hx⟩ | ⟨e, hx⟩ | ⟨e, hx⟩ <;> first | contradiction | exact hw hx | (subst e; first | contradiction | exact absurd ‹_› (by decide))
  refine And.intro (fun c1_5 => ?_) (fun n1_5 => ?_)
  · skip
    refine wk_iload_n (i := 1) (q := 59) dX11_maySet_58 rfl rfl rfl ?_
    refine wk_iconst (v := 0) (q := 60) dX11_maySet_59 rfl rfl ?_
    refine wk_sipush (v := 9999) (q := 63) dX11_maySet_60 rfl rfl ?_
    refine wk_S3r (d' := 1) (q := 66) lkX11_61 dX11_maySet_63 rfl rfl rfl rfl ?_
    refine ck_X11_within (fun hw => ?_) (fun hw => ?_)
    · skip
      refine wk_ireturn dX11_maySet_66 rfl rfl ?_
      refine h1 ?_
      unfold maySetP
      first | exact Or.inl ⟨Or.inl ‹_›, hw⟩ | exact Or.inl ⟨Or.inr ‹_›, hw⟩ | exact Or.inr (Or.inl ⟨‹_›, hw⟩) | exact Or.inr (Or.inr ⟨‹_›, hw⟩)
    · skip
      refine wk_ireturn dX11_maySet_66 rfl rfl ?_
      refine h0 ?_
      unfold maySetP
      intro hh
      rcases hh with ⟨e | e, hx⟩ | ⟨e, hx⟩ | ⟨e, hx⟩ <;> first | contradiction | exact hw hx | (subst e; first | contradiction | exact absurd ‹_› (by decide))
  refine wk_iconst (v := 0) (q := 68) dX11_maySet_67 rfl rfl ?_
  refine wk_ireturn dX11_maySet_68 rfl rfl ?_
  refine h0 ?_
  unfold maySetP
  intro hh
  rcases hh with ⟨e | e, hx⟩ | ⟨e, hx⟩ | ⟨e, hx⟩ <;> first | contradiction | exact hw hx | (subst e; first | contradiction | exact absurd ‹_› (by decide))
theorem ck_X11_sheetAt {i : Int32} (h1 : ∀ n, n < 4 → i = nI n → Q (.ref (ev_z E + (63 + 2 * n))) m L) (h0 : (∀ n, n < 4 → ¬ i = nI n) → Q .null m L) : CK E 1 MX11_sheetAt [.ref (ev_z E + 0), .int i] m L Q := by
  refine CK.of rfl rfl (lv := [(0, _), (1, _)]) rfl ?_
  refine wk_iload_n (i := 1) (q := 1) dX11_sheetAt_0 rfl rfl rfl ?_
  refine wk_if_lt (t := 18) (q := 4) dX11_sheetAt_1 rfl rfl (fun c1 => ?_) (fun c1 => ?_)
  · skip
    refine wk_null (q := 19) dX11_sheetAt_18 rfl ?_
    refine wk_areturnN dX11_sheetAt_19 rfl (by first | exact Or.inl ⟨_, rfl⟩ | exact Or.inr ⟨_, rfl⟩) ?_
    first | exact h1 n hnc rfl | exact h0 (fun n hn e => by subst e; first | exact absurd c1 (nI_pos (by omega)) | exact absurd c6 (nI_ge (b := 4) hn (by omega)))
  · skip
    refine wk_iload_n (i := 1) (q := 5) dX11_sheetAt_4 rfl rfl rfl ?_
    refine wk_iconst (v := 4) (q := 6) dX11_sheetAt_5 rfl rfl ?_
    refine wk_icmp_ge (t := 18) (q := 9) dX11_sheetAt_6 rfl rfl (fun c6 => ?_) (fun c6 => ?_)
    · skip
      refine wk_null (q := 19) dX11_sheetAt_18 rfl ?_
      refine wk_areturnN dX11_sheetAt_19 rfl (by first | exact Or.inl ⟨_, rfl⟩ | exact Or.inr ⟨_, rfl⟩) ?_
      first | exact h1 n hnc rfl | exact h0 (fun n hn e => by subst e; first | exact absurd c1 (nI_pos (by omega)) | exact absurd c6 (nI_ge (b := 4) hn (by omega)))
    · skip
      obtain ⟨n, hn, rfl⟩ := nI_of c1
      have hnc : n < 4 := by (rcases Nat.lt_or_ge n 4 with h | h; exact h; exact absurd (nI_le (a := 4) h hn) c6)
      refine wk_aload_n (i := 0) (q := 10) dX11_sheetAt_9 rfl rfl rfl ?_
      refine wk_get (q := 13) fgX11_48 dX11_sheetAt_10 rfl rfl rfl rfl ?_
      refine wk_iload_n (i := 1) (q := 14) dX11_sheetAt_13 rfl rfl rfl ?_
      refine wk_aaldS (n := n) (q := 15) dX11_sheetAt_14 rfl rfl hnc rfl ?_
      refine wk_goto (t := 19) dX11_sheetAt_15 rfl ?_
      refine wk_areturn dX11_sheetAt_19 rfl (by first | exact Or.inl ⟨_, rfl⟩ | exact Or.inr ⟨_, rfl⟩) ?_
      first | exact h1 n hnc rfl | exact h0 (fun n hn e => by subst e; first | exact absurd c1 (nI_pos (by omega)) | exact absurd c6 (nI_ge (b := 4) hn (by omega)))
theorem ck_X11_refuse {f : Int32} {i : Nat} (hi : i < 7) (hf : -1000000001 - f = nI i) (hQ : Q (.int f) (wr m 71 (upd (m 71) i (m 71 i + 1))) L) : CK E 1 MX11_refuse [.ref (ev_z E + 0), .int f] m L Q := by
  refine CK.of rfl rfl (lv := [(0, _), (1, _)]) rfl ?_
  refine wk_ldc (q := 2) dX11_refuse_0 kX11_72 rfl ?_
  refine wk_iload_n (i := 1) (q := 3) dX11_refuse_2 rfl rfl rfl ?_
  refine wk_isub (q := 4) dX11_refuse_3 rfl ?_
  refine wk_istore_n (i := 2) (q := 5) (lv' := [_, _, _]) dX11_refuse_4 rfl rfl rfl rfl ?_
  refine wk_iload_n (i := 2) (q := 6) dX11_refuse_5 rfl rfl rfl ?_
  refine wk_if_lt (t := 25) (q := 9) dX11_refuse_6 rfl rfl (fun h => absurd h (by rw [hf]; exact nI_pos (by omega))) (fun c6 => ?_)
  refine wk_iload_n (i := 2) (q := 10) dX11_refuse_9 rfl rfl rfl ?_
  refine wk_bipush (v := 7) (q := 12) dX11_refuse_10 rfl rfl ?_
  refine wk_icmp_ge (t := 25) (q := 15) dX11_refuse_12 rfl rfl (fun h => absurd h (by rw [hf]; exact nI_ge (b := 7) hi (by omega))) (fun c12 => ?_)
  refine wk_aload_n (i := 0) (q := 16) dX11_refuse_15 rfl rfl rfl ?_
  refine wk_get (q := 19) fgX11_53 dX11_refuse_16 rfl rfl rfl rfl ?_
  refine wk_iload_n (i := 2) (q := 20) dX11_refuse_19 rfl rfl rfl ?_
  refine wk_dup2 (q := 21) dX11_refuse_20 rfl rfl rfl ?_
  refine wk_iald (n := i) (q := 22) dX11_refuse_21 rfl hf hi rfl ?_
  refine wk_iconst (v := 1) (q := 23) dX11_refuse_22 rfl rfl ?_
  refine wk_iadd (q := 24) dX11_refuse_23 rfl ?_
  refine wk_iast (n := i) (q := 25) dX11_refuse_24 rfl hf hi rfl ?_
  refine wk_iload_n (i := 1) (q := 26) dX11_refuse_25 rfl rfl rfl ?_
  refine wk_ireturn dX11_refuse_26 rfl rfl ?_
  exact hQ
end RL
def isUnP (c k : Int32) : Prop := k = 0 ∨ c = k ∨ (c = 4 ∧ k = 1) ∨ (c = 5 ∧ k = 2)
/-- a byte of the class and the same of the reference -/
def byRel (c t : Int32) : Prop := (0 ≤ t.toInt ∧ t.toInt ≤ 255) ∧ (c.toInt = t.toInt ∨ (c.toInt = t.toInt - 256 ∧ 128 ≤ t.toInt))
def CR (m : Mm) (L : Ml) (a : Mm) (aL : Ml) : Prop := hasB m 8 (a 73) ∧ (m 0 7 = a 72 5 ∧ (a 72 5 = 1 → hasB m 25 (a 74))) ∧ (m 60 1 = a 72 7 ∧ ∀ i, i < 120 → i < (a 72 7).toNatClampNeg → byRel (m 61 i) (a 78 i)) ∧ (∀ s, s < 4 → m (63 + 2 * s) 1 = a 79 s ∧ m (63 + 2 * s) 2 = a 80 s ∧ ∀ i, i < 40 → L (63 + 2 * s + 1) i = aL 81 (40 * s + i)) ∧ (∀ i, i < 7 → m 71 i = a 77 i)
def tnA (a : Mm) : Nat := (a 72 7).toNatClampNeg
def szA (a : Mm) (s : Nat) : Nat := (a 80 s).toNatClampNeg
def OK (D : Nat) (a : Mm) : Prop := okA D (a 73) ∧ (a 72 5 = 0 ∨ (a 72 5 = 1 ∧ okA D (a 74))) ∧ (a 72 7 = nI (tnA a) ∧ tnA a ≤ 120) ∧ (∀ s, s < 4 → (a 79 s = 0 ∨ a 79 s = 8 ∨ a 79 s = 16 ∨ a 79 s = 64) ∧ a 80 s = nI (szA a s) ∧ szA a s ≤ 40) ∧ ((0 ≤ (a 73 0).toInt ∧ (a 73 0).toInt ≤ 99999) ∧ (a 72 5 = 1 → 0 ≤ (a 74 0).toInt ∧ (a 74 0).toInt ≤ 99999))
def FC (m m' : Mm) (L L' : Ml) : Prop := ∀ k, 72 ≤ k → m' k = m k ∧ L' k = L k
def rfA (a : Mm) (i : Nat) : Mm := wr a 77 (upd (a 77) i (a 77 i + 1))
theorem FC.rf {m : Mm} {L : Ml} : FC m m L L := fun _ _ => ⟨rfl, rfl⟩
theorem FC.trans {m m1 m2 : Mm} {L L1 L2 : Ml} (h : FC m m1 L L1) (h2 : FC m1 m2 L1 L2) : FC m m2 L L2 := fun k hk => ⟨(h2 k hk).1.trans (h k hk).1, (h2 k hk).2.trans (h k hk).2⟩
theorem FC.wr {m m1 : Mm} {L L1 : Ml} {k : Nat} {v : Nat → Int32} (h : FC m m1 L L1) (hk : Nat.ble k 71 = true) : FC m (wr m1 k v) L L1 := fun j hj => ⟨by
  have := Nat.le_of_ble_eq_true hk
  rw [wr_n (by omega)]
  exact (h j hj).1, (h j hj).2⟩
theorem FC.bk {m m1 m2 : Mm} {L L1 : Ml} {b : Nat} (h : FC m m1 L L1) (hb : shp b = 0) (hf : frB m1 m2 b) : FC m m2 L L1 := fun j hj => ⟨by
  rw [hf j (by rcases isB_of hb with rfl | rfl | rfl <;> omega)]
  exact (h j hj).1, (h j hj).2⟩
section RM
variable {m m' : Mm} {L L' : Ml} {a : Mm} {aL : Ml} {A : Nat → Int32}
/-- only the trial, the draft and the reading of the tape are other -/
theorem CR.fr (h : CR m L a aL) (e : ∀ k, k < 42 ∨ (60 < k ∧ k < 72) → m' k = m k) (e1 : m' 60 1 = m 60 1) : CR m' L a aL := by
  obtain ⟨h1, ⟨h2, h3⟩, ⟨h4, h5⟩, h6, h7⟩ := h
  refine ⟨h1.mov (fun k _ _ => e k (by omega)), ⟨by rw [e 0 (by omega)]; exact h2, fun q => (h3 q).mov (fun k _ _ => e k (by omega))⟩, ⟨by rw [e1]; exact h4, fun i hi hj => by rw [e 61 (by omega)]; exact h5 i hi hj⟩, fun s hs => ?_, fun i hi => by rw [e 71 (by omega)]; exact h7 i hi⟩
  obtain ⟨g1, g2, g3⟩ := h6 s hs
  exact ⟨by rw [e _ (by omega)]; exact g1, by rw [e _ (by omega)]; exact g2, g3⟩
theorem CR.t59 (h : CR m L a aL) {v : Nat → Int32} : CR (wr m 59 v) L a aL := h.fr (fun k hk => wr_n (by omega)) (by rw [wr_n (by omega)])
theorem CR.b42 (h : CR m L a aL) (hf : frB m m' 42) : CR m' L a aL := h.fr (fun k hk => hf k (by omega)) (by rw [hf 60 (by omega)])
theorem CR.b8 (h : CR m L a aL) (hB : hasB m' 8 A) (hf : frB m m' 8) : CR m' L (wr a 73 A) aL := by
  obtain ⟨h1, ⟨h2, h3⟩, ⟨h4, h5⟩, h6, h7⟩ := h
  refine ⟨by rw [wr_s]; exact hB, ?_, ?_, fun s hs => ?_, fun i hi => by rw [hf 71 (by omega), wr_n (by omega)]; exact h7 i hi⟩
  · rw [wr_n (by omega), wr_n (by omega), hf 0 (by omega)]
    exact ⟨h2, fun q => (h3 q).mov (fun k _ _ => hf k (by omega))⟩
  · rw [wr_n (by omega), wr_n (by omega), hf 60 (by omega)]
    exact ⟨h4, fun i hi hj => by rw [hf 61 (by omega)]; exact h5 i hi hj⟩
  · rw [wr_n (by omega), wr_n (by omega)]
    obtain ⟨g1, g2, g3⟩ := h6 s hs
    exact ⟨by rw [hf _ (by omega)]; exact g1, by rw [hf _ (by omega)]; exact g2, g3⟩
theorem CR.found (h : CR m L a aL) {i : Nat} : CR (wr m 71 (upd (m 71) i (m 71 i + 1))) L (rfA a i) aL := by
  obtain ⟨h1, ⟨h2, h3⟩, ⟨h4, h5⟩, h6, h7⟩ := h
  unfold rfA
  refine ⟨?_, ?_, ?_, fun s hs => ?_, fun j hj => ?_⟩
  · rw [wr_n (by omega)]; exact h1.mov (fun k _ _ => wr_n (by omega))
  · rw [wr_n (by omega), wr_n (by omega), wr_n (by omega)]
    exact ⟨h2, fun q => (h3 q).mov (fun k _ _ => wr_n (by omega))⟩
  · rw [wr_n (by omega), wr_n (by omega), wr_n (by omega), wr_n (by omega)]
    exact ⟨h4, h5⟩
  · rw [wr_n (by omega), wr_n (by omega), wr_n (by omega)]
    exact h6 s hs
  · rw [wr_s, wr_s]
    by_cases e : j = i
    · subst e
      rw [upd_s, upd_s, h7 j hj]
    · rw [upd_n e, upd_n e]
      exact h7 j hj
theorem hasB.row {b g : Nat} {v w : Nat → Int32} (h : hasB m b A) (hg : g < 8) (e : E7 v w) : hasB (wr m (b + 1 + 1 + g) v) b (gput A g w) := by
  obtain ⟨q1, q2, q3, q4, q5, q6, q7⟩ := h
  refine ⟨?_, ?_, ?_, ?_, ?_, fun j hj f hf => ?_, fun j hj f hf => ?_⟩
  · rw [wr_n (by omega), gput_n (by omega)]; exact q1
  · rw [wr_n (by omega), gput_n (by omega)]; exact q2
  · rw [wr_n (by omega), gput_n (by omega)]; exact q3
  · rw [wr_n (by omega), gput_n (by omega)]; exact q4
  · rw [wr_n (by omega), gput_n (by omega)]; exact q5
  · by_cases c : j = g
    · subst c
      rw [wr_s, gput_s hf]
      exact e f hf
    · rw [wr_n (by omega), gput_n (by omega)]
      exact q6 j hj f hf
  · rw [wr_n (by omega), gput_n (by omega)]
    exact q7 j hj f hf
theorem frB_row {b g : Nat} {v : Nat → Int32} (hg : g < 8) : frB m (wr m (b + 1 + 1 + g) v) b := fun k hk => wr_n (by omega)
end RM
