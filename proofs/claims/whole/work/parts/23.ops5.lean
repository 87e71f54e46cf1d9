/-! the class's sheets: the calls -/
theorem wi_c {i : Int32} {c : Nat} (hc : c < 2 ^ 31) (h : 0 ≤ i ∧ i ≤ nI c - 1) : ∃ n, n < c ∧ i = nI n := by
  rcases Nat.eq_zero_or_pos c with rfl | h0
  · exfalso
    have e : (nI 0 - 1).toInt = -1 := by decide
    have z : (0 : Int32).toInt = 0 := by decide
    rw [fa_le, fa_le, e, z] at h
    omega
  · obtain ⟨d, rfl⟩ : ∃ d, c = d + 1 := ⟨c - 1, by omega⟩
    rw [nI_pred] at h
    obtain ⟨n, -, hn, e⟩ := rng (lo := 0) (by omega) (by omega) h
    exact ⟨n, by omega, e⟩
theorem wi_c' {n c : Nat} (hc : c < 2 ^ 31) (hn : n < c) : 0 ≤ nI n ∧ nI n ≤ nI c - 1 := by
  obtain ⟨d, rfl⟩ : ∃ d, c = d + 1 := ⟨c - 1, by omega⟩
  rw [nI_pred]
  exact rng' (lo := 0) (by omega) (by omega) (by omega)
theorem hr_of {x n : Int32} {c : Nat} (hc : c ≤ 40) (h : 0 ≤ x ∧ 0 ≤ n ∧ n ≤ nI c - x) : ∃ f k, x = nI f ∧ n = nI k ∧ f + k ≤ c := by
  have z : (0 : Int32).toInt = 0 := by decide
  have hx := hi_i x
  rw [fa_le, fa_le, fa_le, z] at h
  have e : (nI c - x).toInt = c - x.toInt := by rw [sb_i (by rw [nI_toInt (by omega)]; omega) (by rw [nI_toInt (by omega)]; omega), nI_toInt (by omega)]
  rw [e] at h
  obtain ⟨f, hf, rfl⟩ := nI_of (x := x) (by rw [fa_lt, z]; omega)
  obtain ⟨k, hk, rfl⟩ := nI_of (x := n) (by rw [fa_lt, z]; omega)
  rw [nI_toInt hf, nI_toInt hk] at h
  exact ⟨f, k, rfl, rfl, by omega⟩
theorem hr_of' {f k c : Nat} (hc : c ≤ 40) (h : f + k ≤ c) : 0 ≤ nI f ∧ 0 ≤ nI k ∧ nI k ≤ nI c - nI f := by
  have z : (0 : Int32).toInt = 0 := by decide
  have e : (nI c - nI f).toInt = c - f := by rw [sb_i (by rw [nI_toInt (by omega), nI_toInt (by omega)]; omega) (by rw [nI_toInt (by omega), nI_toInt (by omega)]; omega), nI_toInt (by omega), nI_toInt (by omega)]
  rw [fa_le, fa_le, fa_le, z, e, nI_toInt (by omega), nI_toInt (by omega)]
  omega
def zrS (F : Nat → Int64) (s : Nat) : Nat → Int64 := fun j => if 40 * s ≤ j ∧ j < 40 * s + 40 then 0 else F j
def cpS (F : Nat → Int64) (s f t o k : Nat) : Nat → Int64 := fun j => if 40 * t + o ≤ j ∧ j < 40 * t + o + k then F (40 * s + f + (j - (40 * t + o))) else F j
def bOk (b : Int32) : Prop := b = 0 ∨ b = 8 ∨ b = 16 ∨ b = 64
theorem CR_sh {m : Mm} {L : Ml} {a : Mm} {aL : Ml} {s : Nat} {v : Nat → Int32} {w f : Nat → Int64} (h : CR m L a aL) (hs : s < 4) (h1 : ∀ i, i < 40 → w i = f (40 * s + i)) (h2 : ∀ j, j < 40 * s ∨ 40 * s + 40 ≤ j → f j = aL 81 j) : CR (wr m (63 + 2 * s) v) (wrL L (63 + 2 * s + 1) w) (wr (wr a 79 (upd (a 79) s (v 1))) 80 (upd (a 80) s (v 2))) (wrL aL 81 f) := by
  obtain ⟨g1, ⟨g2, g3⟩, ⟨g4, g5⟩, g6, g7⟩ := h
  refine ⟨?_, ⟨?_, fun q => ?_⟩, ?_, fun j hj => ?_, fun i hi => ?_⟩
  · rw [wr_n (by decide), wr_n (by decide)]; exact g1.mov (fun k _ _ => wr_n (by omega))
  · rw [wr_n (by omega), wr_n (by decide), wr_n (by decide)]; exact g2
  · rw [wr_n (by decide), wr_n (by decide)] at q
    rw [wr_n (by decide), wr_n (by decide)]
    exact (g3 q).mov (fun k _ _ => wr_n (by omega))
  · rw [wr_n (by omega), wr_n (by omega), wr_n (by omega), wr_n (by omega), wr_n (by omega), wr_n (by omega)]; exact ⟨g4, g5⟩
  · rw [wr_n (show (79 : Nat) ≠ 80 by decide), wr_s, wr_s, wrL_s]
    by_cases e : j = s
    · subst e
      rw [wr_s, upd_s, upd_s, wrL_s]
      exact ⟨rfl, rfl, h1⟩
    · rw [wr_n (by omega), upd_n e, upd_n e, wrL_n (by omega)]
      obtain ⟨q1, q2, q3⟩ := g6 j hj
      exact ⟨q1, q2, fun i hi => by rw [q3 i hi, h2 _ (by omega)]⟩
  · rw [wr_n (by omega), wr_n (by decide), wr_n (by decide)]; exact g7 i hi
theorem CR_L {m : Mm} {L : Ml} {a : Mm} {aL : Ml} {s : Nat} {w f : Nat → Int64} (h : CR m L a aL) (hs : s < 4) (h1 : ∀ i, i < 40 → w i = f (40 * s + i)) (h2 : ∀ j, j < 40 * s ∨ 40 * s + 40 ≤ j → f j = aL 81 j) : CR m (wrL L (63 + 2 * s + 1) w) a (wrL aL 81 f) := by
  obtain ⟨g1, g2, g4, g6, g7⟩ := h
  refine ⟨g1, g2, g4, fun j hj => ?_, g7⟩
  rw [wrL_s]
  obtain ⟨q1, q2, q3⟩ := g6 j hj
  refine ⟨q1, q2, ?_⟩
  by_cases e : j = s
  · subst e
    rw [wrL_s]
    exact h1
  · rw [wrL_n (by omega)]
    exact fun i hi => by rw [q3 i hi, h2 _ (by omega)]
theorem FC_L {m m1 : Mm} {L L1 : Ml} {k : Nat} {v : Nat → Int64} (h : FC m m1 L L1) (hk : k < 72) : FC m m1 L (wrL L1 k v) := fun j hj => ⟨(h j hj).1, by
  rw [wrL_n (by omega)]
  exact (h j hj).2⟩
theorem FC_k {m m1 : Mm} {L L1 : Ml} {k : Nat} {v : Nat → Int32} (h : FC m m1 L L1) (hk : k < 72) : FC m (wr m1 k v) L L1 := fun j hj => ⟨by
  rw [wr_n (by omega)]
  exact (h j hj).1, (h j hj).2⟩
def lyS (A : Nat → Int32) (F : Nat → Int64) : Nat → (Nat → Int32) × Int32
  | 0 => (A, 0)
  | k + 1 => if 10 ≤ F k ∧ F k ≤ 200 then (upd (lyS A F k).1 (5 + 7 * k + 1) (F k).toInt32, (lyS A F k).2 + 1) else lyS A F k
def exB (d t : Int32) (v : Nat → Int32) (F : Nat → Int64) : Nat → Bool
  | 0 => true
  | i + 1 => exB d t v F i && decide (F i = (wshN d t v i 1).toInt64)
theorem exB_f {d t : Int32} {v : Nat → Int32} {F : Nat → Int64} {i : Nat} (h : ¬ F i = (wshN d t v i 1).toInt64) : ∀ n, i < n → ¬ exB d t v F n = true
  | 0, hn => absurd hn (by omega)
  | n + 1, hn => by
    intro hh
    have hh : (exB d t v F n && decide (F n = (wshN d t v n 1).toInt64)) = true := hh
    rw [Bool.and_eq_true, decide_eq_true_iff] at hh
    rcases Nat.lt_or_ge i n with h2 | h2
    · exact exB_f h n h2 hh.1
    · have e : i = n := by omega
      subst e
      exact h hh.2
def bkR (b d t : Int32) (v : Nat → Int32) (F : Nat → Int64) (s j : Nat) : Nat → Int64 := fun x => if 40 * s ≤ x ∧ x < 40 * s + j then narF b (wshN d t v (x - 40 * s) 1).toInt64 else F x
def rdS (t : Int32) (v : Nat → Int32) (F : Nat → Int64) (sz : Nat) : Nat → Int32
  | 0 => 0
  | q + 1 => rdS t v F sz q + (if exB (nI (q % 76 + 20)) t (upd v 0 (nI (q / 76))) F sz = true then 1 else 0)
section CQ
variable {E : EVt} {m : Mm} {L : Ml} {Q : Value → Mm → Ml → Prop} {a : Mm} {aL : Ml} {D : Nat}
theorem ck_X11_sheet {si b n : Int32} (hC : CR m L a aL) (h1 : ∀ s, s < 4 → si = nI s → bOk b → 0 ≤ n ∧ n ≤ 40 → Po m L (wr (wr a 79 (upd (a 79) s b)) 80 (upd (a 80) s (if b = 0 then 0 else n))) (wrL aL 81 (zrS (aL 81) s)) Q (.int (if b = 0 then 0 else n))) (h2 : ∀ s, s < 4 → si = nI s → bOk b → n < 0 → Po m L (rfA a 6) aL Q (.int (-1000000007))) (h0 : ((∀ s, s < 4 → ¬ si = nI s) ∨ ¬ bOk b ∨ 40 < n) → Po m L (rfA a 0) aL Q (.int (-1000000001))) : CK E 2 MX11_sheet [.ref (ev_z E + 0), .int si, .int b, .int n] m L Q := by
  refine CK.of rfl rfl (lv := [(0, _), (1, _), (2, _), (3, _)]) rfl ?_
  refine wk_aload_n (i := 0) (q := 1) dX11_sheet_0 rfl rfl rfl ?_
  refine wk_iload_n (i := 1) (q := 2) dX11_sheet_1 rfl rfl rfl ?_
  refine wk_V1r (d' := 1) (q := 5) lkX11_234 dX11_sheet_2 rfl rfl rfl rfl rfl rfl rfl ?_
  refine ck_X11_sheetAt (fun s hs e => ?_) (fun hno => ?_)
  · skip
    subst e
    refine wk_astore (i := 4) (q := 7) (lv' := [_, _, _, _, _]) dX11_sheet_5 rfl rfl rfl ?_
    refine wk_aload (i := 4) (q := 9) dX11_sheet_7 rfl rfl ?_
    refine wk_ifnull (q := 12) dX11_sheet_9 rfl ?_
    refine wk_iload_n (i := 2) (q := 13) dX11_sheet_12 rfl rfl rfl ?_
    refine wk_if_eq (t := 41) (q := 16) dX11_sheet_13 rfl rfl (fun c13 => ?_) (fun c13 => ?_)
    · skip
      have hb : bOk b := by (unfold bOk; first | exact Or.inl ‹_› | exact Or.inr (Or.inl ‹_›) | exact Or.inr (Or.inr (Or.inl ‹_›)) | exact Or.inr (Or.inr (Or.inr ‹_›)))
      refine wk_iload_n (i := 3) (q := 42) dX11_sheet_41 rfl rfl rfl ?_
      refine wk_if_ge (t := 52) (q := 45) dX11_sheet_42 rfl rfl (fun c42 => ?_) (fun c42 => ?_)
      · skip
        refine wk_iload_n (i := 3) (q := 53) dX11_sheet_52 rfl rfl rfl ?_
        refine wk_bipush (v := 40) (q := 55) dX11_sheet_53 rfl rfl ?_
        refine wk_icmp_le (t := 65) (q := 58) dX11_sheet_55 rfl rfl (fun c55 => ?_) (fun c55 => ?_)
        · skip
          refine wk_aload (i := 4) (q := 67) dX11_sheet_65 rfl rfl ?_
          refine wk_iload_n (i := 2) (q := 68) dX11_sheet_67 rfl rfl rfl ?_
          refine wk_iload_n (i := 3) (q := 69) dX11_sheet_68 rfl rfl rfl ?_
          refine wk_V2v (d' := 1) (q := 72) lkX11_239 dX11_sheet_69 (sh_s hs) rfl rfl rfl rfl rfl rfl ?_
          refine ck_X6_beginAnew (sh_s hs) ?_
          refine wk_aload (i := 4) (q := 74) dX11_sheet_72 rfl rfl ?_
          refine wk_get (q := 77) fgX11_242 dX11_sheet_74 (sh_s hs) rfl rfl rfl ?_
          refine wk_ireturn dX11_sheet_77 rfl rfl ?_
          rw [wr_s, upd_s]
          have hx := CR_sh (v := upd (upd (m (63 + 2 * s)) 1 b) 2 (if b = 0 then 0 else n)) (w := zr40 (L (63 + 2 * s + 1)) 40) (f := zrS (aL 81) s) hC hs (fun i hi => by unfold zr40 zrS; rw [if_pos hi, if_pos (by omega)]) (fun j hj => by unfold zrS; rw [if_neg (by omega)])
          rw [upd_s, upd_n (by decide), upd_s] at hx
          exact h1 s hs rfl hb ⟨c42, c55⟩ _ _ hx (FC_L (FC_k FC.rf (by omega)) (by omega))
        · skip
          refine wk_aload_n (i := 0) (q := 59) dX11_sheet_58 rfl rfl rfl ?_
          refine wk_ldc (q := 61) dX11_sheet_59 kX11_72 rfl ?_
          refine wk_V1r (d' := 1) (q := 64) lkX11_73 dX11_sheet_61 rfl rfl rfl rfl rfl rfl rfl ?_
          refine ck_X11_refuse (i := 0) (by decide) (by decide) ?_
          refine wk_ireturn dX11_sheet_64 rfl rfl ?_
          exact h0 (Or.inr (Or.inr (by rw [fa_lt]; rw [fa_le] at c55; omega))) _ _ hC.found (FC.rf.wr rfl)
      · skip
        refine wk_aload_n (i := 0) (q := 46) dX11_sheet_45 rfl rfl rfl ?_
        refine wk_ldc (q := 48) dX11_sheet_46 kX11_238 rfl ?_
        refine wk_V1r (d' := 1) (q := 51) lkX11_73 dX11_sheet_48 rfl rfl rfl rfl rfl rfl rfl ?_
        refine ck_X11_refuse (i := 6) (by decide) (by decide) ?_
        refine wk_ireturn dX11_sheet_51 rfl rfl ?_
        exact h2 s hs rfl hb (by rw [fa_lt]; rw [fa_le] at c42; omega) _ _ hC.found (FC.rf.wr rfl)
    · skip
      refine wk_iload_n (i := 2) (q := 17) dX11_sheet_16 rfl rfl rfl ?_
      refine wk_bipush (v := 8) (q := 19) dX11_sheet_17 rfl rfl ?_
      refine wk_icmp_eq (t := 41) (q := 22) dX11_sheet_19 rfl rfl (fun c19 => ?_) (fun c19 => ?_)
      · skip
        have hb : bOk b := by (unfold bOk; first | exact Or.inl ‹_› | exact Or.inr (Or.inl ‹_›) | exact Or.inr (Or.inr (Or.inl ‹_›)) | exact Or.inr (Or.inr (Or.inr ‹_›)))
        refine wk_iload_n (i := 3) (q := 42) dX11_sheet_41 rfl rfl rfl ?_
        refine wk_if_ge (t := 52) (q := 45) dX11_sheet_42 rfl rfl (fun c42 => ?_) (fun c42 => ?_)
        · skip
          refine wk_iload_n (i := 3) (q := 53) dX11_sheet_52 rfl rfl rfl ?_
          refine wk_bipush (v := 40) (q := 55) dX11_sheet_53 rfl rfl ?_
          refine wk_icmp_le (t := 65) (q := 58) dX11_sheet_55 rfl rfl (fun c55 => ?_) (fun c55 => ?_)
          · skip
            refine wk_aload (i := 4) (q := 67) dX11_sheet_65 rfl rfl ?_
            refine wk_iload_n (i := 2) (q := 68) dX11_sheet_67 rfl rfl rfl ?_
            refine wk_iload_n (i := 3) (q := 69) dX11_sheet_68 rfl rfl rfl ?_
            refine wk_V2v (d' := 1) (q := 72) lkX11_239 dX11_sheet_69 (sh_s hs) rfl rfl rfl rfl rfl rfl ?_
            refine ck_X6_beginAnew (sh_s hs) ?_
            refine wk_aload (i := 4) (q := 74) dX11_sheet_72 rfl rfl ?_
            refine wk_get (q := 77) fgX11_242 dX11_sheet_74 (sh_s hs) rfl rfl rfl ?_
            refine wk_ireturn dX11_sheet_77 rfl rfl ?_
            rw [wr_s, upd_s]
            have hx := CR_sh (v := upd (upd (m (63 + 2 * s)) 1 b) 2 (if b = 0 then 0 else n)) (w := zr40 (L (63 + 2 * s + 1)) 40) (f := zrS (aL 81) s) hC hs (fun i hi => by unfold zr40 zrS; rw [if_pos hi, if_pos (by omega)]) (fun j hj => by unfold zrS; rw [if_neg (by omega)])
            rw [upd_s, upd_n (by decide), upd_s] at hx
            exact h1 s hs rfl hb ⟨c42, c55⟩ _ _ hx (FC_L (FC_k FC.rf (by omega)) (by omega))
          · skip
            refine wk_aload_n (i := 0) (q := 59) dX11_sheet_58 rfl rfl rfl ?_
            refine wk_ldc (q := 61) dX11_sheet_59 kX11_72 rfl ?_
            refine wk_V1r (d' := 1) (q := 64) lkX11_73 dX11_sheet_61 rfl rfl rfl rfl rfl rfl rfl ?_
            refine ck_X11_refuse (i := 0) (by decide) (by decide) ?_
            refine wk_ireturn dX11_sheet_64 rfl rfl ?_
            exact h0 (Or.inr (Or.inr (by rw [fa_lt]; rw [fa_le] at c55; omega))) _ _ hC.found (FC.rf.wr rfl)
        · skip
          refine wk_aload_n (i := 0) (q := 46) dX11_sheet_45 rfl rfl rfl ?_
          refine wk_ldc (q := 48) dX11_sheet_46 kX11_238 rfl ?_
          refine wk_V1r (d' := 1) (q := 51) lkX11_73 dX11_sheet_48 rfl rfl rfl rfl rfl rfl rfl ?_
          refine ck_X11_refuse (i := 6) (by decide) (by decide) ?_
          refine wk_ireturn dX11_sheet_51 rfl rfl ?_
          exact h2 s hs rfl hb (by rw [fa_lt]; rw [fa_le] at c42; omega) _ _ hC.found (FC.rf.wr rfl)
      · skip
        refine wk_iload_n (i := 2) (q := 23) dX11_sheet_22 rfl rfl rfl ?_
        refine wk_bipush (v := 16) (q := 25) dX11_sheet_23 rfl rfl ?_
        refine wk_icmp_eq (t := 41) (q := 28) dX11_sheet_25 rfl rfl (fun c25 => ?_) (fun c25 => ?_)
        · skip
          have hb : bOk b := by (unfold bOk; first | exact Or.inl ‹_› | exact Or.inr (Or.inl ‹_›) | exact Or.inr (Or.inr (Or.inl ‹_›)) | exact Or.inr (Or.inr (Or.inr ‹_›)))
          refine wk_iload_n (i := 3) (q := 42) dX11_sheet_41 rfl rfl rfl ?_
          refine wk_if_ge (t := 52) (q := 45) dX11_sheet_42 rfl rfl (fun c42 => ?_) (fun c42 => ?_)
          · skip
            refine wk_iload_n (i := 3) (q := 53) dX11_sheet_52 rfl rfl rfl ?_
            refine wk_bipush (v := 40) (q := 55) dX11_sheet_53 rfl rfl ?_
            refine wk_icmp_le (t := 65) (q := 58) dX11_sheet_55 rfl rfl (fun c55 => ?_) (fun c55 => ?_)
            · skip
              refine wk_aload (i := 4) (q := 67) dX11_sheet_65 rfl rfl ?_
              refine wk_iload_n (i := 2) (q := 68) dX11_sheet_67 rfl rfl rfl ?_
              refine wk_iload_n (i := 3) (q := 69) dX11_sheet_68 rfl rfl rfl ?_
              refine wk_V2v (d' := 1) (q := 72) lkX11_239 dX11_sheet_69 (sh_s hs) rfl rfl rfl rfl rfl rfl ?_
              refine ck_X6_beginAnew (sh_s hs) ?_
              refine wk_aload (i := 4) (q := 74) dX11_sheet_72 rfl rfl ?_
              refine wk_get (q := 77) fgX11_242 dX11_sheet_74 (sh_s hs) rfl rfl rfl ?_
              refine wk_ireturn dX11_sheet_77 rfl rfl ?_
              rw [wr_s, upd_s]
              have hx := CR_sh (v := upd (upd (m (63 + 2 * s)) 1 b) 2 (if b = 0 then 0 else n)) (w := zr40 (L (63 + 2 * s + 1)) 40) (f := zrS (aL 81) s) hC hs (fun i hi => by unfold zr40 zrS; rw [if_pos hi, if_pos (by omega)]) (fun j hj => by unfold zrS; rw [if_neg (by omega)])
              rw [upd_s, upd_n (by decide), upd_s] at hx
              exact h1 s hs rfl hb ⟨c42, c55⟩ _ _ hx (FC_L (FC_k FC.rf (by omega)) (by omega))
            · skip
              refine wk_aload_n (i := 0) (q := 59) dX11_sheet_58 rfl rfl rfl ?_
              refine wk_ldc (q := 61) dX11_sheet_59 kX11_72 rfl ?_
              refine wk_V1r (d' := 1) (q := 64) lkX11_73 dX11_sheet_61 rfl rfl rfl rfl rfl rfl rfl ?_
              refine ck_X11_refuse (i := 0) (by decide) (by decide) ?_
              refine wk_ireturn dX11_sheet_64 rfl rfl ?_
              exact h0 (Or.inr (Or.inr (by rw [fa_lt]; rw [fa_le] at c55; omega))) _ _ hC.found (FC.rf.wr rfl)
          · skip
            refine wk_aload_n (i := 0) (q := 46) dX11_sheet_45 rfl rfl rfl ?_
            refine wk_ldc (q := 48) dX11_sheet_46 kX11_238 rfl ?_
            refine wk_V1r (d' := 1) (q := 51) lkX11_73 dX11_sheet_48 rfl rfl rfl rfl rfl rfl rfl ?_
            refine ck_X11_refuse (i := 6) (by decide) (by decide) ?_
            refine wk_ireturn dX11_sheet_51 rfl rfl ?_
            exact h2 s hs rfl hb (by rw [fa_lt]; rw [fa_le] at c42; omega) _ _ hC.found (FC.rf.wr rfl)
        · skip
          refine wk_iload_n (i := 2) (q := 29) dX11_sheet_28 rfl rfl rfl ?_
          refine wk_bipush (v := 64) (q := 31) dX11_sheet_29 rfl rfl ?_
          refine wk_icmp_eq (t := 41) (q := 34) dX11_sheet_31 rfl rfl (fun c31 => ?_) (fun c31 => ?_)
          · skip
            have hb : bOk b := by (unfold bOk; first | exact Or.inl ‹_› | exact Or.inr (Or.inl ‹_›) | exact Or.inr (Or.inr (Or.inl ‹_›)) | exact Or.inr (Or.inr (Or.inr ‹_›)))
            refine wk_iload_n (i := 3) (q := 42) dX11_sheet_41 rfl rfl rfl ?_
            refine wk_if_ge (t := 52) (q := 45) dX11_sheet_42 rfl rfl (fun c42 => ?_) (fun c42 => ?_)
            · skip
              refine wk_iload_n (i := 3) (q := 53) dX11_sheet_52 rfl rfl rfl ?_
              refine wk_bipush (v := 40) (q := 55) dX11_sheet_53 rfl rfl ?_
              refine wk_icmp_le (t := 65) (q := 58) dX11_sheet_55 rfl rfl (fun c55 => ?_) (fun c55 => ?_)
              · skip
                refine wk_aload (i := 4) (q := 67) dX11_sheet_65 rfl rfl ?_
                refine wk_iload_n (i := 2) (q := 68) dX11_sheet_67 rfl rfl rfl ?_
                refine wk_iload_n (i := 3) (q := 69) dX11_sheet_68 rfl rfl rfl ?_
                refine wk_V2v (d' := 1) (q := 72) lkX11_239 dX11_sheet_69 (sh_s hs) rfl rfl rfl rfl rfl rfl ?_
                refine ck_X6_beginAnew (sh_s hs) ?_
                refine wk_aload (i := 4) (q := 74) dX11_sheet_72 rfl rfl ?_
                refine wk_get (q := 77) fgX11_242 dX11_sheet_74 (sh_s hs) rfl rfl rfl ?_
                refine wk_ireturn dX11_sheet_77 rfl rfl ?_
                rw [wr_s, upd_s]
                have hx := CR_sh (v := upd (upd (m (63 + 2 * s)) 1 b) 2 (if b = 0 then 0 else n)) (w := zr40 (L (63 + 2 * s + 1)) 40) (f := zrS (aL 81) s) hC hs (fun i hi => by unfold zr40 zrS; rw [if_pos hi, if_pos (by omega)]) (fun j hj => by unfold zrS; rw [if_neg (by omega)])
                rw [upd_s, upd_n (by decide), upd_s] at hx
                exact h1 s hs rfl hb ⟨c42, c55⟩ _ _ hx (FC_L (FC_k FC.rf (by omega)) (by omega))
              · skip
                refine wk_aload_n (i := 0) (q := 59) dX11_sheet_58 rfl rfl rfl ?_
                refine wk_ldc (q := 61) dX11_sheet_59 kX11_72 rfl ?_
                refine wk_V1r (d' := 1) (q := 64) lkX11_73 dX11_sheet_61 rfl rfl rfl rfl rfl rfl rfl ?_
                refine ck_X11_refuse (i := 0) (by decide) (by decide) ?_
                refine wk_ireturn dX11_sheet_64 rfl rfl ?_
                exact h0 (Or.inr (Or.inr (by rw [fa_lt]; rw [fa_le] at c55; omega))) _ _ hC.found (FC.rf.wr rfl)
            · skip
              refine wk_aload_n (i := 0) (q := 46) dX11_sheet_45 rfl rfl rfl ?_
              refine wk_ldc (q := 48) dX11_sheet_46 kX11_238 rfl ?_
              refine wk_V1r (d' := 1) (q := 51) lkX11_73 dX11_sheet_48 rfl rfl rfl rfl rfl rfl rfl ?_
              refine ck_X11_refuse (i := 6) (by decide) (by decide) ?_
              refine wk_ireturn dX11_sheet_51 rfl rfl ?_
              exact h2 s hs rfl hb (by rw [fa_lt]; rw [fa_le] at c42; omega) _ _ hC.found (FC.rf.wr rfl)
          · skip
            refine wk_aload_n (i := 0) (q := 35) dX11_sheet_34 rfl rfl rfl ?_
            refine wk_ldc (q := 37) dX11_sheet_35 kX11_72 rfl ?_
            refine wk_V1r (d' := 1) (q := 40) lkX11_73 dX11_sheet_37 rfl rfl rfl rfl rfl rfl rfl ?_
            refine ck_X11_refuse (i := 0) (by decide) (by decide) ?_
            refine wk_ireturn dX11_sheet_40 rfl rfl ?_
            first | exact h0 (Or.inl hno) _ _ hC.found (FC.rf.wr rfl) | exact h0 (Or.inr (Or.inl (fun hb => by rcases hb with e | e | e | e <;> first | exact c13 e | exact c19 e | exact c25 e | exact c31 e))) _ _ hC.found (FC.rf.wr rfl)
  · skip
    refine wk_astoreN (i := 4) (q := 7) (lv' := [_, _, _, _, _]) dX11_sheet_5 rfl rfl rfl ?_
    refine wk_aloadN (i := 4) (q := 9) dX11_sheet_7 rfl rfl ?_
    refine wk_ifnullN (t := 34) dX11_sheet_9 rfl ?_
    refine wk_aload_n (i := 0) (q := 35) dX11_sheet_34 rfl rfl rfl ?_
    refine wk_ldc (q := 37) dX11_sheet_35 kX11_72 rfl ?_
    refine wk_V1r (d' := 1) (q := 40) lkX11_73 dX11_sheet_37 rfl rfl rfl rfl rfl rfl rfl ?_
    refine ck_X11_refuse (i := 0) (by decide) (by decide) ?_
    refine wk_ireturn dX11_sheet_40 rfl rfl ?_
    first | exact h0 (Or.inl hno) _ _ hC.found (FC.rf.wr rfl) | exact h0 (Or.inr (Or.inl (fun hb => by rcases hb with e | e | e | e <;> first | exact c13 e | exact c19 e | exact c25 e | exact c31 e))) _ _ hC.found (FC.rf.wr rfl)
theorem ck_X11_write {si i : Int32} {v : Int64} (hC : CR m L a aL) (hO : OK D a) (h1 : ∀ s n, s < 4 → n < szA a s → si = nI s → i = nI n → ¬ a 79 s = 0 → Po m L a (wrL aL 81 (vp_updL (aL 81) (40 * s + n) (narF (a 79 s) v))) Q (.long (aL 81 (40 * s + n)))) (h2 : ∀ s, s < 4 → si = nI s → a 79 s = 0 → Po m L (rfA a 5) aL Q (.long (Int32.toInt64 (-1000000006)))) (h3 : ∀ s, s < 4 → si = nI s → ¬ a 79 s = 0 → (∀ n, n < szA a s → ¬ i = nI n) → Po m L (rfA a 0) aL Q (.long (Int32.toInt64 (-1000000001)))) (h0 : (∀ s, s < 4 → ¬ si = nI s) → Po m L (rfA a 0) aL Q (.long (Int32.toInt64 (-1000000001)))) : CK E 3 MX11_write [.ref (ev_z E + 0), .int si, .int i, .long v] m L Q := by
  refine CK.of rfl rfl (lv := [(0, _), (1, _), (2, _), (3, _)]) rfl ?_
  refine wk_aload_n (i := 0) (q := 1) dX11_write_0 rfl rfl rfl ?_
  refine wk_iload_n (i := 1) (q := 2) dX11_write_1 rfl rfl rfl ?_
  refine wk_V1r (d' := 1) (q := 5) lkX11_234 dX11_write_2 rfl rfl rfl rfl rfl rfl rfl ?_
  refine ck_X11_sheetAt (fun s hs e => ?_) (fun hno => ?_)
  · skip
    subst e
    obtain ⟨q1, q2, q3⟩ := hC.2.2.2.1 s hs
    obtain ⟨-, k1, k2⟩ := hO.2.2.2.1 s hs
    refine wk_astore (i := 5) (q := 7) (lv' := [_, _, _, _, _]) dX11_write_5 rfl rfl rfl ?_
    refine wk_aload (i := 5) (q := 9) dX11_write_7 rfl rfl ?_
    refine wk_ifnonnull (t := 20) dX11_write_9 rfl ?_
    refine wk_aload (i := 5) (q := 22) dX11_write_20 rfl rfl ?_
    refine wk_V0r (d' := 1) (q := 25) lkX11_243 dX11_write_22 (sh_s hs) rfl rfl rfl rfl rfl rfl ?_
    refine ck_X6_isMissing (sh_s hs) (fun hm => ?_) (fun hm => ?_)
    · skip
      rw [q1] at hm
      refine wk_if_eq (t := 36) (q := 28) dX11_write_25 rfl rfl (fun h => absurd h (by decide)) (fun _ => ?_)
      refine wk_aload_n (i := 0) (q := 29) dX11_write_28 rfl rfl rfl ?_
      refine wk_ldc (q := 31) dX11_write_29 kX11_247 rfl ?_
      refine wk_V1r (d' := 1) (q := 34) lkX11_73 dX11_write_31 rfl rfl rfl rfl rfl rfl rfl ?_
      refine ck_X11_refuse (i := 5) (by decide) (by decide) ?_
      refine wk_i2l (q := 35) dX11_write_34 rfl ?_
      refine wk_lreturn dX11_write_35 rfl ?_
      exact h2 s hs rfl hm _ _ hC.found (FC.rf.wr rfl)
    · skip
      rw [q1] at hm
      refine wk_if_eq (t := 36) (q := 28) dX11_write_25 rfl rfl (fun _ => ?_) (fun h => absurd (by decide) h)
      refine wk_iload_n (i := 2) (q := 37) dX11_write_36 rfl rfl rfl ?_
      refine wk_iconst (v := 0) (q := 38) dX11_write_37 rfl rfl ?_
      refine wk_aload (i := 5) (q := 40) dX11_write_38 rfl rfl ?_
      refine wk_get (q := 43) fgX11_242 dX11_write_40 (sh_s hs) rfl rfl rfl ?_
      refine wk_iconst (v := 1) (q := 44) dX11_write_43 rfl rfl ?_
      refine wk_isub (q := 45) dX11_write_44 rfl ?_
      rw [q2, k1]
      refine wk_S3r (d' := 1) (q := 48) lkX11_61 dX11_write_45 rfl rfl rfl rfl ?_
      refine ck_X11_within (fun hw => ?_) (fun hw => ?_)
      · skip
        obtain ⟨n, hn, rfl⟩ := wi_c (by omega) hw
        refine wk_if_ne (t := 59) (q := 51) dX11_write_48 rfl rfl (fun _ => ?_) (fun h => absurd h (by decide))
        refine wk_aload (i := 5) (q := 61) dX11_write_59 rfl rfl ?_
        refine wk_get (q := 64) fgX11_248 dX11_write_61 (sh_s hs) rfl rfl rfl ?_
        refine wk_iload_n (i := 2) (q := 65) dX11_write_64 rfl rfl rfl ?_
        refine wk_lald (n := n) (q := 66) dX11_write_65 (sh_nu (sh_s hs)) rfl (by show n < llen (63 + 2 * s + 1); rw [show llen (63 + 2 * s + 1) = 40 from if_neg (by omega)]; omega) rfl ?_
        refine wk_lstore (i := 6) (q := 68) (lv' := [_, _, _, _, _, _]) dX11_write_66 rfl rfl rfl ?_
        refine wk_aload (i := 5) (q := 70) dX11_write_68 rfl rfl ?_
        refine wk_iload_n (i := 2) (q := 71) dX11_write_70 rfl rfl rfl ?_
        refine wk_lload_n (i := 3) (q := 72) dX11_write_71 rfl rfl rfl ?_
        refine wk_V2v (d' := 2) (q := 75) lkX11_252 dX11_write_72 (sh_s hs) rfl rfl rfl rfl rfl rfl ?_
        refine ck_X6_put (n := n) (c := szA a s) (sh_s hs) (by rw [q2, k1]) k2 hn ?_
        refine wk_lload (i := 6) (q := 77) dX11_write_75 rfl rfl ?_
        refine wk_lreturn dX11_write_77 rfl ?_
        rw [q3 n (by omega), q1]
        exact h1 s n hs hn rfl rfl hm _ _ (CR_L hC hs (fun i hi => by unfold vp_updL; by_cases e : i = n; (rw [if_pos e, if_pos (by omega)]); (rw [if_neg e, if_neg (by omega)]; exact q3 i hi)) (fun j hj => by unfold vp_updL; rw [if_neg (by omega)])) (FC_L FC.rf (by omega))
      · skip
        refine wk_if_ne (t := 59) (q := 51) dX11_write_48 rfl rfl (fun h => absurd (by decide) h) (fun _ => ?_)
        refine wk_aload_n (i := 0) (q := 52) dX11_write_51 rfl rfl rfl ?_
        refine wk_ldc (q := 54) dX11_write_52 kX11_72 rfl ?_
        refine wk_V1r (d' := 1) (q := 57) lkX11_73 dX11_write_54 rfl rfl rfl rfl rfl rfl rfl ?_
        refine ck_X11_refuse (i := 0) (by decide) (by decide) ?_
        refine wk_i2l (q := 58) dX11_write_57 rfl ?_
        refine wk_lreturn dX11_write_58 rfl ?_
        exact h3 s hs rfl hm (fun n hn e => by subst e; exact hw (wi_c' (by omega) hn)) _ _ hC.found (FC.rf.wr rfl)
  · skip
    refine wk_astoreN (i := 5) (q := 7) (lv' := [_, _, _, _, _]) dX11_write_5 rfl rfl rfl ?_
    refine wk_aloadN (i := 5) (q := 9) dX11_write_7 rfl rfl ?_
    refine wk_ifnonnullN (q := 12) dX11_write_9 rfl ?_
    refine wk_aload_n (i := 0) (q := 13) dX11_write_12 rfl rfl rfl ?_
    refine wk_ldc (q := 15) dX11_write_13 kX11_72 rfl ?_
    refine wk_V1r (d' := 1) (q := 18) lkX11_73 dX11_write_15 rfl rfl rfl rfl rfl rfl rfl ?_
    refine ck_X11_refuse (i := 0) (by decide) (by decide) ?_
    refine wk_i2l (q := 19) dX11_write_18 rfl ?_
    refine wk_lreturn dX11_write_19 rfl ?_
    exact h0 hno _ _ hC.found (FC.rf.wr rfl)
theorem ck_X11_copy {si fr ti to n : Int32} (hC : CR m L a aL) (hO : OK D a) (h1 : ∀ s t f o k, s < 4 → t < 4 → si = nI s → ti = nI t → ¬ a 79 s = 0 → ¬ a 79 t = 0 → a 79 s = a 79 t → fr = nI f → to = nI o → n = nI k → f + k ≤ szA a s → o + k ≤ szA a t → Po m L a (wrL aL 81 (cpS (aL 81) s f t o k)) Q (.int (nI k))) (h2 : ∀ s t, s < 4 → t < 4 → si = nI s → ti = nI t → (a 79 s = 0 ∨ a 79 t = 0) → Po m L (rfA a 5) aL Q (.int (-1000000006))) (h3 : ∀ s t, s < 4 → t < 4 → si = nI s → ti = nI t → ¬ a 79 s = 0 → ¬ a 79 t = 0 → ¬ a 79 s = a 79 t → Po m L (rfA a 2) aL Q (.int (-1000000003))) (h4 : ∀ s t, s < 4 → t < 4 → si = nI s → ti = nI t → ¬ a 79 s = 0 → ¬ a 79 t = 0 → a 79 s = a 79 t → (∀ f o k, f + k ≤ szA a s → o + k ≤ szA a t → ¬ (fr = nI f ∧ to = nI o ∧ n = nI k)) → Po m L (rfA a 0) aL Q (.int (-1000000001))) (h0 : ((∀ s, s < 4 → ¬ si = nI s) ∨ (∀ s, s < 4 → ¬ ti = nI s)) → Po m L (rfA a 0) aL Q (.int (-1000000001))) : CK E 2 MX11_copy [.ref (ev_z E + 0), .int si, .int fr, .int ti, .int to, .int n] m L Q := by
  refine CK.of rfl rfl (lv := [(0, _), (1, _), (2, _), (3, _), (4, _), (5, _)]) rfl ?_
  refine wk_aload_n (i := 0) (q := 1) dX11_copy_0 rfl rfl rfl ?_
  refine wk_iload_n (i := 1) (q := 2) dX11_copy_1 rfl rfl rfl ?_
  refine wk_V1r (d' := 1) (q := 5) lkX11_234 dX11_copy_2 rfl rfl rfl rfl rfl rfl rfl ?_
  refine ck_X11_sheetAt (fun s hs e => ?_) (fun hno => ?_)
  · skip
    subst e
    obtain ⟨q1, q2, q3⟩ := hC.2.2.2.1 s hs
    obtain ⟨-, k1, k2⟩ := hO.2.2.2.1 s hs
    refine wk_astore (i := 6) (q := 7) (lv' := [_, _, _, _, _, _, _]) dX11_copy_5 rfl rfl rfl ?_
    refine wk_aload_n (i := 0) (q := 8) dX11_copy_7 rfl rfl rfl ?_
    refine wk_iload_n (i := 3) (q := 9) dX11_copy_8 rfl rfl rfl ?_
    refine wk_V1r (d' := 1) (q := 12) lkX11_234 dX11_copy_9 rfl rfl rfl rfl rfl rfl rfl ?_
    refine ck_X11_sheetAt (fun t ht e => ?_) (fun hnt => ?_)
    · skip
      subst e
      obtain ⟨p1, p2, p3⟩ := hC.2.2.2.1 t ht
      obtain ⟨-, j1, j2⟩ := hO.2.2.2.1 t ht
      refine wk_astore (i := 7) (q := 14) (lv' := [_, _, _, _, _, _, _, _]) dX11_copy_12 rfl rfl rfl ?_
      refine wk_aload (i := 6) (q := 16) dX11_copy_14 rfl rfl ?_
      refine wk_ifnull (q := 19) dX11_copy_16 rfl ?_
      refine wk_aload (i := 7) (q := 21) dX11_copy_19 rfl rfl ?_
      refine wk_ifnonnull (t := 31) dX11_copy_21 rfl ?_
      refine wk_aload (i := 6) (q := 33) dX11_copy_31 rfl rfl ?_
      refine wk_V0r (d' := 1) (q := 36) lkX11_243 dX11_copy_33 (sh_s hs) rfl rfl rfl rfl rfl rfl ?_
      refine ck_X6_isMissing (sh_s hs) (fun hm => ?_) (fun hm => ?_)
      · skip
        rw [q1] at hm
        refine wk_if_ne (t := 47) (q := 39) dX11_copy_36 rfl rfl (fun _ => ?_) (fun h => absurd h (by decide))
        refine wk_aload_n (i := 0) (q := 48) dX11_copy_47 rfl rfl rfl ?_
        refine wk_ldc (q := 50) dX11_copy_48 kX11_247 rfl ?_
        refine wk_V1r (d' := 1) (q := 53) lkX11_73 dX11_copy_50 rfl rfl rfl rfl rfl rfl rfl ?_
        refine ck_X11_refuse (i := 5) (by decide) (by decide) ?_
        refine wk_ireturn dX11_copy_53 rfl rfl ?_
        first | exact h2 s t hs ht rfl rfl (Or.inl hm) _ _ hC.found (FC.rf.wr rfl) | exact h2 s t hs ht rfl rfl (Or.inr hm) _ _ hC.found (FC.rf.wr rfl)
      · skip
        rw [q1] at hm
        have hms := hm
        refine wk_if_ne (t := 47) (q := 39) dX11_copy_36 rfl rfl (fun h => absurd (by decide) h) (fun _ => ?_)
        refine wk_aload (i := 7) (q := 41) dX11_copy_39 rfl rfl ?_
        refine wk_V0r (d' := 1) (q := 44) lkX11_243 dX11_copy_41 (sh_s ht) rfl rfl rfl rfl rfl rfl ?_
        refine ck_X6_isMissing (sh_s ht) (fun hm => ?_) (fun hm => ?_)
        · skip
          rw [p1] at hm
          refine wk_if_eq (t := 54) (q := 47) dX11_copy_44 rfl rfl (fun h => absurd h (by decide)) (fun _ => ?_)
          refine wk_aload_n (i := 0) (q := 48) dX11_copy_47 rfl rfl rfl ?_
          refine wk_ldc (q := 50) dX11_copy_48 kX11_247 rfl ?_
          refine wk_V1r (d' := 1) (q := 53) lkX11_73 dX11_copy_50 rfl rfl rfl rfl rfl rfl rfl ?_
          refine ck_X11_refuse (i := 5) (by decide) (by decide) ?_
          refine wk_ireturn dX11_copy_53 rfl rfl ?_
          first | exact h2 s t hs ht rfl rfl (Or.inl hm) _ _ hC.found (FC.rf.wr rfl) | exact h2 s t hs ht rfl rfl (Or.inr hm) _ _ hC.found (FC.rf.wr rfl)
        · skip
          rw [p1] at hm
          refine wk_if_eq (t := 54) (q := 47) dX11_copy_44 rfl rfl (fun _ => ?_) (fun h => absurd (by decide) h)
          refine wk_aload (i := 6) (q := 56) dX11_copy_54 rfl rfl ?_
          refine wk_get (q := 59) fgX11_256 dX11_copy_56 (sh_s hs) rfl rfl rfl ?_
          refine wk_aload (i := 7) (q := 61) dX11_copy_59 rfl rfl ?_
          refine wk_get (q := 64) fgX11_256 dX11_copy_61 (sh_s ht) rfl rfl rfl ?_
          rw [q1, p1]
          refine wk_icmp_eq (t := 74) (q := 67) dX11_copy_64 rfl rfl (fun c64 => ?_) (fun c64 => ?_)
          · skip
            refine wk_aload (i := 6) (q := 76) dX11_copy_74 rfl rfl ?_
            refine wk_iload_n (i := 2) (q := 77) dX11_copy_76 rfl rfl rfl ?_
            refine wk_iload (i := 5) (q := 79) dX11_copy_77 rfl rfl ?_
            refine wk_V2r (d' := 1) (q := 82) lkX11_259 dX11_copy_79 (sh_s hs) rfl rfl rfl rfl rfl rfl ?_
            refine ck_X6_hasRun (sh_s hs) (fun hr => ?_) (fun hr => ?_)
            · skip
              rw [q2, k1] at hr
              obtain ⟨f, k, rfl, rfl, hfk⟩ := hr_of k2 hr
              refine wk_if_eq (t := 97) (q := 85) dX11_copy_82 rfl rfl (fun h => absurd h (by decide)) (fun _ => ?_)
              refine wk_aload (i := 7) (q := 87) dX11_copy_85 rfl rfl ?_
              refine wk_iload (i := 4) (q := 89) dX11_copy_87 rfl rfl ?_
              refine wk_iload (i := 5) (q := 91) dX11_copy_89 rfl rfl ?_
              refine wk_V2r (d' := 1) (q := 94) lkX11_259 dX11_copy_91 (sh_s ht) rfl rfl rfl rfl rfl rfl ?_
              refine ck_X6_hasRun (sh_s ht) (fun hr2 => ?_) (fun hr2 => ?_)
              · skip
                rw [p2, j1] at hr2
                obtain ⟨o, k', rfl, e, hok⟩ := hr_of j2 hr2
                have e := nI_inj (by omega) (by omega) e
                subst e
                refine wk_if_ne (t := 104) (q := 97) dX11_copy_94 rfl rfl (fun _ => ?_) (fun h => absurd h (by decide))
                refine wk_aload (i := 6) (q := 106) dX11_copy_104 rfl rfl ?_
                refine wk_get (q := 109) fgX11_248 dX11_copy_106 (sh_s hs) rfl rfl rfl ?_
                refine wk_iload_n (i := 2) (q := 110) dX11_copy_109 rfl rfl rfl ?_
                refine wk_aload (i := 7) (q := 112) dX11_copy_110 rfl rfl ?_
                refine wk_get (q := 115) fgX11_248 dX11_copy_112 (sh_s ht) rfl rfl rfl ?_
                refine wk_iload (i := 4) (q := 117) dX11_copy_115 rfl rfl ?_
                refine wk_iload (i := 5) (q := 119) dX11_copy_117 rfl rfl ?_
                refine wk_copyl (q := 122) (ns := f) (nd := o) (nn := k) lkX11_262 dX11_copy_119 (sh_nu (sh_s hs)) (sh_nu (sh_s ht)) rfl rfl rfl (by rw [show llen (63 + 2 * s + 1) = 40 from if_neg (by omega)]; omega) (by rw [show llen (63 + 2 * t + 1) = 40 from if_neg (by omega)]; omega) rfl rfl rfl ?_
                refine wk_iload (i := 5) (q := 124) dX11_copy_122 rfl rfl ?_
                refine wk_ireturn dX11_copy_124 rfl rfl ?_
                refine h1 s t f o k hs ht rfl rfl hms hm c64 rfl rfl rfl hfk hok _ _ (CR_L hC ht (fun i hi => ?_) (fun j hj => ?_)) (FC_L FC.rf (by omega))
                · (unfold va_cpy cpS; by_cases e : o ≤ i ∧ i < o + k; (rw [if_pos e, if_pos (by omega), q3 _ (by omega)]; congr 1; omega); (rw [if_neg e, if_neg (by omega)]; exact p3 i hi))
                · (unfold cpS; rw [if_neg (by omega)])
              · skip
                rw [p2, j1] at hr2
                refine wk_if_ne (t := 104) (q := 97) dX11_copy_94 rfl rfl (fun h => absurd (by decide) h) (fun _ => ?_)
                refine wk_aload_n (i := 0) (q := 98) dX11_copy_97 rfl rfl rfl ?_
                refine wk_ldc (q := 100) dX11_copy_98 kX11_72 rfl ?_
                refine wk_V1r (d' := 1) (q := 103) lkX11_73 dX11_copy_100 rfl rfl rfl rfl rfl rfl rfl ?_
                refine ck_X11_refuse (i := 0) (by decide) (by decide) ?_
                refine wk_ireturn dX11_copy_103 rfl rfl ?_
                refine h4 s t hs ht rfl rfl hms hm c64 (fun f' o' k' g1 g2 g3 => ?_) _ _ hC.found (FC.rf.wr rfl)
                obtain ⟨e1, e2, e3⟩ := g3
                first | (subst e1; subst e3; exact hr (hr_of' k2 g1)) | (subst e2; rw [e3] at hr2; exact hr2 (hr_of' j2 g2))
            · skip
              rw [q2, k1] at hr
              refine wk_if_eq (t := 97) (q := 85) dX11_copy_82 rfl rfl (fun _ => ?_) (fun h => absurd (by decide) h)
              refine wk_aload_n (i := 0) (q := 98) dX11_copy_97 rfl rfl rfl ?_
              refine wk_ldc (q := 100) dX11_copy_98 kX11_72 rfl ?_
              refine wk_V1r (d' := 1) (q := 103) lkX11_73 dX11_copy_100 rfl rfl rfl rfl rfl rfl rfl ?_
              refine ck_X11_refuse (i := 0) (by decide) (by decide) ?_
              refine wk_ireturn dX11_copy_103 rfl rfl ?_
              refine h4 s t hs ht rfl rfl hms hm c64 (fun f' o' k' g1 g2 g3 => ?_) _ _ hC.found (FC.rf.wr rfl)
              obtain ⟨e1, e2, e3⟩ := g3
              first | (subst e1; subst e3; exact hr (hr_of' k2 g1)) | (subst e2; rw [e3] at hr2; exact hr2 (hr_of' j2 g2))
          · skip
            refine wk_aload_n (i := 0) (q := 68) dX11_copy_67 rfl rfl rfl ?_
            refine wk_ldc (q := 70) dX11_copy_68 kX11_163 rfl ?_
            refine wk_V1r (d' := 1) (q := 73) lkX11_73 dX11_copy_70 rfl rfl rfl rfl rfl rfl rfl ?_
            refine ck_X11_refuse (i := 2) (by decide) (by decide) ?_
            refine wk_ireturn dX11_copy_73 rfl rfl ?_
            exact h3 s t hs ht rfl rfl hms hm c64 _ _ hC.found (FC.rf.wr rfl)
    · skip
      refine wk_astoreN (i := 7) (q := 14) (lv' := [_, _, _, _, _, _, _, _]) dX11_copy_12 rfl rfl rfl ?_
      refine wk_aload (i := 6) (q := 16) dX11_copy_14 rfl rfl ?_
      refine wk_ifnull (q := 19) dX11_copy_16 rfl ?_
      refine wk_aloadN (i := 7) (q := 21) dX11_copy_19 rfl rfl ?_
      refine wk_ifnonnullN (q := 24) dX11_copy_21 rfl ?_
      refine wk_aload_n (i := 0) (q := 25) dX11_copy_24 rfl rfl rfl ?_
      refine wk_ldc (q := 27) dX11_copy_25 kX11_72 rfl ?_
      refine wk_V1r (d' := 1) (q := 30) lkX11_73 dX11_copy_27 rfl rfl rfl rfl rfl rfl rfl ?_
      refine ck_X11_refuse (i := 0) (by decide) (by decide) ?_
      refine wk_ireturn dX11_copy_30 rfl rfl ?_
      first | exact h0 (Or.inl hno) _ _ hC.found (FC.rf.wr rfl) | exact h0 (Or.inr hnt) _ _ hC.found (FC.rf.wr rfl)
  · skip
    refine wk_astoreN (i := 6) (q := 7) (lv' := [_, _, _, _, _, _, _]) dX11_copy_5 rfl rfl rfl ?_
    refine wk_aload_n (i := 0) (q := 8) dX11_copy_7 rfl rfl rfl ?_
    refine wk_iload_n (i := 3) (q := 9) dX11_copy_8 rfl rfl rfl ?_
    refine wk_V1r (d' := 1) (q := 12) lkX11_234 dX11_copy_9 rfl rfl rfl rfl rfl rfl rfl ?_
    refine ck_X11_sheetAt (fun t ht e => ?_) (fun hnt => ?_)
    · skip
      subst e
      obtain ⟨p1, p2, p3⟩ := hC.2.2.2.1 t ht
      obtain ⟨-, j1, j2⟩ := hO.2.2.2.1 t ht
      refine wk_astore (i := 7) (q := 14) (lv' := [_, _, _, _, _, _, _, _]) dX11_copy_12 rfl rfl rfl ?_
      refine wk_aloadN (i := 6) (q := 16) dX11_copy_14 rfl rfl ?_
      refine wk_ifnullN (t := 24) dX11_copy_16 rfl ?_
      refine wk_aload_n (i := 0) (q := 25) dX11_copy_24 rfl rfl rfl ?_
      refine wk_ldc (q := 27) dX11_copy_25 kX11_72 rfl ?_
      refine wk_V1r (d' := 1) (q := 30) lkX11_73 dX11_copy_27 rfl rfl rfl rfl rfl rfl rfl ?_
      refine ck_X11_refuse (i := 0) (by decide) (by decide) ?_
      refine wk_ireturn dX11_copy_30 rfl rfl ?_
      first | exact h0 (Or.inl hno) _ _ hC.found (FC.rf.wr rfl) | exact h0 (Or.inr hnt) _ _ hC.found (FC.rf.wr rfl)
    · skip
      refine wk_astoreN (i := 7) (q := 14) (lv' := [_, _, _, _, _, _, _, _]) dX11_copy_12 rfl rfl rfl ?_
      refine wk_aloadN (i := 6) (q := 16) dX11_copy_14 rfl rfl ?_
      refine wk_ifnullN (t := 24) dX11_copy_16 rfl ?_
      refine wk_aload_n (i := 0) (q := 25) dX11_copy_24 rfl rfl rfl ?_
      refine wk_ldc (q := 27) dX11_copy_25 kX11_72 rfl ?_
      refine wk_V1r (d' := 1) (q := 30) lkX11_73 dX11_copy_27 rfl rfl rfl rfl rfl rfl rfl ?_
      refine ck_X11_refuse (i := 0) (by decide) (by decide) ?_
      refine wk_ireturn dX11_copy_30 rfl rfl ?_
      first | exact h0 (Or.inl hno) _ _ hC.found (FC.rf.wr rfl) | exact h0 (Or.inr hnt) _ _ hC.found (FC.rf.wr rfl)
end CQ
