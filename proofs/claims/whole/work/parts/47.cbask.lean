/-! the class's basket -/
section CY
variable {E : EVt} {m : Mm} {L : Ml} {Q : Value → Mm → Ml → Prop} {a : Mm} {aL : Ml} {D : Nat}
theorem neg_b {k : Nat} (hk : k ≤ 120) : (-1 - nI k : Int32) < 0 := by
  rw [fa_lt, sb_i (by rw [nI_toInt (by omega), show (-1 : Int32).toInt = -1 by decide]; omega) (by rw [nI_toInt (by omega), show (-1 : Int32).toInt = -1 by decide]; omega), nI_toInt (by omega), show (-1 : Int32).toInt = -1 by decide, show (0 : Int32).toInt = 0 by decide]
  omega
theorem ck_tellM {T A : Nat → Int32} {tn : Nat} (ht : tn ≤ 120) (hS : m 60 1 = nI tn) (hb : ∀ i, i < tn → byRel (m 61 i) (T i)) (hO : okA D A) (hB : hasB m 42 A) (h1 : ∀ A' p' n' S' m', bskF T tn A = (true, A', p', n') → n' ≤ 121 → S' 1 = nI tn → hasB m' 42 A' → frB m m' 42 → Q (.int (nI n')) (wr m' 60 S') L) (h0 : ∀ A0 p' n' S' m', bskF T tn A = (false, A0, p', n') → S' 1 = nI tn → p' ≤ tn → frB m m' 42 → Q (.int (-1 - nI (tkS T tn p'))) (wr m' 60 S') L) : CK E 9 MX9_tellInto [.ref (ev_z E + 60), .ref (ev_z E + 42)] m L Q := by
  have h := ck_tellInto (E := E) (L := L) (Q := Q) ht hS hb hO hB h1 h0
  rw [wr_self] at h
  exact h
theorem CR_tell {m1 m2 : Mm} {S : Nat → Int32} (h : CR m1 L a aL) (hF : frB m1 m2 42) (e : S 1 = m1 60 1) : CR (wr m2 60 S) L a aL := h.fr (fun k hk => by rw [wr_n (by omega)]; exact hF k (by omega)) (by rw [wr_s]; exact e)
theorem ck_X11_basket (hC : CR m L a aL) (hO : OK D a) (h1 : ∀ A' p' n', bskF (a 78) (tnA a) (a 73) = (true, A', p', n') → Po m L (wr (wr a 72 (upd (a 72) 7 0)) 73 A') aL Q (.int (nI n'))) (h0 : ∀ A0 p' n', bskF (a 78) (tnA a) (a 73) = (false, A0, p', n') → Po m L (wr a 72 (upd (a 72) 7 0)) aL Q (.int (-1 - nI (tkS (a 78) (tnA a) p')))) : CK E 10 MX11_basket [.ref (ev_z E + 0)] m L Q := by
  have ht := hO.2.2.1
  refine CK.of rfl rfl (lv := [(0, _)]) rfl ?_
  refine wk_aload_n (i := 0) (q := 1) dX11_basket_0 rfl rfl rfl ?_
  refine wk_get (q := 4) fgX11_27 dX11_basket_1 rfl rfl rfl rfl ?_
  refine wk_aload_n (i := 0) (q := 5) dX11_basket_4 rfl rfl rfl ?_
  refine wk_get (q := 8) fgX11_18 dX11_basket_5 rfl rfl rfl rfl ?_
  refine wk_V1v (d' := 2) (q := 11) lkX11_214 dX11_basket_8 rfl rfl rfl rfl rfl rfl rfl ?_
  refine ck_X0_become (b := 42) (b2 := 8) rfl rfl (by decide) hC.1 (fun m1 hB1 hF1 => ?_)
  have hC1 := hC.b42 hF1
  have hb1 : ∀ i, i < tnA a → byRel (m1 61 i) (a 78 i) := fun i hi => hC1.2.2.1.2 i (by omega) hi
  have e1 : m1 60 1 = nI (tnA a) := hC1.2.2.1.1.trans ht.1
  refine wk_aload_n (i := 0) (q := 12) dX11_basket_11 rfl rfl rfl ?_
  refine wk_get (q := 15) fgX11_42 dX11_basket_12 rfl rfl rfl rfl ?_
  refine wk_aload_n (i := 0) (q := 16) dX11_basket_15 rfl rfl rfl ?_
  refine wk_get (q := 19) fgX11_27 dX11_basket_16 rfl rfl rfl rfl ?_
  refine wk_V1r (d' := 9) (q := 22) lkX11_230 dX11_basket_19 rfl rfl rfl rfl rfl rfl rfl ?_
  refine ck_tellM ht.2 e1 hb1 hO.1 hB1 (fun A2 p2 n2 S2 m2 hr hn2 q1 hB2 hF2 => ?_) (fun A2 p2 n2 S2 m2 hr q1 hp2 hF2 => ?_)
  · skip
    have hC3 := CR_wipe (CR_tell hC1 hF2 (q1.trans e1.symm))
    refine wk_istore_n (i := 1) (q := 23) (lv' := [_, _]) dX11_basket_22 rfl rfl rfl rfl ?_
    refine wk_aload_n (i := 0) (q := 24) dX11_basket_23 rfl rfl rfl ?_
    refine wk_get (q := 27) fgX11_42 dX11_basket_24 rfl rfl rfl rfl ?_
    refine wk_V0r (d' := 1) (q := 30) lkX11_227 dX11_basket_27 rfl rfl rfl rfl rfl rfl rfl ?_
    refine ck_X9_clear ?_
    refine wk_pop (q := 31) dX11_basket_30 rfl rfl ?_
    refine wk_iload_n (i := 1) (q := 32) dX11_basket_31 rfl rfl rfl ?_
    refine wk_if_lt (t := 46) (q := 35) dX11_basket_32 rfl rfl (fun h => absurd h (nI_nlt (b := 0) (Nat.zero_le _) (by omega))) (fun c32 => ?_)
    refine wk_aload_n (i := 0) (q := 36) dX11_basket_35 rfl rfl rfl ?_
    refine wk_get (q := 39) fgX11_18 dX11_basket_36 rfl rfl rfl rfl ?_
    refine wk_aload_n (i := 0) (q := 40) dX11_basket_39 rfl rfl rfl ?_
    refine wk_get (q := 43) fgX11_27 dX11_basket_40 rfl rfl rfl rfl ?_
    refine wk_V1v (d' := 2) (q := 46) lkX11_214 dX11_basket_43 rfl rfl rfl rfl rfl rfl rfl ?_
    refine ck_X0_become (b := 8) (b2 := 42) rfl rfl (by decide) (hasB_60 (hasB_60 hB2)) (fun m4 hB4 hF4 => ?_)
    refine wk_iload_n (i := 1) (q := 47) dX11_basket_46 rfl rfl rfl ?_
    refine wk_ireturn dX11_basket_47 rfl rfl ?_
    first | exact h1 _ _ _ hr _ _ (hC3.b8 hB4 hF4) (((((FC.rf.bk sb_42 hF1).bk sb_42 hF2).wr rfl).wr rfl).bk sb_8 hF4) | exact h0 _ _ _ hr _ _ hC3 ((((FC.rf.bk sb_42 hF1).bk sb_42 hF2).wr rfl).wr rfl)
  · skip
    have hC3 := CR_wipe (CR_tell hC1 hF2 (q1.trans e1.symm))
    have hs2 := tkS_ub (T := a 78) hp2
    refine wk_istore_n (i := 1) (q := 23) (lv' := [_, _]) dX11_basket_22 rfl rfl rfl rfl ?_
    refine wk_aload_n (i := 0) (q := 24) dX11_basket_23 rfl rfl rfl ?_
    refine wk_get (q := 27) fgX11_42 dX11_basket_24 rfl rfl rfl rfl ?_
    refine wk_V0r (d' := 1) (q := 30) lkX11_227 dX11_basket_27 rfl rfl rfl rfl rfl rfl rfl ?_
    refine ck_X9_clear ?_
    refine wk_pop (q := 31) dX11_basket_30 rfl rfl ?_
    refine wk_iload_n (i := 1) (q := 32) dX11_basket_31 rfl rfl rfl ?_
    refine wk_if_lt (t := 46) (q := 35) dX11_basket_32 rfl rfl (fun c32 => ?_) (fun h => absurd (neg_b (by omega)) h)
    refine wk_iload_n (i := 1) (q := 47) dX11_basket_46 rfl rfl rfl ?_
    refine wk_ireturn dX11_basket_47 rfl rfl ?_
    first | exact h1 _ _ _ hr _ _ (hC3.b8 hB4 hF4) (((((FC.rf.bk sb_42 hF1).bk sb_42 hF2).wr rfl).wr rfl).bk sb_8 hF4) | exact h0 _ _ _ hr _ _ hC3 ((((FC.rf.bk sb_42 hF1).bk sb_42 hF2).wr rfl).wr rfl)
end CY
