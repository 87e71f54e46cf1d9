/-! the class's calls, second part -/
def onR (v : Nat → Int32) (w : Nat) : Int32 := match w with
  | 0 => v 1
  | 1 => v 2
  | _ => v 4
def agR (v : Nat → Int32) (w : Nat) : Int32 := match w with
  | 0 => v 1
  | 1 => v 2
  | _ => v 3
section CN
variable {E : EVt} {m : Mm} {L : Ml} {Q : Value → Mm → Ml → Prop} {a : Mm} {aL : Ml} {D : Nat}
theorem ck_X11_set {i w v : Int32} (hC : CR m L a aL) (hO : OK D a) (h1 : ∀ g f, g < cA (a 73) → (f = 1 ∨ f = 2 ∨ f = 3 ∨ f = 6) → i = nI g → w = nI f → maySetP w v → Po m L (wr a 73 (upd (a 73) (5 + 7 * g + f) v)) aL Q (.int (a 73 (5 + 7 * g + f)))) (h0 : ((∀ g, g < cA (a 73) → ¬ i = nI g) ∨ ¬ maySetP w v) → Po m L (rfA a 0) aL Q (.int (-1000000001))) : CK E 4 MX11_set [.ref (ev_z E + 0), .int i, .int w, .int v] m L Q := by
  have hB := hC.1
  have hA := hO.1
  have hc8 := hA.1.2.1
  refine CK.of rfl rfl (lv := [(0, _), (1, _), (2, _), (3, _)]) rfl ?_
  refine wk_aload_n (i := 0) (q := 1) dX11_set_0 rfl rfl rfl ?_
  refine wk_get (q := 4) fgX11_18 dX11_set_1 rfl rfl rfl rfl ?_
  refine wk_iload_n (i := 1) (q := 5) dX11_set_4 rfl rfl rfl ?_
  refine wk_V1r (d' := 1) (q := 8) lkX11_102 dX11_set_5 rfl rfl rfl rfl rfl rfl rfl ?_
  refine ck_X0_garmentAt (b := 8) (c := cA (a 73)) rfl (hB.1.trans hA.1.1) hc8 (fun n hn e => ?_) (fun hno => ?_)
  · skip
    subst e
    have hE := hB.e7 (g := n) (by omega)
    refine wk_astore (i := 4) (q := 10) (lv' := [_, _, _, _, _]) dX11_set_8 rfl rfl rfl ?_
    refine wk_aload (i := 4) (q := 12) dX11_set_10 rfl rfl ?_
    refine wk_ifnull (q := 15) dX11_set_12 rfl ?_
    refine wk_iload_n (i := 2) (q := 16) dX11_set_15 rfl rfl rfl ?_
    refine wk_iload_n (i := 3) (q := 17) dX11_set_16 rfl rfl rfl ?_
    refine wk_S2r (d' := 3) (q := 20) lkX11_143 dX11_set_17 rfl rfl rfl rfl ?_
    refine ck_X11_maySet (fun hm => ?_) (fun hm => ?_)
    · skip
      refine wk_if_ne (t := 30) (q := 23) dX11_set_20 rfl rfl (fun _ => ?_) (fun h => absurd h (by decide))
      refine wk_iload_n (i := 2) (q := 31) dX11_set_30 rfl rfl rfl ?_
      refine wk_table (cs := [(1, 56), (2, 72), (3, 88)]) (td := 104) dX11_set_31 (by decide +kernel) ?_
      refine And.intro (fun c31_0 => ?_) (fun n31_0 => ?_)
      · skip
        refine wk_aload (i := 4) (q := 58) dX11_set_56 rfl rfl ?_
        refine wk_get (q := 61) fgX11_116 dX11_set_58 (sh_g sb_8 (by omega)) rfl rfl rfl ?_
        refine wk_istore (i := 5) (q := 63) (lv' := [_, _, _, _, _, _]) dX11_set_61 rfl rfl rfl ?_
        refine wk_aload (i := 4) (q := 65) dX11_set_63 rfl rfl ?_
        refine wk_iload_n (i := 3) (q := 66) dX11_set_65 rfl rfl rfl ?_
        refine wk_put (q := 69) fpX11_116 dX11_set_66 (sh_g sb_8 (by omega)) rfl rfl rfl rfl rfl ?_
        refine wk_iload (i := 5) (q := 71) dX11_set_69 rfl rfl ?_
        refine wk_ireturn dX11_set_71 rfl rfl ?_
        rw [hE 1 (by decide)]
        have hr := hB.row (g := n) (by omega) (E7_upd (f := 1) (x := v) hE)
        rw [gput_upd (by decide)] at hr
        exact h1 n 1 hn (by omega) rfl c31_0 hm _ _ (hC.b8 hr (frB_row (by omega))) (FC.rf.bk sb_8 (frB_row (by omega)))
      refine And.intro (fun c31_1 => ?_) (fun n31_1 => ?_)
      · skip
        refine wk_aload (i := 4) (q := 74) dX11_set_72 rfl rfl ?_
        refine wk_get (q := 77) fgX11_119 dX11_set_74 (sh_g sb_8 (by omega)) rfl rfl rfl ?_
        refine wk_istore (i := 5) (q := 79) (lv' := [_, _, _, _, _, _]) dX11_set_77 rfl rfl rfl ?_
        refine wk_aload (i := 4) (q := 81) dX11_set_79 rfl rfl ?_
        refine wk_iload_n (i := 3) (q := 82) dX11_set_81 rfl rfl rfl ?_
        refine wk_put (q := 85) fpX11_119 dX11_set_82 (sh_g sb_8 (by omega)) rfl rfl rfl rfl rfl ?_
        refine wk_iload (i := 5) (q := 87) dX11_set_85 rfl rfl ?_
        refine wk_ireturn dX11_set_87 rfl rfl ?_
        rw [hE 2 (by decide)]
        have hr := hB.row (g := n) (by omega) (E7_upd (f := 2) (x := v) hE)
        rw [gput_upd (by decide)] at hr
        exact h1 n 2 hn (by omega) rfl c31_1 hm _ _ (hC.b8 hr (frB_row (by omega))) (FC.rf.bk sb_8 (frB_row (by omega)))
      refine And.intro (fun c31_2 => ?_) (fun n31_2 => ?_)
      · skip
        refine wk_aload (i := 4) (q := 90) dX11_set_88 rfl rfl ?_
        refine wk_get (q := 93) fgX11_122 dX11_set_90 (sh_g sb_8 (by omega)) rfl rfl rfl ?_
        refine wk_istore (i := 5) (q := 95) (lv' := [_, _, _, _, _, _]) dX11_set_93 rfl rfl rfl ?_
        refine wk_aload (i := 4) (q := 97) dX11_set_95 rfl rfl ?_
        refine wk_iload_n (i := 3) (q := 98) dX11_set_97 rfl rfl rfl ?_
        refine wk_put (q := 101) fpX11_122 dX11_set_98 (sh_g sb_8 (by omega)) rfl rfl rfl rfl rfl ?_
        refine wk_iload (i := 5) (q := 103) dX11_set_101 rfl rfl ?_
        refine wk_ireturn dX11_set_103 rfl rfl ?_
        rw [hE 3 (by decide)]
        have hr := hB.row (g := n) (by omega) (E7_upd (f := 3) (x := v) hE)
        rw [gput_upd (by decide)] at hr
        exact h1 n 3 hn (by omega) rfl c31_2 hm _ _ (hC.b8 hr (frB_row (by omega))) (FC.rf.bk sb_8 (frB_row (by omega)))
      refine wk_aload (i := 4) (q := 106) dX11_set_104 rfl rfl ?_
      refine wk_get (q := 109) fgX11_131 dX11_set_106 (sh_g sb_8 (by omega)) rfl rfl rfl ?_
      refine wk_istore (i := 5) (q := 111) (lv' := [_, _, _, _, _, _]) dX11_set_109 rfl rfl rfl ?_
      refine wk_aload (i := 4) (q := 113) dX11_set_111 rfl rfl ?_
      refine wk_iload_n (i := 3) (q := 114) dX11_set_113 rfl rfl rfl ?_
      refine wk_put (q := 117) fpX11_131 dX11_set_114 (sh_g sb_8 (by omega)) rfl rfl rfl rfl rfl ?_
      refine wk_iload (i := 5) (q := 119) dX11_set_117 rfl rfl ?_
      refine wk_ireturn dX11_set_119 rfl rfl ?_
      rw [hE 6 (by decide)]
      have hr := hB.row (g := n) (by omega) (E7_upd (f := 6) (x := v) hE)
      rw [gput_upd (by decide)] at hr
      have h6 : w = 6 := by (rcases hm with ⟨e1 | e1, -⟩ | ⟨e1, -⟩ | ⟨e1, -⟩; exact absurd e1 n31_0; exact absurd e1 n31_1; exact absurd e1 n31_2; exact e1)
      exact h1 n 6 hn (by omega) rfl h6 hm _ _ (hC.b8 hr (frB_row (by omega))) (FC.rf.bk sb_8 (frB_row (by omega)))
    · skip
      refine wk_if_ne (t := 30) (q := 23) dX11_set_20 rfl rfl (fun h => absurd (by decide) h) (fun _ => ?_)
      refine wk_aload_n (i := 0) (q := 24) dX11_set_23 rfl rfl rfl ?_
      refine wk_ldc (q := 26) dX11_set_24 kX11_72 rfl ?_
      refine wk_V1r (d' := 1) (q := 29) lkX11_73 dX11_set_26 rfl rfl rfl rfl rfl rfl rfl ?_
      refine ck_X11_refuse (i := 0) (by decide) (by decide) ?_
      refine wk_ireturn dX11_set_29 rfl rfl ?_
      first | exact h0 (Or.inl hno) _ _ hC.found (FC.rf.wr rfl) | exact h0 (Or.inr hm) _ _ hC.found (FC.rf.wr rfl)
  · skip
    refine wk_astoreN (i := 4) (q := 10) (lv' := [_, _, _, _, _]) dX11_set_8 rfl rfl rfl ?_
    refine wk_aloadN (i := 4) (q := 12) dX11_set_10 rfl rfl ?_
    refine wk_ifnullN (t := 23) dX11_set_12 rfl ?_
    refine wk_aload_n (i := 0) (q := 24) dX11_set_23 rfl rfl rfl ?_
    refine wk_ldc (q := 26) dX11_set_24 kX11_72 rfl ?_
    refine wk_V1r (d' := 1) (q := 29) lkX11_73 dX11_set_26 rfl rfl rfl rfl rfl rfl rfl ?_
    refine ck_X11_refuse (i := 0) (by decide) (by decide) ?_
    refine wk_ireturn dX11_set_29 rfl rfl ?_
    first | exact h0 (Or.inl hno) _ _ hC.found (FC.rf.wr rfl) | exact h0 (Or.inr hm) _ _ hC.found (FC.rf.wr rfl)
theorem ck_X11_draw {i n : Int32} (hC : CR m L a aL) (hO : OK D a) (hD : D ≤ 10000000) (h1 : ∀ g, g < cA (a 73) → i = nI g → 1 ≤ n ∧ n ≤ 50 → ¬ a 73 (5 + 7 * g + 4) = 0 → Po m L (wr a 73 (gput (a 73) g (drwG n (gv (a 73) g)))) aL Q (.int (drwG n (gv (a 73) g) 1))) (h2 : ∀ g, g < cA (a 73) → i = nI g → 1 ≤ n ∧ n ≤ 50 → a 73 (5 + 7 * g + 4) = 0 → Po m L (rfA a 4) aL Q (.int (-1000000005))) (h0 : ((∀ g, g < cA (a 73) → ¬ i = nI g) ∨ ¬ (1 ≤ n ∧ n ≤ 50)) → Po m L (rfA a 0) aL Q (.int (-1000000001))) : CK E 5 MX11_draw [.ref (ev_z E + 0), .int i, .int n] m L Q := by
  have hB := hC.1
  have hA := hO.1
  have hc8 := hA.1.2.1
  have z1 : (1 : Int32).toInt = 1 := by decide
  have z50 : (50 : Int32).toInt = 50 := by decide
  refine CK.of rfl rfl (lv := [(0, _), (1, _), (2, _)]) rfl ?_
  refine wk_aload_n (i := 0) (q := 1) dX11_draw_0 rfl rfl rfl ?_
  refine wk_get (q := 4) fgX11_18 dX11_draw_1 rfl rfl rfl rfl ?_
  refine wk_iload_n (i := 1) (q := 5) dX11_draw_4 rfl rfl rfl ?_
  refine wk_V1r (d' := 1) (q := 8) lkX11_102 dX11_draw_5 rfl rfl rfl rfl rfl rfl rfl ?_
  refine ck_X0_garmentAt (b := 8) (c := cA (a 73)) rfl (hB.1.trans hA.1.1) hc8 (fun g hn e => ?_) (fun hno => ?_)
  · skip
    subst e
    have hE := hB.e7 (g := g) (by omega)
    have ho := hA.1.2.2 g hn
    refine wk_astore_n (i := 3) (q := 9) (lv' := [_, _, _, _]) dX11_draw_8 rfl rfl rfl rfl ?_
    refine wk_aload_n (i := 3) (q := 10) dX11_draw_9 rfl rfl rfl ?_
    refine wk_ifnull (q := 13) dX11_draw_10 rfl ?_
    refine wk_iload_n (i := 2) (q := 14) dX11_draw_13 rfl rfl rfl ?_
    refine wk_iconst (v := 1) (q := 15) dX11_draw_14 rfl rfl ?_
    refine wk_bipush (v := 50) (q := 17) dX11_draw_15 rfl rfl ?_
    refine wk_S3r (d' := 1) (q := 20) lkX11_61 dX11_draw_17 rfl rfl rfl rfl ?_
    refine ck_X11_within (fun hw => ?_) (fun hw => ?_)
    · skip
      refine wk_if_ne (t := 30) (q := 23) dX11_draw_20 rfl rfl (fun _ => ?_) (fun h => absurd h (by decide))
      refine wk_aload_n (i := 3) (q := 31) dX11_draw_30 rfl rfl rfl ?_
      refine wk_get (q := 34) fgX11_125 dX11_draw_31 (sh_g sb_8 (by omega)) rfl rfl rfl ?_
      rw [hE 4 (by decide)]
      refine wk_if_ne (t := 44) (q := 37) dX11_draw_34 rfl rfl (fun c34 => ?_) (fun c34 => ?_)
      · skip
        refine wk_aload_n (i := 3) (q := 45) dX11_draw_44 rfl rfl rfl ?_
        refine wk_iload_n (i := 2) (q := 46) dX11_draw_45 rfl rfl rfl ?_
        refine wk_V1v (d' := 4) (q := 49) lkX11_152 dX11_draw_46 (sh_g sb_8 (by omega)) rfl rfl rfl rfl rfl rfl ?_
        refine ck_X2_stretch (sh_g sb_8 (by omega)) (hE.ok ho) (by omega) (by have := hw.1; rw [fa_le] at this; omega) (by have := hw.2; rw [fa_le] at this; omega) ?_
        refine wk_aload_n (i := 3) (q := 50) dX11_draw_49 rfl rfl rfl ?_
        refine wk_get (q := 53) fgX11_116 dX11_draw_50 (sh_g sb_8 (by omega)) rfl rfl rfl ?_
        refine wk_ireturn dX11_draw_53 rfl rfl ?_
        rw [wr_s, hE.drw 1 (by decide)]
        exact h1 g hn rfl hw c34 _ _ (hC.b8 (hB.row (by omega) hE.drw) (frB_row (by omega))) (FC.rf.bk sb_8 (frB_row (by omega)))
      · skip
        refine wk_aload_n (i := 0) (q := 38) dX11_draw_37 rfl rfl rfl ?_
        refine wk_ldc (q := 40) dX11_draw_38 kX11_151 rfl ?_
        refine wk_V1r (d' := 1) (q := 43) lkX11_73 dX11_draw_40 rfl rfl rfl rfl rfl rfl rfl ?_
        refine ck_X11_refuse (i := 4) (by decide) (by decide) ?_
        refine wk_ireturn dX11_draw_43 rfl rfl ?_
        exact h2 g hn rfl hw c34 _ _ hC.found (FC.rf.wr rfl)
    · skip
      refine wk_if_ne (t := 30) (q := 23) dX11_draw_20 rfl rfl (fun h => absurd (by decide) h) (fun _ => ?_)
      refine wk_aload_n (i := 0) (q := 24) dX11_draw_23 rfl rfl rfl ?_
      refine wk_ldc (q := 26) dX11_draw_24 kX11_72 rfl ?_
      refine wk_V1r (d' := 1) (q := 29) lkX11_73 dX11_draw_26 rfl rfl rfl rfl rfl rfl rfl ?_
      refine ck_X11_refuse (i := 0) (by decide) (by decide) ?_
      refine wk_ireturn dX11_draw_29 rfl rfl ?_
      first | exact h0 (Or.inl hno) _ _ hC.found (FC.rf.wr rfl) | exact h0 (Or.inr hw) _ _ hC.found (FC.rf.wr rfl)
  · skip
    refine wk_astore_nN (i := 3) (q := 9) (lv' := [_, _, _, _]) dX11_draw_8 rfl rfl rfl rfl ?_
    refine wk_aload_nN (i := 3) (q := 10) dX11_draw_9 rfl rfl rfl ?_
    refine wk_ifnullN (t := 23) dX11_draw_10 rfl ?_
    refine wk_aload_n (i := 0) (q := 24) dX11_draw_23 rfl rfl rfl ?_
    refine wk_ldc (q := 26) dX11_draw_24 kX11_72 rfl ?_
    refine wk_V1r (d' := 1) (q := 29) lkX11_73 dX11_draw_26 rfl rfl rfl rfl rfl rfl rfl ?_
    refine ck_X11_refuse (i := 0) (by decide) (by decide) ?_
    refine wk_ireturn dX11_draw_29 rfl rfl ?_
    first | exact h0 (Or.inl hno) _ _ hC.found (FC.rf.wr rfl) | exact h0 (Or.inr hw) _ _ hC.found (FC.rf.wr rfl)
theorem ck_X11_turn {i k : Int32} (hC : CR m L a aL) (hO : OK D a) (h1 : ∀ g, g < cA (a 73) → i = nI g → 0 ≤ k ∧ k ≤ 5 → Po m L (wr a 73 (upd (a 73) (5 + 7 * g + 0) k)) aL Q (.int (a 73 (5 + 7 * g + 0)))) (h0 : ((∀ g, g < cA (a 73) → ¬ i = nI g) ∨ ¬ (0 ≤ k ∧ k ≤ 5)) → Po m L (rfA a 0) aL Q (.int (-1000000001))) : CK E 2 MX11_turn [.ref (ev_z E + 0), .int i, .int k] m L Q := by
  have hB := hC.1
  have hA := hO.1
  have hc8 := hA.1.2.1
  refine CK.of rfl rfl (lv := [(0, _), (1, _), (2, _)]) rfl ?_
  refine wk_aload_n (i := 0) (q := 1) dX11_turn_0 rfl rfl rfl ?_
  refine wk_get (q := 4) fgX11_18 dX11_turn_1 rfl rfl rfl rfl ?_
  refine wk_iload_n (i := 1) (q := 5) dX11_turn_4 rfl rfl rfl ?_
  refine wk_V1r (d' := 1) (q := 8) lkX11_102 dX11_turn_5 rfl rfl rfl rfl rfl rfl rfl ?_
  refine ck_X0_garmentAt (b := 8) (c := cA (a 73)) rfl (hB.1.trans hA.1.1) hc8 (fun g hn e => ?_) (fun hno => ?_)
  · skip
    subst e
    have hE := hB.e7 (g := g) (by omega)
    have ho := hA.1.2.2 g hn
    refine wk_astore_n (i := 3) (q := 9) (lv' := [_, _, _, _]) dX11_turn_8 rfl rfl rfl rfl ?_
    refine wk_aload_n (i := 0) (q := 10) dX11_turn_9 rfl rfl rfl ?_
    refine wk_get (q := 13) fgX11_18 dX11_turn_10 rfl rfl rfl rfl ?_
    refine wk_iload_n (i := 2) (q := 14) dX11_turn_13 rfl rfl rfl ?_
    refine wk_V1r (d' := 1) (q := 17) lkX11_156 dX11_turn_14 rfl rfl rfl rfl rfl rfl rfl ?_
    refine ck_X0_kindAt (b := 8) rfl (fun hk => ?_) (fun hk => ?_)
    · skip
      refine wk_astore (i := 4) (q := 19) (lv' := [_, _, _, _, _]) dX11_turn_17 rfl rfl rfl ?_
      refine wk_aload_n (i := 3) (q := 20) dX11_turn_19 rfl rfl rfl ?_
      refine wk_ifnull (q := 23) dX11_turn_20 rfl ?_
      refine wk_aload (i := 4) (q := 25) dX11_turn_23 rfl rfl ?_
      refine wk_ifnonnull (t := 35) dX11_turn_25 rfl ?_
      refine wk_aload_n (i := 3) (q := 36) dX11_turn_35 rfl rfl rfl ?_
      refine wk_get (q := 39) fgX11_105 dX11_turn_36 (sh_g sb_8 (by omega)) rfl rfl rfl ?_
      rw [hE 0 (by decide)]
      refine wk_gnum (q := 42) fgX11_113_1 fgX11_113_3 fgX11_113_4 fgX11_113_7 fgX11_113_8 fgX11_113_10 ho.1 dX11_turn_39 rfl ?_
      refine wk_istore (i := 5) (q := 44) (lv' := [_, _, _, _, _, _]) dX11_turn_42 rfl rfl rfl ?_
      refine wk_aload_n (i := 3) (q := 45) dX11_turn_44 rfl rfl rfl ?_
      refine wk_aload (i := 4) (q := 47) dX11_turn_45 rfl rfl ?_
      refine wk_putSort  (q := 50) fpX11_105 dX11_turn_47 (sh_g sb_8 (by omega)) rfl rfl rfl ?_
      refine wk_iload (i := 5) (q := 52) dX11_turn_50 rfl rfl ?_
      refine wk_ireturn dX11_turn_52 rfl rfl ?_
      have hr := hB.row (g := g) (by omega) (E7_upd (f := 0) (x := k) hE)
      rw [gput_upd (by decide)] at hr
      exact h1 g hn rfl hk _ _ (hC.b8 hr (frB_row (by omega))) (FC.rf.bk sb_8 (frB_row (by omega)))
    · skip
      refine wk_astoreN (i := 4) (q := 19) (lv' := [_, _, _, _, _]) dX11_turn_17 rfl rfl rfl ?_
      refine wk_aload_n (i := 3) (q := 20) dX11_turn_19 rfl rfl rfl ?_
      refine wk_ifnull (q := 23) dX11_turn_20 rfl ?_
      refine wk_aloadN (i := 4) (q := 25) dX11_turn_23 rfl rfl ?_
      refine wk_ifnonnullN (q := 28) dX11_turn_25 rfl ?_
      refine wk_aload_n (i := 0) (q := 29) dX11_turn_28 rfl rfl rfl ?_
      refine wk_ldc (q := 31) dX11_turn_29 kX11_72 rfl ?_
      refine wk_V1r (d' := 1) (q := 34) lkX11_73 dX11_turn_31 rfl rfl rfl rfl rfl rfl rfl ?_
      refine ck_X11_refuse (i := 0) (by decide) (by decide) ?_
      refine wk_ireturn dX11_turn_34 rfl rfl ?_
      first | exact h0 (Or.inl hno) _ _ hC.found (FC.rf.wr rfl) | exact h0 (Or.inr hk) _ _ hC.found (FC.rf.wr rfl)
  · skip
    refine wk_astore_nN (i := 3) (q := 9) (lv' := [_, _, _, _]) dX11_turn_8 rfl rfl rfl rfl ?_
    refine wk_aload_n (i := 0) (q := 10) dX11_turn_9 rfl rfl rfl ?_
    refine wk_get (q := 13) fgX11_18 dX11_turn_10 rfl rfl rfl rfl ?_
    refine wk_iload_n (i := 2) (q := 14) dX11_turn_13 rfl rfl rfl ?_
    refine wk_V1r (d' := 1) (q := 17) lkX11_156 dX11_turn_14 rfl rfl rfl rfl rfl rfl rfl ?_
    refine ck_X0_kindAt (b := 8) rfl (fun hk => ?_) (fun hk => ?_)
    · skip
      refine wk_astore (i := 4) (q := 19) (lv' := [_, _, _, _, _]) dX11_turn_17 rfl rfl rfl ?_
      refine wk_aload_nN (i := 3) (q := 20) dX11_turn_19 rfl rfl rfl ?_
      refine wk_ifnullN (t := 28) dX11_turn_20 rfl ?_
      refine wk_aload_n (i := 0) (q := 29) dX11_turn_28 rfl rfl rfl ?_
      refine wk_ldc (q := 31) dX11_turn_29 kX11_72 rfl ?_
      refine wk_V1r (d' := 1) (q := 34) lkX11_73 dX11_turn_31 rfl rfl rfl rfl rfl rfl rfl ?_
      refine ck_X11_refuse (i := 0) (by decide) (by decide) ?_
      refine wk_ireturn dX11_turn_34 rfl rfl ?_
      first | exact h0 (Or.inl hno) _ _ hC.found (FC.rf.wr rfl) | exact h0 (Or.inr hk) _ _ hC.found (FC.rf.wr rfl)
    · skip
      refine wk_astoreN (i := 4) (q := 19) (lv' := [_, _, _, _, _]) dX11_turn_17 rfl rfl rfl ?_
      refine wk_aload_nN (i := 3) (q := 20) dX11_turn_19 rfl rfl rfl ?_
      refine wk_ifnullN (t := 28) dX11_turn_20 rfl ?_
      refine wk_aload_n (i := 0) (q := 29) dX11_turn_28 rfl rfl rfl ?_
      refine wk_ldc (q := 31) dX11_turn_29 kX11_72 rfl ?_
      refine wk_V1r (d' := 1) (q := 34) lkX11_73 dX11_turn_31 rfl rfl rfl rfl rfl rfl rfl ?_
      refine ck_X11_refuse (i := 0) (by decide) (by decide) ?_
      refine wk_ireturn dX11_turn_34 rfl rfl ?_
      first | exact h0 (Or.inl hno) _ _ hC.found (FC.rf.wr rfl) | exact h0 (Or.inr hk) _ _ hC.found (FC.rf.wr rfl)
theorem ck_X11_as {i k : Int32} (hC : CR m L a aL) (hO : OK D a) (h1 : ∀ g, g < cA (a 73) → i = nI g → 0 ≤ k ∧ k ≤ 5 → isUnP (a 73 (5 + 7 * g + 0)) k → Q (.int (a 73 (5 + 7 * g + 3))) m L) (h2 : ∀ g, g < cA (a 73) → i = nI g → 0 ≤ k ∧ k ≤ 5 → ¬ isUnP (a 73 (5 + 7 * g + 0)) k → Po m L (rfA a 2) aL Q (.int (-1000000003))) (h0 : ((∀ g, g < cA (a 73) → ¬ i = nI g) ∨ ¬ (0 ≤ k ∧ k ≤ 5)) → Po m L (rfA a 0) aL Q (.int (-1000000001))) : CK E 3 MX11_as [.ref (ev_z E + 0), .int i, .int k] m L Q := by
  have hB := hC.1
  have hA := hO.1
  have hc8 := hA.1.2.1
  refine CK.of rfl rfl (lv := [(0, _), (1, _), (2, _)]) rfl ?_
  refine wk_aload_n (i := 0) (q := 1) dX11_as_0 rfl rfl rfl ?_
  refine wk_get (q := 4) fgX11_18 dX11_as_1 rfl rfl rfl rfl ?_
  refine wk_iload_n (i := 1) (q := 5) dX11_as_4 rfl rfl rfl ?_
  refine wk_V1r (d' := 1) (q := 8) lkX11_102 dX11_as_5 rfl rfl rfl rfl rfl rfl rfl ?_
  refine ck_X0_garmentAt (b := 8) (c := cA (a 73)) rfl (hB.1.trans hA.1.1) hc8 (fun g hn e => ?_) (fun hno => ?_)
  · skip
    subst e
    have hE := hB.e7 (g := g) (by omega)
    have ho := hA.1.2.2 g hn
    refine wk_astore_n (i := 3) (q := 9) (lv' := [_, _, _, _]) dX11_as_8 rfl rfl rfl rfl ?_
    refine wk_aload_n (i := 3) (q := 10) dX11_as_9 rfl rfl rfl ?_
    refine wk_ifnull (q := 13) dX11_as_10 rfl ?_
    refine wk_iload_n (i := 2) (q := 14) dX11_as_13 rfl rfl rfl ?_
    refine wk_S1r (d' := 2) (q := 17) lkX11_90 dX11_as_14 rfl rfl rfl rfl ?_
    refine ck_X11_isKind (fun hk => ?_) (fun hk => ?_)
    · skip
      refine wk_if_ne (t := 27) (q := 20) dX11_as_17 rfl rfl (fun _ => ?_) (fun h => absurd h (by decide))
      refine wk_aload_n (i := 3) (q := 28) dX11_as_27 rfl rfl rfl ?_
      refine wk_get (q := 31) fgX11_105 dX11_as_28 (sh_g sb_8 (by omega)) rfl rfl rfl ?_
      refine wk_iload_n (i := 2) (q := 32) dX11_as_31 rfl rfl rfl ?_
      rw [hE 0 (by decide)]
      refine wk_kund (q := 35) lkX11_160_1 lkX11_160_3 lkX11_160_4 lkX11_160_7 lkX11_160_8 lkX11_160_10 ho.1 dX11_as_32 rfl rfl rfl (fun hu => ?_) (fun hu => ?_)
      · skip
        refine wk_if_eq (t := 45) (q := 38) dX11_as_35 rfl rfl (fun h => absurd h (by decide)) (fun _ => ?_)
        refine wk_aload_n (i := 3) (q := 39) dX11_as_38 rfl rfl rfl ?_
        refine wk_get (q := 42) fgX11_122 dX11_as_39 (sh_g sb_8 (by omega)) rfl rfl rfl ?_
        refine wk_goto (t := 51) dX11_as_42 rfl ?_
        refine wk_ireturn dX11_as_51 rfl rfl ?_
        first | exact h2 g hn rfl hk hu _ _ hC.found (FC.rf.wr rfl) | (rw [hE 3 (by decide)]; exact h1 g hn rfl hk hu)
      · skip
        refine wk_if_eq (t := 45) (q := 38) dX11_as_35 rfl rfl (fun _ => ?_) (fun h => absurd (by decide) h)
        refine wk_aload_n (i := 0) (q := 46) dX11_as_45 rfl rfl rfl ?_
        refine wk_ldc (q := 48) dX11_as_46 kX11_163 rfl ?_
        refine wk_V1r (d' := 1) (q := 51) lkX11_73 dX11_as_48 rfl rfl rfl rfl rfl rfl rfl ?_
        refine ck_X11_refuse (i := 2) (by decide) (by decide) ?_
        refine wk_ireturn dX11_as_51 rfl rfl ?_
        first | exact h2 g hn rfl hk hu _ _ hC.found (FC.rf.wr rfl) | (rw [hE 3 (by decide)]; exact h1 g hn rfl hk hu)
    · skip
      refine wk_if_ne (t := 27) (q := 20) dX11_as_17 rfl rfl (fun h => absurd (by decide) h) (fun _ => ?_)
      refine wk_aload_n (i := 0) (q := 21) dX11_as_20 rfl rfl rfl ?_
      refine wk_ldc (q := 23) dX11_as_21 kX11_72 rfl ?_
      refine wk_V1r (d' := 1) (q := 26) lkX11_73 dX11_as_23 rfl rfl rfl rfl rfl rfl rfl ?_
      refine ck_X11_refuse (i := 0) (by decide) (by decide) ?_
      refine wk_ireturn dX11_as_26 rfl rfl ?_
      first | exact h0 (Or.inl hno) _ _ hC.found (FC.rf.wr rfl) | exact h0 (Or.inr hk) _ _ hC.found (FC.rf.wr rfl)
  · skip
    refine wk_astore_nN (i := 3) (q := 9) (lv' := [_, _, _, _]) dX11_as_8 rfl rfl rfl rfl ?_
    refine wk_aload_nN (i := 3) (q := 10) dX11_as_9 rfl rfl rfl ?_
    refine wk_ifnullN (t := 20) dX11_as_10 rfl ?_
    refine wk_aload_n (i := 0) (q := 21) dX11_as_20 rfl rfl rfl ?_
    refine wk_ldc (q := 23) dX11_as_21 kX11_72 rfl ?_
    refine wk_V1r (d' := 1) (q := 26) lkX11_73 dX11_as_23 rfl rfl rfl rfl rfl rfl rfl ?_
    refine ck_X11_refuse (i := 0) (by decide) (by decide) ?_
    refine wk_ireturn dX11_as_26 rfl rfl ?_
    first | exact h0 (Or.inl hno) _ _ hC.found (FC.rf.wr rfl) | exact h0 (Or.inr hk) _ _ hC.found (FC.rf.wr rfl)
theorem ck_X11_person {l w : Int32} (hC : CR m L a aL) (hO : OK D a) (h1 : 10 ≤ l ∧ l ≤ 200 → 10 ≤ w ∧ w ≤ 200 → pA (a 73) < 6 → Po m L (wr a 73 (addP (a 73) l w)) aL Q (.int (nI (pA (a 73))))) (h2 : 10 ≤ l ∧ l ≤ 200 → 10 ≤ w ∧ w ≤ 200 → pA (a 73) = 6 → Po m L (rfA a 1) aL Q (.int (-1000000002))) (h0 : ¬ ((10 ≤ l ∧ l ≤ 200) ∧ 10 ≤ w ∧ w ≤ 200) → Po m L (rfA a 0) aL Q (.int (-1000000001))) : CK E 3 MX11_person [.ref (ev_z E + 0), .int l, .int w] m L Q := by
  have hB := hC.1
  have hA := hO.1
  refine CK.of rfl rfl (lv := [(0, _), (1, _), (2, _)]) rfl ?_
  refine wk_iload_n (i := 1) (q := 1) dX11_person_0 rfl rfl rfl ?_
  refine wk_S1r (d' := 2) (q := 4) lkX11_164 dX11_person_1 rfl rfl rfl rfl ?_
  refine ck_X11_isSpan (fun hw => ?_) (fun hw => ?_)
  · skip
    have hl := hw
    refine wk_if_eq (t := 14) (q := 7) dX11_person_4 rfl rfl (fun h => absurd h (by decide)) (fun _ => ?_)
    refine wk_iload_n (i := 2) (q := 8) dX11_person_7 rfl rfl rfl ?_
    refine wk_S1r (d' := 2) (q := 11) lkX11_164 dX11_person_8 rfl rfl rfl rfl ?_
    refine ck_X11_isSpan (fun hw => ?_) (fun hw => ?_)
    · skip
      refine wk_if_ne (t := 21) (q := 14) dX11_person_11 rfl rfl (fun _ => ?_) (fun h => absurd h (by decide))
      refine wk_aload_n (i := 0) (q := 22) dX11_person_21 rfl rfl rfl ?_
      refine wk_get (q := 25) fgX11_18 dX11_person_22 rfl rfl rfl rfl ?_
      refine wk_iload_n (i := 1) (q := 26) dX11_person_25 rfl rfl rfl ?_
      refine wk_iload_n (i := 2) (q := 27) dX11_person_26 rfl rfl rfl ?_
      refine wk_V2r (d' := 1) (q := 30) lkX11_167 dX11_person_27 rfl rfl rfl rfl rfl rfl rfl ?_
      refine ck_X0_addPerson (b := 8) (A := a 73) rfl hB hA.2.1.1 hA.2.1.2.1 (fun hlt m' hB' hf' => ?_) (fun heq => ?_)
      · skip
        refine wk_astore_n (i := 3) (q := 31) (lv' := [_, _, _, _]) dX11_person_30 rfl rfl rfl rfl ?_
        refine wk_aload_n (i := 3) (q := 32) dX11_person_31 rfl rfl rfl ?_
        refine wk_ifnonnull (t := 44) dX11_person_32 rfl ?_
        refine wk_aload_n (i := 0) (q := 45) dX11_person_44 rfl rfl rfl ?_
        refine wk_get (q := 48) fgX11_18 dX11_person_45 rfl rfl rfl rfl ?_
        refine wk_get (q := 51) fgX11_171 dX11_person_48 rfl rfl rfl rfl ?_
        refine wk_iconst (v := 1) (q := 52) dX11_person_51 rfl rfl ?_
        refine wk_isub (q := 53) dX11_person_52 rfl ?_
        refine wk_ireturn dX11_person_53 rfl rfl ?_
        first | exact h2 hl hw heq _ _ hC.found (FC.rf.wr rfl) | (rw [hB'.2.1, show addP (a 73) l w 2 = a 73 2 + 1 from upd_s, hA.2.1.1, nI_1, nI_pred]; exact h1 hl hw hlt _ _ (hC.b8 hB' hf') (FC.rf.bk sb_8 hf'))
      · skip
        refine wk_astore_nN (i := 3) (q := 31) (lv' := [_, _, _, _]) dX11_person_30 rfl rfl rfl rfl ?_
        refine wk_aload_nN (i := 3) (q := 32) dX11_person_31 rfl rfl rfl ?_
        refine wk_ifnonnullN (q := 35) dX11_person_32 rfl ?_
        refine wk_aload_n (i := 0) (q := 36) dX11_person_35 rfl rfl rfl ?_
        refine wk_ldc (q := 38) dX11_person_36 kX11_98 rfl ?_
        refine wk_V1r (d' := 1) (q := 41) lkX11_73 dX11_person_38 rfl rfl rfl rfl rfl rfl rfl ?_
        refine ck_X11_refuse (i := 1) (by decide) (by decide) ?_
        refine wk_goto (t := 53) dX11_person_41 rfl ?_
        refine wk_ireturn dX11_person_53 rfl rfl ?_
        first | exact h2 hl hw heq _ _ hC.found (FC.rf.wr rfl) | (rw [hB'.2.1, show addP (a 73) l w 2 = a 73 2 + 1 from upd_s, hA.2.1.1, nI_1, nI_pred]; exact h1 hl hw hlt _ _ (hC.b8 hB' hf') (FC.rf.bk sb_8 hf'))
    · skip
      refine wk_if_ne (t := 21) (q := 14) dX11_person_11 rfl rfl (fun h => absurd (by decide) h) (fun _ => ?_)
      refine wk_aload_n (i := 0) (q := 15) dX11_person_14 rfl rfl rfl ?_
      refine wk_ldc (q := 17) dX11_person_15 kX11_72 rfl ?_
      refine wk_V1r (d' := 1) (q := 20) lkX11_73 dX11_person_17 rfl rfl rfl rfl rfl rfl rfl ?_
      refine ck_X11_refuse (i := 0) (by decide) (by decide) ?_
      refine wk_ireturn dX11_person_20 rfl rfl ?_
      exact h0 (fun h => by first | exact hw h.1 | exact hw h.2) _ _ hC.found (FC.rf.wr rfl)
  · skip
    refine wk_if_eq (t := 14) (q := 7) dX11_person_4 rfl rfl (fun _ => ?_) (fun h => absurd (by decide) h)
    refine wk_aload_n (i := 0) (q := 15) dX11_person_14 rfl rfl rfl ?_
    refine wk_ldc (q := 17) dX11_person_15 kX11_72 rfl ?_
    refine wk_V1r (d' := 1) (q := 20) lkX11_73 dX11_person_17 rfl rfl rfl rfl rfl rfl rfl ?_
    refine ck_X11_refuse (i := 0) (by decide) (by decide) ?_
    refine wk_ireturn dX11_person_20 rfl rfl ?_
    exact h0 (fun h => by first | exact hw h.1 | exact hw h.2) _ _ hC.found (FC.rf.wr rfl)
theorem ck_X11_size {i w : Int32} (hC : CR m L a aL) (hO : OK D a) (h1 : ∀ p f, p < pA (a 73) → f ≤ 1 → i = nI p → w = nI f → Q (.int (a 73 (61 + 2 * p + f))) m L) (h0 : (∀ p f, p < pA (a 73) → f ≤ 1 → ¬ (i = nI p ∧ w = nI f)) → Po m L (rfA a 0) aL Q (.int (-1000000001))) : CK E 2 MX11_size [.ref (ev_z E + 0), .int i, .int w] m L Q := by
  have hB := hC.1
  have hA := hO.1
  have hp6 := hA.2.1.2.1
  refine CK.of rfl rfl (lv := [(0, _), (1, _), (2, _)]) rfl ?_
  refine wk_aload_n (i := 0) (q := 1) dX11_size_0 rfl rfl rfl ?_
  refine wk_get (q := 4) fgX11_18 dX11_size_1 rfl rfl rfl rfl ?_
  refine wk_iload_n (i := 1) (q := 5) dX11_size_4 rfl rfl rfl ?_
  refine wk_V1r (d' := 1) (q := 8) lkX11_174 dX11_size_5 rfl rfl rfl rfl rfl rfl rfl ?_
  refine ck_X0_personAt (b := 8) (c := pA (a 73)) rfl (hB.2.1.trans hA.2.1.1) hp6 (fun p hn e => ?_) (fun hno => ?_)
  · skip
    subst e
    refine wk_astore_n (i := 3) (q := 9) (lv' := [_, _, _, _]) dX11_size_8 rfl rfl rfl rfl ?_
    refine wk_aload_n (i := 3) (q := 10) dX11_size_9 rfl rfl rfl ?_
    refine wk_ifnull (q := 13) dX11_size_10 rfl ?_
    refine wk_iload_n (i := 2) (q := 14) dX11_size_13 rfl rfl rfl ?_
    refine wk_iconst (v := 0) (q := 15) dX11_size_14 rfl rfl ?_
    refine wk_iconst (v := 1) (q := 16) dX11_size_15 rfl rfl ?_
    refine wk_S3r (d' := 1) (q := 19) lkX11_61 dX11_size_16 rfl rfl rfl rfl ?_
    refine ck_X11_within (fun hw => ?_) (fun hw => ?_)
    · skip
      refine wk_if_ne (t := 29) (q := 22) dX11_size_19 rfl rfl (fun _ => ?_) (fun h => absurd h (by decide))
      refine wk_iload_n (i := 2) (q := 30) dX11_size_29 rfl rfl rfl ?_
      refine wk_if_ne (t := 40) (q := 33) dX11_size_30 rfl rfl (fun c30 => ?_) (fun c30 => ?_)
      · skip
        refine wk_aload_n (i := 3) (q := 41) dX11_size_40 rfl rfl rfl ?_
        refine wk_get (q := 44) fgX11_181 dX11_size_41 (sh_p sb_8 (by omega)) rfl rfl rfl ?_
        refine wk_ireturn dX11_size_44 rfl rfl ?_
        first | (rw [hB.pp (g := p) (f := 0) (by omega) rfl]; exact h1 p 0 hn (by omega) rfl c30) | (rw [hB.pp (g := p) (f := 1) (by omega) rfl]; exact h1 p 1 hn (by omega) rfl (by obtain ⟨n, -, hn1, rfl⟩ := rng (lo := 0) (hi := 1) (by omega) (by omega) hw; obtain rfl | rfl : n = 0 ∨ n = 1 := (by omega); exact absurd rfl c30; rfl))
      · skip
        refine wk_aload_n (i := 3) (q := 34) dX11_size_33 rfl rfl rfl ?_
        refine wk_get (q := 37) fgX11_178 dX11_size_34 (sh_p sb_8 (by omega)) rfl rfl rfl ?_
        refine wk_goto (t := 44) dX11_size_37 rfl ?_
        refine wk_ireturn dX11_size_44 rfl rfl ?_
        first | (rw [hB.pp (g := p) (f := 0) (by omega) rfl]; exact h1 p 0 hn (by omega) rfl c30) | (rw [hB.pp (g := p) (f := 1) (by omega) rfl]; exact h1 p 1 hn (by omega) rfl (by obtain ⟨n, -, hn1, rfl⟩ := rng (lo := 0) (hi := 1) (by omega) (by omega) hw; obtain rfl | rfl : n = 0 ∨ n = 1 := (by omega); exact absurd rfl c30; rfl))
    · skip
      refine wk_if_ne (t := 29) (q := 22) dX11_size_19 rfl rfl (fun h => absurd (by decide) h) (fun _ => ?_)
      refine wk_aload_n (i := 0) (q := 23) dX11_size_22 rfl rfl rfl ?_
      refine wk_ldc (q := 25) dX11_size_23 kX11_72 rfl ?_
      refine wk_V1r (d' := 1) (q := 28) lkX11_73 dX11_size_25 rfl rfl rfl rfl rfl rfl rfl ?_
      refine ck_X11_refuse (i := 0) (by decide) (by decide) ?_
      refine wk_ireturn dX11_size_28 rfl rfl ?_
      refine h0 (fun p' f hp hf h => ?_) _ _ hC.found (FC.rf.wr rfl)
      first | exact hno p' hp h.1 | (have h2 := h.2; subst h2; exact hw (rng' (lo := 0) (hi := 1) (by omega) (by omega) hf))
  · skip
    refine wk_astore_nN (i := 3) (q := 9) (lv' := [_, _, _, _]) dX11_size_8 rfl rfl rfl rfl ?_
    refine wk_aload_nN (i := 3) (q := 10) dX11_size_9 rfl rfl rfl ?_
    refine wk_ifnullN (t := 22) dX11_size_10 rfl ?_
    refine wk_aload_n (i := 0) (q := 23) dX11_size_22 rfl rfl rfl ?_
    refine wk_ldc (q := 25) dX11_size_23 kX11_72 rfl ?_
    refine wk_V1r (d' := 1) (q := 28) lkX11_73 dX11_size_25 rfl rfl rfl rfl rfl rfl rfl ?_
    refine ck_X11_refuse (i := 0) (by decide) (by decide) ?_
    refine wk_ireturn dX11_size_28 rfl rfl ?_
    refine h0 (fun p' f hp hf h => ?_) _ _ hC.found (FC.rf.wr rfl)
    first | exact hno p' hp h.1 | (have h2 := h.2; subst h2; exact hw (rng' (lo := 0) (hi := 1) (by omega) (by omega) hf))
theorem ck_X11_fits {i : Int32} (hC : CR m L a aL) (hO : OK D a) (h1 : ∀ p, p < pA (a 73) → i = nI p → Q (.int (bitsS (fitB (a 73) p) (cA (a 73)))) m L) (h0 : (∀ p, p < pA (a 73) → ¬ i = nI p) → Po m L (rfA a 0) aL Q (.int (-1000000001))) : CK E 4 MX11_fits [.ref (ev_z E + 0), .int i] m L Q := by
  have hB := hC.1
  have hA := hO.1
  have hp6 := hA.2.1.2.1
  refine CK.of rfl rfl (lv := [(0, _), (1, _)]) rfl ?_
  refine wk_aload_n (i := 0) (q := 1) dX11_fits_0 rfl rfl rfl ?_
  refine wk_get (q := 4) fgX11_18 dX11_fits_1 rfl rfl rfl rfl ?_
  refine wk_iload_n (i := 1) (q := 5) dX11_fits_4 rfl rfl rfl ?_
  refine wk_V1r (d' := 1) (q := 8) lkX11_174 dX11_fits_5 rfl rfl rfl rfl rfl rfl rfl ?_
  refine ck_X0_personAt (b := 8) (c := pA (a 73)) rfl (hB.2.1.trans hA.2.1.1) hp6 (fun p hn e => ?_) (fun hno => ?_)
  · skip
    subst e
    refine wk_astore_n (i := 2) (q := 9) (lv' := [_, _, _]) dX11_fits_8 rfl rfl rfl rfl ?_
    refine wk_aload_n (i := 2) (q := 10) dX11_fits_9 rfl rfl rfl ?_
    refine wk_ifnonnull (t := 22) dX11_fits_10 rfl ?_
    refine wk_aload_n (i := 0) (q := 23) dX11_fits_22 rfl rfl rfl ?_
    refine wk_get (q := 26) fgX11_18 dX11_fits_23 rfl rfl rfl rfl ?_
    refine wk_aload_n (i := 2) (q := 27) dX11_fits_26 rfl rfl rfl ?_
    refine wk_V1r (d' := 3) (q := 30) lkX11_182 dX11_fits_27 rfl rfl rfl rfl rfl rfl rfl ?_
    refine ck_X0_onesFor (b := 8) (A := a 73) rfl hB hA rfl hn ?_
    refine wk_ireturn dX11_fits_30 rfl rfl ?_
    first | exact h0 hno _ _ hC.found (FC.rf.wr rfl) | exact h1 p hn rfl
  · skip
    refine wk_astore_nN (i := 2) (q := 9) (lv' := [_, _, _]) dX11_fits_8 rfl rfl rfl rfl ?_
    refine wk_aload_nN (i := 2) (q := 10) dX11_fits_9 rfl rfl rfl ?_
    refine wk_ifnonnullN (q := 13) dX11_fits_10 rfl ?_
    refine wk_aload_n (i := 0) (q := 14) dX11_fits_13 rfl rfl rfl ?_
    refine wk_ldc (q := 16) dX11_fits_14 kX11_72 rfl ?_
    refine wk_V1r (d' := 1) (q := 19) lkX11_73 dX11_fits_16 rfl rfl rfl rfl rfl rfl rfl ?_
    refine ck_X11_refuse (i := 0) (by decide) (by decide) ?_
    refine wk_goto (t := 30) dX11_fits_19 rfl ?_
    refine wk_ireturn dX11_fits_30 rfl rfl ?_
    first | exact h0 hno _ _ hC.found (FC.rf.wr rfl) | exact h1 p hn rfl
theorem ck_X11_days {n : Int32} (hC : CR m L a aL) (hO : OK D a) (hD : D ≤ 10000000) (h1 : ∀ N, 1 ≤ N → N ≤ 100 → n = nI N → (a 73 0).toInt + N ≤ 99999 → Po m L (wr a 73 (dayA (a 73) N)) aL Q (.int (bitsS (wetB (dayA (a 73) N)) (cA (a 73))))) (h2 : ∀ N, 1 ≤ N → N ≤ 100 → n = nI N → ¬ (a 73 0).toInt + N ≤ 99999 → Po m L (rfA a 4) aL Q (.int (-1000000005))) (h0 : ¬ (1 ≤ n ∧ n ≤ 100) → Po m L (rfA a 0) aL Q (.int (-1000000001))) : CK E 6 MX11_days [.ref (ev_z E + 0), .int n] m L Q := by
  have hB := hC.1
  have hA := hO.1
  have hc8 := hA.1.2.1
  have e5 : m 8 5 = a 73 0 := hB.2.2.1
  have hd0 := hO.2.2.2.2.1
  refine CK.of rfl rfl (lv := [(0, _), (1, _)]) rfl ?_
  refine wk_iload_n (i := 1) (q := 1) dX11_days_0 rfl rfl rfl ?_
  refine wk_iconst (v := 1) (q := 2) dX11_days_1 rfl rfl ?_
  refine wk_bipush (v := 100) (q := 4) dX11_days_2 rfl rfl ?_
  refine wk_S3r (d' := 1) (q := 7) lkX11_61 dX11_days_4 rfl rfl rfl rfl ?_
  refine ck_X11_within (fun hw => ?_) (fun hw => ?_)
  · skip
    obtain ⟨N, hN1, hN2, rfl⟩ := rng (lo := 1) (hi := 100) (by omega) (by omega) hw
    have hi := nI_toInt (n := N) (by omega)
    have hs : (99999 - nI N).toInt = 99999 - N := by (rw [sb_i (by rw [show (99999 : Int32).toInt = 99999 by decide]; omega) (by rw [show (99999 : Int32).toInt = 99999 by decide]; omega), hi]; rfl)
    refine wk_if_ne (t := 17) (q := 10) dX11_days_7 rfl rfl (fun _ => ?_) (fun h => absurd h (by decide))
    refine wk_aload_n (i := 0) (q := 18) dX11_days_17 rfl rfl rfl ?_
    refine wk_get (q := 21) fgX11_18 dX11_days_18 rfl rfl rfl rfl ?_
    refine wk_get (q := 24) fgX11_77 dX11_days_21 rfl rfl rfl rfl ?_
    refine wk_ldc (q := 26) dX11_days_24 kX11_186 rfl ?_
    refine wk_iload_n (i := 1) (q := 27) dX11_days_26 rfl rfl rfl ?_
    refine wk_isub (q := 28) dX11_days_27 rfl ?_
    rw [e5]
    refine wk_icmp_le (t := 38) (q := 31) dX11_days_28 rfl rfl (fun c28 => ?_) (fun c28 => ?_)
    · skip
      refine wk_aload_n (i := 0) (q := 39) dX11_days_38 rfl rfl rfl ?_
      refine wk_get (q := 42) fgX11_18 dX11_days_39 rfl rfl rfl rfl ?_
      refine wk_iload_n (i := 1) (q := 43) dX11_days_42 rfl rfl rfl ?_
      refine wk_V1v (d' := 5) (q := 46) lkX11_187 dX11_days_43 rfl rfl rfl rfl rfl rfl rfl ?_
      refine ck_X0_letDaysGo (b := 8) (A := a 73) (by omega) rfl hB hA (by omega) (fun m' hB' hf' => ?_)
      refine wk_aload_n (i := 0) (q := 47) dX11_days_46 rfl rfl rfl ?_
      refine wk_get (q := 50) fgX11_18 dX11_days_47 rfl rfl rfl rfl ?_
      refine wk_V0r (d' := 1) (q := 53) lkX11_80 dX11_days_50 rfl rfl rfl rfl rfl rfl rfl ?_
      refine ck_X0_wetOnes (b := 8) (c := cA (a 73)) rfl hB' ((upd_n (by decide)).trans ((gmapA_n (by omega)).trans hA.1.1)) hc8 ?_
      refine wk_ireturn dX11_days_53 rfl rfl ?_
      exact h1 N hN1 hN2 rfl (by rw [fa_le, hs] at c28; omega) _ _ (hC.b8 hB' hf') (FC.rf.bk sb_8 hf')
    · skip
      refine wk_aload_n (i := 0) (q := 32) dX11_days_31 rfl rfl rfl ?_
      refine wk_ldc (q := 34) dX11_days_32 kX11_151 rfl ?_
      refine wk_V1r (d' := 1) (q := 37) lkX11_73 dX11_days_34 rfl rfl rfl rfl rfl rfl rfl ?_
      refine ck_X11_refuse (i := 4) (by decide) (by decide) ?_
      refine wk_ireturn dX11_days_37 rfl rfl ?_
      exact h2 N hN1 hN2 rfl (by rw [fa_le, hs] at c28; omega) _ _ hC.found (FC.rf.wr rfl)
  · skip
    refine wk_if_ne (t := 17) (q := 10) dX11_days_7 rfl rfl (fun h => absurd (by decide) h) (fun _ => ?_)
    refine wk_aload_n (i := 0) (q := 11) dX11_days_10 rfl rfl rfl ?_
    refine wk_ldc (q := 13) dX11_days_11 kX11_72 rfl ?_
    refine wk_V1r (d' := 1) (q := 16) lkX11_73 dX11_days_13 rfl rfl rfl rfl rfl rfl rfl ?_
    refine ck_X11_refuse (i := 0) (by decide) (by decide) ?_
    refine wk_ireturn dX11_days_16 rfl rfl ?_
    exact h0 hw _ _ hC.found (FC.rf.wr rfl)
theorem ck_X11_on {i n w : Int32} (hC : CR m L a aL) (hO : OK D a) (hD : D ≤ 10000000) (h1 : ∀ g N f, g < cA (a 73) → N ≤ 100 → f ≤ 2 → i = nI g → n = nI N → w = nI f → Po m L a aL Q (.int (onR (dryN (gv (a 73) g) N) f))) (h0 : (∀ g N f, g < cA (a 73) → N ≤ 100 → f ≤ 2 → ¬ (i = nI g ∧ n = nI N ∧ w = nI f)) → Po m L (rfA a 0) aL Q (.int (-1000000001))) : CK E 5 MX11_on [.ref (ev_z E + 0), .int i, .int n, .int w] m L Q := by
  have hB := hC.1
  have hA := hO.1
  have hc8 := hA.1.2.1
  refine CK.of rfl rfl (lv := [(0, _), (1, _), (2, _), (3, _)]) rfl ?_
  refine wk_aload_n (i := 0) (q := 1) dX11_on_0 rfl rfl rfl ?_
  refine wk_get (q := 4) fgX11_18 dX11_on_1 rfl rfl rfl rfl ?_
  refine wk_iload_n (i := 1) (q := 5) dX11_on_4 rfl rfl rfl ?_
  refine wk_V1r (d' := 1) (q := 8) lkX11_102 dX11_on_5 rfl rfl rfl rfl rfl rfl rfl ?_
  refine ck_X0_garmentAt (b := 8) (c := cA (a 73)) rfl (hB.1.trans hA.1.1) hc8 (fun g hn e => ?_) (fun hno => ?_)
  · skip
    subst e
    have hE := hB.e7 (g := g) (by omega)
    have ho := hA.1.2.2 g hn
    refine wk_astore (i := 4) (q := 10) (lv' := [_, _, _, _, _]) dX11_on_8 rfl rfl rfl ?_
    refine wk_aload (i := 4) (q := 12) dX11_on_10 rfl rfl ?_
    refine wk_ifnull (q := 15) dX11_on_12 rfl ?_
    refine wk_iload_n (i := 2) (q := 16) dX11_on_15 rfl rfl rfl ?_
    refine wk_iconst (v := 0) (q := 17) dX11_on_16 rfl rfl ?_
    refine wk_bipush (v := 100) (q := 19) dX11_on_17 rfl rfl ?_
    refine wk_S3r (d' := 1) (q := 22) lkX11_61 dX11_on_19 rfl rfl rfl rfl ?_
    refine ck_X11_within (fun hw => ?_) (fun hw => ?_)
    · skip
      obtain ⟨N, hN1, hN2, rfl⟩ := rng (lo := 0) (hi := 100) (by omega) (by omega) hw
      refine wk_if_ne (t := 32) (q := 25) dX11_on_22 rfl rfl (fun _ => ?_) (fun h => absurd h (by decide))
      refine wk_aload_n (i := 0) (q := 33) dX11_on_32 rfl rfl rfl ?_
      refine wk_get (q := 36) fgX11_35 dX11_on_33 rfl rfl rfl rfl ?_
      refine wk_aload (i := 4) (q := 38) dX11_on_36 rfl rfl ?_
      refine wk_V1v (d' := 1) (q := 41) lkX11_190 dX11_on_38 rfl rfl rfl rfl rfl rfl rfl ?_
      refine ck_X2_become rfl (sh_g sb_8 (by omega)) (by omega) ?_
      refine wk_aload_n (i := 0) (q := 42) dX11_on_41 rfl rfl rfl ?_
      refine wk_get (q := 45) fgX11_35 dX11_on_42 rfl rfl rfl rfl ?_
      refine wk_iload_n (i := 2) (q := 46) dX11_on_45 rfl rfl rfl ?_
      refine wk_V1v (d' := 4) (q := 49) lkX11_194 dX11_on_46 rfl rfl rfl rfl rfl rfl rfl ?_
      refine ck_X2_dryFor (N := N) (D := D) (by omega) rfl (by rw [wr_s]; exact E7.cp.ok (hE.ok ho)) (by omega) ?_
      rw [wr_wr, wr_s]
      have hx := (E7.cp (v := m 59).trans hE).dryN N
      refine wk_iload_n (i := 3) (q := 50) dX11_on_49 rfl rfl rfl ?_
      refine wk_table (cs := [(0, 76), (1, 84), (2, 92)]) (td := 100) dX11_on_50 (by decide +kernel) ?_
      refine And.intro (fun c50_0 => ?_) (fun n50_0 => ?_)
      · skip
        refine wk_aload_n (i := 0) (q := 77) dX11_on_76 rfl rfl rfl ?_
        refine wk_get (q := 80) fgX11_35 dX11_on_77 rfl rfl rfl rfl ?_
        refine wk_get (q := 83) fgX11_116 dX11_on_80 rfl rfl rfl rfl ?_
        refine wk_ireturn dX11_on_83 rfl rfl ?_
        rw [wr_s, hx 1 (by decide)]
        exact h1 g N 0 hn hN2 (by omega) rfl rfl c50_0 _ _ hC.t59 (FC.rf.wr rfl)
      refine And.intro (fun c50_1 => ?_) (fun n50_1 => ?_)
      · skip
        refine wk_aload_n (i := 0) (q := 85) dX11_on_84 rfl rfl rfl ?_
        refine wk_get (q := 88) fgX11_35 dX11_on_85 rfl rfl rfl rfl ?_
        refine wk_get (q := 91) fgX11_119 dX11_on_88 rfl rfl rfl rfl ?_
        refine wk_ireturn dX11_on_91 rfl rfl ?_
        rw [wr_s, hx 2 (by decide)]
        exact h1 g N 1 hn hN2 (by omega) rfl rfl c50_1 _ _ hC.t59 (FC.rf.wr rfl)
      refine And.intro (fun c50_2 => ?_) (fun n50_2 => ?_)
      · skip
        refine wk_aload_n (i := 0) (q := 93) dX11_on_92 rfl rfl rfl ?_
        refine wk_get (q := 96) fgX11_35 dX11_on_93 rfl rfl rfl rfl ?_
        refine wk_get (q := 99) fgX11_125 dX11_on_96 rfl rfl rfl rfl ?_
        refine wk_ireturn dX11_on_99 rfl rfl ?_
        rw [wr_s, hx 4 (by decide)]
        exact h1 g N 2 hn hN2 (by omega) rfl rfl c50_2 _ _ hC.t59 (FC.rf.wr rfl)
      refine wk_aload_n (i := 0) (q := 101) dX11_on_100 rfl rfl rfl ?_
      refine wk_ldc (q := 103) dX11_on_101 kX11_72 rfl ?_
      refine wk_V1r (d' := 1) (q := 106) lkX11_73 dX11_on_103 rfl rfl rfl rfl rfl rfl rfl ?_
      refine ck_X11_refuse (i := 0) (by decide) (by decide) ?_
      refine wk_ireturn dX11_on_106 rfl rfl ?_
      refine h0 (fun g' N' f _ _ hf h => ?_) _ _ hC.t59.found ((FC.rf.wr rfl).wr rfl)
      have h2 := h.2.2
      obtain rfl | rfl | rfl : f = 0 ∨ f = 1 ∨ f = 2 := (by omega)
      all_goals first | exact n50_0 h2 | exact n50_1 h2 | exact n50_2 h2
    · skip
      refine wk_if_ne (t := 32) (q := 25) dX11_on_22 rfl rfl (fun h => absurd (by decide) h) (fun _ => ?_)
      refine wk_aload_n (i := 0) (q := 26) dX11_on_25 rfl rfl rfl ?_
      refine wk_ldc (q := 28) dX11_on_26 kX11_72 rfl ?_
      refine wk_V1r (d' := 1) (q := 31) lkX11_73 dX11_on_28 rfl rfl rfl rfl rfl rfl rfl ?_
      refine ck_X11_refuse (i := 0) (by decide) (by decide) ?_
      refine wk_ireturn dX11_on_31 rfl rfl ?_
      refine h0 (fun g' N f _ hN _ h => ?_) _ _ hC.found (FC.rf.wr rfl)
      first | exact hno g' ‹_› h.1 | (have h2 := h.2.1; subst h2; exact hw (rng' (lo := 0) (hi := 100) (by omega) (by omega) hN))
  · skip
    refine wk_astoreN (i := 4) (q := 10) (lv' := [_, _, _, _, _]) dX11_on_8 rfl rfl rfl ?_
    refine wk_aloadN (i := 4) (q := 12) dX11_on_10 rfl rfl ?_
    refine wk_ifnullN (t := 25) dX11_on_12 rfl ?_
    refine wk_aload_n (i := 0) (q := 26) dX11_on_25 rfl rfl rfl ?_
    refine wk_ldc (q := 28) dX11_on_26 kX11_72 rfl ?_
    refine wk_V1r (d' := 1) (q := 31) lkX11_73 dX11_on_28 rfl rfl rfl rfl rfl rfl rfl ?_
    refine ck_X11_refuse (i := 0) (by decide) (by decide) ?_
    refine wk_ireturn dX11_on_31 rfl rfl ?_
    refine h0 (fun g' N f _ hN _ h => ?_) _ _ hC.found (FC.rf.wr rfl)
    first | exact hno g' ‹_› h.1 | (have h2 := h.2.1; subst h2; exact hw (rng' (lo := 0) (hi := 100) (by omega) (by omega) hN))
theorem ck_X11_again {i n w : Int32} (hC : CR m L a aL) (hO : OK D a) (h1 : ∀ g N f, g < cA (a 73) → N ≤ 40 → f ≤ 2 → i = nI g → n = nI N → w = nI f → Po m L a aL Q (.int (agR (wshN (a 73 3) (a 73 4) (gv (a 73) g) N) f))) (h0 : (∀ g N f, g < cA (a 73) → N ≤ 40 → f ≤ 2 → ¬ (i = nI g ∧ n = nI N ∧ w = nI f)) → Po m L (rfA a 0) aL Q (.int (-1000000001))) : CK E 6 MX11_again [.ref (ev_z E + 0), .int i, .int n, .int w] m L Q := by
  have hB := hC.1
  have hA := hO.1
  have hc8 := hA.1.2.1
  have e3 : m 8 6 = a 73 3 := hB.2.2.2.1
  have e4 : m 8 7 = a 73 4 := hB.2.2.2.2.1
  have hdg := hA.2.2.2.1
  refine CK.of rfl rfl (lv := [(0, _), (1, _), (2, _), (3, _)]) rfl ?_
  refine wk_aload_n (i := 0) (q := 1) dX11_again_0 rfl rfl rfl ?_
  refine wk_get (q := 4) fgX11_18 dX11_again_1 rfl rfl rfl rfl ?_
  refine wk_iload_n (i := 1) (q := 5) dX11_again_4 rfl rfl rfl ?_
  refine wk_V1r (d' := 1) (q := 8) lkX11_102 dX11_again_5 rfl rfl rfl rfl rfl rfl rfl ?_
  refine ck_X0_garmentAt (b := 8) (c := cA (a 73)) rfl (hB.1.trans hA.1.1) hc8 (fun g hn e => ?_) (fun hno => ?_)
  · skip
    subst e
    have hE := hB.e7 (g := g) (by omega)
    have ho := hA.1.2.2 g hn
    refine wk_astore (i := 4) (q := 10) (lv' := [_, _, _, _, _]) dX11_again_8 rfl rfl rfl ?_
    refine wk_aload (i := 4) (q := 12) dX11_again_10 rfl rfl ?_
    refine wk_ifnull (q := 15) dX11_again_12 rfl ?_
    refine wk_iload_n (i := 2) (q := 16) dX11_again_15 rfl rfl rfl ?_
    refine wk_iconst (v := 0) (q := 17) dX11_again_16 rfl rfl ?_
    refine wk_bipush (v := 40) (q := 19) dX11_again_17 rfl rfl ?_
    refine wk_S3r (d' := 1) (q := 22) lkX11_61 dX11_again_19 rfl rfl rfl rfl ?_
    refine ck_X11_within (fun hw => ?_) (fun hw => ?_)
    · skip
      obtain ⟨N, hN1, hN2, rfl⟩ := rng (lo := 0) (hi := 40) (by omega) (by omega) hw
      refine wk_if_ne (t := 32) (q := 25) dX11_again_22 rfl rfl (fun _ => ?_) (fun h => absurd h (by decide))
      refine wk_aload_n (i := 0) (q := 33) dX11_again_32 rfl rfl rfl ?_
      refine wk_aload (i := 4) (q := 35) dX11_again_33 rfl rfl ?_
      refine wk_iload_n (i := 2) (q := 36) dX11_again_35 rfl rfl rfl ?_
      refine wk_V2v (d' := 5) (q := 39) lkX11_197 dX11_again_36 rfl rfl rfl rfl rfl rfl rfl ?_
      refine ck_X11_tryWashes (N := N) (D := D) (by omega) (sh_g sb_8 (by omega)) (by omega) (hE.ok ho) (by rw [e3]; omega) (by rw [e3]; omega) ?_
      rw [e3, e4]
      have hx := (E7.cp (v := m 59).trans hE).wshN (d := a 73 3) (t := a 73 4) N
      refine wk_iload_n (i := 3) (q := 40) dX11_again_39 rfl rfl rfl ?_
      refine wk_table (cs := [(0, 68), (1, 76), (2, 84)]) (td := 92) dX11_again_40 (by decide +kernel) ?_
      refine And.intro (fun c40_0 => ?_) (fun n40_0 => ?_)
      · skip
        refine wk_aload_n (i := 0) (q := 69) dX11_again_68 rfl rfl rfl ?_
        refine wk_get (q := 72) fgX11_35 dX11_again_69 rfl rfl rfl rfl ?_
        refine wk_get (q := 75) fgX11_116 dX11_again_72 rfl rfl rfl rfl ?_
        refine wk_ireturn dX11_again_75 rfl rfl ?_
        rw [wr_s, hx 1 (by decide)]
        exact h1 g N 0 hn hN2 (by omega) rfl rfl c40_0 _ _ hC.t59 (FC.rf.wr rfl)
      refine And.intro (fun c40_1 => ?_) (fun n40_1 => ?_)
      · skip
        refine wk_aload_n (i := 0) (q := 77) dX11_again_76 rfl rfl rfl ?_
        refine wk_get (q := 80) fgX11_35 dX11_again_77 rfl rfl rfl rfl ?_
        refine wk_get (q := 83) fgX11_119 dX11_again_80 rfl rfl rfl rfl ?_
        refine wk_ireturn dX11_again_83 rfl rfl ?_
        rw [wr_s, hx 2 (by decide)]
        exact h1 g N 1 hn hN2 (by omega) rfl rfl c40_1 _ _ hC.t59 (FC.rf.wr rfl)
      refine And.intro (fun c40_2 => ?_) (fun n40_2 => ?_)
      · skip
        refine wk_aload_n (i := 0) (q := 85) dX11_again_84 rfl rfl rfl ?_
        refine wk_get (q := 88) fgX11_35 dX11_again_85 rfl rfl rfl rfl ?_
        refine wk_get (q := 91) fgX11_122 dX11_again_88 rfl rfl rfl rfl ?_
        refine wk_ireturn dX11_again_91 rfl rfl ?_
        rw [wr_s, hx 3 (by decide)]
        exact h1 g N 2 hn hN2 (by omega) rfl rfl c40_2 _ _ hC.t59 (FC.rf.wr rfl)
      refine wk_aload_n (i := 0) (q := 93) dX11_again_92 rfl rfl rfl ?_
      refine wk_ldc (q := 95) dX11_again_93 kX11_72 rfl ?_
      refine wk_V1r (d' := 1) (q := 98) lkX11_73 dX11_again_95 rfl rfl rfl rfl rfl rfl rfl ?_
      refine ck_X11_refuse (i := 0) (by decide) (by decide) ?_
      refine wk_ireturn dX11_again_98 rfl rfl ?_
      refine h0 (fun g' N' f _ _ hf h => ?_) _ _ hC.t59.found ((FC.rf.wr rfl).wr rfl)
      have h2 := h.2.2
      obtain rfl | rfl | rfl : f = 0 ∨ f = 1 ∨ f = 2 := (by omega)
      all_goals first | exact n40_0 h2 | exact n40_1 h2 | exact n40_2 h2
    · skip
      refine wk_if_ne (t := 32) (q := 25) dX11_again_22 rfl rfl (fun h => absurd (by decide) h) (fun _ => ?_)
      refine wk_aload_n (i := 0) (q := 26) dX11_again_25 rfl rfl rfl ?_
      refine wk_ldc (q := 28) dX11_again_26 kX11_72 rfl ?_
      refine wk_V1r (d' := 1) (q := 31) lkX11_73 dX11_again_28 rfl rfl rfl rfl rfl rfl rfl ?_
      refine ck_X11_refuse (i := 0) (by decide) (by decide) ?_
      refine wk_ireturn dX11_again_31 rfl rfl ?_
      refine h0 (fun g' N f _ hN _ h => ?_) _ _ hC.found (FC.rf.wr rfl)
      first | exact hno g' ‹_› h.1 | (have h2 := h.2.1; subst h2; exact hw (rng' (lo := 0) (hi := 40) (by omega) (by omega) hN))
  · skip
    refine wk_astoreN (i := 4) (q := 10) (lv' := [_, _, _, _, _]) dX11_again_8 rfl rfl rfl ?_
    refine wk_aloadN (i := 4) (q := 12) dX11_again_10 rfl rfl ?_
    refine wk_ifnullN (t := 25) dX11_again_12 rfl ?_
    refine wk_aload_n (i := 0) (q := 26) dX11_again_25 rfl rfl rfl ?_
    refine wk_ldc (q := 28) dX11_again_26 kX11_72 rfl ?_
    refine wk_V1r (d' := 1) (q := 31) lkX11_73 dX11_again_28 rfl rfl rfl rfl rfl rfl rfl ?_
    refine ck_X11_refuse (i := 0) (by decide) (by decide) ?_
    refine wk_ireturn dX11_again_31 rfl rfl ?_
    refine h0 (fun g' N f _ hN _ h => ?_) _ _ hC.found (FC.rf.wr rfl)
    first | exact hno g' ‹_› h.1 | (have h2 := h.2.1; subst h2; exact hw (rng' (lo := 0) (hi := 40) (by omega) (by omega) hN))
end CN
