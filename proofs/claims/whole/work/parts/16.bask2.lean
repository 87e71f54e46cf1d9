/-! the basket's methods that change it, and the best dressed -/
def E7 (v w : Nat → Int32) : Prop := ∀ f, f < 7 → v f = w f
theorem rw7_E7 {a0 a1 a2 a3 a4 a5 a6 : Int32} {r r' : Nat → Int32} : E7 (rw7 a0 a1 a2 a3 a4 a5 a6 r) (rw7 a0 a1 a2 a3 a4 a5 a6 r') := by
  intro f hf
  unfold rw7
  split <;> first | rfl | omega
theorem E7.dry {v w : Nat → Int32} (h : E7 v w) : E7 (dryG v) (dryG w) := by
  unfold dryG
  rw [h 0 (by decide), h 1 (by decide), h 2 (by decide), h 3 (by decide), h 4 (by decide), h 5 (by decide), h 6 (by decide)]
  split
  · split <;> exact rw7_E7
  · exact h
theorem E7.dryN {v w : Nat → Int32} (h : E7 v w) : ∀ n, E7 (dryN v n) (dryN w n)
  | 0 => h
  | n + 1 => (E7.dryN h n).dry
theorem E7.wsh {v w : Nat → Int32} {d t : Int32} (h : E7 v w) : E7 (wshG d t v) (wshG d t w) := by
  unfold wshG
  rw [h 0 (by decide), h 1 (by decide), h 2 (by decide), h 3 (by decide), h 6 (by decide)]
  exact rw7_E7
theorem E7.wshN {v w : Nat → Int32} {d t : Int32} (h : E7 v w) : ∀ n, E7 (wshN d t v n) (wshN d t w n)
  | 0 => h
  | n + 1 => (E7.wshN h n).wsh
theorem E7.drw {v w : Nat → Int32} {n : Int32} (h : E7 v w) : E7 (drwG n v) (drwG n w) := by
  unfold drwG
  rw [h 0 (by decide), h 1 (by decide), h 2 (by decide), h 3 (by decide), h 4 (by decide), h 5 (by decide), h 6 (by decide)]
  exact rw7_E7
theorem E7.cp {v w : Nat → Int32} : E7 (cpG w v) w := by
  intro f hf
  unfold cpG rw7
  split <;> first | rfl | omega
theorem E7.trans {u v w : Nat → Int32} (h : E7 u v) (h2 : E7 v w) : E7 u w := fun f hf => (h f hf).trans (h2 f hf)
theorem E7.symm {u v : Nat → Int32} (h : E7 u v) : E7 v u := fun f hf => (h f hf).symm
theorem E7.ok {D : Nat} {u v : Nat → Int32} (h : E7 u v) (ho : okG D v) : okG D u := ho.cong h
theorem hasB.e7 {m : Mm} {b : Nat} {A : Nat → Int32} (h : hasB m b A) {g : Nat} (hg : g < 8) : E7 (m (b + 1 + 1 + g)) (gv A g) := fun f hf => h.2.2.2.2.2.1 g hg f hf
def gput (A : Nat → Int32) (g : Nat) (v : Nat → Int32) : Nat → Int32 := fun j => if 5 + 7 * g ≤ j ∧ j < 12 + 7 * g then v (j - (5 + 7 * g)) else A j
theorem gput_s {A : Nat → Int32} {g f : Nat} {v : Nat → Int32} (hf : f < 7) : gput A g v (5 + 7 * g + f) = v f := by
  unfold gput
  rw [if_pos (by omega)]
  congr 1
  omega
theorem gput_n {A : Nat → Int32} {g j : Nat} {v : Nat → Int32} (h : j < 5 + 7 * g ∨ 12 + 7 * g ≤ j) : gput A g v j = A j := by
  unfold gput
  rw [if_neg (by omega)]
theorem upd_s {A : Nat → Int32} {k : Nat} {x : Int32} : upd A k x k = x := if_pos rfl
theorem upd_n {A : Nat → Int32} {j k : Nat} {x : Int32} (h : j ≠ k) : upd A k x j = A j := if_neg h
def addA (A : Nat → Int32) (i : Int32) : Nat → Int32 := upd (gput A (cA A) (newG i (fun _ => 0))) 1 (A 1 + 1)
def addP (A : Nat → Int32) (l w : Int32) : Nat → Int32 := upd (upd (upd A (61 + 2 * pA A) l) (61 + 2 * pA A + 1) w) 2 (A 2 + 1)
def gmapA (c : Nat) (F : (Nat → Int32) → Nat → Int32) (A : Nat → Int32) : Nat → Int32 := fun j => if 5 ≤ j ∧ j < 5 + 7 * c then F (gv A ((j - 5) / 7)) ((j - 5) % 7) else A j
def dayA (A : Nat → Int32) (N : Nat) : Nat → Int32 := upd (gmapA (cA A) (fun v => dryN v N) A) 0 (A 0 + nI N)
theorem gmapA_s {A : Nat → Int32} {c g f : Nat} {F : (Nat → Int32) → Nat → Int32} (hg : g < c) (hf : f < 7) : gmapA c F A (5 + 7 * g + f) = F (gv A g) f := by
  unfold gmapA
  rw [if_pos (by omega), show (5 + 7 * g + f - 5) / 7 = g by omega, show (5 + 7 * g + f - 5) % 7 = f by omega]
theorem gmapA_n {A : Nat → Int32} {c j : Nat} {F : (Nat → Int32) → Nat → Int32} (h : j < 5 ∨ 5 + 7 * c ≤ j) : gmapA c F A j = A j := by
  unfold gmapA
  rw [if_neg (by omega)]
section BK2
variable {E : EVt} {m : Mm} {L : Ml} {Q : Value → Mm → Ml → Prop} {b : Nat} {A : Nat → Int32}
theorem lp2_X0_become {b2 : Nat} (hb : shp b = 0) (hb2 : shp b2 = 0) (hne : b ≠ b2) (hB : hasB m b2 A) (hQ : ∀ m', hasB m' b A → frB m m' b → Q .null m' L) : ∀ (r j : Nat) (mc : Mm), j + r = 6 → (mc b 3 = A 1 ∧ mc b 4 = A 2 ∧ mc b 5 = A 0 ∧ mc b 6 = A 3 ∧ mc b 7 = A 4) → (∀ g, g < 8 → ∀ f, f < 7 → mc (b + 1 + 1 + g) f = A (5 + 7 * g + f)) → (∀ g, g < j → ∀ f, f < 2 → mc (b + 10 + 1 + g) f = A (61 + 2 * g + f)) → frB m mc b → WK E 2 MX0_become 71 [(0, .ref (ev_z E + b)), (1, .ref (ev_z E + b2)), (2, .int (nI j))] [] mc L Q := by
  intro r
  induction r with
  | zero =>
    intro j mc hj h5 hg hp hf
    refine wk_iload_n (i := 2) (q := 72) dX0_become_71 rfl rfl rfl ?_
    refine wk_bipush (v := 6) (q := 74) dX0_become_72 rfl rfl ?_
    refine wk_icmp_ge (t := 119) (q := 77) dX0_become_74 rfl rfl (fun c74 => ?_) (fun h => absurd (nI_le (a := 6) (by omega) (by omega)) h)
    refine wk_return dX0_become_119 rfl ?_
    have e : j = 6 := by omega
    subst e
    exact hQ mc ⟨h5.1, h5.2.1, h5.2.2.1, h5.2.2.2.1, h5.2.2.2.2, hg, hp⟩ hf
  | succ r ih =>
    intro j mc hj h5 hg hp hf
    have hB2 := hf.other hb hb2 hne hB
    have hx := shB_apart hb hb2 hne
    refine wk_iload_n (i := 2) (q := 72) dX0_become_71 rfl rfl rfl ?_
    refine wk_bipush (v := 6) (q := 74) dX0_become_72 rfl rfl ?_
    refine wk_icmp_ge (t := 119) (q := 77) dX0_become_74 rfl rfl (fun h => absurd h (nI_ge (b := 6) (by omega) (by omega))) (fun c74 => ?_)
    refine wk_aload_n (i := 0) (q := 78) dX0_become_77 rfl rfl rfl ?_
    refine wk_get (q := 81) fgX0_26 dX0_become_78 hb rfl rfl rfl ?_
    refine wk_iload_n (i := 2) (q := 82) dX0_become_81 rfl rfl rfl ?_
    refine wk_aaldP (n := j) (q := 83) dX0_become_82 (sh_pa hb) rfl (by omega) rfl ?_
    refine wk_aload_n (i := 1) (q := 84) dX0_become_83 rfl rfl rfl ?_
    refine wk_get (q := 87) fgX0_26 dX0_become_84 hb2 rfl rfl rfl ?_
    refine wk_iload_n (i := 2) (q := 88) dX0_become_87 rfl rfl rfl ?_
    refine wk_aaldP (n := j) (q := 89) dX0_become_88 (sh_pa hb2) rfl (by omega) rfl ?_
    refine wk_get (q := 92) fgX0_51 dX0_become_89 (sh_p hb2 (by omega)) rfl rfl rfl ?_
    refine wk_put (q := 95) fpX0_51 dX0_become_92 (sh_p hb (by omega)) rfl rfl rfl rfl rfl ?_
    refine wk_aload_n (i := 0) (q := 96) dX0_become_95 rfl rfl rfl ?_
    refine wk_get (q := 99) fgX0_26 dX0_become_96 hb rfl rfl rfl ?_
    refine wk_iload_n (i := 2) (q := 100) dX0_become_99 rfl rfl rfl ?_
    refine wk_aaldP (n := j) (q := 101) dX0_become_100 (sh_pa hb) rfl (by omega) rfl ?_
    refine wk_aload_n (i := 1) (q := 102) dX0_become_101 rfl rfl rfl ?_
    refine wk_get (q := 105) fgX0_26 dX0_become_102 hb2 rfl rfl rfl ?_
    refine wk_iload_n (i := 2) (q := 106) dX0_become_105 rfl rfl rfl ?_
    refine wk_aaldP (n := j) (q := 107) dX0_become_106 (sh_pa hb2) rfl (by omega) rfl ?_
    refine wk_get (q := 110) fgX0_54 dX0_become_107 (sh_p hb2 (by omega)) rfl rfl rfl ?_
    refine wk_put (q := 113) fpX0_54 dX0_become_110 (sh_p hb (by omega)) rfl rfl rfl rfl rfl ?_
    refine wk_iinc (w := 1) (q := 116) (lv' := [_, _, _]) dX0_become_113 rfl rfl rfl rfl rfl ?_
    rw [nI_1]
    refine wk_goto (t := 71) dX0_become_116 rfl ?_
    refine ih (j + 1) _ (by omega) ?_ ?_ ?_ ((hf.wr (by omega) (by omega)).wr (by omega) (by omega))
    · (rw [wr_n (by omega), wr_n (by omega)]; exact h5)
    · (intro g hg1 f hf1; rw [wr_n (by omega), wr_n (by omega)]; exact hg g hg1 f hf1)
    · (intro g hg1 f hf1; by_cases e : g = j; (subst e; rw [wr_s, wr_s]; have q0 := hB2.pp (g := g) (f := 0) (by omega) rfl; have q1 := hB2.pp (g := g) (f := 1) (by omega) rfl; obtain rfl | rfl : f = 0 ∨ f = 1 := (by omega); (rw [upd_n (by decide), upd_s]; exact q0); (rw [upd_s, wr_n (by omega)]; exact q1)); (rw [wr_n (by omega), wr_n (by omega)]; exact hp g (by omega) f hf1))
theorem lp1_X0_become {b2 : Nat} (hb : shp b = 0) (hb2 : shp b2 = 0) (hne : b ≠ b2) (hB : hasB m b2 A) (hQ : ∀ m', hasB m' b A → frB m m' b → Q .null m' L) : ∀ (r j : Nat) (mc : Mm), j + r = 8 → (mc b 3 = A 1 ∧ mc b 4 = A 2 ∧ mc b 5 = A 0 ∧ mc b 6 = A 3 ∧ mc b 7 = A 4) → (∀ g, g < j → ∀ f, f < 7 → mc (b + 1 + 1 + g) f = A (5 + 7 * g + f)) → frB m mc b → WK E 2 MX0_become 42 [(0, .ref (ev_z E + b)), (1, .ref (ev_z E + b2)), (2, .int (nI j))] [] mc L Q := by
  intro r
  induction r with
  | zero =>
    intro j mc hj h5 hg hf
    have e : j = 8 := by omega
    subst e
    refine wk_iload_n (i := 2) (q := 43) dX0_become_42 rfl rfl rfl ?_
    refine wk_bipush (v := 8) (q := 45) dX0_become_43 rfl rfl ?_
    refine wk_icmp_ge (t := 69) (q := 48) dX0_become_45 rfl rfl (fun c45 => ?_) (fun h => absurd (by decide) h)
    refine wk_iconst (v := 0) (q := 70) dX0_become_69 rfl rfl ?_
    refine wk_istore_n (i := 2) (q := 71) (lv' := [_, _, _]) dX0_become_70 rfl rfl rfl rfl ?_
    exact lp2_X0_become hb hb2 hne hB hQ 6 0 mc (by omega) h5 hg (fun g hg => absurd hg (by omega)) hf
  | succ r ih =>
    intro j mc hj h5 hg hf
    have hB2 := hf.other hb hb2 hne hB
    have hx := shB_apart hb hb2 hne
    refine wk_iload_n (i := 2) (q := 43) dX0_become_42 rfl rfl rfl ?_
    refine wk_bipush (v := 8) (q := 45) dX0_become_43 rfl rfl ?_
    refine wk_icmp_ge (t := 69) (q := 48) dX0_become_45 rfl rfl (fun h => absurd h (nI_ge (b := 8) (by omega) (by omega))) (fun c45 => ?_)
    refine wk_aload_n (i := 0) (q := 49) dX0_become_48 rfl rfl rfl ?_
    refine wk_get (q := 52) fgX0_17 dX0_become_49 hb rfl rfl rfl ?_
    refine wk_iload_n (i := 2) (q := 53) dX0_become_52 rfl rfl rfl ?_
    refine wk_aaldG (n := j) (q := 54) dX0_become_53 (sh_ga hb) rfl (by omega) rfl ?_
    refine wk_aload_n (i := 1) (q := 55) dX0_become_54 rfl rfl rfl ?_
    refine wk_get (q := 58) fgX0_17 dX0_become_55 hb2 rfl rfl rfl ?_
    refine wk_iload_n (i := 2) (q := 59) dX0_become_58 rfl rfl rfl ?_
    refine wk_aaldG (n := j) (q := 60) dX0_become_59 (sh_ga hb2) rfl (by omega) rfl ?_
    refine wk_V1v (d' := 1) (q := 63) lkX0_47 dX0_become_60 (sh_g hb (by omega)) rfl rfl rfl rfl rfl rfl ?_
    refine ck_X2_become (sh_g hb (by omega)) (sh_g hb2 (by omega)) (by omega) ?_
    refine wk_iinc (w := 1) (q := 66) (lv' := [_, _, _]) dX0_become_63 rfl rfl rfl rfl rfl ?_
    rw [nI_1]
    refine wk_goto (t := 42) dX0_become_66 rfl ?_
    refine ih (j + 1) _ (by omega) ?_ ?_ (hf.wr (by omega) (by omega))
    · (rw [wr_n (by omega)]; exact h5)
    · (intro g hg1 f hf1; by_cases e : g = j; (subst e; rw [wr_s, E7.cp f hf1]; exact hB2.2.2.2.2.2.1 g (by omega) f hf1); (rw [wr_n (by omega)]; exact hg g (by omega) f hf1))
theorem ck_X0_become {b2 : Nat} (hb : shp b = 0) (hb2 : shp b2 = 0) (hne : b ≠ b2) (hB : hasB m b2 A) (hQ : ∀ m', hasB m' b A → frB m m' b → Q .null m' L) : CK E 2 MX0_become [.ref (ev_z E + b), .ref (ev_z E + b2)] m L Q := by
  refine CK.of rfl rfl (lv := [(0, _), (1, _)]) rfl ?_
  refine wk_aload_n (i := 0) (q := 1) dX0_become_0 rfl rfl rfl ?_
  refine wk_aload_n (i := 1) (q := 2) dX0_become_1 rfl rfl rfl ?_
  refine wk_get (q := 5) fgX0_35 dX0_become_2 hb2 rfl rfl rfl ?_
  refine wk_put (q := 8) fpX0_35 dX0_become_5 hb rfl rfl rfl rfl rfl ?_
  refine wk_aload_n (i := 0) (q := 9) dX0_become_8 rfl rfl rfl ?_
  refine wk_aload_n (i := 1) (q := 10) dX0_become_9 rfl rfl rfl ?_
  refine wk_get (q := 13) fgX0_38 dX0_become_10 hb2 rfl rfl rfl ?_
  refine wk_put (q := 16) fpX0_38 dX0_become_13 hb rfl rfl rfl rfl rfl ?_
  refine wk_aload_n (i := 0) (q := 17) dX0_become_16 rfl rfl rfl ?_
  refine wk_aload_n (i := 1) (q := 18) dX0_become_17 rfl rfl rfl ?_
  refine wk_get (q := 21) fgX0_41 dX0_become_18 hb2 rfl rfl rfl ?_
  refine wk_put (q := 24) fpX0_41 dX0_become_21 hb rfl rfl rfl rfl rfl ?_
  refine wk_aload_n (i := 0) (q := 25) dX0_become_24 rfl rfl rfl ?_
  refine wk_aload_n (i := 1) (q := 26) dX0_become_25 rfl rfl rfl ?_
  refine wk_get (q := 29) fgX0_31 dX0_become_26 hb2 rfl rfl rfl ?_
  refine wk_put (q := 32) fpX0_31 dX0_become_29 hb rfl rfl rfl rfl rfl ?_
  refine wk_aload_n (i := 0) (q := 33) dX0_become_32 rfl rfl rfl ?_
  refine wk_aload_n (i := 1) (q := 34) dX0_become_33 rfl rfl rfl ?_
  refine wk_get (q := 37) fgX0_44 dX0_become_34 hb2 rfl rfl rfl ?_
  refine wk_put (q := 40) fpX0_44 dX0_become_37 hb rfl rfl rfl rfl rfl ?_
  refine wk_iconst (v := 0) (q := 41) dX0_become_40 rfl rfl ?_
  refine wk_istore_n (i := 2) (q := 42) (lv' := [_, _, _]) dX0_become_41 rfl rfl rfl rfl ?_
  have hne2 : b2 ≠ b := fun e => hne e.symm
  have hB0 := hB
  obtain ⟨h1, h2, h3, h4, h5, -⟩ := hB0
  refine lp1_X0_become hb hb2 hne hB hQ 8 0 _ (by omega) ?_ (fun g hg => absurd hg (by omega)) (((((frB.rf.wr (by omega) (by omega)).wr (by omega) (by omega)).wr (by omega) (by omega)).wr (by omega) (by omega)).wr (by omega) (by omega))
  simp only [wr_s, wr_n hne2, upd, h1, h2, h3, h4, h5]
  simp
theorem newG_E7 {i : Int32} {r r' : Nat → Int32} : E7 (newG i r) (newG i r') := rw7_E7
theorem ck_X0_addGarment {i : Int32} (hb : shp b = 0) (hi : 0 ≤ i ∧ i ≤ 5) (hB : hasB m b A) (hc : A 1 = nI (cA A)) (hc8 : cA A ≤ 8) (h1 : cA A < 8 → ∀ m', hasB m' b (addA A i) → frB m m' b → Q (.ref (ev_z E + (b + 1 + 1 + cA A))) m' L) (h0 : cA A = 8 → Q .null m L) : CK E 2 MX0_addGarment [.ref (ev_z E + b), .int i] m L Q := by
  refine CK.of rfl rfl (lv := [(0, _), (1, _)]) rfl ?_
  have hc3 : m b 3 = nI (cA A) := hB.1.trans hc
  refine wk_aload_n (i := 0) (q := 1) dX0_addGarment_0 rfl rfl rfl ?_
  refine wk_iload_n (i := 1) (q := 2) dX0_addGarment_1 rfl rfl rfl ?_
  refine wk_V1r (d' := 1) (q := 5) lkX0_57 dX0_addGarment_2 hb rfl rfl rfl rfl rfl rfl ?_
  refine ck_X0_kindAt hb (fun hk => ?_) (fun hk => ?_)
  · skip
    refine wk_astore_n (i := 2) (q := 6) (lv' := [_, _, _]) dX0_addGarment_5 rfl rfl rfl rfl ?_
    refine wk_aload_n (i := 2) (q := 7) dX0_addGarment_6 rfl rfl rfl ?_
    refine wk_ifnull (q := 10) dX0_addGarment_7 rfl ?_
    refine wk_aload_n (i := 0) (q := 11) dX0_addGarment_10 rfl rfl rfl ?_
    refine wk_get (q := 14) fgX0_35 dX0_addGarment_11 hb rfl rfl rfl ?_
    refine wk_bipush (v := 8) (q := 16) dX0_addGarment_14 rfl rfl ?_
    refine wk_icmp_lt (t := 21) (q := 19) dX0_addGarment_16 rfl rfl (fun c16 => ?_) (fun c16 => ?_)
    · skip
      have hc7 : cA A < 8 := by (rcases Nat.lt_or_ge (cA A) 8 with h | h; exact h; (rw [hc3] at c16; exact absurd c16 (nI_nlt (b := 8) h (by omega))))
      refine wk_aload_n (i := 0) (q := 22) dX0_addGarment_21 rfl rfl rfl ?_
      refine wk_get (q := 25) fgX0_17 dX0_addGarment_22 hb rfl rfl rfl ?_
      refine wk_aload_n (i := 0) (q := 26) dX0_addGarment_25 rfl rfl rfl ?_
      refine wk_get (q := 29) fgX0_35 dX0_addGarment_26 hb rfl rfl rfl ?_
      refine wk_aaldG (n := (cA A)) (q := 30) dX0_addGarment_29 (sh_ga hb) hc3 hc7 rfl ?_
      refine wk_astore_n (i := 3) (q := 31) (lv' := [_, _, _, _]) dX0_addGarment_30 rfl rfl rfl rfl ?_
      refine wk_aload_n (i := 3) (q := 32) dX0_addGarment_31 rfl rfl rfl ?_
      refine wk_aload_n (i := 2) (q := 33) dX0_addGarment_32 rfl rfl rfl ?_
      refine wk_V1v (d' := 1) (q := 36) lkX0_61 dX0_addGarment_33 (sh_g hb hc7) rfl rfl rfl rfl rfl rfl ?_
      refine ck_X2_beNew (c := i) (sh_g hb hc7) ?_
      refine wk_aload_n (i := 0) (q := 37) dX0_addGarment_36 rfl rfl rfl ?_
      refine wk_dup (q := 38) dX0_addGarment_37 rfl rfl ?_
      refine wk_get (q := 41) fgX0_35 dX0_addGarment_38 hb rfl rfl rfl ?_
      refine wk_iconst (v := 1) (q := 42) dX0_addGarment_41 rfl rfl ?_
      refine wk_iadd (q := 43) dX0_addGarment_42 rfl ?_
      refine wk_put (q := 46) fpX0_35 dX0_addGarment_43 hb rfl rfl rfl rfl rfl ?_
      refine wk_aload_n (i := 3) (q := 47) dX0_addGarment_46 rfl rfl rfl ?_
      refine wk_areturn dX0_addGarment_47 rfl (by first | exact Or.inl ⟨_, rfl⟩ | exact Or.inr ⟨_, rfl⟩) ?_
      refine h1 hc7 _ ?_ ((frB.rf.wr (by omega) (by omega)).wr (by omega) (by omega))
      obtain ⟨q1, q2, q3, q4, q5, q6, q7⟩ := hB
      refine ⟨?_, ?_, ?_, ?_, ?_, fun g hg f hf => ?_, fun g hg f hf => ?_⟩
      · (rw [wr_s, upd_s, wr_n (by omega), hc3, hc.symm]; rfl)
      · (rw [wr_s, upd_n (by decide), wr_n (by omega), q2]; exact ((upd_n (by decide)).trans (gput_n (by omega))).symm)
      · (rw [wr_s, upd_n (by decide), wr_n (by omega), q3]; exact ((upd_n (by decide)).trans (gput_n (by omega))).symm)
      · (rw [wr_s, upd_n (by decide), wr_n (by omega), q4]; exact ((upd_n (by decide)).trans (gput_n (by omega))).symm)
      · (rw [wr_s, upd_n (by decide), wr_n (by omega), q5]; exact ((upd_n (by decide)).trans (gput_n (by omega))).symm)
      · (rw [wr_n (by omega)]; unfold addA; rw [upd_n (by omega)]; by_cases e : g = cA A; (rw [e, wr_s, gput_s hf]; exact newG_E7 f hf); (rw [wr_n (by omega), gput_n (by omega)]; exact q6 g hg f hf))
      · (rw [wr_n (by omega), wr_n (by omega)]; unfold addA; rw [upd_n (by omega), gput_n (by omega)]; exact q7 g hg f hf)
    · skip
      refine wk_null (q := 20) dX0_addGarment_19 rfl ?_
      refine wk_areturnN dX0_addGarment_20 rfl (by first | exact Or.inl ⟨_, rfl⟩ | exact Or.inr ⟨_, rfl⟩) ?_
      exact h0 (by rcases Nat.lt_or_ge (cA A) 8 with h | h; (rw [hc3] at c16; exact absurd (nI_lt (b := 8) h (by omega)) c16); omega)
  · skip
    exact absurd hi hk
theorem ck_X0_addPerson {l w : Int32} (hb : shp b = 0) (hB : hasB m b A) (hc : A 2 = nI (pA A)) (hc8 : pA A ≤ 6) (h1 : pA A < 6 → ∀ m', hasB m' b (addP A l w) → frB m m' b → Q (.ref (ev_z E + (b + 10 + 1 + pA A))) m' L) (h0 : pA A = 6 → Q .null m L) : CK E 1 MX0_addPerson [.ref (ev_z E + b), .int l, .int w] m L Q := by
  refine CK.of rfl rfl (lv := [(0, _), (1, _), (2, _)]) rfl ?_
  have hc3 : m b 4 = nI (pA A) := hB.2.1.trans hc
  refine wk_aload_n (i := 0) (q := 1) dX0_addPerson_0 rfl rfl rfl ?_
  refine wk_get (q := 4) fgX0_38 dX0_addPerson_1 hb rfl rfl rfl ?_
  refine wk_bipush (v := 6) (q := 6) dX0_addPerson_4 rfl rfl ?_
  refine wk_icmp_lt (t := 11) (q := 9) dX0_addPerson_6 rfl rfl (fun c6 => ?_) (fun c6 => ?_)
  · skip
    have hc7 : pA A < 6 := by (rcases Nat.lt_or_ge (pA A) 6 with h | h; exact h; (rw [hc3] at c6; exact absurd c6 (nI_nlt (b := 6) h (by omega))))
    refine wk_aload_n (i := 0) (q := 12) dX0_addPerson_11 rfl rfl rfl ?_
    refine wk_get (q := 15) fgX0_26 dX0_addPerson_12 hb rfl rfl rfl ?_
    refine wk_aload_n (i := 0) (q := 16) dX0_addPerson_15 rfl rfl rfl ?_
    refine wk_get (q := 19) fgX0_38 dX0_addPerson_16 hb rfl rfl rfl ?_
    refine wk_aaldP (n := (pA A)) (q := 20) dX0_addPerson_19 (sh_pa hb) hc3 hc7 rfl ?_
    refine wk_astore_n (i := 3) (q := 21) (lv' := [_, _, _, _]) dX0_addPerson_20 rfl rfl rfl rfl ?_
    refine wk_aload_n (i := 3) (q := 22) dX0_addPerson_21 rfl rfl rfl ?_
    refine wk_iload_n (i := 1) (q := 23) dX0_addPerson_22 rfl rfl rfl ?_
    refine wk_put (q := 26) fpX0_51 dX0_addPerson_23 (sh_p hb hc7) rfl rfl rfl rfl rfl ?_
    refine wk_aload_n (i := 3) (q := 27) dX0_addPerson_26 rfl rfl rfl ?_
    refine wk_iload_n (i := 2) (q := 28) dX0_addPerson_27 rfl rfl rfl ?_
    refine wk_put (q := 31) fpX0_54 dX0_addPerson_28 (sh_p hb hc7) rfl rfl rfl rfl rfl ?_
    refine wk_aload_n (i := 0) (q := 32) dX0_addPerson_31 rfl rfl rfl ?_
    refine wk_dup (q := 33) dX0_addPerson_32 rfl rfl ?_
    refine wk_get (q := 36) fgX0_38 dX0_addPerson_33 hb rfl rfl rfl ?_
    refine wk_iconst (v := 1) (q := 37) dX0_addPerson_36 rfl rfl ?_
    refine wk_iadd (q := 38) dX0_addPerson_37 rfl ?_
    refine wk_put (q := 41) fpX0_38 dX0_addPerson_38 hb rfl rfl rfl rfl rfl ?_
    refine wk_aload_n (i := 3) (q := 42) dX0_addPerson_41 rfl rfl rfl ?_
    refine wk_areturn dX0_addPerson_42 rfl (by first | exact Or.inl ⟨_, rfl⟩ | exact Or.inr ⟨_, rfl⟩) ?_
    refine h1 hc7 _ ?_ (((frB.rf.wr (by omega) (by omega)).wr (by omega) (by omega)).wr (by omega) (by omega))
    obtain ⟨q1, q2, q3, q4, q5, q6, q7⟩ := hB
    refine ⟨?_, ?_, ?_, ?_, ?_, fun g hg f hf => ?_, fun g hg f hf => ?_⟩
    · (rw [wr_s, upd_n (by decide), wr_n (by omega), wr_n (by omega), q1]; unfold addP; rw [upd_n (by decide), upd_n (by omega), upd_n (by omega)])
    · (rw [wr_s, upd_s, wr_n (by omega), wr_n (by omega), hc3, hc.symm]; exact upd_s.symm)
    · (rw [wr_s, upd_n (by decide), wr_n (by omega), wr_n (by omega), q3]; unfold addP; rw [upd_n (by decide), upd_n (by omega), upd_n (by omega)])
    · (rw [wr_s, upd_n (by decide), wr_n (by omega), wr_n (by omega), q4]; unfold addP; rw [upd_n (by decide), upd_n (by omega), upd_n (by omega)])
    · (rw [wr_s, upd_n (by decide), wr_n (by omega), wr_n (by omega), q5]; unfold addP; rw [upd_n (by decide), upd_n (by omega), upd_n (by omega)])
    · (rw [wr_n (by omega), wr_n (by omega), wr_n (by omega)]; unfold addP; rw [upd_n (by omega), upd_n (by omega), upd_n (by omega)]; exact q6 g hg f hf)
    · (rw [wr_n (by omega)]; unfold addP; rw [upd_n (by omega)]; by_cases e : g = pA A; (rw [e, wr_s, wr_s]; obtain rfl | rfl : f = 0 ∨ f = 1 := (by omega); (rw [upd_n (by decide), upd_s, upd_n (by omega)]; exact upd_s.symm); (rw [upd_s]; exact upd_s.symm)); (rw [wr_n (by omega), wr_n (by omega), upd_n (by omega), upd_n (by omega)]; exact q7 g hg f hf))
  · skip
    refine wk_null (q := 10) dX0_addPerson_9 rfl ?_
    refine wk_areturnN dX0_addPerson_10 rfl (by first | exact Or.inl ⟨_, rfl⟩ | exact Or.inr ⟨_, rfl⟩) ?_
    exact h0 (by rcases Nat.lt_or_ge (pA A) 6 with h | h; (rw [hc3] at c6; exact absurd (nI_lt (b := 6) h (by omega)) c6); omega)
theorem lp_X0_letDaysGo {D N : Nat} (hN : N < 2 ^ 31) (hb : shp b = 0) (hB : hasB m b A) (hO : okA D A) (hD : D ≤ 20000000) (hQ : ∀ m', hasB m' b (dayA A N) → frB m m' b → Q .null m' L) : ∀ (r j : Nat) (mc : Mm), j + r = cA A → mc b = m b → (∀ g, g < 8 → E7 (mc (b + 1 + 1 + g)) (if g < j then dryN (gv A g) N else gv A g)) → (∀ p, p < 6 → mc (b + 10 + 1 + p) = m (b + 10 + 1 + p)) → frB m mc b → WK E 5 MX0_letDaysGo 2 [(0, .ref (ev_z E + b)), (1, .int (nI N)), (2, .int (nI j))] [] mc L Q := by
  have hc3 : m b 3 = nI (cA A) := hB.1.trans hO.1.1
  have hc8 := hO.1.2.1
  intro r
  induction r with
  | zero =>
    intro j mc hj hr hg hp hf
    refine wk_iload_n (i := 2) (q := 3) dX0_letDaysGo_2 rfl rfl rfl ?_
    refine wk_aload_n (i := 0) (q := 4) dX0_letDaysGo_3 rfl rfl rfl ?_
    refine wk_get (q := 7) fgX0_35 dX0_letDaysGo_4 hb rfl rfl rfl ?_
    refine wk_icmp_ge (t := 26) (q := 10) dX0_letDaysGo_7 rfl rfl (fun c7 => ?_) (fun h => absurd (by rw [hr, hc3]; exact nI_le (by omega) (by omega)) h)
    refine wk_aload_n (i := 0) (q := 27) dX0_letDaysGo_26 rfl rfl rfl ?_
    refine wk_dup (q := 28) dX0_letDaysGo_27 rfl rfl ?_
    refine wk_get (q := 31) fgX0_41 dX0_letDaysGo_28 hb rfl rfl rfl ?_
    refine wk_iload_n (i := 1) (q := 32) dX0_letDaysGo_31 rfl rfl rfl ?_
    refine wk_iadd (q := 33) dX0_letDaysGo_32 rfl ?_
    refine wk_put (q := 36) fpX0_41 dX0_letDaysGo_33 hb rfl rfl rfl rfl rfl ?_
    refine wk_return dX0_letDaysGo_36 rfl ?_
    have e : j = cA A := by omega
    subst e
    refine hQ _ ?_ (hf.wr (by omega) (by omega))
    obtain ⟨q1, q2, q3, q4, q5, q6, q7⟩ := hB
    refine ⟨?_, ?_, ?_, ?_, ?_, fun g hg1 f hf1 => ?_, fun g hg1 f hf1 => ?_⟩
    · (rw [wr_s, upd_n (by decide), hr, q1]; unfold dayA; rw [upd_n (by decide), gmapA_n (by omega)])
    · (rw [wr_s, upd_n (by decide), hr, q2]; unfold dayA; rw [upd_n (by decide), gmapA_n (by omega)])
    · (rw [wr_s, upd_s, hr, q3]; exact upd_s.symm)
    · (rw [wr_s, upd_n (by decide), hr, q4]; unfold dayA; rw [upd_n (by decide), gmapA_n (by omega)])
    · (rw [wr_s, upd_n (by decide), hr, q5]; unfold dayA; rw [upd_n (by decide), gmapA_n (by omega)])
    · (rw [wr_n (by omega), hg g hg1 f hf1]; unfold dayA; rw [upd_n (by omega)]; by_cases e : g < cA A; (rw [if_pos e, gmapA_s e hf1]); (rw [if_neg e, gmapA_n (by omega)]; rfl))
    · (rw [wr_n (by omega), hp g hg1]; unfold dayA; rw [upd_n (by omega), gmapA_n (by omega)]; exact q7 g hg1 f hf1)
  | succ r ih =>
    intro j mc hj hr hg hp hf
    have hgj := hg j (by omega)
    rw [if_neg (Nat.lt_irrefl j)] at hgj
    refine wk_iload_n (i := 2) (q := 3) dX0_letDaysGo_2 rfl rfl rfl ?_
    refine wk_aload_n (i := 0) (q := 4) dX0_letDaysGo_3 rfl rfl rfl ?_
    refine wk_get (q := 7) fgX0_35 dX0_letDaysGo_4 hb rfl rfl rfl ?_
    refine wk_icmp_ge (t := 26) (q := 10) dX0_letDaysGo_7 rfl rfl (fun h => absurd h (by rw [hr, hc3]; exact nI_ge (by omega) (by omega))) (fun c7 => ?_)
    refine wk_aload_n (i := 0) (q := 11) dX0_letDaysGo_10 rfl rfl rfl ?_
    refine wk_get (q := 14) fgX0_17 dX0_letDaysGo_11 hb rfl rfl rfl ?_
    refine wk_iload_n (i := 2) (q := 15) dX0_letDaysGo_14 rfl rfl rfl ?_
    refine wk_aaldG (n := j) (q := 16) dX0_letDaysGo_15 (sh_ga hb) rfl (by omega) rfl ?_
    refine wk_iload_n (i := 1) (q := 17) dX0_letDaysGo_16 rfl rfl rfl ?_
    refine wk_V1v (d' := 4) (q := 20) lkX0_64 dX0_letDaysGo_17 (sh_g hb (by omega)) rfl rfl rfl rfl rfl rfl ?_
    refine ck_X2_dryFor hN (sh_g hb (by omega)) (hgj.ok (hO.1.2.2 j (by omega))) hD ?_
    refine wk_iinc (w := 1) (q := 23) (lv' := [_, _, _]) dX0_letDaysGo_20 rfl rfl rfl rfl rfl ?_
    rw [nI_1]
    refine wk_goto (t := 2) dX0_letDaysGo_23 rfl ?_
    refine ih (j + 1) _ (by omega) ?_ ?_ ?_ (hf.wr (by omega) (by omega))
    · (rw [wr_n (by omega)]; exact hr)
    · (intro g hg1; by_cases e : g = j; (subst e; rw [wr_s, if_pos (Nat.lt_succ_self g)]; exact hgj.dryN N); (rw [wr_n (by omega)]; have hh := hg g hg1; by_cases e2 : g < j; (rw [if_pos e2] at hh; rw [if_pos (by omega)]; exact hh); (rw [if_neg e2] at hh; rw [if_neg (by omega)]; exact hh)))
    · (intro p hp1; rw [wr_n (by omega)]; exact hp p hp1)
theorem ck_X0_letDaysGo {D N : Nat} (hN : N < 2 ^ 31) (hb : shp b = 0) (hB : hasB m b A) (hO : okA D A) (hD : D ≤ 20000000) (hQ : ∀ m', hasB m' b (dayA A N) → frB m m' b → Q .null m' L) : CK E 5 MX0_letDaysGo [.ref (ev_z E + b), .int (nI N)] m L Q := by
  refine CK.of rfl rfl (lv := [(0, _), (1, _)]) rfl ?_
  refine wk_iconst (v := 0) (q := 1) dX0_letDaysGo_0 rfl rfl ?_
  refine wk_istore_n (i := 2) (q := 2) (lv' := [_, _, _]) dX0_letDaysGo_1 rfl rfl rfl rfl ?_
  exact lp_X0_letDaysGo hN hb hB hO hD hQ (cA A) 0 m (by omega) rfl (fun g hg => by rw [if_neg (by omega)]; exact hB.e7 hg) (fun _ _ => rfl) frB.rf
def bc1 (x : Int32) : Int32 := x - ((x.toUInt32 >>> (Int32.toUInt32 1 &&& Int32.toUInt32 31)).toInt32 &&& 1431655765)
def bc2 (x : Int32) : Int32 := (x &&& 858993459) + ((x.toUInt32 >>> (Int32.toUInt32 2 &&& Int32.toUInt32 31)).toInt32 &&& 858993459)
def bc3 (x : Int32) : Int32 := (x + (x.toUInt32 >>> (Int32.toUInt32 4 &&& Int32.toUInt32 31)).toInt32) &&& 252645135
def bc4 (x : Int32) : Int32 := x + (x.toUInt32 >>> (Int32.toUInt32 8 &&& Int32.toUInt32 31)).toInt32
def bc5 (x : Int32) : Int32 := x + (x.toUInt32 >>> (Int32.toUInt32 16 &&& Int32.toUInt32 31)).toInt32
def bcF (x : Int32) : Int32 := bc5 (bc4 (bc3 (bc2 (bc1 x)))) &&& 63
theorem ck_bitCount {x : Int32} (hQ : Q (.int (bcF x)) m L) : CK E 1 MJ6_bitCount_0f7a4 [.int x] m L Q := by
  refine CK.of rfl rfl (lv := [(0, _)]) rfl ?_
  refine wk_iload_n (i := 0) (q := 1) dJ6_bitCount_0f7a4_0 rfl rfl rfl ?_
  refine wk_iload_n (i := 0) (q := 2) dJ6_bitCount_0f7a4_1 rfl rfl rfl ?_
  refine wk_iconst (v := 1) (q := 3) dJ6_bitCount_0f7a4_2 rfl rfl ?_
  refine wk_iushr (q := 4) dJ6_bitCount_0f7a4_3 rfl ?_
  refine wk_ldcw (q := 7) dJ6_bitCount_0f7a4_4 kJ6_265 rfl ?_
  refine wk_iand (q := 8) dJ6_bitCount_0f7a4_7 rfl ?_
  refine wk_isub (q := 9) dJ6_bitCount_0f7a4_8 rfl ?_
  refine wk_istore_n (i := 0) (q := 10) (lv' := [_]) dJ6_bitCount_0f7a4_9 rfl rfl rfl rfl ?_
  change WK E _ _ 10 [(0, .int (bc1 x))] [] m L Q
  refine wk_iload_n (i := 0) (q := 11) dJ6_bitCount_0f7a4_10 rfl rfl rfl ?_
  refine wk_ldcw (q := 14) dJ6_bitCount_0f7a4_11 kJ6_266 rfl ?_
  refine wk_iand (q := 15) dJ6_bitCount_0f7a4_14 rfl ?_
  refine wk_iload_n (i := 0) (q := 16) dJ6_bitCount_0f7a4_15 rfl rfl rfl ?_
  refine wk_iconst (v := 2) (q := 17) dJ6_bitCount_0f7a4_16 rfl rfl ?_
  refine wk_iushr (q := 18) dJ6_bitCount_0f7a4_17 rfl ?_
  refine wk_ldcw (q := 21) dJ6_bitCount_0f7a4_18 kJ6_266 rfl ?_
  refine wk_iand (q := 22) dJ6_bitCount_0f7a4_21 rfl ?_
  refine wk_iadd (q := 23) dJ6_bitCount_0f7a4_22 rfl ?_
  refine wk_istore_n (i := 0) (q := 24) (lv' := [_]) dJ6_bitCount_0f7a4_23 rfl rfl rfl rfl ?_
  change WK E _ _ 24 [(0, .int (bc2 (bc1 x)))] [] m L Q
  refine wk_iload_n (i := 0) (q := 25) dJ6_bitCount_0f7a4_24 rfl rfl rfl ?_
  refine wk_iload_n (i := 0) (q := 26) dJ6_bitCount_0f7a4_25 rfl rfl rfl ?_
  refine wk_iconst (v := 4) (q := 27) dJ6_bitCount_0f7a4_26 rfl rfl ?_
  refine wk_iushr (q := 28) dJ6_bitCount_0f7a4_27 rfl ?_
  refine wk_iadd (q := 29) dJ6_bitCount_0f7a4_28 rfl ?_
  refine wk_ldcw (q := 32) dJ6_bitCount_0f7a4_29 kJ6_267 rfl ?_
  refine wk_iand (q := 33) dJ6_bitCount_0f7a4_32 rfl ?_
  refine wk_istore_n (i := 0) (q := 34) (lv' := [_]) dJ6_bitCount_0f7a4_33 rfl rfl rfl rfl ?_
  change WK E _ _ 34 [(0, .int (bc3 (bc2 (bc1 x))))] [] m L Q
  refine wk_iload_n (i := 0) (q := 35) dJ6_bitCount_0f7a4_34 rfl rfl rfl ?_
  refine wk_iload_n (i := 0) (q := 36) dJ6_bitCount_0f7a4_35 rfl rfl rfl ?_
  refine wk_bipush (v := 8) (q := 38) dJ6_bitCount_0f7a4_36 rfl rfl ?_
  refine wk_iushr (q := 39) dJ6_bitCount_0f7a4_38 rfl ?_
  refine wk_iadd (q := 40) dJ6_bitCount_0f7a4_39 rfl ?_
  refine wk_istore_n (i := 0) (q := 41) (lv' := [_]) dJ6_bitCount_0f7a4_40 rfl rfl rfl rfl ?_
  change WK E _ _ 41 [(0, .int (bc4 (bc3 (bc2 (bc1 x)))))] [] m L Q
  refine wk_iload_n (i := 0) (q := 42) dJ6_bitCount_0f7a4_41 rfl rfl rfl ?_
  refine wk_iload_n (i := 0) (q := 43) dJ6_bitCount_0f7a4_42 rfl rfl rfl ?_
  refine wk_bipush (v := 16) (q := 45) dJ6_bitCount_0f7a4_43 rfl rfl ?_
  refine wk_iushr (q := 46) dJ6_bitCount_0f7a4_45 rfl ?_
  refine wk_iadd (q := 47) dJ6_bitCount_0f7a4_46 rfl ?_
  refine wk_istore_n (i := 0) (q := 48) (lv' := [_]) dJ6_bitCount_0f7a4_47 rfl rfl rfl rfl ?_
  change WK E _ _ 48 [(0, .int (bc5 (bc4 (bc3 (bc2 (bc1 x))))))] [] m L Q
  refine wk_iload_n (i := 0) (q := 49) dJ6_bitCount_0f7a4_48 rfl rfl rfl ?_
  refine wk_bipush (v := 63) (q := 51) dJ6_bitCount_0f7a4_49 rfl rfl ?_
  refine wk_iand (q := 52) dJ6_bitCount_0f7a4_51 rfl ?_
  refine wk_ireturn dJ6_bitCount_0f7a4_52 rfl rfl ?_
  exact hQ
def cntS (P : Nat → Bool) : Nat → Int32
  | 0 => 0
  | g + 1 => cntS P g + (if P g = true then 1 else 0)
end BK2
