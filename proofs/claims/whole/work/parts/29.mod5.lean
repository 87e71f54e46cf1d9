/-! the reference's calls, third part: sheets, images, counts -/
theorem n40 (s k : Nat) : 40 * nI s + nI k = nI (40 * s + k) := by
  rw [show (40 : Int32) = nI 40 from rfl, nI_mul, nI_add]
theorem nI_dv {q c : Nat} (hq : q < 2 ^ 31) (hc : 0 < c) (hc2 : c < 2 ^ 31) : nI q / nI c = nI (q / c) := by
  have h1 := nI_toInt hq
  have h2 := nI_toInt hc2
  have h3 : q / c ≤ q := Nat.div_le_self q c
  rw [fa_eq, dv_i (by omega) (by omega), h1, h2, nI_toInt (by omega)]
  exact (Int.natCast_ediv q c).symm
theorem nI_rm {q : Nat} (hq : q < 2 ^ 31) : nI q - nI q / 76 * 76 = nI (q % 76) := by
  have e : nI q / 76 = nI (q / 76) := nI_dv (c := 76) hq (by decide) (by decide)
  have h3 : q / 76 ≤ q := Nat.div_le_self q 76
  rw [e, show (76 : Int32) = nI 76 from rfl, nI_mul, fa_eq, sb_i (by rw [nI_toInt hq, nI_toInt (by omega)]; omega) (by rw [nI_toInt hq, nI_toInt (by omega)]; omega), nI_toInt hq, nI_toInt (by omega), nI_toInt (by omega)]
  omega
def zrP (F : Nat → Int64) (s j : Nat) : Nat → Int64 := fun x => if 40 * s ≤ x ∧ x < 40 * s + j then 0 else F x
theorem zrP_s {F : Nat → Int64} {s j : Nat} : vp_updL (zrP F s j) (40 * s + j) 0 = zrP F s (j + 1) := by
  funext x
  unfold vp_updL zrP
  by_cases e : x = 40 * s + j
  · rw [if_pos e, if_pos (by omega)]
  · rw [if_neg e]
    by_cases e2 : 40 * s ≤ x ∧ x < 40 * s + j
    · rw [if_pos e2, if_pos (by omega)]
    · rw [if_neg e2, if_neg (by omega)]
theorem zrP_0 {F : Nat → Int64} {s : Nat} : zrP F s 0 = F := by
  funext x
  unfold zrP
  rw [if_neg (by omega)]
theorem wrL_self (L : Ml) (k : Nat) : wrL L k (L k) = L := by
  funext x
  unfold wrL
  split
  · rename_i h; rw [h]
  · rfl
theorem wrL_comm {m : Ml} {j k : Nat} {v w : Nat → Int64} (h : j ≠ k) : wrL (wrL m j v) k w = wrL (wrL m k w) j v := by
  funext i
  unfold wrL
  by_cases e : i = k
  · rw [if_pos e, if_neg (fun e2 => h (e2.symm.trans e)), if_pos e]
  · rw [if_neg e]
    by_cases e2 : i = j
    · rw [if_pos e2, if_pos e2]
    · rw [if_neg e2, if_neg e2, if_neg e]
section MQ1
variable {E : EVt} {m : Mm} {L : Ml} {Q : Value → Mm → Ml → Prop} {A : Nat → Int32} {D : Nat}
theorem ck_X12_wipe (hQ : Q (.int (m 72 7)) (wr m 72 (upd (m 72) 7 0)) L) : CK E 1 MX12_wipe [.ref (ev_z E + 72)] m L Q := by
  refine CK.of rfl rfl (lv := [(0, _)]) rfl ?_
  refine wk_aload_n (i := 0) (q := 1) dX12_wipe_0 rfl rfl rfl ?_
  refine wk_get (q := 4) fgX12_193 dX12_wipe_1 rfl rfl rfl rfl ?_
  refine wk_istore_n (i := 1) (q := 5) (lv' := [_, _]) dX12_wipe_4 rfl rfl rfl rfl ?_
  refine wk_aload_n (i := 0) (q := 6) dX12_wipe_5 rfl rfl rfl ?_
  refine wk_iconst (v := 0) (q := 7) dX12_wipe_6 rfl rfl ?_
  refine wk_put (q := 10) fpX12_193 dX12_wipe_7 rfl rfl rfl rfl rfl rfl ?_
  refine wk_iload_n (i := 1) (q := 11) dX12_wipe_10 rfl rfl rfl ?_
  refine wk_ireturn dX12_wipe_11 rfl rfl ?_
  exact hQ
theorem ck_X12_tear (h01 : m 72 5 = 0 ∨ m 72 5 = 1) (hQ : Q (.int (m 72 5)) (wr m 72 (upd (m 72) 5 0)) L) : CK E 1 MX12_tear [.ref (ev_z E + 72)] m L Q := by
  refine CK.of rfl rfl (lv := [(0, _)]) rfl ?_
  refine wk_aload_n (i := 0) (q := 1) dX12_tear_0 rfl rfl rfl ?_
  refine wk_get (q := 4) fgX12_315 dX12_tear_1 rfl rfl rfl rfl ?_
  refine wk_if_eq (t := 11) (q := 7) dX12_tear_4 rfl rfl (fun c4 => ?_) (fun c4 => ?_)
  · skip
    rw [c4] at hQ
    refine wk_iconst (v := 0) (q := 12) dX12_tear_11 rfl rfl ?_
    refine wk_istore_n (i := 1) (q := 13) (lv' := [_, _]) dX12_tear_12 rfl rfl rfl rfl ?_
    refine wk_aload_n (i := 0) (q := 14) dX12_tear_13 rfl rfl rfl ?_
    refine wk_iconst (v := 0) (q := 15) dX12_tear_14 rfl rfl ?_
    refine wk_put (q := 18) fpX12_315 dX12_tear_15 rfl rfl rfl rfl rfl rfl ?_
    refine wk_iload_n (i := 1) (q := 19) dX12_tear_18 rfl rfl rfl ?_
    refine wk_ireturn dX12_tear_19 rfl rfl ?_
    exact hQ
  · skip
    rw [show m 72 5 = 1 from h01.resolve_left c4] at hQ
    refine wk_iconst (v := 1) (q := 8) dX12_tear_7 rfl rfl ?_
    refine wk_goto (t := 12) dX12_tear_8 rfl ?_
    refine wk_istore_n (i := 1) (q := 13) (lv' := [_, _]) dX12_tear_12 rfl rfl rfl rfl ?_
    refine wk_aload_n (i := 0) (q := 14) dX12_tear_13 rfl rfl rfl ?_
    refine wk_iconst (v := 0) (q := 15) dX12_tear_14 rfl rfl ?_
    refine wk_put (q := 18) fpX12_315 dX12_tear_15 rfl rfl rfl rfl rfl rfl ?_
    refine wk_iload_n (i := 1) (q := 19) dX12_tear_18 rfl rfl rfl ?_
    refine wk_ireturn dX12_tear_19 rfl rfl ?_
    exact hQ
theorem lp_X12_image (hQ : ∀ B, eq73 B A → Q (.int 1) (wr (wr (wr m 74 B) 73 A) 72 (upd (m 72) 5 1)) L) : ∀ (r j : Nat), j + r = 73 → WK E 1 MX12_image 2 [(0, .ref (ev_z E + 72)), (1, .int (nI j))] [] (wr (wr m 74 (cp73 A (m 74) j)) 73 A) L Q := by
  intro r
  induction r with
  | zero =>
    intro j hj
    refine wk_iload_n (i := 1) (q := 3) dX12_image_2 rfl rfl rfl ?_
    refine wk_bipush (v := 73) (q := 5) dX12_image_3 rfl rfl ?_
    refine wk_icmp_ge (t := 26) (q := 8) dX12_image_5 rfl rfl (fun c5 => ?_) (fun h => absurd (nI_le (a := 73) (by omega) (by omega)) h)
    refine wk_aload_n (i := 0) (q := 27) dX12_image_26 rfl rfl rfl ?_
    refine wk_iconst (v := 1) (q := 28) dX12_image_27 rfl rfl ?_
    refine wk_put (q := 31) fpX12_315 dX12_image_28 rfl rfl rfl rfl rfl rfl ?_
    refine wk_iconst (v := 1) (q := 32) dX12_image_31 rfl rfl ?_
    refine wk_ireturn dX12_image_32 rfl rfl ?_
    exact hQ _ (fun i hi => by unfold cp73; rw [if_pos (by omega)])
  | succ r ih =>
    intro j hj
    refine wk_iload_n (i := 1) (q := 3) dX12_image_2 rfl rfl rfl ?_
    refine wk_bipush (v := 73) (q := 5) dX12_image_3 rfl rfl ?_
    refine wk_icmp_ge (t := 26) (q := 8) dX12_image_5 rfl rfl (fun h => absurd h (nI_ge (b := 73) (by omega) (by omega))) (fun c5 => ?_)
    refine wk_aload_n (i := 0) (q := 9) dX12_image_8 rfl rfl rfl ?_
    refine wk_get (q := 12) fgX12_13 dX12_image_9 rfl rfl rfl rfl ?_
    refine wk_iload_n (i := 1) (q := 13) dX12_image_12 rfl rfl rfl ?_
    refine wk_aload_n (i := 0) (q := 14) dX12_image_13 rfl rfl rfl ?_
    refine wk_get (q := 17) fgX12_7 dX12_image_14 rfl rfl rfl rfl ?_
    refine wk_iload_n (i := 1) (q := 18) dX12_image_17 rfl rfl rfl ?_
    refine wk_sld (n := j) (q := 19) dX12_image_18 rfl (by omega) rfl ?_
    refine wk_iast (n := j) (q := 20) dX12_image_19 rfl rfl (by show _ < 73; omega) rfl ?_
    rw [wr_n (show (74 : Nat) ≠ 73 by decide), wr_s, wr_comm (show (73 : Nat) ≠ 74 by decide), wr_wr, cp73_s]
    refine wk_iinc (w := 1) (q := 23) (lv' := [_, _]) dX12_image_20 rfl rfl rfl rfl rfl ?_
    rw [nI_1]
    refine wk_goto (t := 2) dX12_image_23 rfl ?_
    exact ih (j + 1) (by omega)
theorem ck_X12_image (hQ : ∀ B, eq73 B A → Q (.int 1) (wr (wr (wr m 74 B) 73 A) 72 (upd (m 72) 5 1)) L) : CK E 1 MX12_image [.ref (ev_z E + 72)] (wr m 73 A) L Q := by
  refine CK.of rfl rfl (lv := [(0, _)]) rfl ?_
  refine wk_iconst (v := 0) (q := 1) dX12_image_0 rfl rfl ?_
  refine wk_istore_n (i := 1) (q := 2) (lv' := [_, _]) dX12_image_1 rfl rfl rfl rfl ?_
  have hl := lp_X12_image (E := E) hQ 73 0 (by omega)
  rw [cp73_0, wr_self] at hl
  exact hl
theorem lp_X12_undo (hQ : ∀ B, eq73 B (m 74) → Q (.int (m 74 1)) (wr m 73 B) L) : ∀ (r j : Nat), j + r = 73 → WK E 2 MX12_undo 16 [(0, .ref (ev_z E + 72)), (1, .int (nI j))] [] (wr m 73 (cp73 (m 74) A j)) L Q := by
  intro r
  induction r with
  | zero =>
    intro j hj
    refine wk_iload_n (i := 1) (q := 17) dX12_undo_16 rfl rfl rfl ?_
    refine wk_bipush (v := 73) (q := 19) dX12_undo_17 rfl rfl ?_
    refine wk_icmp_ge (t := 40) (q := 22) dX12_undo_19 rfl rfl (fun c19 => ?_) (fun h => absurd (nI_le (a := 73) (by omega) (by omega)) h)
    refine wk_aload_n (i := 0) (q := 41) dX12_undo_40 rfl rfl rfl ?_
    refine wk_get (q := 44) fgX12_7 dX12_undo_41 rfl rfl rfl rfl ?_
    refine wk_iconst (v := 1) (q := 45) dX12_undo_44 rfl rfl ?_
    refine wk_sld (n := 1) (q := 46) dX12_undo_45 rfl (by decide) rfl ?_
    refine wk_ireturn dX12_undo_46 rfl rfl ?_
    rw [show cp73 (m 74) A j 1 = m 74 1 from if_pos (by omega)]
    exact hQ _ (fun i hi => if_pos (by omega))
  | succ r ih =>
    intro j hj
    refine wk_iload_n (i := 1) (q := 17) dX12_undo_16 rfl rfl rfl ?_
    refine wk_bipush (v := 73) (q := 19) dX12_undo_17 rfl rfl ?_
    refine wk_icmp_ge (t := 40) (q := 22) dX12_undo_19 rfl rfl (fun h => absurd h (nI_ge (b := 73) (by omega) (by omega))) (fun c19 => ?_)
    refine wk_aload_n (i := 0) (q := 23) dX12_undo_22 rfl rfl rfl ?_
    refine wk_get (q := 26) fgX12_7 dX12_undo_23 rfl rfl rfl rfl ?_
    refine wk_iload_n (i := 1) (q := 27) dX12_undo_26 rfl rfl rfl ?_
    refine wk_aload_n (i := 0) (q := 28) dX12_undo_27 rfl rfl rfl ?_
    refine wk_get (q := 31) fgX12_13 dX12_undo_28 rfl rfl rfl rfl ?_
    refine wk_iload_n (i := 1) (q := 32) dX12_undo_31 rfl rfl rfl ?_
    refine wk_iald (n := j) (q := 33) dX12_undo_32 rfl rfl (by show _ < 73; omega) rfl ?_
    rw [wr_n (show (74 : Nat) ≠ 73 by decide)]
    refine wk_sst (n := j) (q := 34) dX12_undo_33 rfl (by omega) rfl ?_
    rw [cp73_s]
    refine wk_iinc (w := 1) (q := 37) (lv' := [_, _]) dX12_undo_34 rfl rfl rfl rfl rfl ?_
    rw [nI_1]
    refine wk_goto (t := 16) dX12_undo_37 rfl ?_
    exact ih (j + 1) (by omega)
theorem ck_X12_undo (h1 : ¬ m 72 5 = 0 → ∀ B, eq73 B (m 74) → Q (.int (m 74 1)) (wr m 73 B) L) (h0 : m 72 5 = 0 → Q (.int (-1000000004)) (rfA (wr m 73 A) 3) L) : CK E 2 MX12_undo [.ref (ev_z E + 72)] (wr m 73 A) L Q := by
  refine CK.of rfl rfl (lv := [(0, _)]) rfl ?_
  refine wk_aload_n (i := 0) (q := 1) dX12_undo_0 rfl rfl rfl ?_
  refine wk_get (q := 4) fgX12_315 dX12_undo_1 rfl rfl rfl rfl ?_
  refine wk_if_ne (t := 14) (q := 7) dX12_undo_4 rfl rfl (fun c4 => ?_) (fun c4 => ?_)
  · skip
    refine wk_iconst (v := 0) (q := 15) dX12_undo_14 rfl rfl ?_
    refine wk_istore_n (i := 1) (q := 16) (lv' := [_, _]) dX12_undo_15 rfl rfl rfl rfl ?_
    have hl := lp_X12_undo (E := E) (A := A) (h1 c4) 73 0 (by omega)
    rw [cp73_0] at hl
    exact hl
  · skip
    refine wk_aload_n (i := 0) (q := 8) dX12_undo_7 rfl rfl rfl ?_
    refine wk_ldc (q := 10) dX12_undo_8 kX12_187 rfl ?_
    refine wk_V1r (d' := 1) (q := 13) lkX12_63 dX12_undo_10 rfl rfl rfl rfl rfl rfl rfl ?_
    refine ck_X12_finds (i := 3) (by decide) (by decide) ?_
    refine wk_ireturn dX12_undo_13 rfl rfl ?_
    exact h0 c4
theorem lp_X12_holes {c : Nat} (hc : A 1 = nI c) (hc8 : c ≤ 8) (hQ : Q (.int (sumH A c)) (wr m 73 A) L) : ∀ (r j : Nat) (a : Int32), j + r = c → a = sumH A j → WK E 3 MX12_holes 4 [(0, .ref (ev_z E + 72)), (1, .int a), (2, .int (nI j))] [] (wr m 73 A) L Q := by
  intro r
  induction r with
  | zero =>
    intro j a hj ha
    refine wk_iload_n (i := 2) (q := 5) dX12_holes_4 rfl rfl rfl ?_
    refine wk_aload_n (i := 0) (q := 6) dX12_holes_5 rfl rfl rfl ?_
    refine wk_get (q := 9) fgX12_7 dX12_holes_6 rfl rfl rfl rfl ?_
    refine wk_iconst (v := 1) (q := 10) dX12_holes_9 rfl rfl ?_
    refine wk_sld (n := 1) (q := 11) dX12_holes_10 rfl (by decide) rfl ?_
    refine wk_icmp_ge (t := 30) (q := 14) dX12_holes_11 rfl rfl (fun c11 => ?_) (fun h => absurd (by rw [hc]; exact nI_le (by omega) (by omega)) h)
    refine wk_iload_n (i := 1) (q := 31) dX12_holes_30 rfl rfl rfl ?_
    refine wk_ireturn dX12_holes_31 rfl rfl ?_
    have e : j = c := by omega
    subst e
    rw [ha]
    exact hQ
  | succ r ih =>
    intro j a hj ha
    refine wk_iload_n (i := 2) (q := 5) dX12_holes_4 rfl rfl rfl ?_
    refine wk_aload_n (i := 0) (q := 6) dX12_holes_5 rfl rfl rfl ?_
    refine wk_get (q := 9) fgX12_7 dX12_holes_6 rfl rfl rfl rfl ?_
    refine wk_iconst (v := 1) (q := 10) dX12_holes_9 rfl rfl ?_
    refine wk_sld (n := 1) (q := 11) dX12_holes_10 rfl (by decide) rfl ?_
    refine wk_icmp_ge (t := 30) (q := 14) dX12_holes_11 rfl rfl (fun h => absurd h (by rw [hc]; exact nI_ge (by omega) (by omega))) (fun c11 => ?_)
    refine wk_iload_n (i := 1) (q := 15) dX12_holes_14 rfl rfl rfl ?_
    refine wk_aload_n (i := 0) (q := 16) dX12_holes_15 rfl rfl rfl ?_
    refine wk_iload_n (i := 2) (q := 17) dX12_holes_16 rfl rfl rfl ?_
    refine wk_bipush (v := 6) (q := 19) dX12_holes_17 rfl rfl ?_
    refine wk_V2r (d' := 2) (q := 22) lkX12_67 dX12_holes_19 rfl rfl rfl rfl rfl rfl rfl ?_
    refine ck_X12_its (g := j) (w := 6) (by omega) (by omega) ?_
    refine wk_iadd (q := 23) dX12_holes_22 rfl ?_
    refine wk_istore_n (i := 1) (q := 24) (lv' := [_, _, _]) dX12_holes_23 rfl rfl rfl rfl ?_
    refine wk_iinc (w := 1) (q := 27) (lv' := [_, _, _]) dX12_holes_24 rfl rfl rfl rfl rfl ?_
    rw [nI_1]
    refine wk_goto (t := 4) dX12_holes_27 rfl ?_
    exact ih (j + 1) _ (by omega) (by rw [ha]; rfl)
theorem ck_X12_holes {c : Nat} (hc : A 1 = nI c) (hc8 : c ≤ 8) (hQ : Q (.int (sumH A c)) (wr m 73 A) L) : CK E 3 MX12_holes [.ref (ev_z E + 72)] (wr m 73 A) L Q := by
  refine CK.of rfl rfl (lv := [(0, _)]) rfl ?_
  refine wk_iconst (v := 0) (q := 1) dX12_holes_0 rfl rfl ?_
  refine wk_istore_n (i := 1) (q := 2) (lv' := [_, _]) dX12_holes_1 rfl rfl rfl rfl ?_
  refine wk_iconst (v := 0) (q := 3) dX12_holes_2 rfl rfl ?_
  refine wk_istore_n (i := 2) (q := 4) (lv' := [_, _, _]) dX12_holes_3 rfl rfl rfl rfl ?_
  exact lp_X12_holes hc hc8 hQ c 0 0 (by omega) rfl
theorem ck_X12_count {w : Int32} (hO : okA D A) (h1 : ∀ n, n ≤ 3 → w = nI n → Q (.int (ctR (wr m 73 A) n)) (wr m 73 A) L) (h0 : (∀ n, n ≤ 3 → ¬ w = nI n) → Q (.int (-1000000001)) (rfA (wr m 73 A) 0) L) : CK E 4 MX12_count [.ref (ev_z E + 72), .int w] (wr m 73 A) L Q := by
  refine CK.of rfl rfl (lv := [(0, _), (1, _)]) rfl ?_
  refine wk_iload_n (i := 1) (q := 1) dX12_count_0 rfl rfl rfl ?_
  refine wk_table (cs := [(0, 32), (1, 39), (2, 46), (3, 51)]) (td := 56) dX12_count_1 (by decide +kernel) ?_
  refine And.intro (fun c1_0 => ?_) (fun n1_0 => ?_)
  · skip
    refine wk_aload_n (i := 0) (q := 33) dX12_count_32 rfl rfl rfl ?_
    refine wk_get (q := 36) fgX12_7 dX12_count_33 rfl rfl rfl rfl ?_
    refine wk_iconst (v := 1) (q := 37) dX12_count_36 rfl rfl ?_
    refine wk_sld (n := 1) (q := 38) dX12_count_37 rfl (by decide) rfl ?_
    refine wk_ireturn dX12_count_38 rfl rfl ?_
    exact h1 0 (by decide) c1_0
  refine And.intro (fun c1_1 => ?_) (fun n1_1 => ?_)
  · skip
    refine wk_aload_n (i := 0) (q := 40) dX12_count_39 rfl rfl rfl ?_
    refine wk_get (q := 43) fgX12_7 dX12_count_40 rfl rfl rfl rfl ?_
    refine wk_iconst (v := 2) (q := 44) dX12_count_43 rfl rfl ?_
    refine wk_sld (n := 2) (q := 45) dX12_count_44 rfl (by decide) rfl ?_
    refine wk_ireturn dX12_count_45 rfl rfl ?_
    exact h1 1 (by decide) c1_1
  refine And.intro (fun c1_2 => ?_) (fun n1_2 => ?_)
  · skip
    refine wk_aload_n (i := 0) (q := 47) dX12_count_46 rfl rfl rfl ?_
    refine wk_get (q := 50) fgX12_193 dX12_count_47 rfl rfl rfl rfl ?_
    refine wk_ireturn dX12_count_50 rfl rfl ?_
    exact h1 2 (by decide) c1_2
  refine And.intro (fun c1_3 => ?_) (fun n1_3 => ?_)
  · skip
    refine wk_aload_n (i := 0) (q := 52) dX12_count_51 rfl rfl rfl ?_
    refine wk_V0r (d' := 3) (q := 55) lkX12_318 dX12_count_52 rfl rfl rfl rfl rfl rfl rfl ?_
    refine ck_X12_holes hO.1.1 hO.1.2.1 ?_
    refine wk_ireturn dX12_count_55 rfl rfl ?_
    exact h1 3 (by decide) c1_3
  refine wk_aload_n (i := 0) (q := 57) dX12_count_56 rfl rfl rfl ?_
  refine wk_ldc (q := 59) dX12_count_57 kX12_41 rfl ?_
  refine wk_V1r (d' := 1) (q := 62) lkX12_63 dX12_count_59 rfl rfl rfl rfl rfl rfl rfl ?_
  refine ck_X12_finds (i := 0) (by decide) (by decide) ?_
  refine wk_ireturn dX12_count_62 rfl rfl ?_
  refine h0 (fun n hn e => ?_)
  obtain rfl | rfl | rfl | rfl : n = 0 ∨ n = 1 ∨ n = 2 ∨ n = 3 := (by omega)
  all_goals first | exact n1_0 e | exact n1_1 e | exact n1_2 e | exact n1_3 e
def stS (w : Int32) (f : Nat → Int32) : Nat → Int32
  | 0 => 0
  | n + 1 => stS w f n + (if w < 0 ∨ nI n = w then f n else 0)
theorem stS_all {w : Int32} {f : Nat → Int32} (h : w < 0) : ∀ n, stS w f n = sumF f n
  | 0 => rfl
  | n + 1 => by
    show stS w f n + _ = sumF f n + _
    rw [stS_all h n, if_pos (Or.inl h)]
theorem stS_one {k : Nat} {f : Nat → Int32} (hk : k < 7) : ∀ n, n ≤ 7 → stS (nI k) f n = if k < n then f k else 0
  | 0, _ => by rw [if_neg (by omega)]; rfl
  | n + 1, hn => by
    show stS (nI k) f n + (if nI k < 0 ∨ nI n = nI k then f n else 0) = _
    rw [stS_one hk n (by omega)]
    by_cases e : n = k
    · subst e
      rw [if_neg (by omega), if_pos (Or.inr rfl), if_pos (by omega), Int32.zero_add]
    · rw [if_neg (show ¬ (nI k < 0 ∨ nI n = nI k) from fun hh => by
        rcases hh with h | h
        · exact absurd h (nI_pos (by omega))
        · exact e (nI_inj (by omega) (by omega) h)), Int32.add_zero]
      by_cases e2 : k < n
      · rw [if_pos e2, if_pos (by omega)]
      · rw [if_neg e2, if_neg (by omega)]
theorem lp_X12_status {w : Int32} (hQ : Q (.int (stS w (m 77) 7)) m L) : ∀ (r j : Nat) (s : Int32), j + r = 7 → s = stS w (m 77) j → WK E 2 MX12_status 25 [(0, .ref (ev_z E + 72)), (1, .int w), (2, .int s), (3, .int (nI j))] [] m L Q := by
  intro r
  induction r with
  | zero =>
    intro j s hj hs
    refine wk_iload_n (i := 3) (q := 26) dX12_status_25 rfl rfl rfl ?_
    refine wk_bipush (v := 7) (q := 28) dX12_status_26 rfl rfl ?_
    refine wk_icmp_ge (t := 59) (q := 31) dX12_status_28 rfl rfl (fun c28 => ?_) (fun h => absurd (nI_le (a := 7) (by omega) (by omega)) h)
    refine wk_iload_n (i := 2) (q := 60) dX12_status_59 rfl rfl rfl ?_
    refine wk_ireturn dX12_status_60 rfl rfl ?_
    have e : j = 7 := by omega
    subst e
    rw [hs]
    exact hQ
  | succ r ih =>
    intro j s hj hs
    have hst : stS w (m 77) (j + 1) = stS w (m 77) j + (if w < 0 ∨ nI j = w then m 77 j else 0) := rfl
    refine wk_iload_n (i := 3) (q := 26) dX12_status_25 rfl rfl rfl ?_
    refine wk_bipush (v := 7) (q := 28) dX12_status_26 rfl rfl ?_
    refine wk_icmp_ge (t := 59) (q := 31) dX12_status_28 rfl rfl (fun h => absurd h (nI_ge (b := 7) (by omega) (by omega))) (fun c28 => ?_)
    refine wk_iload_n (i := 2) (q := 32) dX12_status_31 rfl rfl rfl ?_
    refine wk_iload_n (i := 1) (q := 33) dX12_status_32 rfl rfl rfl ?_
    refine wk_if_lt (t := 41) (q := 36) dX12_status_33 rfl rfl (fun c33 => ?_) (fun c33 => ?_)
    · skip
      rw [if_pos (Or.inl c33)] at hst
      refine wk_aload_n (i := 0) (q := 42) dX12_status_41 rfl rfl rfl ?_
      refine wk_get (q := 45) fgX12_22 dX12_status_42 rfl rfl rfl rfl ?_
      refine wk_iload_n (i := 3) (q := 46) dX12_status_45 rfl rfl rfl ?_
      refine wk_iald (n := j) (q := 47) dX12_status_46 rfl rfl (by show _ < 7; omega) rfl ?_
      refine wk_goto (t := 51) dX12_status_47 rfl ?_
      refine wk_iadd (q := 52) dX12_status_51 rfl ?_
      refine wk_istore_n (i := 2) (q := 53) (lv' := [_, _, _, _]) dX12_status_52 rfl rfl rfl rfl ?_
      refine wk_iinc (w := 1) (q := 56) (lv' := [_, _, _, _]) dX12_status_53 rfl rfl rfl rfl rfl ?_
      rw [nI_1]
      refine wk_goto (t := 25) dX12_status_56 rfl ?_
      exact ih (j + 1) _ (by omega) (by rw [hs, hst])
    · skip
      refine wk_iload_n (i := 3) (q := 37) dX12_status_36 rfl rfl rfl ?_
      refine wk_iload_n (i := 1) (q := 38) dX12_status_37 rfl rfl rfl ?_
      refine wk_icmp_ne (t := 50) (q := 41) dX12_status_38 rfl rfl (fun c38 => ?_) (fun c38 => ?_)
      · skip
        rw [if_neg (fun hh => hh.elim c33 c38)] at hst
        refine wk_iconst (v := 0) (q := 51) dX12_status_50 rfl rfl ?_
        refine wk_iadd (q := 52) dX12_status_51 rfl ?_
        refine wk_istore_n (i := 2) (q := 53) (lv' := [_, _, _, _]) dX12_status_52 rfl rfl rfl rfl ?_
        refine wk_iinc (w := 1) (q := 56) (lv' := [_, _, _, _]) dX12_status_53 rfl rfl rfl rfl rfl ?_
        rw [nI_1]
        refine wk_goto (t := 25) dX12_status_56 rfl ?_
        exact ih (j + 1) _ (by omega) (by rw [hs, hst])
      · skip
        rw [if_pos (Or.inr c38)] at hst
        refine wk_aload_n (i := 0) (q := 42) dX12_status_41 rfl rfl rfl ?_
        refine wk_get (q := 45) fgX12_22 dX12_status_42 rfl rfl rfl rfl ?_
        refine wk_iload_n (i := 3) (q := 46) dX12_status_45 rfl rfl rfl ?_
        refine wk_iald (n := j) (q := 47) dX12_status_46 rfl rfl (by show _ < 7; omega) rfl ?_
        refine wk_goto (t := 51) dX12_status_47 rfl ?_
        refine wk_iadd (q := 52) dX12_status_51 rfl ?_
        refine wk_istore_n (i := 2) (q := 53) (lv' := [_, _, _, _]) dX12_status_52 rfl rfl rfl rfl ?_
        refine wk_iinc (w := 1) (q := 56) (lv' := [_, _, _, _]) dX12_status_53 rfl rfl rfl rfl rfl ?_
        rw [nI_1]
        refine wk_goto (t := 25) dX12_status_56 rfl ?_
        exact ih (j + 1) _ (by omega) (by rw [hs, hst])
theorem ck_X12_status {w : Int32} (h1 : ∀ n, n < 7 → w = nI n → Q (.int (m 77 n)) m L) (h2 : w = -1 → Q (.int (sumF (m 77) 7)) m L) (h0 : ¬ (-1 ≤ w ∧ w ≤ 6) → Q (.int (-1000000001)) (rfA m 0) L) : CK E 2 MX12_status [.ref (ev_z E + 72), .int w] m L Q := by
  have z0 : (0 : Int32).toInt = 0 := by decide
  have zn : (-1 : Int32).toInt = -1 := by decide
  refine CK.of rfl rfl (lv := [(0, _), (1, _)]) rfl ?_
  refine wk_iload_n (i := 1) (q := 1) dX12_status_0 rfl rfl rfl ?_
  refine wk_i2l (q := 2) dX12_status_1 rfl ?_
  refine wk_ldc2 (q := 5) dX12_status_2 kX12_321 rfl ?_
  refine wk_ldc2 (q := 8) dX12_status_5 kX12_323 rfl ?_
  refine wk_S3r (d' := 1) (q := 11) lkX12_46 dX12_status_8 rfl rfl rfl rfl ?_
  refine ck_X12_in (lo := -1) (hi := 6) (fun hw => ?_) (fun hw => ?_)
  · skip
    refine wk_if_ne (t := 21) (q := 14) dX12_status_11 rfl rfl (fun _ => ?_) (fun h => absurd h (by decide))
    refine wk_iconst (v := 0) (q := 22) dX12_status_21 rfl rfl ?_
    refine wk_istore_n (i := 2) (q := 23) (lv' := [_, _, _]) dX12_status_22 rfl rfl rfl rfl ?_
    refine wk_iconst (v := 0) (q := 24) dX12_status_23 rfl rfl ?_
    refine wk_istore_n (i := 3) (q := 25) (lv' := [_, _, _, _]) dX12_status_24 rfl rfl rfl rfl ?_
    refine lp_X12_status ?_ 7 0 0 (by omega) rfl
    by_cases hn : w < 0
    · (have e : w = -1 := (by have := hw.1; rw [fa_le, zn] at this; rw [fa_lt, z0] at hn; rw [fa_eq, zn]; omega); rw [stS_all hn]; exact h2 e)
    · (obtain ⟨k, -, hk, e⟩ := rng (x := w) (lo := 0) (hi := 6) (by omega) (by omega) ⟨by show 0 ≤ w; rw [fa_le]; rw [fa_lt] at hn; omega, hw.2⟩; subst e; rw [stS_one (by omega) 7 (by omega), if_pos (by omega)]; exact h1 k (by omega) rfl)
  · skip
    refine wk_if_ne (t := 21) (q := 14) dX12_status_11 rfl rfl (fun h => absurd (by decide) h) (fun _ => ?_)
    refine wk_aload_n (i := 0) (q := 15) dX12_status_14 rfl rfl rfl ?_
    refine wk_ldc (q := 17) dX12_status_15 kX12_41 rfl ?_
    refine wk_V1r (d' := 1) (q := 20) lkX12_63 dX12_status_17 rfl rfl rfl rfl rfl rfl rfl ?_
    refine ck_X12_finds (i := 0) (by decide) (by decide) ?_
    refine wk_ireturn dX12_status_20 rfl rfl ?_
    exact h0 hw
theorem lp_X12_sheet {b n : Int32} {s : Nat} (hs : s < 4) (hQ : Q (.int (m 80 s)) m (wrL L 81 (zrP (L 81) s 40))) : ∀ (r j : Nat), j + r = 40 → WK E 3 MX12_sheet 86 [(0, .ref (ev_z E + 72)), (1, .int (nI s)), (2, .int b), (3, .int n), (4, .int (nI j))] [] m (wrL L 81 (zrP (L 81) s j)) Q := by
  intro r
  induction r with
  | zero =>
    intro j hj
    refine wk_iload (i := 4) (q := 88) dX12_sheet_86 rfl rfl ?_
    refine wk_bipush (v := 40) (q := 90) dX12_sheet_88 rfl rfl ?_
    refine wk_icmp_ge (t := 112) (q := 93) dX12_sheet_90 rfl rfl (fun c90 => ?_) (fun h => absurd (nI_le (a := 40) (by omega) (by omega)) h)
    refine wk_aload_n (i := 0) (q := 113) dX12_sheet_112 rfl rfl rfl ?_
    refine wk_get (q := 116) fgX12_31 dX12_sheet_113 rfl rfl rfl rfl ?_
    refine wk_iload_n (i := 1) (q := 117) dX12_sheet_116 rfl rfl rfl ?_
    refine wk_iald (n := s) (q := 118) dX12_sheet_117 rfl rfl (by show _ < 4; omega) rfl ?_
    refine wk_ireturn dX12_sheet_118 rfl rfl ?_
    have e : j = 40 := by omega
    subst e
    exact hQ
  | succ r ih =>
    intro j hj
    refine wk_iload (i := 4) (q := 88) dX12_sheet_86 rfl rfl ?_
    refine wk_bipush (v := 40) (q := 90) dX12_sheet_88 rfl rfl ?_
    refine wk_icmp_ge (t := 112) (q := 93) dX12_sheet_90 rfl rfl (fun h => absurd h (nI_ge (b := 40) (by omega) (by omega))) (fun c90 => ?_)
    refine wk_aload_n (i := 0) (q := 94) dX12_sheet_93 rfl rfl rfl ?_
    refine wk_get (q := 97) fgX12_34 dX12_sheet_94 rfl rfl rfl rfl ?_
    refine wk_bipush (v := 40) (q := 99) dX12_sheet_97 rfl rfl ?_
    refine wk_iload_n (i := 1) (q := 100) dX12_sheet_99 rfl rfl rfl ?_
    refine wk_imul (q := 101) dX12_sheet_100 rfl ?_
    refine wk_iload (i := 4) (q := 103) dX12_sheet_101 rfl rfl ?_
    refine wk_iadd (q := 104) dX12_sheet_103 rfl ?_
    refine wk_lconst (v := 0) (q := 105) dX12_sheet_104 rfl rfl ?_
    refine wk_last (n := (40 * s + j)) (q := 106) dX12_sheet_105 rfl (n40 s j) (by show _ < 160; omega) rfl ?_
    rw [wrL_wrL, wrL_s, zrP_s]
    refine wk_iinc (w := 1) (q := 109) (lv' := [_, _, _, _, _]) dX12_sheet_106 rfl rfl rfl rfl rfl ?_
    rw [nI_1]
    refine wk_goto (t := 86) dX12_sheet_109 rfl ?_
    exact ih (j + 1) (by omega)
theorem ck_X12_sheet {si b n : Int32} (h1 : ∀ s, s < 4 → si = nI s → bOk b → 0 ≤ n ∧ n ≤ 40 → Q (.int (if b = 0 then 0 else n)) (wr (wr m 79 (upd (m 79) s b)) 80 (upd (m 80) s (if b = 0 then 0 else n))) (wrL L 81 (zrS (L 81) s))) (h2 : ∀ s, s < 4 → si = nI s → bOk b → n < 0 → Q (.int (-1000000007)) (rfA m 6) L) (h0 : ((∀ s, s < 4 → ¬ si = nI s) ∨ ¬ bOk b ∨ 40 < n) → Q (.int (-1000000001)) (rfA m 0) L) : CK E 3 MX12_sheet [.ref (ev_z E + 72), .int si, .int b, .int n] m L Q := by
  refine CK.of rfl rfl (lv := [(0, _), (1, _), (2, _), (3, _)]) rfl ?_
  refine wk_iload_n (i := 1) (q := 1) dX12_sheet_0 rfl rfl rfl ?_
  refine wk_S1r (d' := 2) (q := 4) lkX12_300 dX12_sheet_1 rfl rfl rfl rfl ?_
  refine ck_X12_isOne (fun s hs e => ?_) (fun hno => ?_)
  · skip
    subst e
    refine wk_if_eq (t := 29) (q := 7) dX12_sheet_4 rfl rfl (fun h => absurd h (by decide)) (fun _ => ?_)
    refine wk_iload_n (i := 2) (q := 8) dX12_sheet_7 rfl rfl rfl ?_
    refine wk_if_eq (t := 36) (q := 11) dX12_sheet_8 rfl rfl (fun c8 => ?_) (fun c8 => ?_)
    · skip
      have hb : bOk b := by (unfold bOk; first | exact Or.inl ‹_› | exact Or.inr (Or.inl ‹_›) | exact Or.inr (Or.inr (Or.inl ‹_›)) | exact Or.inr (Or.inr (Or.inr ‹_›)))
      refine wk_iload_n (i := 3) (q := 37) dX12_sheet_36 rfl rfl rfl ?_
      refine wk_if_ge (t := 48) (q := 40) dX12_sheet_37 rfl rfl (fun c37 => ?_) (fun c37 => ?_)
      · skip
        refine wk_iload_n (i := 3) (q := 49) dX12_sheet_48 rfl rfl rfl ?_
        refine wk_bipush (v := 40) (q := 51) dX12_sheet_49 rfl rfl ?_
        refine wk_icmp_le (t := 61) (q := 54) dX12_sheet_51 rfl rfl (fun c51 => ?_) (fun c51 => ?_)
        · skip
          refine wk_aload_n (i := 0) (q := 62) dX12_sheet_61 rfl rfl rfl ?_
          refine wk_get (q := 65) fgX12_28 dX12_sheet_62 rfl rfl rfl rfl ?_
          refine wk_iload_n (i := 1) (q := 66) dX12_sheet_65 rfl rfl rfl ?_
          refine wk_iload_n (i := 2) (q := 67) dX12_sheet_66 rfl rfl rfl ?_
          refine wk_iast (n := s) (q := 68) dX12_sheet_67 rfl rfl (by show _ < 4; omega) rfl ?_
          refine wk_aload_n (i := 0) (q := 69) dX12_sheet_68 rfl rfl rfl ?_
          refine wk_get (q := 72) fgX12_31 dX12_sheet_69 rfl rfl rfl rfl ?_
          refine wk_iload_n (i := 1) (q := 73) dX12_sheet_72 rfl rfl rfl ?_
          refine wk_iload_n (i := 2) (q := 74) dX12_sheet_73 rfl rfl rfl ?_
          refine wk_if_ne (t := 81) (q := 77) dX12_sheet_74 rfl rfl (fun c74 => ?_) (fun c74 => ?_)
          · skip
            have hv : (if b = 0 then (0 : Int32) else n) = n := if_neg c74
            refine wk_iload_n (i := 3) (q := 82) dX12_sheet_81 rfl rfl rfl ?_
            refine wk_iast (n := s) (q := 83) dX12_sheet_82 rfl rfl (by show _ < 4; omega) rfl ?_
            rw [wr_n (show (80 : Nat) ≠ 79 by decide)]
            refine wk_iconst (v := 0) (q := 84) dX12_sheet_83 rfl rfl ?_
            refine wk_istore (i := 4) (q := 86) (lv' := [_, _, _, _, _]) dX12_sheet_84 rfl rfl rfl ?_
            have hq := h1 s hs rfl hb ⟨c37, c51⟩
            rw [hv] at hq
            have hl := lp_X12_sheet (E := E) (m := wr (wr m 79 (upd (m 79) s b)) 80 (upd (m 80) s _)) (L := L) (b := b) (n := n) hs (by rw [wr_s, upd_s]; exact hq) 40 0 (by omega)
            rw [zrP_0, wrL_self] at hl
            exact hl
          · skip
            have hv : (if b = 0 then (0 : Int32) else n) = 0 := if_pos c74
            refine wk_iconst (v := 0) (q := 78) dX12_sheet_77 rfl rfl ?_
            refine wk_goto (t := 82) dX12_sheet_78 rfl ?_
            refine wk_iast (n := s) (q := 83) dX12_sheet_82 rfl rfl (by show _ < 4; omega) rfl ?_
            rw [wr_n (show (80 : Nat) ≠ 79 by decide)]
            refine wk_iconst (v := 0) (q := 84) dX12_sheet_83 rfl rfl ?_
            refine wk_istore (i := 4) (q := 86) (lv' := [_, _, _, _, _]) dX12_sheet_84 rfl rfl rfl ?_
            have hq := h1 s hs rfl hb ⟨c37, c51⟩
            rw [hv] at hq
            have hl := lp_X12_sheet (E := E) (m := wr (wr m 79 (upd (m 79) s b)) 80 (upd (m 80) s _)) (L := L) (b := b) (n := n) hs (by rw [wr_s, upd_s]; exact hq) 40 0 (by omega)
            rw [zrP_0, wrL_self] at hl
            exact hl
        · skip
          refine wk_aload_n (i := 0) (q := 55) dX12_sheet_54 rfl rfl rfl ?_
          refine wk_ldc (q := 57) dX12_sheet_55 kX12_41 rfl ?_
          refine wk_V1r (d' := 1) (q := 60) lkX12_63 dX12_sheet_57 rfl rfl rfl rfl rfl rfl rfl ?_
          refine ck_X12_finds (i := 0) (by decide) (by decide) ?_
          refine wk_ireturn dX12_sheet_60 rfl rfl ?_
          exact h0 (Or.inr (Or.inr (by rw [fa_lt]; rw [fa_le] at c51; omega)))
      · skip
        refine wk_aload_n (i := 0) (q := 41) dX12_sheet_40 rfl rfl rfl ?_
        refine wk_ldcw (q := 44) dX12_sheet_41 kX12_303 rfl ?_
        refine wk_V1r (d' := 1) (q := 47) lkX12_63 dX12_sheet_44 rfl rfl rfl rfl rfl rfl rfl ?_
        refine ck_X12_finds (i := 6) (by decide) (by decide) ?_
        refine wk_ireturn dX12_sheet_47 rfl rfl ?_
        exact h2 s hs rfl hb (by rw [fa_lt]; rw [fa_le] at c37; omega)
    · skip
      refine wk_iload_n (i := 2) (q := 12) dX12_sheet_11 rfl rfl rfl ?_
      refine wk_bipush (v := 8) (q := 14) dX12_sheet_12 rfl rfl ?_
      refine wk_icmp_eq (t := 36) (q := 17) dX12_sheet_14 rfl rfl (fun c14 => ?_) (fun c14 => ?_)
      · skip
        have hb : bOk b := by (unfold bOk; first | exact Or.inl ‹_› | exact Or.inr (Or.inl ‹_›) | exact Or.inr (Or.inr (Or.inl ‹_›)) | exact Or.inr (Or.inr (Or.inr ‹_›)))
        refine wk_iload_n (i := 3) (q := 37) dX12_sheet_36 rfl rfl rfl ?_
        refine wk_if_ge (t := 48) (q := 40) dX12_sheet_37 rfl rfl (fun c37 => ?_) (fun c37 => ?_)
        · skip
          refine wk_iload_n (i := 3) (q := 49) dX12_sheet_48 rfl rfl rfl ?_
          refine wk_bipush (v := 40) (q := 51) dX12_sheet_49 rfl rfl ?_
          refine wk_icmp_le (t := 61) (q := 54) dX12_sheet_51 rfl rfl (fun c51 => ?_) (fun c51 => ?_)
          · skip
            refine wk_aload_n (i := 0) (q := 62) dX12_sheet_61 rfl rfl rfl ?_
            refine wk_get (q := 65) fgX12_28 dX12_sheet_62 rfl rfl rfl rfl ?_
            refine wk_iload_n (i := 1) (q := 66) dX12_sheet_65 rfl rfl rfl ?_
            refine wk_iload_n (i := 2) (q := 67) dX12_sheet_66 rfl rfl rfl ?_
            refine wk_iast (n := s) (q := 68) dX12_sheet_67 rfl rfl (by show _ < 4; omega) rfl ?_
            refine wk_aload_n (i := 0) (q := 69) dX12_sheet_68 rfl rfl rfl ?_
            refine wk_get (q := 72) fgX12_31 dX12_sheet_69 rfl rfl rfl rfl ?_
            refine wk_iload_n (i := 1) (q := 73) dX12_sheet_72 rfl rfl rfl ?_
            refine wk_iload_n (i := 2) (q := 74) dX12_sheet_73 rfl rfl rfl ?_
            refine wk_if_ne (t := 81) (q := 77) dX12_sheet_74 rfl rfl (fun c74 => ?_) (fun c74 => ?_)
            · skip
              have hv : (if b = 0 then (0 : Int32) else n) = n := if_neg c74
              refine wk_iload_n (i := 3) (q := 82) dX12_sheet_81 rfl rfl rfl ?_
              refine wk_iast (n := s) (q := 83) dX12_sheet_82 rfl rfl (by show _ < 4; omega) rfl ?_
              rw [wr_n (show (80 : Nat) ≠ 79 by decide)]
              refine wk_iconst (v := 0) (q := 84) dX12_sheet_83 rfl rfl ?_
              refine wk_istore (i := 4) (q := 86) (lv' := [_, _, _, _, _]) dX12_sheet_84 rfl rfl rfl ?_
              have hq := h1 s hs rfl hb ⟨c37, c51⟩
              rw [hv] at hq
              have hl := lp_X12_sheet (E := E) (m := wr (wr m 79 (upd (m 79) s b)) 80 (upd (m 80) s _)) (L := L) (b := b) (n := n) hs (by rw [wr_s, upd_s]; exact hq) 40 0 (by omega)
              rw [zrP_0, wrL_self] at hl
              exact hl
            · skip
              have hv : (if b = 0 then (0 : Int32) else n) = 0 := if_pos c74
              refine wk_iconst (v := 0) (q := 78) dX12_sheet_77 rfl rfl ?_
              refine wk_goto (t := 82) dX12_sheet_78 rfl ?_
              refine wk_iast (n := s) (q := 83) dX12_sheet_82 rfl rfl (by show _ < 4; omega) rfl ?_
              rw [wr_n (show (80 : Nat) ≠ 79 by decide)]
              refine wk_iconst (v := 0) (q := 84) dX12_sheet_83 rfl rfl ?_
              refine wk_istore (i := 4) (q := 86) (lv' := [_, _, _, _, _]) dX12_sheet_84 rfl rfl rfl ?_
              have hq := h1 s hs rfl hb ⟨c37, c51⟩
              rw [hv] at hq
              have hl := lp_X12_sheet (E := E) (m := wr (wr m 79 (upd (m 79) s b)) 80 (upd (m 80) s _)) (L := L) (b := b) (n := n) hs (by rw [wr_s, upd_s]; exact hq) 40 0 (by omega)
              rw [zrP_0, wrL_self] at hl
              exact hl
          · skip
            refine wk_aload_n (i := 0) (q := 55) dX12_sheet_54 rfl rfl rfl ?_
            refine wk_ldc (q := 57) dX12_sheet_55 kX12_41 rfl ?_
            refine wk_V1r (d' := 1) (q := 60) lkX12_63 dX12_sheet_57 rfl rfl rfl rfl rfl rfl rfl ?_
            refine ck_X12_finds (i := 0) (by decide) (by decide) ?_
            refine wk_ireturn dX12_sheet_60 rfl rfl ?_
            exact h0 (Or.inr (Or.inr (by rw [fa_lt]; rw [fa_le] at c51; omega)))
        · skip
          refine wk_aload_n (i := 0) (q := 41) dX12_sheet_40 rfl rfl rfl ?_
          refine wk_ldcw (q := 44) dX12_sheet_41 kX12_303 rfl ?_
          refine wk_V1r (d' := 1) (q := 47) lkX12_63 dX12_sheet_44 rfl rfl rfl rfl rfl rfl rfl ?_
          refine ck_X12_finds (i := 6) (by decide) (by decide) ?_
          refine wk_ireturn dX12_sheet_47 rfl rfl ?_
          exact h2 s hs rfl hb (by rw [fa_lt]; rw [fa_le] at c37; omega)
      · skip
        refine wk_iload_n (i := 2) (q := 18) dX12_sheet_17 rfl rfl rfl ?_
        refine wk_bipush (v := 16) (q := 20) dX12_sheet_18 rfl rfl ?_
        refine wk_icmp_eq (t := 36) (q := 23) dX12_sheet_20 rfl rfl (fun c20 => ?_) (fun c20 => ?_)
        · skip
          have hb : bOk b := by (unfold bOk; first | exact Or.inl ‹_› | exact Or.inr (Or.inl ‹_›) | exact Or.inr (Or.inr (Or.inl ‹_›)) | exact Or.inr (Or.inr (Or.inr ‹_›)))
          refine wk_iload_n (i := 3) (q := 37) dX12_sheet_36 rfl rfl rfl ?_
          refine wk_if_ge (t := 48) (q := 40) dX12_sheet_37 rfl rfl (fun c37 => ?_) (fun c37 => ?_)
          · skip
            refine wk_iload_n (i := 3) (q := 49) dX12_sheet_48 rfl rfl rfl ?_
            refine wk_bipush (v := 40) (q := 51) dX12_sheet_49 rfl rfl ?_
            refine wk_icmp_le (t := 61) (q := 54) dX12_sheet_51 rfl rfl (fun c51 => ?_) (fun c51 => ?_)
            · skip
              refine wk_aload_n (i := 0) (q := 62) dX12_sheet_61 rfl rfl rfl ?_
              refine wk_get (q := 65) fgX12_28 dX12_sheet_62 rfl rfl rfl rfl ?_
              refine wk_iload_n (i := 1) (q := 66) dX12_sheet_65 rfl rfl rfl ?_
              refine wk_iload_n (i := 2) (q := 67) dX12_sheet_66 rfl rfl rfl ?_
              refine wk_iast (n := s) (q := 68) dX12_sheet_67 rfl rfl (by show _ < 4; omega) rfl ?_
              refine wk_aload_n (i := 0) (q := 69) dX12_sheet_68 rfl rfl rfl ?_
              refine wk_get (q := 72) fgX12_31 dX12_sheet_69 rfl rfl rfl rfl ?_
              refine wk_iload_n (i := 1) (q := 73) dX12_sheet_72 rfl rfl rfl ?_
              refine wk_iload_n (i := 2) (q := 74) dX12_sheet_73 rfl rfl rfl ?_
              refine wk_if_ne (t := 81) (q := 77) dX12_sheet_74 rfl rfl (fun c74 => ?_) (fun c74 => ?_)
              · skip
                have hv : (if b = 0 then (0 : Int32) else n) = n := if_neg c74
                refine wk_iload_n (i := 3) (q := 82) dX12_sheet_81 rfl rfl rfl ?_
                refine wk_iast (n := s) (q := 83) dX12_sheet_82 rfl rfl (by show _ < 4; omega) rfl ?_
                rw [wr_n (show (80 : Nat) ≠ 79 by decide)]
                refine wk_iconst (v := 0) (q := 84) dX12_sheet_83 rfl rfl ?_
                refine wk_istore (i := 4) (q := 86) (lv' := [_, _, _, _, _]) dX12_sheet_84 rfl rfl rfl ?_
                have hq := h1 s hs rfl hb ⟨c37, c51⟩
                rw [hv] at hq
                have hl := lp_X12_sheet (E := E) (m := wr (wr m 79 (upd (m 79) s b)) 80 (upd (m 80) s _)) (L := L) (b := b) (n := n) hs (by rw [wr_s, upd_s]; exact hq) 40 0 (by omega)
                rw [zrP_0, wrL_self] at hl
                exact hl
              · skip
                have hv : (if b = 0 then (0 : Int32) else n) = 0 := if_pos c74
                refine wk_iconst (v := 0) (q := 78) dX12_sheet_77 rfl rfl ?_
                refine wk_goto (t := 82) dX12_sheet_78 rfl ?_
                refine wk_iast (n := s) (q := 83) dX12_sheet_82 rfl rfl (by show _ < 4; omega) rfl ?_
                rw [wr_n (show (80 : Nat) ≠ 79 by decide)]
                refine wk_iconst (v := 0) (q := 84) dX12_sheet_83 rfl rfl ?_
                refine wk_istore (i := 4) (q := 86) (lv' := [_, _, _, _, _]) dX12_sheet_84 rfl rfl rfl ?_
                have hq := h1 s hs rfl hb ⟨c37, c51⟩
                rw [hv] at hq
                have hl := lp_X12_sheet (E := E) (m := wr (wr m 79 (upd (m 79) s b)) 80 (upd (m 80) s _)) (L := L) (b := b) (n := n) hs (by rw [wr_s, upd_s]; exact hq) 40 0 (by omega)
                rw [zrP_0, wrL_self] at hl
                exact hl
            · skip
              refine wk_aload_n (i := 0) (q := 55) dX12_sheet_54 rfl rfl rfl ?_
              refine wk_ldc (q := 57) dX12_sheet_55 kX12_41 rfl ?_
              refine wk_V1r (d' := 1) (q := 60) lkX12_63 dX12_sheet_57 rfl rfl rfl rfl rfl rfl rfl ?_
              refine ck_X12_finds (i := 0) (by decide) (by decide) ?_
              refine wk_ireturn dX12_sheet_60 rfl rfl ?_
              exact h0 (Or.inr (Or.inr (by rw [fa_lt]; rw [fa_le] at c51; omega)))
          · skip
            refine wk_aload_n (i := 0) (q := 41) dX12_sheet_40 rfl rfl rfl ?_
            refine wk_ldcw (q := 44) dX12_sheet_41 kX12_303 rfl ?_
            refine wk_V1r (d' := 1) (q := 47) lkX12_63 dX12_sheet_44 rfl rfl rfl rfl rfl rfl rfl ?_
            refine ck_X12_finds (i := 6) (by decide) (by decide) ?_
            refine wk_ireturn dX12_sheet_47 rfl rfl ?_
            exact h2 s hs rfl hb (by rw [fa_lt]; rw [fa_le] at c37; omega)
        · skip
          refine wk_iload_n (i := 2) (q := 24) dX12_sheet_23 rfl rfl rfl ?_
          refine wk_bipush (v := 64) (q := 26) dX12_sheet_24 rfl rfl ?_
          refine wk_icmp_eq (t := 36) (q := 29) dX12_sheet_26 rfl rfl (fun c26 => ?_) (fun c26 => ?_)
          · skip
            have hb : bOk b := by (unfold bOk; first | exact Or.inl ‹_› | exact Or.inr (Or.inl ‹_›) | exact Or.inr (Or.inr (Or.inl ‹_›)) | exact Or.inr (Or.inr (Or.inr ‹_›)))
            refine wk_iload_n (i := 3) (q := 37) dX12_sheet_36 rfl rfl rfl ?_
            refine wk_if_ge (t := 48) (q := 40) dX12_sheet_37 rfl rfl (fun c37 => ?_) (fun c37 => ?_)
            · skip
              refine wk_iload_n (i := 3) (q := 49) dX12_sheet_48 rfl rfl rfl ?_
              refine wk_bipush (v := 40) (q := 51) dX12_sheet_49 rfl rfl ?_
              refine wk_icmp_le (t := 61) (q := 54) dX12_sheet_51 rfl rfl (fun c51 => ?_) (fun c51 => ?_)
              · skip
                refine wk_aload_n (i := 0) (q := 62) dX12_sheet_61 rfl rfl rfl ?_
                refine wk_get (q := 65) fgX12_28 dX12_sheet_62 rfl rfl rfl rfl ?_
                refine wk_iload_n (i := 1) (q := 66) dX12_sheet_65 rfl rfl rfl ?_
                refine wk_iload_n (i := 2) (q := 67) dX12_sheet_66 rfl rfl rfl ?_
                refine wk_iast (n := s) (q := 68) dX12_sheet_67 rfl rfl (by show _ < 4; omega) rfl ?_
                refine wk_aload_n (i := 0) (q := 69) dX12_sheet_68 rfl rfl rfl ?_
                refine wk_get (q := 72) fgX12_31 dX12_sheet_69 rfl rfl rfl rfl ?_
                refine wk_iload_n (i := 1) (q := 73) dX12_sheet_72 rfl rfl rfl ?_
                refine wk_iload_n (i := 2) (q := 74) dX12_sheet_73 rfl rfl rfl ?_
                refine wk_if_ne (t := 81) (q := 77) dX12_sheet_74 rfl rfl (fun c74 => ?_) (fun c74 => ?_)
                · skip
                  have hv : (if b = 0 then (0 : Int32) else n) = n := if_neg c74
                  refine wk_iload_n (i := 3) (q := 82) dX12_sheet_81 rfl rfl rfl ?_
                  refine wk_iast (n := s) (q := 83) dX12_sheet_82 rfl rfl (by show _ < 4; omega) rfl ?_
                  rw [wr_n (show (80 : Nat) ≠ 79 by decide)]
                  refine wk_iconst (v := 0) (q := 84) dX12_sheet_83 rfl rfl ?_
                  refine wk_istore (i := 4) (q := 86) (lv' := [_, _, _, _, _]) dX12_sheet_84 rfl rfl rfl ?_
                  have hq := h1 s hs rfl hb ⟨c37, c51⟩
                  rw [hv] at hq
                  have hl := lp_X12_sheet (E := E) (m := wr (wr m 79 (upd (m 79) s b)) 80 (upd (m 80) s _)) (L := L) (b := b) (n := n) hs (by rw [wr_s, upd_s]; exact hq) 40 0 (by omega)
                  rw [zrP_0, wrL_self] at hl
                  exact hl
                · skip
                  have hv : (if b = 0 then (0 : Int32) else n) = 0 := if_pos c74
                  refine wk_iconst (v := 0) (q := 78) dX12_sheet_77 rfl rfl ?_
                  refine wk_goto (t := 82) dX12_sheet_78 rfl ?_
                  refine wk_iast (n := s) (q := 83) dX12_sheet_82 rfl rfl (by show _ < 4; omega) rfl ?_
                  rw [wr_n (show (80 : Nat) ≠ 79 by decide)]
                  refine wk_iconst (v := 0) (q := 84) dX12_sheet_83 rfl rfl ?_
                  refine wk_istore (i := 4) (q := 86) (lv' := [_, _, _, _, _]) dX12_sheet_84 rfl rfl rfl ?_
                  have hq := h1 s hs rfl hb ⟨c37, c51⟩
                  rw [hv] at hq
                  have hl := lp_X12_sheet (E := E) (m := wr (wr m 79 (upd (m 79) s b)) 80 (upd (m 80) s _)) (L := L) (b := b) (n := n) hs (by rw [wr_s, upd_s]; exact hq) 40 0 (by omega)
                  rw [zrP_0, wrL_self] at hl
                  exact hl
              · skip
                refine wk_aload_n (i := 0) (q := 55) dX12_sheet_54 rfl rfl rfl ?_
                refine wk_ldc (q := 57) dX12_sheet_55 kX12_41 rfl ?_
                refine wk_V1r (d' := 1) (q := 60) lkX12_63 dX12_sheet_57 rfl rfl rfl rfl rfl rfl rfl ?_
                refine ck_X12_finds (i := 0) (by decide) (by decide) ?_
                refine wk_ireturn dX12_sheet_60 rfl rfl ?_
                exact h0 (Or.inr (Or.inr (by rw [fa_lt]; rw [fa_le] at c51; omega)))
            · skip
              refine wk_aload_n (i := 0) (q := 41) dX12_sheet_40 rfl rfl rfl ?_
              refine wk_ldcw (q := 44) dX12_sheet_41 kX12_303 rfl ?_
              refine wk_V1r (d' := 1) (q := 47) lkX12_63 dX12_sheet_44 rfl rfl rfl rfl rfl rfl rfl ?_
              refine ck_X12_finds (i := 6) (by decide) (by decide) ?_
              refine wk_ireturn dX12_sheet_47 rfl rfl ?_
              exact h2 s hs rfl hb (by rw [fa_lt]; rw [fa_le] at c37; omega)
          · skip
            refine wk_aload_n (i := 0) (q := 30) dX12_sheet_29 rfl rfl rfl ?_
            refine wk_ldc (q := 32) dX12_sheet_30 kX12_41 rfl ?_
            refine wk_V1r (d' := 1) (q := 35) lkX12_63 dX12_sheet_32 rfl rfl rfl rfl rfl rfl rfl ?_
            refine ck_X12_finds (i := 0) (by decide) (by decide) ?_
            refine wk_ireturn dX12_sheet_35 rfl rfl ?_
            first | exact h0 (Or.inl hno) | exact h0 (Or.inr (Or.inl (fun hb => by rcases hb with e | e | e | e <;> first | exact c8 e | exact c14 e | exact c20 e | exact c26 e)))
  · skip
    refine wk_if_eq (t := 29) (q := 7) dX12_sheet_4 rfl rfl (fun _ => ?_) (fun h => absurd (by decide) h)
    refine wk_aload_n (i := 0) (q := 30) dX12_sheet_29 rfl rfl rfl ?_
    refine wk_ldc (q := 32) dX12_sheet_30 kX12_41 rfl ?_
    refine wk_V1r (d' := 1) (q := 35) lkX12_63 dX12_sheet_32 rfl rfl rfl rfl rfl rfl rfl ?_
    refine ck_X12_finds (i := 0) (by decide) (by decide) ?_
    refine wk_ireturn dX12_sheet_35 rfl rfl ?_
    first | exact h0 (Or.inl hno) | exact h0 (Or.inr (Or.inl (fun hb => by rcases hb with e | e | e | e <;> first | exact c8 e | exact c14 e | exact c20 e | exact c26 e)))
theorem ck_X12_narrowed {b : Int32} {v : Int64} (hQ : Q (.long (narF b v)) m L) : CK E 1 MX12_narrowed [.int b, .long v] m L Q := by
  unfold narF at hQ
  refine CK.of rfl rfl (lv := [(0, _), (1, _)]) rfl ?_
  refine wk_iload_n (i := 0) (q := 1) dX12_narrowed_0 rfl rfl rfl ?_
  refine wk_bipush (v := 8) (q := 3) dX12_narrowed_1 rfl rfl ?_
  refine wk_icmp_ne (t := 13) (q := 6) dX12_narrowed_3 rfl rfl (fun c3 => ?_) (fun c3 => ?_)
  · skip
    rw [if_neg c3] at hQ
    refine wk_iload_n (i := 0) (q := 14) dX12_narrowed_13 rfl rfl rfl ?_
    refine wk_bipush (v := 16) (q := 16) dX12_narrowed_14 rfl rfl ?_
    refine wk_icmp_ne (t := 26) (q := 19) dX12_narrowed_16 rfl rfl (fun c16 => ?_) (fun c16 => ?_)
    · skip
      rw [if_neg c16] at hQ
      refine wk_lload_n (i := 1) (q := 27) dX12_narrowed_26 rfl rfl rfl ?_
      refine wk_lreturn dX12_narrowed_27 rfl ?_
      exact hQ
    · skip
      rw [if_pos c16] at hQ
      refine wk_lload_n (i := 1) (q := 20) dX12_narrowed_19 rfl rfl rfl ?_
      refine wk_l2i (q := 21) dX12_narrowed_20 rfl ?_
      refine wk_i2s (q := 22) dX12_narrowed_21 rfl ?_
      refine wk_i2l (q := 23) dX12_narrowed_22 rfl ?_
      refine wk_goto (t := 27) dX12_narrowed_23 rfl ?_
      refine wk_lreturn dX12_narrowed_27 rfl ?_
      exact hQ
  · skip
    rw [if_pos c3] at hQ
    refine wk_lload_n (i := 1) (q := 7) dX12_narrowed_6 rfl rfl rfl ?_
    refine wk_l2i (q := 8) dX12_narrowed_7 rfl ?_
    refine wk_i2b (q := 9) dX12_narrowed_8 rfl ?_
    refine wk_i2l (q := 10) dX12_narrowed_9 rfl ?_
    refine wk_goto (t := 27) dX12_narrowed_10 rfl ?_
    refine wk_lreturn dX12_narrowed_27 rfl ?_
    exact hQ
theorem ck_X12_wrongSheet {v : Int32} (h0 : (∀ n, n < 4 → ¬ v = nI n) → Q (.int (-1000000001)) m L) (h2 : ∀ n, n < 4 → v = nI n → m 79 n = 0 → Q (.int (-1000000006)) m L) (h1 : ∀ n, n < 4 → v = nI n → ¬ m 79 n = 0 → Q (.int 0) m L) : CK E 3 MX12_wrongSheet [.ref (ev_z E + 72), .int v] m L Q := by
  refine CK.of rfl rfl (lv := [(0, _), (1, _)]) rfl ?_
  refine wk_iload_n (i := 1) (q := 1) dX12_wrongSheet_0 rfl rfl rfl ?_
  refine wk_S1r (d' := 2) (q := 4) lkX12_300 dX12_wrongSheet_1 rfl rfl rfl rfl ?_
  refine ck_X12_isOne (fun s hs e => ?_) (fun hno => ?_)
  · skip
    subst e
    refine wk_if_ne (t := 12) (q := 7) dX12_wrongSheet_4 rfl rfl (fun _ => ?_) (fun h => absurd h (by decide))
    refine wk_aload_n (i := 0) (q := 13) dX12_wrongSheet_12 rfl rfl rfl ?_
    refine wk_get (q := 16) fgX12_28 dX12_wrongSheet_13 rfl rfl rfl rfl ?_
    refine wk_iload_n (i := 1) (q := 17) dX12_wrongSheet_16 rfl rfl rfl ?_
    refine wk_iald (n := s) (q := 18) dX12_wrongSheet_17 rfl rfl (by show _ < 4; omega) rfl ?_
    refine wk_if_ne (t := 27) (q := 21) dX12_wrongSheet_18 rfl rfl (fun c18 => ?_) (fun c18 => ?_)
    · skip
      refine wk_iconst (v := 0) (q := 28) dX12_wrongSheet_27 rfl rfl ?_
      refine wk_ireturn dX12_wrongSheet_28 rfl rfl ?_
      first | exact h0 hno | exact h2 s hs rfl c18 | exact h1 s hs rfl c18
    · skip
      refine wk_ldcw (q := 24) dX12_wrongSheet_21 kX12_304 rfl ?_
      refine wk_goto (t := 28) dX12_wrongSheet_24 rfl ?_
      refine wk_ireturn dX12_wrongSheet_28 rfl rfl ?_
      first | exact h0 hno | exact h2 s hs rfl c18 | exact h1 s hs rfl c18
  · skip
    refine wk_if_ne (t := 12) (q := 7) dX12_wrongSheet_4 rfl rfl (fun h => absurd (by decide) h) (fun _ => ?_)
    refine wk_ldc (q := 9) dX12_wrongSheet_7 kX12_41 rfl ?_
    refine wk_goto (t := 28) dX12_wrongSheet_9 rfl ?_
    refine wk_ireturn dX12_wrongSheet_28 rfl rfl ?_
    first | exact h0 hno | exact h2 s hs rfl c18 | exact h1 s hs rfl c18
theorem ck_X12_write {si i : Int32} {v : Int64} {c : Nat → Nat} (hc : ∀ s, s < 4 → m 80 s = nI (c s) ∧ c s ≤ 40) (h1 : ∀ s n, s < 4 → n < c s → si = nI s → i = nI n → ¬ m 79 s = 0 → Q (.long (L 81 (40 * s + n))) m (wrL L 81 (vp_updL (L 81) (40 * s + n) (narF (m 79 s) v)))) (h2 : ∀ s, s < 4 → si = nI s → m 79 s = 0 → Q (.long (Int32.toInt64 (-1000000006))) (rfA m 5) L) (h3 : ∀ s, s < 4 → si = nI s → ¬ m 79 s = 0 → (∀ n, n < c s → ¬ i = nI n) → Q (.long (Int32.toInt64 (-1000000001))) (rfA m 0) L) (h0 : (∀ s, s < 4 → ¬ si = nI s) → Q (.long (Int32.toInt64 (-1000000001))) (rfA m 0) L) : CK E 4 MX12_write [.ref (ev_z E + 72), .int si, .int i, .long v] m L Q := by
  refine CK.of rfl rfl (lv := [(0, _), (1, _), (2, _), (3, _)]) rfl ?_
  refine wk_aload_n (i := 0) (q := 1) dX12_write_0 rfl rfl rfl ?_
  refine wk_iload_n (i := 1) (q := 2) dX12_write_1 rfl rfl rfl ?_
  refine wk_V1r (d' := 3) (q := 5) lkX12_305 dX12_write_2 rfl rfl rfl rfl rfl rfl rfl ?_
  refine ck_X12_wrongSheet (fun hno => ?_) (fun s hs e hm => ?_) (fun s hs e hm => ?_)
  · skip
    refine wk_istore (i := 5) (q := 7) (lv' := [_, _, _, _, _]) dX12_write_5 rfl rfl rfl ?_
    refine wk_iload (i := 5) (q := 9) dX12_write_7 rfl rfl ?_
    refine wk_if_eq (t := 20) (q := 12) dX12_write_9 rfl rfl (fun h => absurd h (by decide)) (fun _ => ?_)
    refine wk_aload_n (i := 0) (q := 13) dX12_write_12 rfl rfl rfl ?_
    refine wk_iload (i := 5) (q := 15) dX12_write_13 rfl rfl ?_
    refine wk_V1r (d' := 1) (q := 18) lkX12_63 dX12_write_15 rfl rfl rfl rfl rfl rfl rfl ?_
    refine ck_X12_finds (i := 0) (by decide) (by decide) ?_
    refine wk_i2l (q := 19) dX12_write_18 rfl ?_
    refine wk_lreturn dX12_write_19 rfl ?_
    first | exact h0 hno | exact h2 s hs rfl hm
  · skip
    subst e
    refine wk_istore (i := 5) (q := 7) (lv' := [_, _, _, _, _]) dX12_write_5 rfl rfl rfl ?_
    refine wk_iload (i := 5) (q := 9) dX12_write_7 rfl rfl ?_
    refine wk_if_eq (t := 20) (q := 12) dX12_write_9 rfl rfl (fun h => absurd h (by decide)) (fun _ => ?_)
    refine wk_aload_n (i := 0) (q := 13) dX12_write_12 rfl rfl rfl ?_
    refine wk_iload (i := 5) (q := 15) dX12_write_13 rfl rfl ?_
    refine wk_V1r (d' := 1) (q := 18) lkX12_63 dX12_write_15 rfl rfl rfl rfl rfl rfl rfl ?_
    refine ck_X12_finds (i := 5) (by decide) (by decide) ?_
    refine wk_i2l (q := 19) dX12_write_18 rfl ?_
    refine wk_lreturn dX12_write_19 rfl ?_
    first | exact h0 hno | exact h2 s hs rfl hm
  · skip
    subst e
    obtain ⟨q1, q2⟩ := hc s hs
    refine wk_istore (i := 5) (q := 7) (lv' := [_, _, _, _, _]) dX12_write_5 rfl rfl rfl ?_
    refine wk_iload (i := 5) (q := 9) dX12_write_7 rfl rfl ?_
    refine wk_if_eq (t := 20) (q := 12) dX12_write_9 rfl rfl (fun _ => ?_) (fun h => absurd (by decide) h)
    refine wk_iload_n (i := 2) (q := 21) dX12_write_20 rfl rfl rfl ?_
    refine wk_i2l (q := 22) dX12_write_21 rfl ?_
    refine wk_lconst (v := 0) (q := 23) dX12_write_22 rfl rfl ?_
    refine wk_aload_n (i := 0) (q := 24) dX12_write_23 rfl rfl rfl ?_
    refine wk_get (q := 27) fgX12_31 dX12_write_24 rfl rfl rfl rfl ?_
    refine wk_iload_n (i := 1) (q := 28) dX12_write_27 rfl rfl rfl ?_
    refine wk_iald (n := s) (q := 29) dX12_write_28 rfl rfl (by show _ < 4; omega) rfl ?_
    refine wk_iconst (v := 1) (q := 30) dX12_write_29 rfl rfl ?_
    refine wk_isub (q := 31) dX12_write_30 rfl ?_
    refine wk_i2l (q := 32) dX12_write_31 rfl ?_
    rw [q1]
    refine wk_S3r (d' := 1) (q := 35) lkX12_46 dX12_write_32 rfl rfl rfl rfl ?_
    refine ck_X12_in (lo := 0)  (fun hw => ?_) (fun hw => ?_)
    · skip
      obtain ⟨n, hn, rfl⟩ := wi_c (by omega) hw
      refine wk_if_ne (t := 46) (q := 38) dX12_write_35 rfl rfl (fun _ => ?_) (fun h => absurd h (by decide))
      refine wk_aload_n (i := 0) (q := 47) dX12_write_46 rfl rfl rfl ?_
      refine wk_get (q := 50) fgX12_34 dX12_write_47 rfl rfl rfl rfl ?_
      refine wk_bipush (v := 40) (q := 52) dX12_write_50 rfl rfl ?_
      refine wk_iload_n (i := 1) (q := 53) dX12_write_52 rfl rfl rfl ?_
      refine wk_imul (q := 54) dX12_write_53 rfl ?_
      refine wk_iload_n (i := 2) (q := 55) dX12_write_54 rfl rfl rfl ?_
      refine wk_iadd (q := 56) dX12_write_55 rfl ?_
      refine wk_lald (n := (40 * s + n)) (q := 57) dX12_write_56 rfl (n40 s n) (by show _ < 160; omega) rfl ?_
      refine wk_lstore (i := 6) (q := 59) (lv' := [_, _, _, _, _, _]) dX12_write_57 rfl rfl rfl ?_
      refine wk_aload_n (i := 0) (q := 60) dX12_write_59 rfl rfl rfl ?_
      refine wk_get (q := 63) fgX12_34 dX12_write_60 rfl rfl rfl rfl ?_
      refine wk_bipush (v := 40) (q := 65) dX12_write_63 rfl rfl ?_
      refine wk_iload_n (i := 1) (q := 66) dX12_write_65 rfl rfl rfl ?_
      refine wk_imul (q := 67) dX12_write_66 rfl ?_
      refine wk_iload_n (i := 2) (q := 68) dX12_write_67 rfl rfl rfl ?_
      refine wk_iadd (q := 69) dX12_write_68 rfl ?_
      refine wk_aload_n (i := 0) (q := 70) dX12_write_69 rfl rfl rfl ?_
      refine wk_get (q := 73) fgX12_28 dX12_write_70 rfl rfl rfl rfl ?_
      refine wk_iload_n (i := 1) (q := 74) dX12_write_73 rfl rfl rfl ?_
      refine wk_iald (n := s) (q := 75) dX12_write_74 rfl rfl (by show _ < 4; omega) rfl ?_
      refine wk_lload_n (i := 3) (q := 76) dX12_write_75 rfl rfl rfl ?_
      refine wk_S2r (d' := 1) (q := 79) lkX12_308 dX12_write_76 rfl rfl rfl rfl ?_
      refine ck_X12_narrowed ?_
      refine wk_last (n := (40 * s + n)) (q := 80) dX12_write_79 rfl (n40 s n) (by show _ < 160; omega) rfl ?_
      refine wk_lload (i := 6) (q := 82) dX12_write_80 rfl rfl ?_
      refine wk_lreturn dX12_write_82 rfl ?_
      exact h1 s n hs hn rfl rfl hm
    · skip
      refine wk_if_ne (t := 46) (q := 38) dX12_write_35 rfl rfl (fun h => absurd (by decide) h) (fun _ => ?_)
      refine wk_aload_n (i := 0) (q := 39) dX12_write_38 rfl rfl rfl ?_
      refine wk_ldc (q := 41) dX12_write_39 kX12_41 rfl ?_
      refine wk_V1r (d' := 1) (q := 44) lkX12_63 dX12_write_41 rfl rfl rfl rfl rfl rfl rfl ?_
      refine ck_X12_finds (i := 0) (by decide) (by decide) ?_
      refine wk_i2l (q := 45) dX12_write_44 rfl ?_
      refine wk_lreturn dX12_write_45 rfl ?_
      exact h3 s hs rfl hm (fun n hn e => by subst e; exact hw (wi_c' (by omega) hn))
def mvR (L : Ml) (s f j : Nat) : Nat → Int64 := fun x => if x < j then L 81 (40 * s + f + x) else L 82 x
def cpP (F : Nat → Int64) (s f t o j : Nat) : Nat → Int64 := fun x => if 40 * t + o ≤ x ∧ x < 40 * t + o + j then F (40 * s + f + (x - (40 * t + o))) else F x
theorem lp2_X12_copy {s f t o k : Nat} {M : Nat → Int64} (hs : s < 4) (ht : t < 4) (hf : f + k ≤ 40) (ho : o + k ≤ 40) (hM : ∀ x, x < k → M x = L 81 (40 * s + f + x)) (hQ : Q (.int (nI k)) m (wrL (wrL L 82 M) 81 (cpS (L 81) s f t o k))) : ∀ (r j : Nat), j + r = k → WK E 3 MX12_copy 157 [(0, .ref (ev_z E + 72)), (1, .int (nI s)), (2, .int (nI f)), (3, .int (nI t)), (4, .int (nI o)), (5, .int (nI k)), (6, .int (nI j))] [] m (wrL (wrL L 82 M) 81 (cpP (L 81) s f t o j)) Q := by
  intro r
  induction r with
  | zero =>
    intro j hj
    refine wk_iload (i := 6) (q := 159) dX12_copy_157 rfl rfl ?_
    refine wk_iload (i := 5) (q := 161) dX12_copy_159 rfl rfl ?_
    refine wk_icmp_ge (t := 192) (q := 164) dX12_copy_161 rfl rfl (fun c161 => ?_) (fun h => absurd (nI_le (by omega) (by omega)) h)
    refine wk_iload (i := 5) (q := 194) dX12_copy_192 rfl rfl ?_
    refine wk_ireturn dX12_copy_194 rfl rfl ?_
    have e : j = k := by omega
    subst e
    exact hQ
  | succ r ih =>
    intro j hj
    have hz : vp_updL (cpP (L 81) s f t o j) (40 * t + o + j) (M j) = cpP (L 81) s f t o (j + 1) := by
      funext x
      unfold vp_updL cpP
      by_cases e : x = 40 * t + o + j
      · rw [if_pos e, if_pos (by omega), hM j (by omega)]
        congr 1
        omega
      · rw [if_neg e]
        by_cases e2 : 40 * t + o ≤ x ∧ x < 40 * t + o + j
        · rw [if_pos e2, if_pos (by omega)]
        · rw [if_neg e2, if_neg (by omega)]
    refine wk_iload (i := 6) (q := 159) dX12_copy_157 rfl rfl ?_
    refine wk_iload (i := 5) (q := 161) dX12_copy_159 rfl rfl ?_
    refine wk_icmp_ge (t := 192) (q := 164) dX12_copy_161 rfl rfl (fun h => absurd h (nI_ge (by omega) (by omega))) (fun c161 => ?_)
    refine wk_aload_n (i := 0) (q := 165) dX12_copy_164 rfl rfl rfl ?_
    refine wk_get (q := 168) fgX12_34 dX12_copy_165 rfl rfl rfl rfl ?_
    refine wk_bipush (v := 40) (q := 170) dX12_copy_168 rfl rfl ?_
    refine wk_iload_n (i := 3) (q := 171) dX12_copy_170 rfl rfl rfl ?_
    refine wk_imul (q := 172) dX12_copy_171 rfl ?_
    refine wk_iload (i := 4) (q := 174) dX12_copy_172 rfl rfl ?_
    refine wk_iadd (q := 175) dX12_copy_174 rfl ?_
    refine wk_iload (i := 6) (q := 177) dX12_copy_175 rfl rfl ?_
    refine wk_iadd (q := 178) dX12_copy_177 rfl ?_
    refine wk_aload_n (i := 0) (q := 179) dX12_copy_178 rfl rfl rfl ?_
    refine wk_get (q := 182) fgX12_38 dX12_copy_179 rfl rfl rfl rfl ?_
    refine wk_iload (i := 6) (q := 184) dX12_copy_182 rfl rfl ?_
    refine wk_lald (n := j) (q := 185) dX12_copy_184 rfl rfl (by show _ < 40; omega) rfl ?_
    rw [wrL_n (show (82 : Nat) ≠ 81 by decide), wrL_s]
    refine wk_last (n := (40 * t + o + j)) (q := 186) dX12_copy_185 rfl (by rw [n40, nI_add]) (by show _ < 160; omega) rfl ?_
    rw [wrL_wrL, wrL_s, hz]
    refine wk_iinc (w := 1) (q := 189) (lv' := [_, _, _, _, _, _, _]) dX12_copy_186 rfl rfl rfl rfl rfl ?_
    rw [nI_1]
    refine wk_goto (t := 157) dX12_copy_189 rfl ?_
    exact ih (j + 1) (by omega)
theorem lp1_X12_copy {s f t o k : Nat} (hs : s < 4) (ht : t < 4) (hf : f + k ≤ 40) (ho : o + k ≤ 40) (hQ : ∀ M, Q (.int (nI k)) m (wrL (wrL L 82 M) 81 (cpS (L 81) s f t o k))) : ∀ (r j : Nat), j + r = k → WK E 3 MX12_copy 120 [(0, .ref (ev_z E + 72)), (1, .int (nI s)), (2, .int (nI f)), (3, .int (nI t)), (4, .int (nI o)), (5, .int (nI k)), (6, .int (nI j))] [] m (wrL L 82 (mvR L s f j)) Q := by
  intro r
  induction r with
  | zero =>
    intro j hj
    have e : j = k := by omega
    subst e
    refine wk_iload (i := 6) (q := 122) dX12_copy_120 rfl rfl ?_
    refine wk_iload (i := 5) (q := 124) dX12_copy_122 rfl rfl ?_
    refine wk_icmp_ge (t := 154) (q := 127) dX12_copy_124 rfl rfl (fun c124 => ?_) (fun h => absurd (nI_le (by omega) (by omega)) h)
    refine wk_iconst (v := 0) (q := 155) dX12_copy_154 rfl rfl ?_
    refine wk_istore (i := 6) (q := 157) (lv' := [_, _, _, _, _, _, _]) dX12_copy_155 rfl rfl rfl ?_
    have hl := lp2_X12_copy (E := E) (m := m) (L := L) (M := mvR L s f j) hs ht hf ho (fun x hx => if_pos hx) (hQ _) j 0 (by omega)
    rw [show cpP (L 81) s f t o 0 = (wrL L 82 (mvR L s f j)) 81 from by rw [wrL_n (by decide)]; funext x; unfold cpP; rw [if_neg (by omega)], wrL_self] at hl
    exact hl
  | succ r ih =>
    intro j hj
    have hz : vp_updL (mvR L s f j) j (L 81 (40 * s + f + j)) = mvR L s f (j + 1) := by
      funext x
      unfold vp_updL mvR
      by_cases e : x = j
      · rw [if_pos e, if_pos (by omega), e]
      · rw [if_neg e]
        by_cases e2 : x < j
        · rw [if_pos e2, if_pos (by omega)]
        · rw [if_neg e2, if_neg (by omega)]
    refine wk_iload (i := 6) (q := 122) dX12_copy_120 rfl rfl ?_
    refine wk_iload (i := 5) (q := 124) dX12_copy_122 rfl rfl ?_
    refine wk_icmp_ge (t := 154) (q := 127) dX12_copy_124 rfl rfl (fun h => absurd h (nI_ge (by omega) (by omega))) (fun c124 => ?_)
    refine wk_aload_n (i := 0) (q := 128) dX12_copy_127 rfl rfl rfl ?_
    refine wk_get (q := 131) fgX12_38 dX12_copy_128 rfl rfl rfl rfl ?_
    refine wk_iload (i := 6) (q := 133) dX12_copy_131 rfl rfl ?_
    refine wk_aload_n (i := 0) (q := 134) dX12_copy_133 rfl rfl rfl ?_
    refine wk_get (q := 137) fgX12_34 dX12_copy_134 rfl rfl rfl rfl ?_
    refine wk_bipush (v := 40) (q := 139) dX12_copy_137 rfl rfl ?_
    refine wk_iload_n (i := 1) (q := 140) dX12_copy_139 rfl rfl rfl ?_
    refine wk_imul (q := 141) dX12_copy_140 rfl ?_
    refine wk_iload_n (i := 2) (q := 142) dX12_copy_141 rfl rfl rfl ?_
    refine wk_iadd (q := 143) dX12_copy_142 rfl ?_
    refine wk_iload (i := 6) (q := 145) dX12_copy_143 rfl rfl ?_
    refine wk_iadd (q := 146) dX12_copy_145 rfl ?_
    refine wk_lald (n := (40 * s + f + j)) (q := 147) dX12_copy_146 rfl (by rw [n40, nI_add]) (by show _ < 160; omega) rfl ?_
    rw [wrL_n (show (81 : Nat) ≠ 82 by decide)]
    refine wk_last (n := j) (q := 148) dX12_copy_147 rfl rfl (by show _ < 40; omega) rfl ?_
    rw [wrL_wrL, wrL_s, hz]
    refine wk_iinc (w := 1) (q := 151) (lv' := [_, _, _, _, _, _, _]) dX12_copy_148 rfl rfl rfl rfl rfl ?_
    rw [nI_1]
    refine wk_goto (t := 120) dX12_copy_151 rfl ?_
    exact ih (j + 1) (by omega)
theorem ck_X12_copy {si fr ti to n : Int32} {c : Nat → Nat} (hc : ∀ s, s < 4 → m 80 s = nI (c s) ∧ c s ≤ 40) (h1 : ∀ s t f o k, s < 4 → t < 4 → si = nI s → ti = nI t → ¬ m 79 s = 0 → ¬ m 79 t = 0 → m 79 s = m 79 t → fr = nI f → to = nI o → n = nI k → f + k ≤ c s → o + k ≤ c t → ∀ M, Q (.int (nI k)) m (wrL (wrL L 82 M) 81 (cpS (L 81) s f t o k))) (h2 : ∀ s t, s < 4 → t < 4 → si = nI s → ti = nI t → (m 79 s = 0 ∨ m 79 t = 0) → Q (.int (-1000000006)) (rfA m 5) L) (h3 : ∀ s t, s < 4 → t < 4 → si = nI s → ti = nI t → ¬ m 79 s = 0 → ¬ m 79 t = 0 → ¬ m 79 s = m 79 t → Q (.int (-1000000003)) (rfA m 2) L) (h4 : ∀ s t, s < 4 → t < 4 → si = nI s → ti = nI t → ¬ m 79 s = 0 → ¬ m 79 t = 0 → m 79 s = m 79 t → (∀ f o k, f + k ≤ c s → o + k ≤ c t → ¬ (fr = nI f ∧ to = nI o ∧ n = nI k)) → Q (.int (-1000000001)) (rfA m 0) L) (h0 : ((∀ s, s < 4 → ¬ si = nI s) ∨ (∀ s, s < 4 → ¬ ti = nI s)) → Q (.int (-1000000001)) (rfA m 0) L) : CK E 3 MX12_copy [.ref (ev_z E + 72), .int si, .int fr, .int ti, .int to, .int n] m L Q := by
  have z0 : (0 : Int32).toInt = 0 := by decide
  refine CK.of rfl rfl (lv := [(0, _), (1, _), (2, _), (3, _), (4, _), (5, _)]) rfl ?_
  refine wk_iload_n (i := 1) (q := 1) dX12_copy_0 rfl rfl rfl ?_
  refine wk_S1r (d' := 2) (q := 4) lkX12_300 dX12_copy_1 rfl rfl rfl rfl ?_
  refine ck_X12_isOne (fun s hs e => ?_) (fun hno => ?_)
  · skip
    subst e
    refine wk_if_eq (t := 14) (q := 7) dX12_copy_4 rfl rfl (fun h => absurd h (by decide)) (fun _ => ?_)
    refine wk_iload_n (i := 3) (q := 8) dX12_copy_7 rfl rfl rfl ?_
    refine wk_S1r (d' := 2) (q := 11) lkX12_300 dX12_copy_8 rfl rfl rfl rfl ?_
    refine ck_X12_isOne (fun t ht e => ?_) (fun hnt => ?_)
    · skip
      subst e
      obtain ⟨q1, q2⟩ := hc s hs
      obtain ⟨p1, p2⟩ := hc t ht
      refine wk_if_ne (t := 21) (q := 14) dX12_copy_11 rfl rfl (fun _ => ?_) (fun h => absurd h (by decide))
      refine wk_aload_n (i := 0) (q := 22) dX12_copy_21 rfl rfl rfl ?_
      refine wk_get (q := 25) fgX12_28 dX12_copy_22 rfl rfl rfl rfl ?_
      refine wk_iload_n (i := 1) (q := 26) dX12_copy_25 rfl rfl rfl ?_
      refine wk_iald (n := s) (q := 27) dX12_copy_26 rfl rfl (by show _ < 4; omega) rfl ?_
      refine wk_if_eq (t := 39) (q := 30) dX12_copy_27 rfl rfl (fun c27 => ?_) (fun c27 => ?_)
      · skip
        refine wk_aload_n (i := 0) (q := 40) dX12_copy_39 rfl rfl rfl ?_
        refine wk_ldcw (q := 43) dX12_copy_40 kX12_304 rfl ?_
        refine wk_V1r (d' := 1) (q := 46) lkX12_63 dX12_copy_43 rfl rfl rfl rfl rfl rfl rfl ?_
        refine ck_X12_finds (i := 5) (by decide) (by decide) ?_
        refine wk_ireturn dX12_copy_46 rfl rfl ?_
        first | exact h2 s t hs ht rfl rfl (Or.inl c27) | exact h2 s t hs ht rfl rfl (Or.inr c36)
      · skip
        refine wk_aload_n (i := 0) (q := 31) dX12_copy_30 rfl rfl rfl ?_
        refine wk_get (q := 34) fgX12_28 dX12_copy_31 rfl rfl rfl rfl ?_
        refine wk_iload_n (i := 3) (q := 35) dX12_copy_34 rfl rfl rfl ?_
        refine wk_iald (n := t) (q := 36) dX12_copy_35 rfl rfl (by show _ < 4; omega) rfl ?_
        refine wk_if_ne (t := 47) (q := 39) dX12_copy_36 rfl rfl (fun c36 => ?_) (fun c36 => ?_)
        · skip
          refine wk_aload_n (i := 0) (q := 48) dX12_copy_47 rfl rfl rfl ?_
          refine wk_get (q := 51) fgX12_28 dX12_copy_48 rfl rfl rfl rfl ?_
          refine wk_iload_n (i := 1) (q := 52) dX12_copy_51 rfl rfl rfl ?_
          refine wk_iald (n := s) (q := 53) dX12_copy_52 rfl rfl (by show _ < 4; omega) rfl ?_
          refine wk_aload_n (i := 0) (q := 54) dX12_copy_53 rfl rfl rfl ?_
          refine wk_get (q := 57) fgX12_28 dX12_copy_54 rfl rfl rfl rfl ?_
          refine wk_iload_n (i := 3) (q := 58) dX12_copy_57 rfl rfl rfl ?_
          refine wk_iald (n := t) (q := 59) dX12_copy_58 rfl rfl (by show _ < 4; omega) rfl ?_
          refine wk_icmp_eq (t := 69) (q := 62) dX12_copy_59 rfl rfl (fun c59 => ?_) (fun c59 => ?_)
          · skip
            refine wk_iload_n (i := 2) (q := 70) dX12_copy_69 rfl rfl rfl ?_
            refine wk_if_lt (t := 110) (q := 73) dX12_copy_70 rfl rfl (fun c70 => ?_) (fun c70 => ?_)
            · skip
              refine wk_aload_n (i := 0) (q := 111) dX12_copy_110 rfl rfl rfl ?_
              refine wk_ldc (q := 113) dX12_copy_111 kX12_41 rfl ?_
              refine wk_V1r (d' := 1) (q := 116) lkX12_63 dX12_copy_113 rfl rfl rfl rfl rfl rfl rfl ?_
              refine ck_X12_finds (i := 0) (by decide) (by decide) ?_
              refine wk_ireturn dX12_copy_116 rfl rfl ?_
              refine h4 s t hs ht rfl rfl c27 c36 c59 (fun f' o' k' g1 g2 g3 => ?_)
              obtain ⟨e1, e2, e3⟩ := g3
              subst e1; subst e2; subst e3
              have r1 := hr_of' q2 g1
              have r2 := hr_of' p2 g2
              first | exact absurd c70 (by rw [fa_lt]; have := r1.1; rw [fa_le] at this; omega) | exact absurd c75 (by rw [fa_lt]; have := r2.1; rw [fa_le] at this; omega) | exact absurd c80 (by rw [fa_lt]; have := r1.2.1; rw [fa_le] at this; omega) | exact absurd c93 (by rw [fa_lt]; have := r1.2.2; rw [fa_le] at this; omega) | exact c107 r2.2.2
            · skip
              refine wk_iload (i := 4) (q := 75) dX12_copy_73 rfl rfl ?_
              refine wk_if_lt (t := 110) (q := 78) dX12_copy_75 rfl rfl (fun c75 => ?_) (fun c75 => ?_)
              · skip
                refine wk_aload_n (i := 0) (q := 111) dX12_copy_110 rfl rfl rfl ?_
                refine wk_ldc (q := 113) dX12_copy_111 kX12_41 rfl ?_
                refine wk_V1r (d' := 1) (q := 116) lkX12_63 dX12_copy_113 rfl rfl rfl rfl rfl rfl rfl ?_
                refine ck_X12_finds (i := 0) (by decide) (by decide) ?_
                refine wk_ireturn dX12_copy_116 rfl rfl ?_
                refine h4 s t hs ht rfl rfl c27 c36 c59 (fun f' o' k' g1 g2 g3 => ?_)
                obtain ⟨e1, e2, e3⟩ := g3
                subst e1; subst e2; subst e3
                have r1 := hr_of' q2 g1
                have r2 := hr_of' p2 g2
                first | exact absurd c70 (by rw [fa_lt]; have := r1.1; rw [fa_le] at this; omega) | exact absurd c75 (by rw [fa_lt]; have := r2.1; rw [fa_le] at this; omega) | exact absurd c80 (by rw [fa_lt]; have := r1.2.1; rw [fa_le] at this; omega) | exact absurd c93 (by rw [fa_lt]; have := r1.2.2; rw [fa_le] at this; omega) | exact c107 r2.2.2
              · skip
                refine wk_iload (i := 5) (q := 80) dX12_copy_78 rfl rfl ?_
                refine wk_if_lt (t := 110) (q := 83) dX12_copy_80 rfl rfl (fun c80 => ?_) (fun c80 => ?_)
                · skip
                  refine wk_aload_n (i := 0) (q := 111) dX12_copy_110 rfl rfl rfl ?_
                  refine wk_ldc (q := 113) dX12_copy_111 kX12_41 rfl ?_
                  refine wk_V1r (d' := 1) (q := 116) lkX12_63 dX12_copy_113 rfl rfl rfl rfl rfl rfl rfl ?_
                  refine ck_X12_finds (i := 0) (by decide) (by decide) ?_
                  refine wk_ireturn dX12_copy_116 rfl rfl ?_
                  refine h4 s t hs ht rfl rfl c27 c36 c59 (fun f' o' k' g1 g2 g3 => ?_)
                  obtain ⟨e1, e2, e3⟩ := g3
                  subst e1; subst e2; subst e3
                  have r1 := hr_of' q2 g1
                  have r2 := hr_of' p2 g2
                  first | exact absurd c70 (by rw [fa_lt]; have := r1.1; rw [fa_le] at this; omega) | exact absurd c75 (by rw [fa_lt]; have := r2.1; rw [fa_le] at this; omega) | exact absurd c80 (by rw [fa_lt]; have := r1.2.1; rw [fa_le] at this; omega) | exact absurd c93 (by rw [fa_lt]; have := r1.2.2; rw [fa_le] at this; omega) | exact c107 r2.2.2
                · skip
                  refine wk_iload (i := 5) (q := 85) dX12_copy_83 rfl rfl ?_
                  refine wk_aload_n (i := 0) (q := 86) dX12_copy_85 rfl rfl rfl ?_
                  refine wk_get (q := 89) fgX12_31 dX12_copy_86 rfl rfl rfl rfl ?_
                  refine wk_iload_n (i := 1) (q := 90) dX12_copy_89 rfl rfl rfl ?_
                  refine wk_iald (n := s) (q := 91) dX12_copy_90 rfl rfl (by show _ < 4; omega) rfl ?_
                  refine wk_iload_n (i := 2) (q := 92) dX12_copy_91 rfl rfl rfl ?_
                  refine wk_isub (q := 93) dX12_copy_92 rfl ?_
                  rw [q1]
                  refine wk_icmp_gt (t := 110) (q := 96) dX12_copy_93 rfl rfl (fun c93 => ?_) (fun c93 => ?_)
                  · skip
                    refine wk_aload_n (i := 0) (q := 111) dX12_copy_110 rfl rfl rfl ?_
                    refine wk_ldc (q := 113) dX12_copy_111 kX12_41 rfl ?_
                    refine wk_V1r (d' := 1) (q := 116) lkX12_63 dX12_copy_113 rfl rfl rfl rfl rfl rfl rfl ?_
                    refine ck_X12_finds (i := 0) (by decide) (by decide) ?_
                    refine wk_ireturn dX12_copy_116 rfl rfl ?_
                    refine h4 s t hs ht rfl rfl c27 c36 c59 (fun f' o' k' g1 g2 g3 => ?_)
                    obtain ⟨e1, e2, e3⟩ := g3
                    subst e1; subst e2; subst e3
                    have r1 := hr_of' q2 g1
                    have r2 := hr_of' p2 g2
                    first | exact absurd c70 (by rw [fa_lt]; have := r1.1; rw [fa_le] at this; omega) | exact absurd c75 (by rw [fa_lt]; have := r2.1; rw [fa_le] at this; omega) | exact absurd c80 (by rw [fa_lt]; have := r1.2.1; rw [fa_le] at this; omega) | exact absurd c93 (by rw [fa_lt]; have := r1.2.2; rw [fa_le] at this; omega) | exact c107 r2.2.2
                  · skip
                    refine wk_iload (i := 5) (q := 98) dX12_copy_96 rfl rfl ?_
                    refine wk_aload_n (i := 0) (q := 99) dX12_copy_98 rfl rfl rfl ?_
                    refine wk_get (q := 102) fgX12_31 dX12_copy_99 rfl rfl rfl rfl ?_
                    refine wk_iload_n (i := 3) (q := 103) dX12_copy_102 rfl rfl rfl ?_
                    refine wk_iald (n := t) (q := 104) dX12_copy_103 rfl rfl (by show _ < 4; omega) rfl ?_
                    refine wk_iload (i := 4) (q := 106) dX12_copy_104 rfl rfl ?_
                    refine wk_isub (q := 107) dX12_copy_106 rfl ?_
                    rw [p1]
                    refine wk_icmp_le (t := 117) (q := 110) dX12_copy_107 rfl rfl (fun c107 => ?_) (fun c107 => ?_)
                    · skip
                      obtain ⟨f, k, rfl, rfl, hfk⟩ := hr_of (x := fr) (n := n) q2 ⟨by rw [fa_le]; rw [fa_lt] at c70; omega, by rw [fa_le]; rw [fa_lt] at c80; omega, by rw [fa_le]; rw [fa_lt] at c93; omega⟩
                      obtain ⟨o, k', rfl, e, hok⟩ := hr_of (x := to) (n := nI k) p2 ⟨by rw [fa_le]; rw [fa_lt] at c75; omega, by rw [fa_le]; rw [fa_lt] at c80; omega, c107⟩
                      have e := nI_inj (by omega) (by omega) e
                      subst e
                      refine wk_iconst (v := 0) (q := 118) dX12_copy_117 rfl rfl ?_
                      refine wk_istore (i := 6) (q := 120) (lv' := [_, _, _, _, _, _, _]) dX12_copy_118 rfl rfl rfl ?_
                      have hl := lp1_X12_copy (E := E) (m := m) (L := L) hs ht (by omega) (by omega) (h1 s t f o k hs ht rfl rfl c27 c36 c59 rfl rfl rfl hfk hok) k 0 (by omega)
                      rw [show mvR L s f 0 = L 82 from by funext x; unfold mvR; rw [if_neg (by omega)], wrL_self] at hl
                      exact hl
                    · skip
                      refine wk_aload_n (i := 0) (q := 111) dX12_copy_110 rfl rfl rfl ?_
                      refine wk_ldc (q := 113) dX12_copy_111 kX12_41 rfl ?_
                      refine wk_V1r (d' := 1) (q := 116) lkX12_63 dX12_copy_113 rfl rfl rfl rfl rfl rfl rfl ?_
                      refine ck_X12_finds (i := 0) (by decide) (by decide) ?_
                      refine wk_ireturn dX12_copy_116 rfl rfl ?_
                      refine h4 s t hs ht rfl rfl c27 c36 c59 (fun f' o' k' g1 g2 g3 => ?_)
                      obtain ⟨e1, e2, e3⟩ := g3
                      subst e1; subst e2; subst e3
                      have r1 := hr_of' q2 g1
                      have r2 := hr_of' p2 g2
                      first | exact absurd c70 (by rw [fa_lt]; have := r1.1; rw [fa_le] at this; omega) | exact absurd c75 (by rw [fa_lt]; have := r2.1; rw [fa_le] at this; omega) | exact absurd c80 (by rw [fa_lt]; have := r1.2.1; rw [fa_le] at this; omega) | exact absurd c93 (by rw [fa_lt]; have := r1.2.2; rw [fa_le] at this; omega) | exact c107 r2.2.2
          · skip
            refine wk_aload_n (i := 0) (q := 63) dX12_copy_62 rfl rfl rfl ?_
            refine wk_ldc (q := 65) dX12_copy_63 kX12_146 rfl ?_
            refine wk_V1r (d' := 1) (q := 68) lkX12_63 dX12_copy_65 rfl rfl rfl rfl rfl rfl rfl ?_
            refine ck_X12_finds (i := 2) (by decide) (by decide) ?_
            refine wk_ireturn dX12_copy_68 rfl rfl ?_
            exact h3 s t hs ht rfl rfl c27 c36 c59
        · skip
          refine wk_aload_n (i := 0) (q := 40) dX12_copy_39 rfl rfl rfl ?_
          refine wk_ldcw (q := 43) dX12_copy_40 kX12_304 rfl ?_
          refine wk_V1r (d' := 1) (q := 46) lkX12_63 dX12_copy_43 rfl rfl rfl rfl rfl rfl rfl ?_
          refine ck_X12_finds (i := 5) (by decide) (by decide) ?_
          refine wk_ireturn dX12_copy_46 rfl rfl ?_
          first | exact h2 s t hs ht rfl rfl (Or.inl c27) | exact h2 s t hs ht rfl rfl (Or.inr c36)
    · skip
      refine wk_if_ne (t := 21) (q := 14) dX12_copy_11 rfl rfl (fun h => absurd (by decide) h) (fun _ => ?_)
      refine wk_aload_n (i := 0) (q := 15) dX12_copy_14 rfl rfl rfl ?_
      refine wk_ldc (q := 17) dX12_copy_15 kX12_41 rfl ?_
      refine wk_V1r (d' := 1) (q := 20) lkX12_63 dX12_copy_17 rfl rfl rfl rfl rfl rfl rfl ?_
      refine ck_X12_finds (i := 0) (by decide) (by decide) ?_
      refine wk_ireturn dX12_copy_20 rfl rfl ?_
      first | exact h0 (Or.inl hno) | exact h0 (Or.inr hnt)
  · skip
    refine wk_if_eq (t := 14) (q := 7) dX12_copy_4 rfl rfl (fun _ => ?_) (fun h => absurd (by decide) h)
    refine wk_aload_n (i := 0) (q := 15) dX12_copy_14 rfl rfl rfl ?_
    refine wk_ldc (q := 17) dX12_copy_15 kX12_41 rfl ?_
    refine wk_V1r (d' := 1) (q := 20) lkX12_63 dX12_copy_17 rfl rfl rfl rfl rfl rfl rfl ?_
    refine ck_X12_finds (i := 0) (by decide) (by decide) ?_
    refine wk_ireturn dX12_copy_20 rfl rfl ?_
    first | exact h0 (Or.inl hno) | exact h0 (Or.inr hnt)
end MQ1
