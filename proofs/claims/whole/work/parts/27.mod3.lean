/-! the reference's calls, first part -/
def zr7 (A : Nat → Int32) (g j : Nat) : Nat → Int32 := fun i => if i < j then 0 else gv A g i
theorem gput_up {A : Nat → Int32} {g k : Nat} {v : Nat → Int32} {x : Int32} (hk : k < 5) : gput (upd A k x) g v = upd (gput A g v) k x := by
  funext j
  by_cases e : j = k
  · subst e; rw [upd_s, gput_n (by omega), upd_s]
  · rw [upd_n e]
    unfold gput
    split
    · rfl
    · rw [upd_n e]
section MO
variable {E : EVt} {m : Mm} {L : Ml} {Q : Value → Mm → Ml → Prop} {A : Nat → Int32} {D : Nat}
theorem lp_X12_adds {c : Nat} {k : Int32} (hc : A 1 = nI c) (hc8 : c < 8) (hcc : c = cA A) (hQ : Q (.int (nI c)) (wr m 73 (addA A k)) L) : ∀ (r j : Nat), j + r = 7 → WK E 2 MX12_adds 19 [(0, .ref (ev_z E + 72)), (1, .int k), (2, .int (nI c)), (3, .int (nI j))] [] (wr m 73 (gput (upd A 1 (A 1 + 1)) c (zr7 A c j))) L Q := by
  intro r
  induction r with
  | zero =>
    intro j hj
    refine wk_iload_n (i := 3) (q := 20) dX12_adds_19 rfl rfl rfl ?_
    refine wk_bipush (v := 7) (q := 22) dX12_adds_20 rfl rfl ?_
    refine wk_icmp_ge (t := 42) (q := 25) dX12_adds_22 rfl rfl (fun c22 => ?_) (fun h => absurd (nI_le (a := 7) (by omega) (by omega)) h)
    refine wk_aload_n (i := 0) (q := 43) dX12_adds_42 rfl rfl rfl ?_
    refine wk_get (q := 46) fgX12_7 dX12_adds_43 rfl rfl rfl rfl ?_
    refine wk_iload_n (i := 2) (q := 47) dX12_adds_46 rfl rfl rfl ?_
    refine wk_iconst (v := 0) (q := 48) dX12_adds_47 rfl rfl ?_
    refine wk_S2r (d' := 1) (q := 51) lkX12_42 dX12_adds_48 rfl rfl rfl rfl ?_
    refine ck_X12_spot (g := c) (w := 0) ?_
    refine wk_iload_n (i := 1) (q := 52) dX12_adds_51 rfl rfl rfl ?_
    refine wk_sst (n := (5 + 7 * c + 0)) (q := 53) dX12_adds_52 rfl (by omega) rfl ?_
    refine wk_aload_n (i := 0) (q := 54) dX12_adds_53 rfl rfl rfl ?_
    refine wk_get (q := 57) fgX12_7 dX12_adds_54 rfl rfl rfl rfl ?_
    refine wk_iload_n (i := 2) (q := 58) dX12_adds_57 rfl rfl rfl ?_
    refine wk_iconst (v := 1) (q := 59) dX12_adds_58 rfl rfl ?_
    refine wk_S2r (d' := 1) (q := 62) lkX12_42 dX12_adds_59 rfl rfl rfl rfl ?_
    refine ck_X12_spot (g := c) (w := 1) ?_
    refine wk_bipush (v := 100) (q := 64) dX12_adds_62 rfl rfl ?_
    refine wk_sst (n := (5 + 7 * c + 1)) (q := 65) dX12_adds_64 rfl (by omega) rfl ?_
    refine wk_aload_n (i := 0) (q := 66) dX12_adds_65 rfl rfl rfl ?_
    refine wk_get (q := 69) fgX12_7 dX12_adds_66 rfl rfl rfl rfl ?_
    refine wk_iload_n (i := 2) (q := 70) dX12_adds_69 rfl rfl rfl ?_
    refine wk_iconst (v := 2) (q := 71) dX12_adds_70 rfl rfl ?_
    refine wk_S2r (d' := 1) (q := 74) lkX12_42 dX12_adds_71 rfl rfl rfl rfl ?_
    refine ck_X12_spot (g := c) (w := 2) ?_
    refine wk_bipush (v := 100) (q := 76) dX12_adds_74 rfl rfl ?_
    refine wk_sst (n := (5 + 7 * c + 2)) (q := 77) dX12_adds_76 rfl (by omega) rfl ?_
    refine wk_aload_n (i := 0) (q := 78) dX12_adds_77 rfl rfl rfl ?_
    refine wk_get (q := 81) fgX12_7 dX12_adds_78 rfl rfl rfl rfl ?_
    refine wk_iload_n (i := 2) (q := 82) dX12_adds_81 rfl rfl rfl ?_
    refine wk_iconst (v := 3) (q := 83) dX12_adds_82 rfl rfl ?_
    refine wk_S2r (d' := 1) (q := 86) lkX12_42 dX12_adds_83 rfl rfl rfl rfl ?_
    refine ck_X12_spot (g := c) (w := 3) ?_
    refine wk_bipush (v := 10) (q := 88) dX12_adds_86 rfl rfl ?_
    refine wk_sst (n := (5 + 7 * c + 3)) (q := 89) dX12_adds_88 rfl (by omega) rfl ?_
    refine wk_iload_n (i := 2) (q := 90) dX12_adds_89 rfl rfl rfl ?_
    refine wk_ireturn dX12_adds_90 rfl rfl ?_
    have e : j = 7 := by omega
    subst e
    rw [gput_u (by decide), gput_u (by decide), gput_u (by decide), gput_u (by decide), gput_up (by decide)]
    unfold addA at hQ
    rw [← hcc] at hQ
    refine cast ?_ hQ
    congr 3
    exact gput_cong (fun f hf => by obtain rfl | rfl | rfl | rfl | rfl | rfl | rfl : f = 0 ∨ f = 1 ∨ f = 2 ∨ f = 3 ∨ f = 4 ∨ f = 5 ∨ f = 6 := (by omega); all_goals rfl)
  | succ r ih =>
    intro j hj
    have hz : E7 (upd (zr7 A c j) j 0) (zr7 A c (j + 1)) := fun f hf => by
      unfold upd zr7
      by_cases e : f = j
      · rw [if_pos e, if_pos (by omega)]
      · rw [if_neg e]
        by_cases e2 : f < j
        · rw [if_pos e2, if_pos (by omega)]
        · rw [if_neg e2, if_neg (by omega)]
    refine wk_iload_n (i := 3) (q := 20) dX12_adds_19 rfl rfl rfl ?_
    refine wk_bipush (v := 7) (q := 22) dX12_adds_20 rfl rfl ?_
    refine wk_icmp_ge (t := 42) (q := 25) dX12_adds_22 rfl rfl (fun h => absurd h (nI_ge (b := 7) (by omega) (by omega))) (fun c22 => ?_)
    refine wk_aload_n (i := 0) (q := 26) dX12_adds_25 rfl rfl rfl ?_
    refine wk_get (q := 29) fgX12_7 dX12_adds_26 rfl rfl rfl rfl ?_
    refine wk_iload_n (i := 2) (q := 30) dX12_adds_29 rfl rfl rfl ?_
    refine wk_iload_n (i := 3) (q := 31) dX12_adds_30 rfl rfl rfl ?_
    refine wk_S2r (d' := 1) (q := 34) lkX12_42 dX12_adds_31 rfl rfl rfl rfl ?_
    refine ck_X12_spot (g := c) (w := j) ?_
    refine wk_iconst (v := 0) (q := 35) dX12_adds_34 rfl rfl ?_
    refine wk_sst (n := (5 + 7 * c + j)) (q := 36) dX12_adds_35 rfl (by omega) rfl ?_
    rw [gput_u (by omega), gput_cong hz]
    refine wk_iinc (w := 1) (q := 39) (lv' := [_, _, _, _]) dX12_adds_36 rfl rfl rfl rfl rfl ?_
    rw [nI_1]
    refine wk_goto (t := 19) dX12_adds_39 rfl ?_
    exact ih (j + 1) (by omega)
theorem ck_X12_adds {c : Nat} {k : Int32} (hc : A 1 = nI c) (hc8 : c < 8) (hcc : c = cA A) (hQ : Q (.int (nI c)) (wr m 73 (addA A k)) L) : CK E 2 MX12_adds [.ref (ev_z E + 72), .int k] (wr m 73 A) L Q := by
  refine CK.of rfl rfl (lv := [(0, _), (1, _)]) rfl ?_
  refine wk_aload_n (i := 0) (q := 1) dX12_adds_0 rfl rfl rfl ?_
  refine wk_get (q := 4) fgX12_7 dX12_adds_1 rfl rfl rfl rfl ?_
  refine wk_iconst (v := 1) (q := 5) dX12_adds_4 rfl rfl ?_
  refine wk_sld (n := 1) (q := 6) dX12_adds_5 rfl (by decide) rfl ?_
  refine wk_istore_n (i := 2) (q := 7) (lv' := [_, _, _]) dX12_adds_6 rfl rfl rfl rfl ?_
  rw [hc]
  refine wk_aload_n (i := 0) (q := 8) dX12_adds_7 rfl rfl rfl ?_
  refine wk_get (q := 11) fgX12_7 dX12_adds_8 rfl rfl rfl rfl ?_
  refine wk_iconst (v := 1) (q := 12) dX12_adds_11 rfl rfl ?_
  refine wk_dup2 (q := 13) dX12_adds_12 rfl rfl rfl ?_
  refine wk_sld (n := 1) (q := 14) dX12_adds_13 rfl (by decide) rfl ?_
  refine wk_iconst (v := 1) (q := 15) dX12_adds_14 rfl rfl ?_
  refine wk_iadd (q := 16) dX12_adds_15 rfl ?_
  refine wk_sst (n := 1) (q := 17) dX12_adds_16 rfl (by decide) rfl ?_
  refine wk_iconst (v := 0) (q := 18) dX12_adds_17 rfl rfl ?_
  refine wk_istore_n (i := 3) (q := 19) (lv' := [_, _, _, _]) dX12_adds_18 rfl rfl rfl rfl ?_
  have hl := lp_X12_adds (E := E) hc hc8 hcc hQ 7 0 (by omega)
  rw [show gput (upd A 1 (A 1 + 1)) c (zr7 A c 0) = upd A 1 (A 1 + 1) from by rw [gput_cong (w := gv (upd A 1 (A 1 + 1)) c) (fun f hf => by show (if f < 0 then (0 : Int32) else gv A c f) = gv (upd A 1 (A 1 + 1)) c f; rw [if_neg (by omega)]; exact (upd_n (show 5 + 7 * c + f ≠ 1 by omega)).symm), gput_gv]] at hl
  exact hl
theorem ck_X12_becomes_i {n : Nat} {i v : Int32} (hi : i = nI n) (hn : n < 73) (hQ : Q (.int (A n)) (wr m 73 (upd A n v)) L) : CK E 1 MX12_becomes [.ref (ev_z E + 72), .int i, .int v] (wr m 73 A) L Q := by
  subst hi
  exact ck_X12_becomes hn hQ
theorem ck_X12_machine {w v : Int32} (h1 : w = 0 → 20 ≤ v ∧ v ≤ 95 → Q (.int (A 3)) (wr m 73 (upd A 3 v)) L) (h2 : w = 1 → 0 ≤ v ∧ v ≤ 1 → Q (.int (A 4)) (wr m 73 (upd A 4 v)) L) (h0 : ¬ (w = 0 ∧ 20 ≤ v ∧ v ≤ 95) → ¬ (w = 1 ∧ 0 ≤ v ∧ v ≤ 1) → Q (.int (-1000000001)) (rfA (wr m 73 A) 0) L) : CK E 2 MX12_machine [.ref (ev_z E + 72), .int w, .int v] (wr m 73 A) L Q := by
  refine CK.of rfl rfl (lv := [(0, _), (1, _), (2, _)]) rfl ?_
  refine wk_iload_n (i := 1) (q := 1) dX12_machine_0 rfl rfl rfl ?_
  refine wk_if_ne (t := 18) (q := 4) dX12_machine_1 rfl rfl (fun c1 => ?_) (fun c1 => ?_)
  · skip
    refine wk_iload_n (i := 1) (q := 19) dX12_machine_18 rfl rfl rfl ?_
    refine wk_iconst (v := 1) (q := 20) dX12_machine_19 rfl rfl ?_
    refine wk_icmp_ne (t := 37) (q := 23) dX12_machine_20 rfl rfl (fun c20 => ?_) (fun c20 => ?_)
    · skip
      refine wk_iconst (v := 0) (q := 38) dX12_machine_37 rfl rfl ?_
      refine wk_istore_n (i := 3) (q := 39) (lv' := [_, _, _, _]) dX12_machine_38 rfl rfl rfl rfl ?_
      refine wk_iload_n (i := 3) (q := 40) dX12_machine_39 rfl rfl rfl ?_
      refine wk_if_eq (t := 54) (q := 43) dX12_machine_40 rfl rfl (fun _ => ?_) (fun h => absurd (by decide) h)
      refine wk_aload_n (i := 0) (q := 55) dX12_machine_54 rfl rfl rfl ?_
      refine wk_ldc (q := 57) dX12_machine_55 kX12_41 rfl ?_
      refine wk_V1r (d' := 1) (q := 60) lkX12_63 dX12_machine_57 rfl rfl rfl rfl rfl rfl rfl ?_
      refine ck_X12_finds (i := 0) (by decide) (by decide) ?_
      refine wk_ireturn dX12_machine_60 rfl rfl ?_
      first | exact h1 rfl hw | exact h2 rfl hw | (refine h0 (fun hh => ?_) (fun hh => ?_) <;> first | exact c1 hh.1 | exact c20 hh.1 | exact hw hh.2 | exact absurd hh.1 (by decide))
    · skip
      subst c20
      have hidx : (3 : Int32) + 1 = nI 4 := rfl
      refine wk_iload_n (i := 2) (q := 24) dX12_machine_23 rfl rfl rfl ?_
      refine wk_i2l (q := 25) dX12_machine_24 rfl ?_
      refine wk_lconst (v := 0) (q := 26) dX12_machine_25 rfl rfl ?_
      refine wk_lconst (v := 1) (q := 27) dX12_machine_26 rfl rfl ?_
      refine wk_S3r (d' := 1) (q := 30) lkX12_46 dX12_machine_27 rfl rfl rfl rfl ?_
      refine ck_X12_in (lo := 0) (hi := 1) (fun hw => ?_) (fun hw => ?_)
      · skip
        refine wk_if_eq (t := 37) (q := 33) dX12_machine_30 rfl rfl (fun h => absurd h (by decide)) (fun _ => ?_)
        refine wk_iconst (v := 1) (q := 34) dX12_machine_33 rfl rfl ?_
        refine wk_goto (t := 38) dX12_machine_34 rfl ?_
        refine wk_istore_n (i := 3) (q := 39) (lv' := [_, _, _, _]) dX12_machine_38 rfl rfl rfl rfl ?_
        refine wk_iload_n (i := 3) (q := 40) dX12_machine_39 rfl rfl rfl ?_
        refine wk_if_eq (t := 54) (q := 43) dX12_machine_40 rfl rfl (fun h => absurd h (by decide)) (fun _ => ?_)
        refine wk_aload_n (i := 0) (q := 44) dX12_machine_43 rfl rfl rfl ?_
        refine wk_iconst (v := 3) (q := 45) dX12_machine_44 rfl rfl ?_
        refine wk_iload_n (i := 1) (q := 46) dX12_machine_45 rfl rfl rfl ?_
        refine wk_iadd (q := 47) dX12_machine_46 rfl ?_
        refine wk_iload_n (i := 2) (q := 48) dX12_machine_47 rfl rfl rfl ?_
        refine wk_V2r (d' := 1) (q := 51) lkX12_60 dX12_machine_48 rfl rfl rfl rfl rfl rfl rfl ?_
        refine ck_X12_becomes_i hidx (by decide) ?_
        refine wk_goto (t := 60) dX12_machine_51 rfl ?_
        refine wk_ireturn dX12_machine_60 rfl rfl ?_
        first | exact h1 rfl hw | exact h2 rfl hw | (refine h0 (fun hh => ?_) (fun hh => ?_) <;> first | exact c1 hh.1 | exact c20 hh.1 | exact hw hh.2 | exact absurd hh.1 (by decide))
      · skip
        refine wk_if_eq (t := 37) (q := 33) dX12_machine_30 rfl rfl (fun _ => ?_) (fun h => absurd (by decide) h)
        refine wk_iconst (v := 0) (q := 38) dX12_machine_37 rfl rfl ?_
        refine wk_istore_n (i := 3) (q := 39) (lv' := [_, _, _, _]) dX12_machine_38 rfl rfl rfl rfl ?_
        refine wk_iload_n (i := 3) (q := 40) dX12_machine_39 rfl rfl rfl ?_
        refine wk_if_eq (t := 54) (q := 43) dX12_machine_40 rfl rfl (fun _ => ?_) (fun h => absurd (by decide) h)
        refine wk_aload_n (i := 0) (q := 55) dX12_machine_54 rfl rfl rfl ?_
        refine wk_ldc (q := 57) dX12_machine_55 kX12_41 rfl ?_
        refine wk_V1r (d' := 1) (q := 60) lkX12_63 dX12_machine_57 rfl rfl rfl rfl rfl rfl rfl ?_
        refine ck_X12_finds (i := 0) (by decide) (by decide) ?_
        refine wk_ireturn dX12_machine_60 rfl rfl ?_
        first | exact h1 rfl hw | exact h2 rfl hw | (refine h0 (fun hh => ?_) (fun hh => ?_) <;> first | exact c1 hh.1 | exact c20 hh.1 | exact hw hh.2 | exact absurd hh.1 (by decide))
  · skip
    subst c1
    have hidx : (3 : Int32) + 0 = nI 3 := rfl
    refine wk_iload_n (i := 2) (q := 5) dX12_machine_4 rfl rfl rfl ?_
    refine wk_i2l (q := 6) dX12_machine_5 rfl ?_
    refine wk_ldc2 (q := 9) dX12_machine_6 kX12_56 rfl ?_
    refine wk_ldc2 (q := 12) dX12_machine_9 kX12_58 rfl ?_
    refine wk_S3r (d' := 1) (q := 15) lkX12_46 dX12_machine_12 rfl rfl rfl rfl ?_
    refine ck_X12_in (lo := 20) (hi := 95) (fun hw => ?_) (fun hw => ?_)
    · skip
      refine wk_goto (t := 38) dX12_machine_15 rfl ?_
      refine wk_istore_n (i := 3) (q := 39) (lv' := [_, _, _, _]) dX12_machine_38 rfl rfl rfl rfl ?_
      refine wk_iload_n (i := 3) (q := 40) dX12_machine_39 rfl rfl rfl ?_
      refine wk_if_eq (t := 54) (q := 43) dX12_machine_40 rfl rfl (fun h => absurd h (by decide)) (fun _ => ?_)
      refine wk_aload_n (i := 0) (q := 44) dX12_machine_43 rfl rfl rfl ?_
      refine wk_iconst (v := 3) (q := 45) dX12_machine_44 rfl rfl ?_
      refine wk_iload_n (i := 1) (q := 46) dX12_machine_45 rfl rfl rfl ?_
      refine wk_iadd (q := 47) dX12_machine_46 rfl ?_
      refine wk_iload_n (i := 2) (q := 48) dX12_machine_47 rfl rfl rfl ?_
      refine wk_V2r (d' := 1) (q := 51) lkX12_60 dX12_machine_48 rfl rfl rfl rfl rfl rfl rfl ?_
      refine ck_X12_becomes_i hidx (by decide) ?_
      refine wk_goto (t := 60) dX12_machine_51 rfl ?_
      refine wk_ireturn dX12_machine_60 rfl rfl ?_
      first | exact h1 rfl hw | exact h2 rfl hw | (refine h0 (fun hh => ?_) (fun hh => ?_) <;> first | exact c1 hh.1 | exact c20 hh.1 | exact hw hh.2 | exact absurd hh.1 (by decide))
    · skip
      refine wk_goto (t := 38) dX12_machine_15 rfl ?_
      refine wk_istore_n (i := 3) (q := 39) (lv' := [_, _, _, _]) dX12_machine_38 rfl rfl rfl rfl ?_
      refine wk_iload_n (i := 3) (q := 40) dX12_machine_39 rfl rfl rfl ?_
      refine wk_if_eq (t := 54) (q := 43) dX12_machine_40 rfl rfl (fun _ => ?_) (fun h => absurd (by decide) h)
      refine wk_aload_n (i := 0) (q := 55) dX12_machine_54 rfl rfl rfl ?_
      refine wk_ldc (q := 57) dX12_machine_55 kX12_41 rfl ?_
      refine wk_V1r (d' := 1) (q := 60) lkX12_63 dX12_machine_57 rfl rfl rfl rfl rfl rfl rfl ?_
      refine ck_X12_finds (i := 0) (by decide) (by decide) ?_
      refine wk_ireturn dX12_machine_60 rfl rfl ?_
      first | exact h1 rfl hw | exact h2 rfl hw | (refine h0 (fun hh => ?_) (fun hh => ?_) <;> first | exact c1 hh.1 | exact c20 hh.1 | exact hw hh.2 | exact absurd hh.1 (by decide))
theorem ck_X12_now {w : Int32} (hO : okA D A) (h1 : ∀ n, n ≤ 5 → w = nI n → Q (.int (nowR A n)) (wr m 73 A) L) (h0 : (∀ n, n ≤ 5 → ¬ w = nI n) → Q (.int (-1000000001)) (rfA (wr m 73 A) 0) L) : CK E 6 MX12_now [.ref (ev_z E + 72), .int w] (wr m 73 A) L Q := by
  refine CK.of rfl rfl (lv := [(0, _), (1, _)]) rfl ?_
  refine wk_iload_n (i := 1) (q := 1) dX12_now_0 rfl rfl rfl ?_
  refine wk_table (cs := [(0, 40), (1, 47), (2, 54), (3, 61), (4, 66), (5, 71)]) (td := 76) dX12_now_1 (by decide +kernel) ?_
  refine And.intro (fun c1_0 => ?_) (fun n1_0 => ?_)
  · skip
    refine wk_aload_n (i := 0) (q := 41) dX12_now_40 rfl rfl rfl ?_
    refine wk_get (q := 44) fgX12_7 dX12_now_41 rfl rfl rfl rfl ?_
    refine wk_iconst (v := 0) (q := 45) dX12_now_44 rfl rfl ?_
    refine wk_sld (n := 0) (q := 46) dX12_now_45 rfl (by decide) rfl ?_
    refine wk_ireturn dX12_now_46 rfl rfl ?_
    exact h1 0 (by decide) c1_0
  refine And.intro (fun c1_1 => ?_) (fun n1_1 => ?_)
  · skip
    refine wk_aload_n (i := 0) (q := 48) dX12_now_47 rfl rfl rfl ?_
    refine wk_get (q := 51) fgX12_7 dX12_now_48 rfl rfl rfl rfl ?_
    refine wk_iconst (v := 3) (q := 52) dX12_now_51 rfl rfl ?_
    refine wk_sld (n := 3) (q := 53) dX12_now_52 rfl (by decide) rfl ?_
    refine wk_ireturn dX12_now_53 rfl rfl ?_
    exact h1 1 (by decide) c1_1
  refine And.intro (fun c1_2 => ?_) (fun n1_2 => ?_)
  · skip
    refine wk_aload_n (i := 0) (q := 55) dX12_now_54 rfl rfl rfl ?_
    refine wk_get (q := 58) fgX12_7 dX12_now_55 rfl rfl rfl rfl ?_
    refine wk_iconst (v := 4) (q := 59) dX12_now_58 rfl rfl ?_
    refine wk_sld (n := 4) (q := 60) dX12_now_59 rfl (by decide) rfl ?_
    refine wk_ireturn dX12_now_60 rfl rfl ?_
    exact h1 2 (by decide) c1_2
  refine And.intro (fun c1_3 => ?_) (fun n1_3 => ?_)
  · skip
    refine wk_aload_n (i := 0) (q := 62) dX12_now_61 rfl rfl rfl ?_
    refine wk_V0r (d' := 3) (q := 65) lkX12_82 dX12_now_62 rfl rfl rfl rfl rfl rfl rfl ?_
    refine ck_X12_wetOnes hO.1.1 hO.1.2.1 ?_
    refine wk_ireturn dX12_now_65 rfl rfl ?_
    exact h1 3 (by decide) c1_3
  refine And.intro (fun c1_4 => ?_) (fun n1_4 => ?_)
  · skip
    refine wk_aload_n (i := 0) (q := 67) dX12_now_66 rfl rfl rfl ?_
    refine wk_V0r (d' := 3) (q := 70) lkX12_86 dX12_now_67 rfl rfl rfl rfl rfl rfl rfl ?_
    refine ck_X12_holedOnes hO.1.1 hO.1.2.1 ?_
    refine wk_ireturn dX12_now_70 rfl rfl ?_
    exact h1 4 (by decide) c1_4
  refine And.intro (fun c1_5 => ?_) (fun n1_5 => ?_)
  · skip
    refine wk_aload_n (i := 0) (q := 72) dX12_now_71 rfl rfl rfl ?_
    refine wk_V0r (d' := 5) (q := 75) lkX12_89 dX12_now_72 rfl rfl rfl rfl rfl rfl rfl ?_
    refine ck_X12_fittingAny hO.1.1 hO.1.2.1 hO.2.1.1 hO.2.1.2.1 ?_
    refine wk_ireturn dX12_now_75 rfl rfl ?_
    exact h1 5 (by decide) c1_5
  refine wk_aload_n (i := 0) (q := 77) dX12_now_76 rfl rfl rfl ?_
  refine wk_ldc (q := 79) dX12_now_77 kX12_41 rfl ?_
  refine wk_V1r (d' := 1) (q := 82) lkX12_63 dX12_now_79 rfl rfl rfl rfl rfl rfl rfl ?_
  refine ck_X12_finds (i := 0) (by decide) (by decide) ?_
  refine wk_ireturn dX12_now_82 rfl rfl ?_
  refine h0 (fun n hn e => ?_)
  obtain rfl | rfl | rfl | rfl | rfl | rfl : n = 0 ∨ n = 1 ∨ n = 2 ∨ n = 3 ∨ n = 4 ∨ n = 5 := (by omega)
  all_goals first | exact n1_0 e | exact n1_1 e | exact n1_2 e | exact n1_3 e | exact n1_4 e | exact n1_5 e
theorem ck_X12_garment {k : Int32} (hO : okA D A) (h1 : 0 ≤ k ∧ k ≤ 5 → cA A < 8 → Q (.int (nI (cA A))) (wr m 73 (addA A k)) L) (h2 : 0 ≤ k ∧ k ≤ 5 → cA A = 8 → Q (.int (-1000000002)) (rfA (wr m 73 A) 1) L) (h0 : ¬ (0 ≤ k ∧ k ≤ 5) → Q (.int (-1000000001)) (rfA (wr m 73 A) 0) L) : CK E 3 MX12_garment [.ref (ev_z E + 72), .int k] (wr m 73 A) L Q := by
  have hc8 := hO.1.2.1
  refine CK.of rfl rfl (lv := [(0, _), (1, _)]) rfl ?_
  refine wk_iload_n (i := 1) (q := 1) dX12_garment_0 rfl rfl rfl ?_
  refine wk_S1r (d' := 2) (q := 4) lkX12_95 dX12_garment_1 rfl rfl rfl rfl ?_
  refine ck_X12_isKind (fun hk => ?_) (fun hk => ?_)
  · skip
    refine wk_if_ne (t := 14) (q := 7) dX12_garment_4 rfl rfl (fun _ => ?_) (fun h => absurd h (by decide))
    refine wk_aload_n (i := 0) (q := 15) dX12_garment_14 rfl rfl rfl ?_
    refine wk_get (q := 18) fgX12_7 dX12_garment_15 rfl rfl rfl rfl ?_
    refine wk_iconst (v := 1) (q := 19) dX12_garment_18 rfl rfl ?_
    refine wk_sld (n := 1) (q := 20) dX12_garment_19 rfl (by decide) rfl ?_
    refine wk_bipush (v := 8) (q := 22) dX12_garment_20 rfl rfl ?_
    rw [hO.1.1]
    refine wk_icmp_ne (t := 34) (q := 25) dX12_garment_22 rfl rfl (fun c22 => ?_) (fun c22 => ?_)
    · skip
      have hlt : cA A < 8 := by (rcases Nat.lt_or_ge (cA A) 8 with h | h; exact h; exact absurd (show nI (cA A) = nI 8 by rw [show cA A = 8 by omega]) c22)
      refine wk_aload_n (i := 0) (q := 35) dX12_garment_34 rfl rfl rfl ?_
      refine wk_iload_n (i := 1) (q := 36) dX12_garment_35 rfl rfl rfl ?_
      refine wk_V1r (d' := 2) (q := 39) lkX12_100 dX12_garment_36 rfl rfl rfl rfl rfl rfl rfl ?_
      refine ck_X12_adds hO.1.1 hlt rfl ?_
      refine wk_ireturn dX12_garment_39 rfl rfl ?_
      first | exact h2 hk heq | exact h1 hk hlt
    · skip
      have heq : cA A = 8 := nI_inj (a := cA A) (b := 8) (by omega) (by omega) c22
      refine wk_aload_n (i := 0) (q := 26) dX12_garment_25 rfl rfl rfl ?_
      refine wk_ldc (q := 28) dX12_garment_26 kX12_99 rfl ?_
      refine wk_V1r (d' := 1) (q := 31) lkX12_63 dX12_garment_28 rfl rfl rfl rfl rfl rfl rfl ?_
      refine ck_X12_finds (i := 1) (by decide) (by decide) ?_
      refine wk_goto (t := 39) dX12_garment_31 rfl ?_
      refine wk_ireturn dX12_garment_39 rfl rfl ?_
      first | exact h2 hk heq | exact h1 hk hlt
  · skip
    refine wk_if_ne (t := 14) (q := 7) dX12_garment_4 rfl rfl (fun h => absurd (by decide) h) (fun _ => ?_)
    refine wk_aload_n (i := 0) (q := 8) dX12_garment_7 rfl rfl rfl ?_
    refine wk_ldc (q := 10) dX12_garment_8 kX12_41 rfl ?_
    refine wk_V1r (d' := 1) (q := 13) lkX12_63 dX12_garment_10 rfl rfl rfl rfl rfl rfl rfl ?_
    refine ck_X12_finds (i := 0) (by decide) (by decide) ?_
    refine wk_ireturn dX12_garment_13 rfl rfl ?_
    exact h0 hk
theorem ck_X12_of {i w : Int32} (hO : okA D A) (h1 : ∀ g n, g < cA A → n ≤ 10 → i = nI g → w = nI n → Q (.int (ofR (gv A g) (A 3) (A 4) n)) (wr m 73 A) L) (h0 : (∀ g n, g < cA A → n ≤ 10 → ¬ (i = nI g ∧ w = nI n)) → Q (.int (-1000000001)) (rfA (wr m 73 A) 0) L) : CK E 5 MX12_of [.ref (ev_z E + 72), .int i, .int w] (wr m 73 A) L Q := by
  have hc8 := hO.1.2.1
  refine CK.of rfl rfl (lv := [(0, _), (1, _), (2, _)]) rfl ?_
  refine wk_aload_n (i := 0) (q := 1) dX12_of_0 rfl rfl rfl ?_
  refine wk_iload_n (i := 1) (q := 2) dX12_of_1 rfl rfl rfl ?_
  refine wk_V1r (d' := 2) (q := 5) lkX12_103 dX12_of_2 rfl rfl rfl rfl rfl rfl rfl ?_
  refine ck_X12_isGarment hO (fun g hg e => ?_) (fun hno => ?_)
  · skip
    subst e
    refine wk_if_eq (t := 20) (q := 8) dX12_of_5 rfl rfl (fun h => absurd h (by decide)) (fun _ => ?_)
    refine wk_iload_n (i := 2) (q := 9) dX12_of_8 rfl rfl rfl ?_
    refine wk_i2l (q := 10) dX12_of_9 rfl ?_
    refine wk_lconst (v := 0) (q := 11) dX12_of_10 rfl rfl ?_
    refine wk_ldc2 (q := 14) dX12_of_11 kX12_52 rfl ?_
    refine wk_S3r (d' := 1) (q := 17) lkX12_46 dX12_of_14 rfl rfl rfl rfl ?_
    refine ck_X12_in (lo := 0) (hi := 10) (fun hw => ?_) (fun hw => ?_)
    · skip
      obtain ⟨n, -, hn, rfl⟩ := rng (lo := 0) (hi := 10) (by omega) (by omega) hw
      refine wk_if_ne (t := 27) (q := 20) dX12_of_17 rfl rfl (fun _ => ?_) (fun h => absurd h (by decide))
      refine wk_iload_n (i := 2) (q := 28) dX12_of_27 rfl rfl rfl ?_
      refine wk_bipush (v := 6) (q := 30) dX12_of_28 rfl rfl ?_
      refine wk_icmp_gt (t := 40) (q := 33) dX12_of_30 rfl rfl (fun c30 => ?_) (fun c30 => ?_)
      · skip
        have h7 : 6 < n := by (rcases Nat.lt_or_ge 6 n with h | h; exact h; exact absurd c30 (nI_nlt (b := n) (a := 6) h (by omega)))
        refine wk_iload_n (i := 2) (q := 41) dX12_of_40 rfl rfl rfl ?_
        refine wk_bipush (v := 7) (q := 43) dX12_of_41 rfl rfl ?_
        refine wk_icmp_ne (t := 54) (q := 46) dX12_of_43 rfl rfl (fun c43 => ?_) (fun c43 => ?_)
        · skip
          refine wk_iload_n (i := 2) (q := 55) dX12_of_54 rfl rfl rfl ?_
          refine wk_bipush (v := 8) (q := 57) dX12_of_55 rfl rfl ?_
          refine wk_icmp_ne (t := 68) (q := 60) dX12_of_57 rfl rfl (fun c57 => ?_) (fun c57 => ?_)
          · skip
            refine wk_iload_n (i := 2) (q := 69) dX12_of_68 rfl rfl rfl ?_
            refine wk_bipush (v := 9) (q := 71) dX12_of_69 rfl rfl ?_
            refine wk_icmp_ne (t := 82) (q := 74) dX12_of_71 rfl rfl (fun c71 => ?_) (fun c71 => ?_)
            · skip
              refine wk_aload_n (i := 0) (q := 83) dX12_of_82 rfl rfl rfl ?_
              refine wk_iload_n (i := 1) (q := 84) dX12_of_83 rfl rfl rfl ?_
              refine wk_V1r (d' := 3) (q := 87) lkX12_112 dX12_of_84 rfl rfl rfl rfl rfl rfl rfl ?_
              refine ck_X12_keepsOf (g := g) (by omega) ?_
              refine wk_ireturn dX12_of_87 rfl rfl ?_
              first | (have e : n = 7 := nI_inj (b := 7) (by omega) (by omega) c43; subst e; exact h1 g 7 hg (by omega) rfl rfl) | (have e : n = 8 := nI_inj (b := 8) (by omega) (by omega) c57; subst e; exact h1 g 8 hg (by omega) rfl rfl) | (have e : n = 9 := nI_inj (b := 9) (by omega) (by omega) c71; subst e; exact h1 g 9 hg (by omega) rfl rfl) | (have q7 : n ≠ 7 := fun e => c43 (by rw [e]; rfl); have q8 : n ≠ 8 := fun e => c57 (by rw [e]; rfl); have q9 : n ≠ 9 := fun e => c71 (by rw [e]; rfl); have e : n = 10 := (by omega); subst e; exact h1 g 10 hg (by omega) rfl rfl)
            · skip
              refine wk_aload_n (i := 0) (q := 75) dX12_of_74 rfl rfl rfl ?_
              refine wk_iload_n (i := 1) (q := 76) dX12_of_75 rfl rfl rfl ?_
              refine wk_V1r (d' := 3) (q := 79) lkX12_109 dX12_of_76 rfl rfl rfl rfl rfl rfl rfl ?_
              refine ck_X12_bearsOf (g := g) (by omega) ?_
              refine wk_goto (t := 87) dX12_of_79 rfl ?_
              refine wk_ireturn dX12_of_87 rfl rfl ?_
              first | (have e : n = 7 := nI_inj (b := 7) (by omega) (by omega) c43; subst e; exact h1 g 7 hg (by omega) rfl rfl) | (have e : n = 8 := nI_inj (b := 8) (by omega) (by omega) c57; subst e; exact h1 g 8 hg (by omega) rfl rfl) | (have e : n = 9 := nI_inj (b := 9) (by omega) (by omega) c71; subst e; exact h1 g 9 hg (by omega) rfl rfl) | (have q7 : n ≠ 7 := fun e => c43 (by rw [e]; rfl); have q8 : n ≠ 8 := fun e => c57 (by rw [e]; rfl); have q9 : n ≠ 9 := fun e => c71 (by rw [e]; rfl); have e : n = 10 := (by omega); subst e; exact h1 g 10 hg (by omega) rfl rfl)
          · skip
            refine wk_aload_n (i := 0) (q := 61) dX12_of_60 rfl rfl rfl ?_
            refine wk_iload_n (i := 1) (q := 62) dX12_of_61 rfl rfl rfl ?_
            refine wk_V1r (d' := 4) (q := 65) lkX12_106 dX12_of_62 rfl rfl rfl rfl rfl rfl rfl ?_
            refine ck_X12_feltsOf (g := g) (by omega) ?_
            refine wk_goto (t := 87) dX12_of_65 rfl ?_
            refine wk_ireturn dX12_of_87 rfl rfl ?_
            first | (have e : n = 7 := nI_inj (b := 7) (by omega) (by omega) c43; subst e; exact h1 g 7 hg (by omega) rfl rfl) | (have e : n = 8 := nI_inj (b := 8) (by omega) (by omega) c57; subst e; exact h1 g 8 hg (by omega) rfl rfl) | (have e : n = 9 := nI_inj (b := 9) (by omega) (by omega) c71; subst e; exact h1 g 9 hg (by omega) rfl rfl) | (have q7 : n ≠ 7 := fun e => c43 (by rw [e]; rfl); have q8 : n ≠ 8 := fun e => c57 (by rw [e]; rfl); have q9 : n ≠ 9 := fun e => c71 (by rw [e]; rfl); have e : n = 10 := (by omega); subst e; exact h1 g 10 hg (by omega) rfl rfl)
        · skip
          refine wk_aload_n (i := 0) (q := 47) dX12_of_46 rfl rfl rfl ?_
          refine wk_iload_n (i := 1) (q := 48) dX12_of_47 rfl rfl rfl ?_
          refine wk_V1r (d' := 3) (q := 51) lkX12_92 dX12_of_48 rfl rfl rfl rfl rfl rfl rfl ?_
          refine ck_X12_shrinksOf (g := g) (by omega) ?_
          refine wk_goto (t := 87) dX12_of_51 rfl ?_
          refine wk_ireturn dX12_of_87 rfl rfl ?_
          first | (have e : n = 7 := nI_inj (b := 7) (by omega) (by omega) c43; subst e; exact h1 g 7 hg (by omega) rfl rfl) | (have e : n = 8 := nI_inj (b := 8) (by omega) (by omega) c57; subst e; exact h1 g 8 hg (by omega) rfl rfl) | (have e : n = 9 := nI_inj (b := 9) (by omega) (by omega) c71; subst e; exact h1 g 9 hg (by omega) rfl rfl) | (have q7 : n ≠ 7 := fun e => c43 (by rw [e]; rfl); have q8 : n ≠ 8 := fun e => c57 (by rw [e]; rfl); have q9 : n ≠ 9 := fun e => c71 (by rw [e]; rfl); have e : n = 10 := (by omega); subst e; exact h1 g 10 hg (by omega) rfl rfl)
      · skip
        have h7 : n ≤ 6 := by (rcases Nat.lt_or_ge 6 n with h | h; exact absurd (nI_lt (a := 6) h (by omega)) c30; exact h)
        refine wk_aload_n (i := 0) (q := 34) dX12_of_33 rfl rfl rfl ?_
        refine wk_iload_n (i := 1) (q := 35) dX12_of_34 rfl rfl rfl ?_
        refine wk_iload_n (i := 2) (q := 36) dX12_of_35 rfl rfl rfl ?_
        refine wk_V2r (d' := 2) (q := 39) lkX12_67 dX12_of_36 rfl rfl rfl rfl rfl rfl rfl ?_
        refine ck_X12_its (g := g) (w := n) (by omega) (by omega) ?_
        refine wk_ireturn dX12_of_39 rfl rfl ?_
        have hr := h1 g n hg (by omega) rfl rfl
        refine cast ?_ hr
        congr 2
        obtain rfl | rfl | rfl | rfl | rfl | rfl | rfl : n = 0 ∨ n = 1 ∨ n = 2 ∨ n = 3 ∨ n = 4 ∨ n = 5 ∨ n = 6 := (by omega)
        all_goals rfl
    · skip
      refine wk_if_ne (t := 27) (q := 20) dX12_of_17 rfl rfl (fun h => absurd (by decide) h) (fun _ => ?_)
      refine wk_aload_n (i := 0) (q := 21) dX12_of_20 rfl rfl rfl ?_
      refine wk_ldc (q := 23) dX12_of_21 kX12_41 rfl ?_
      refine wk_V1r (d' := 1) (q := 26) lkX12_63 dX12_of_23 rfl rfl rfl rfl rfl rfl rfl ?_
      refine ck_X12_finds (i := 0) (by decide) (by decide) ?_
      refine wk_ireturn dX12_of_26 rfl rfl ?_
      refine h0 (fun g' n' hg' hn' hh => ?_)
      first | exact hno g' hg' hh.1 | (have h2 := hh.2; subst h2; exact hw (rng' (lo := 0) (hi := 10) (by omega) (by omega) hn'))
  · skip
    refine wk_if_eq (t := 20) (q := 8) dX12_of_5 rfl rfl (fun _ => ?_) (fun h => absurd (by decide) h)
    refine wk_aload_n (i := 0) (q := 21) dX12_of_20 rfl rfl rfl ?_
    refine wk_ldc (q := 23) dX12_of_21 kX12_41 rfl ?_
    refine wk_V1r (d' := 1) (q := 26) lkX12_63 dX12_of_23 rfl rfl rfl rfl rfl rfl rfl ?_
    refine ck_X12_finds (i := 0) (by decide) (by decide) ?_
    refine wk_ireturn dX12_of_26 rfl rfl ?_
    refine h0 (fun g' n' hg' hn' hh => ?_)
    first | exact hno g' hg' hh.1 | (have h2 := hh.2; subst h2; exact hw (rng' (lo := 0) (hi := 10) (by omega) (by omega) hn'))
theorem ck_X12_isSet {w v : Int32} (h1 : maySetP w v → Q (.int 1) m L) (h0 : ¬ maySetP w v → Q (.int 0) m L) : CK E 3 MX12_isSet [.int w, .int v] m L Q := by
  refine CK.of rfl rfl (lv := [(0, _), (1, _)]) rfl ?_
  refine wk_iload_n (i := 0) (q := 1) dX12_isSet_0 rfl rfl rfl ?_
  refine wk_table (cs := [(1, 28), (2, 28), (3, 34)]) (td := 44) dX12_isSet_1 (by decide +kernel) ?_
  refine And.intro (fun c1_0 => ?_) (fun n1_0 => ?_)
  · skip
    refine wk_iload_n (i := 1) (q := 29) dX12_isSet_28 rfl rfl rfl ?_
    refine wk_i2l (q := 30) dX12_isSet_29 rfl ?_
    refine wk_S1r (d' := 2) (q := 33) lkX12_115 dX12_isSet_30 rfl rfl rfl rfl ?_
    refine ck_X12_isSize (fun hw => ?_) (fun hw => ?_)
    · skip
      refine wk_ireturn dX12_isSet_33 rfl rfl ?_
      refine h1 ?_
      unfold maySetP
      first | exact Or.inl ⟨Or.inl ‹_›, hw⟩ | exact Or.inl ⟨Or.inr ‹_›, hw⟩ | exact Or.inr (Or.inl ⟨‹_›, hw⟩) | exact Or.inr (Or.inr ⟨c47, hw⟩)
    · skip
      refine wk_ireturn dX12_isSet_33 rfl rfl ?_
      refine h0 ?_
      unfold maySetP
      intro hh
      rcases hh with ⟨e | e, hx⟩ | ⟨e, hx⟩ | ⟨e, hx⟩ <;> first | contradiction | exact hw hx | (subst e; first | contradiction | exact absurd ‹_› (by decide))
  refine And.intro (fun c1_1 => ?_) (fun n1_1 => ?_)
  · skip
    refine wk_iload_n (i := 1) (q := 29) dX12_isSet_28 rfl rfl rfl ?_
    refine wk_i2l (q := 30) dX12_isSet_29 rfl ?_
    refine wk_S1r (d' := 2) (q := 33) lkX12_115 dX12_isSet_30 rfl rfl rfl rfl ?_
    refine ck_X12_isSize (fun hw => ?_) (fun hw => ?_)
    · skip
      refine wk_ireturn dX12_isSet_33 rfl rfl ?_
      refine h1 ?_
      unfold maySetP
      first | exact Or.inl ⟨Or.inl ‹_›, hw⟩ | exact Or.inl ⟨Or.inr ‹_›, hw⟩ | exact Or.inr (Or.inl ⟨‹_›, hw⟩) | exact Or.inr (Or.inr ⟨c47, hw⟩)
    · skip
      refine wk_ireturn dX12_isSet_33 rfl rfl ?_
      refine h0 ?_
      unfold maySetP
      intro hh
      rcases hh with ⟨e | e, hx⟩ | ⟨e, hx⟩ | ⟨e, hx⟩ <;> first | contradiction | exact hw hx | (subst e; first | contradiction | exact absurd ‹_› (by decide))
  refine And.intro (fun c1_2 => ?_) (fun n1_2 => ?_)
  · skip
    refine wk_iload_n (i := 1) (q := 35) dX12_isSet_34 rfl rfl rfl ?_
    refine wk_i2l (q := 36) dX12_isSet_35 rfl ?_
    refine wk_lconst (v := 1) (q := 37) dX12_isSet_36 rfl rfl ?_
    refine wk_ldc2 (q := 40) dX12_isSet_37 kX12_119 rfl ?_
    refine wk_S3r (d' := 1) (q := 43) lkX12_46 dX12_isSet_40 rfl rfl rfl rfl ?_
    refine ck_X12_in (lo := 1) (hi := 99) (fun hw => ?_) (fun hw => ?_)
    · skip
      refine wk_ireturn dX12_isSet_43 rfl rfl ?_
      refine h1 ?_
      unfold maySetP
      first | exact Or.inl ⟨Or.inl ‹_›, hw⟩ | exact Or.inl ⟨Or.inr ‹_›, hw⟩ | exact Or.inr (Or.inl ⟨‹_›, hw⟩) | exact Or.inr (Or.inr ⟨c47, hw⟩)
    · skip
      refine wk_ireturn dX12_isSet_43 rfl rfl ?_
      refine h0 ?_
      unfold maySetP
      intro hh
      rcases hh with ⟨e | e, hx⟩ | ⟨e, hx⟩ | ⟨e, hx⟩ <;> first | contradiction | exact hw hx | (subst e; first | contradiction | exact absurd ‹_› (by decide))
  refine wk_iload_n (i := 0) (q := 45) dX12_isSet_44 rfl rfl rfl ?_
  refine wk_bipush (v := 6) (q := 47) dX12_isSet_45 rfl rfl ?_
  refine wk_icmp_ne (t := 66) (q := 50) dX12_isSet_47 rfl rfl (fun c47 => ?_) (fun c47 => ?_)
  · skip
    refine wk_iconst (v := 0) (q := 67) dX12_isSet_66 rfl rfl ?_
    refine wk_ireturn dX12_isSet_67 rfl rfl ?_
    refine h0 ?_
    unfold maySetP
    intro hh
    rcases hh with ⟨e | e, hx⟩ | ⟨e, hx⟩ | ⟨e, hx⟩ <;> first | contradiction | exact hw hx | (subst e; first | contradiction | exact absurd ‹_› (by decide))
  · skip
    refine wk_iload_n (i := 1) (q := 51) dX12_isSet_50 rfl rfl rfl ?_
    refine wk_i2l (q := 52) dX12_isSet_51 rfl ?_
    refine wk_lconst (v := 0) (q := 53) dX12_isSet_52 rfl rfl ?_
    refine wk_ldc2 (q := 56) dX12_isSet_53 kX12_121 rfl ?_
    refine wk_S3r (d' := 1) (q := 59) lkX12_46 dX12_isSet_56 rfl rfl rfl rfl ?_
    refine ck_X12_in (lo := 0) (hi := 9999) (fun hw => ?_) (fun hw => ?_)
    · skip
      refine wk_if_eq (t := 66) (q := 62) dX12_isSet_59 rfl rfl (fun h => absurd h (by decide)) (fun _ => ?_)
      refine wk_iconst (v := 1) (q := 63) dX12_isSet_62 rfl rfl ?_
      refine wk_goto (t := 67) dX12_isSet_63 rfl ?_
      refine wk_ireturn dX12_isSet_67 rfl rfl ?_
      refine h1 ?_
      unfold maySetP
      first | exact Or.inl ⟨Or.inl ‹_›, hw⟩ | exact Or.inl ⟨Or.inr ‹_›, hw⟩ | exact Or.inr (Or.inl ⟨‹_›, hw⟩) | exact Or.inr (Or.inr ⟨c47, hw⟩)
    · skip
      refine wk_if_eq (t := 66) (q := 62) dX12_isSet_59 rfl rfl (fun _ => ?_) (fun h => absurd (by decide) h)
      refine wk_iconst (v := 0) (q := 67) dX12_isSet_66 rfl rfl ?_
      refine wk_ireturn dX12_isSet_67 rfl rfl ?_
      refine h0 ?_
      unfold maySetP
      intro hh
      rcases hh with ⟨e | e, hx⟩ | ⟨e, hx⟩ | ⟨e, hx⟩ <;> first | contradiction | exact hw hx | (subst e; first | contradiction | exact absurd ‹_› (by decide))
theorem ck_X12_set {i w v : Int32} (hO : okA D A) (h1 : ∀ g f, g < cA A → (f = 1 ∨ f = 2 ∨ f = 3 ∨ f = 6) → i = nI g → w = nI f → maySetP w v → Q (.int (A (5 + 7 * g + f))) (wr m 73 (upd A (5 + 7 * g + f) v)) L) (h0 : ((∀ g, g < cA A → ¬ i = nI g) ∨ ¬ maySetP w v) → Q (.int (-1000000001)) (rfA (wr m 73 A) 0) L) : CK E 4 MX12_set [.ref (ev_z E + 72), .int i, .int w, .int v] (wr m 73 A) L Q := by
  have hc8 := hO.1.2.1
  refine CK.of rfl rfl (lv := [(0, _), (1, _), (2, _), (3, _)]) rfl ?_
  refine wk_aload_n (i := 0) (q := 1) dX12_set_0 rfl rfl rfl ?_
  refine wk_iload_n (i := 1) (q := 2) dX12_set_1 rfl rfl rfl ?_
  refine wk_V1r (d' := 2) (q := 5) lkX12_103 dX12_set_2 rfl rfl rfl rfl rfl rfl rfl ?_
  refine ck_X12_isGarment hO (fun g hg e => ?_) (fun hno => ?_)
  · skip
    subst e
    refine wk_if_eq (t := 29) (q := 8) dX12_set_5 rfl rfl (fun h => absurd h (by decide)) (fun _ => ?_)
    refine wk_iload_n (i := 2) (q := 9) dX12_set_8 rfl rfl rfl ?_
    refine wk_iload_n (i := 3) (q := 10) dX12_set_9 rfl rfl rfl ?_
    refine wk_S2r (d' := 3) (q := 13) lkX12_123 dX12_set_10 rfl rfl rfl rfl ?_
    refine ck_X12_isSet (fun hm => ?_) (fun hm => ?_)
    · skip
      obtain ⟨f, hf, ef⟩ : ∃ f, (f = 1 ∨ f = 2 ∨ f = 3 ∨ f = 6) ∧ w = nI f := by (rcases hm with ⟨e1 | e1, -⟩ | ⟨e1, -⟩ | ⟨e1, -⟩; exact ⟨1, by omega, e1⟩; exact ⟨2, by omega, e1⟩; exact ⟨3, by omega, e1⟩; exact ⟨6, by omega, e1⟩)
      subst ef
      refine wk_if_eq (t := 29) (q := 16) dX12_set_13 rfl rfl (fun h => absurd h (by decide)) (fun _ => ?_)
      refine wk_aload_n (i := 0) (q := 17) dX12_set_16 rfl rfl rfl ?_
      refine wk_iload_n (i := 1) (q := 18) dX12_set_17 rfl rfl rfl ?_
      refine wk_iload_n (i := 2) (q := 19) dX12_set_18 rfl rfl rfl ?_
      refine wk_S2r (d' := 1) (q := 22) lkX12_42 dX12_set_19 rfl rfl rfl rfl ?_
      refine ck_X12_spot (g := g) (w := f) ?_
      refine wk_iload_n (i := 3) (q := 23) dX12_set_22 rfl rfl rfl ?_
      refine wk_V2r (d' := 1) (q := 26) lkX12_60 dX12_set_23 rfl rfl rfl rfl rfl rfl rfl ?_
      refine ck_X12_becomes (n := 5 + 7 * g + f) (by omega) ?_
      refine wk_goto (t := 35) dX12_set_26 rfl ?_
      refine wk_ireturn dX12_set_35 rfl rfl ?_
      first | exact h1 g f hg hf rfl rfl hm | exact h0 (Or.inl hno) | exact h0 (Or.inr hm)
    · skip
      refine wk_if_eq (t := 29) (q := 16) dX12_set_13 rfl rfl (fun _ => ?_) (fun h => absurd (by decide) h)
      refine wk_aload_n (i := 0) (q := 30) dX12_set_29 rfl rfl rfl ?_
      refine wk_ldc (q := 32) dX12_set_30 kX12_41 rfl ?_
      refine wk_V1r (d' := 1) (q := 35) lkX12_63 dX12_set_32 rfl rfl rfl rfl rfl rfl rfl ?_
      refine ck_X12_finds (i := 0) (by decide) (by decide) ?_
      refine wk_ireturn dX12_set_35 rfl rfl ?_
      first | exact h1 g f hg hf rfl rfl hm | exact h0 (Or.inl hno) | exact h0 (Or.inr hm)
  · skip
    refine wk_if_eq (t := 29) (q := 8) dX12_set_5 rfl rfl (fun _ => ?_) (fun h => absurd (by decide) h)
    refine wk_aload_n (i := 0) (q := 30) dX12_set_29 rfl rfl rfl ?_
    refine wk_ldc (q := 32) dX12_set_30 kX12_41 rfl ?_
    refine wk_V1r (d' := 1) (q := 35) lkX12_63 dX12_set_32 rfl rfl rfl rfl rfl rfl rfl ?_
    refine ck_X12_finds (i := 0) (by decide) (by decide) ?_
    refine wk_ireturn dX12_set_35 rfl rfl ?_
    first | exact h1 g f hg hf rfl rfl hm | exact h0 (Or.inl hno) | exact h0 (Or.inr hm)
theorem ck_X12_wash {i : Int32} (hO : okA D A) (h1 : ∀ g, g < cA A → i = nI g → Q (.int (wshG (A 3) (A 4) (gv A g) 1)) (wr m 73 (gput A g (wshG (A 3) (A 4) (gv A g)))) L) (h0 : (∀ g, g < cA A → ¬ i = nI g) → Q (.int (-1000000001)) (rfA (wr m 73 A) 0) L) : CK E 6 MX12_wash [.ref (ev_z E + 72), .int i] (wr m 73 A) L Q := by
  have hc8 := hO.1.2.1
  refine CK.of rfl rfl (lv := [(0, _), (1, _)]) rfl ?_
  refine wk_aload_n (i := 0) (q := 1) dX12_wash_0 rfl rfl rfl ?_
  refine wk_iload_n (i := 1) (q := 2) dX12_wash_1 rfl rfl rfl ?_
  refine wk_V1r (d' := 2) (q := 5) lkX12_103 dX12_wash_2 rfl rfl rfl rfl rfl rfl rfl ?_
  refine ck_X12_isGarment hO (fun g hg e => ?_) (fun hno => ?_)
  · skip
    subst e
    refine wk_if_eq (t := 16) (q := 8) dX12_wash_5 rfl rfl (fun h => absurd h (by decide)) (fun _ => ?_)
    refine wk_aload_n (i := 0) (q := 9) dX12_wash_8 rfl rfl rfl ?_
    refine wk_iload_n (i := 1) (q := 10) dX12_wash_9 rfl rfl rfl ?_
    refine wk_V1r (d' := 5) (q := 13) lkX12_134 dX12_wash_10 rfl rfl rfl rfl rfl rfl rfl ?_
    refine ck_X12_washed (g := g) (by omega) ?_
    refine wk_goto (t := 22) dX12_wash_13 rfl ?_
    refine wk_ireturn dX12_wash_22 rfl rfl ?_
    first | exact h1 g hg rfl | exact h0 hno
  · skip
    refine wk_if_eq (t := 16) (q := 8) dX12_wash_5 rfl rfl (fun _ => ?_) (fun h => absurd (by decide) h)
    refine wk_aload_n (i := 0) (q := 17) dX12_wash_16 rfl rfl rfl ?_
    refine wk_ldc (q := 19) dX12_wash_17 kX12_41 rfl ?_
    refine wk_V1r (d' := 1) (q := 22) lkX12_63 dX12_wash_19 rfl rfl rfl rfl rfl rfl rfl ?_
    refine ck_X12_finds (i := 0) (by decide) (by decide) ?_
    refine wk_ireturn dX12_wash_22 rfl rfl ?_
    first | exact h1 g hg rfl | exact h0 hno
theorem ck_X12_draw {i n : Int32} (hO : okA D A) (h1 : ∀ g, g < cA A → i = nI g → 1 ≤ n ∧ n ≤ 50 → ¬ A (5 + 7 * g + 4) = 0 → Q (.int (drwG n (gv A g) 1)) (wr m 73 (gput A g (drwG n (gv A g)))) L) (h2 : ∀ g, g < cA A → i = nI g → 1 ≤ n ∧ n ≤ 50 → A (5 + 7 * g + 4) = 0 → Q (.int (-1000000005)) (rfA (wr m 73 A) 4) L) (h0 : ((∀ g, g < cA A → ¬ i = nI g) ∨ ¬ (1 ≤ n ∧ n ≤ 50)) → Q (.int (-1000000001)) (rfA (wr m 73 A) 0) L) : CK E 5 MX12_draw [.ref (ev_z E + 72), .int i, .int n] (wr m 73 A) L Q := by
  have hc8 := hO.1.2.1
  refine CK.of rfl rfl (lv := [(0, _), (1, _), (2, _)]) rfl ?_
  refine wk_aload_n (i := 0) (q := 1) dX12_draw_0 rfl rfl rfl ?_
  refine wk_iload_n (i := 1) (q := 2) dX12_draw_1 rfl rfl rfl ?_
  refine wk_V1r (d' := 2) (q := 5) lkX12_103 dX12_draw_2 rfl rfl rfl rfl rfl rfl rfl ?_
  refine ck_X12_isGarment hO (fun g hg e => ?_) (fun hno => ?_)
  · skip
    subst e
    refine wk_if_eq (t := 20) (q := 8) dX12_draw_5 rfl rfl (fun h => absurd h (by decide)) (fun _ => ?_)
    refine wk_iload_n (i := 2) (q := 9) dX12_draw_8 rfl rfl rfl ?_
    refine wk_i2l (q := 10) dX12_draw_9 rfl ?_
    refine wk_lconst (v := 1) (q := 11) dX12_draw_10 rfl rfl ?_
    refine wk_ldc2 (q := 14) dX12_draw_11 kX12_137 rfl ?_
    refine wk_S3r (d' := 1) (q := 17) lkX12_46 dX12_draw_14 rfl rfl rfl rfl ?_
    refine ck_X12_in (lo := 1) (hi := 50) (fun hw => ?_) (fun hw => ?_)
    · skip
      refine wk_if_ne (t := 27) (q := 20) dX12_draw_17 rfl rfl (fun _ => ?_) (fun h => absurd h (by decide))
      refine wk_aload_n (i := 0) (q := 28) dX12_draw_27 rfl rfl rfl ?_
      refine wk_iload_n (i := 1) (q := 29) dX12_draw_28 rfl rfl rfl ?_
      refine wk_iconst (v := 4) (q := 30) dX12_draw_29 rfl rfl ?_
      refine wk_V2r (d' := 2) (q := 33) lkX12_67 dX12_draw_30 rfl rfl rfl rfl rfl rfl rfl ?_
      refine ck_X12_its (g := g) (w := 4) (by omega) (by omega) ?_
      refine wk_if_ne (t := 45) (q := 36) dX12_draw_33 rfl rfl (fun c33 => ?_) (fun c33 => ?_)
      · skip
        refine wk_aload_n (i := 0) (q := 46) dX12_draw_45 rfl rfl rfl ?_
        refine wk_iload_n (i := 1) (q := 47) dX12_draw_46 rfl rfl rfl ?_
        refine wk_iload_n (i := 2) (q := 48) dX12_draw_47 rfl rfl rfl ?_
        refine wk_V2r (d' := 4) (q := 51) lkX12_140 dX12_draw_48 rfl rfl rfl rfl rfl rfl rfl ?_
        refine ck_X12_drawn (g := g) (by omega) ?_
        refine wk_ireturn dX12_draw_51 rfl rfl ?_
        first | exact h2 g hg rfl hw c33 | exact h1 g hg rfl hw c33
      · skip
        refine wk_aload_n (i := 0) (q := 37) dX12_draw_36 rfl rfl rfl ?_
        refine wk_ldc (q := 39) dX12_draw_37 kX12_139 rfl ?_
        refine wk_V1r (d' := 1) (q := 42) lkX12_63 dX12_draw_39 rfl rfl rfl rfl rfl rfl rfl ?_
        refine ck_X12_finds (i := 4) (by decide) (by decide) ?_
        refine wk_goto (t := 51) dX12_draw_42 rfl ?_
        refine wk_ireturn dX12_draw_51 rfl rfl ?_
        first | exact h2 g hg rfl hw c33 | exact h1 g hg rfl hw c33
    · skip
      refine wk_if_ne (t := 27) (q := 20) dX12_draw_17 rfl rfl (fun h => absurd (by decide) h) (fun _ => ?_)
      refine wk_aload_n (i := 0) (q := 21) dX12_draw_20 rfl rfl rfl ?_
      refine wk_ldc (q := 23) dX12_draw_21 kX12_41 rfl ?_
      refine wk_V1r (d' := 1) (q := 26) lkX12_63 dX12_draw_23 rfl rfl rfl rfl rfl rfl rfl ?_
      refine ck_X12_finds (i := 0) (by decide) (by decide) ?_
      refine wk_ireturn dX12_draw_26 rfl rfl ?_
      first | exact h0 (Or.inl hno) | exact h0 (Or.inr hw)
  · skip
    refine wk_if_eq (t := 20) (q := 8) dX12_draw_5 rfl rfl (fun _ => ?_) (fun h => absurd (by decide) h)
    refine wk_aload_n (i := 0) (q := 21) dX12_draw_20 rfl rfl rfl ?_
    refine wk_ldc (q := 23) dX12_draw_21 kX12_41 rfl ?_
    refine wk_V1r (d' := 1) (q := 26) lkX12_63 dX12_draw_23 rfl rfl rfl rfl rfl rfl rfl ?_
    refine ck_X12_finds (i := 0) (by decide) (by decide) ?_
    refine wk_ireturn dX12_draw_26 rfl rfl ?_
    first | exact h0 (Or.inl hno) | exact h0 (Or.inr hw)
theorem ck_X12_turn {i k : Int32} (hO : okA D A) (h1 : ∀ g, g < cA A → i = nI g → 0 ≤ k ∧ k ≤ 5 → Q (.int (A (5 + 7 * g + 0))) (wr m 73 (upd A (5 + 7 * g + 0) k)) L) (h0 : ((∀ g, g < cA A → ¬ i = nI g) ∨ ¬ (0 ≤ k ∧ k ≤ 5)) → Q (.int (-1000000001)) (rfA (wr m 73 A) 0) L) : CK E 3 MX12_turn [.ref (ev_z E + 72), .int i, .int k] (wr m 73 A) L Q := by
  have hc8 := hO.1.2.1
  refine CK.of rfl rfl (lv := [(0, _), (1, _), (2, _)]) rfl ?_
  refine wk_aload_n (i := 0) (q := 1) dX12_turn_0 rfl rfl rfl ?_
  refine wk_iload_n (i := 1) (q := 2) dX12_turn_1 rfl rfl rfl ?_
  refine wk_V1r (d' := 2) (q := 5) lkX12_103 dX12_turn_2 rfl rfl rfl rfl rfl rfl rfl ?_
  refine ck_X12_isGarment hO (fun g hg e => ?_) (fun hno => ?_)
  · skip
    subst e
    refine wk_if_eq (t := 28) (q := 8) dX12_turn_5 rfl rfl (fun h => absurd h (by decide)) (fun _ => ?_)
    refine wk_iload_n (i := 2) (q := 9) dX12_turn_8 rfl rfl rfl ?_
    refine wk_S1r (d' := 2) (q := 12) lkX12_95 dX12_turn_9 rfl rfl rfl rfl ?_
    refine ck_X12_isKind (fun hk => ?_) (fun hk => ?_)
    · skip
      refine wk_if_eq (t := 28) (q := 15) dX12_turn_12 rfl rfl (fun h => absurd h (by decide)) (fun _ => ?_)
      refine wk_aload_n (i := 0) (q := 16) dX12_turn_15 rfl rfl rfl ?_
      refine wk_iload_n (i := 1) (q := 17) dX12_turn_16 rfl rfl rfl ?_
      refine wk_iconst (v := 0) (q := 18) dX12_turn_17 rfl rfl ?_
      refine wk_S2r (d' := 1) (q := 21) lkX12_42 dX12_turn_18 rfl rfl rfl rfl ?_
      refine ck_X12_spot (g := g) (w := 0) ?_
      refine wk_iload_n (i := 2) (q := 22) dX12_turn_21 rfl rfl rfl ?_
      refine wk_V2r (d' := 1) (q := 25) lkX12_60 dX12_turn_22 rfl rfl rfl rfl rfl rfl rfl ?_
      refine ck_X12_becomes (n := 5 + 7 * g + 0) (by omega) ?_
      refine wk_goto (t := 34) dX12_turn_25 rfl ?_
      refine wk_ireturn dX12_turn_34 rfl rfl ?_
      first | exact h1 g hg rfl hk | exact h0 (Or.inl hno) | exact h0 (Or.inr hk)
    · skip
      refine wk_if_eq (t := 28) (q := 15) dX12_turn_12 rfl rfl (fun _ => ?_) (fun h => absurd (by decide) h)
      refine wk_aload_n (i := 0) (q := 29) dX12_turn_28 rfl rfl rfl ?_
      refine wk_ldc (q := 31) dX12_turn_29 kX12_41 rfl ?_
      refine wk_V1r (d' := 1) (q := 34) lkX12_63 dX12_turn_31 rfl rfl rfl rfl rfl rfl rfl ?_
      refine ck_X12_finds (i := 0) (by decide) (by decide) ?_
      refine wk_ireturn dX12_turn_34 rfl rfl ?_
      first | exact h1 g hg rfl hk | exact h0 (Or.inl hno) | exact h0 (Or.inr hk)
  · skip
    refine wk_if_eq (t := 28) (q := 8) dX12_turn_5 rfl rfl (fun _ => ?_) (fun h => absurd (by decide) h)
    refine wk_aload_n (i := 0) (q := 29) dX12_turn_28 rfl rfl rfl ?_
    refine wk_ldc (q := 31) dX12_turn_29 kX12_41 rfl ?_
    refine wk_V1r (d' := 1) (q := 34) lkX12_63 dX12_turn_31 rfl rfl rfl rfl rfl rfl rfl ?_
    refine ck_X12_finds (i := 0) (by decide) (by decide) ?_
    refine wk_ireturn dX12_turn_34 rfl rfl ?_
    first | exact h1 g hg rfl hk | exact h0 (Or.inl hno) | exact h0 (Or.inr hk)
theorem ck_X12_isUnder {c k : Int32} (h1 : isUnP c k → Q (.int 1) m L) (h0 : ¬ isUnP c k → Q (.int 0) m L) : CK E 1 MX12_isUnder [.int c, .int k] m L Q := by
  unfold isUnP at h1 h0
  refine CK.of rfl rfl (lv := [(0, _), (1, _)]) rfl ?_
  refine wk_iload_n (i := 1) (q := 1) dX12_isUnder_0 rfl rfl rfl ?_
  refine wk_if_eq (t := 29) (q := 4) dX12_isUnder_1 rfl rfl (fun c1 => ?_) (fun c1 => ?_)
  · skip
    refine wk_iconst (v := 1) (q := 30) dX12_isUnder_29 rfl rfl ?_
    refine wk_goto (t := 34) dX12_isUnder_30 rfl ?_
    refine wk_ireturn dX12_isUnder_34 rfl rfl ?_
    refine h1 ?_
    first | exact Or.inl c1 | exact Or.inr (Or.inl c6) | exact Or.inr (Or.inr (Or.inl ⟨c11, c16⟩)) | exact Or.inr (Or.inr (Or.inr ⟨c21, c26⟩))
  · skip
    refine wk_iload_n (i := 0) (q := 5) dX12_isUnder_4 rfl rfl rfl ?_
    refine wk_iload_n (i := 1) (q := 6) dX12_isUnder_5 rfl rfl rfl ?_
    refine wk_icmp_eq (t := 29) (q := 9) dX12_isUnder_6 rfl rfl (fun c6 => ?_) (fun c6 => ?_)
    · skip
      refine wk_iconst (v := 1) (q := 30) dX12_isUnder_29 rfl rfl ?_
      refine wk_goto (t := 34) dX12_isUnder_30 rfl ?_
      refine wk_ireturn dX12_isUnder_34 rfl rfl ?_
      refine h1 ?_
      first | exact Or.inl c1 | exact Or.inr (Or.inl c6) | exact Or.inr (Or.inr (Or.inl ⟨c11, c16⟩)) | exact Or.inr (Or.inr (Or.inr ⟨c21, c26⟩))
    · skip
      refine wk_iload_n (i := 0) (q := 10) dX12_isUnder_9 rfl rfl rfl ?_
      refine wk_iconst (v := 4) (q := 11) dX12_isUnder_10 rfl rfl ?_
      refine wk_icmp_ne (t := 19) (q := 14) dX12_isUnder_11 rfl rfl (fun c11 => ?_) (fun c11 => ?_)
      · skip
        refine wk_iload_n (i := 0) (q := 20) dX12_isUnder_19 rfl rfl rfl ?_
        refine wk_iconst (v := 5) (q := 21) dX12_isUnder_20 rfl rfl ?_
        refine wk_icmp_ne (t := 33) (q := 24) dX12_isUnder_21 rfl rfl (fun c21 => ?_) (fun c21 => ?_)
        · skip
          refine wk_iconst (v := 0) (q := 34) dX12_isUnder_33 rfl rfl ?_
          refine wk_ireturn dX12_isUnder_34 rfl rfl ?_
          refine h0 (fun hh => ?_)
          rcases hh with e | e | ⟨e1, e2⟩ | ⟨e1, e2⟩ <;> first | exact c1 e | exact c6 e | exact c11 e1 | exact c16 e2 | exact c21 e1 | exact c26 e2
        · skip
          refine wk_iload_n (i := 1) (q := 25) dX12_isUnder_24 rfl rfl rfl ?_
          refine wk_iconst (v := 2) (q := 26) dX12_isUnder_25 rfl rfl ?_
          refine wk_icmp_ne (t := 33) (q := 29) dX12_isUnder_26 rfl rfl (fun c26 => ?_) (fun c26 => ?_)
          · skip
            refine wk_iconst (v := 0) (q := 34) dX12_isUnder_33 rfl rfl ?_
            refine wk_ireturn dX12_isUnder_34 rfl rfl ?_
            refine h0 (fun hh => ?_)
            rcases hh with e | e | ⟨e1, e2⟩ | ⟨e1, e2⟩ <;> first | exact c1 e | exact c6 e | exact c11 e1 | exact c16 e2 | exact c21 e1 | exact c26 e2
          · skip
            refine wk_iconst (v := 1) (q := 30) dX12_isUnder_29 rfl rfl ?_
            refine wk_goto (t := 34) dX12_isUnder_30 rfl ?_
            refine wk_ireturn dX12_isUnder_34 rfl rfl ?_
            refine h1 ?_
            first | exact Or.inl c1 | exact Or.inr (Or.inl c6) | exact Or.inr (Or.inr (Or.inl ⟨c11, c16⟩)) | exact Or.inr (Or.inr (Or.inr ⟨c21, c26⟩))
      · skip
        refine wk_iload_n (i := 1) (q := 15) dX12_isUnder_14 rfl rfl rfl ?_
        refine wk_iconst (v := 1) (q := 16) dX12_isUnder_15 rfl rfl ?_
        refine wk_icmp_eq (t := 29) (q := 19) dX12_isUnder_16 rfl rfl (fun c16 => ?_) (fun c16 => ?_)
        · skip
          refine wk_iconst (v := 1) (q := 30) dX12_isUnder_29 rfl rfl ?_
          refine wk_goto (t := 34) dX12_isUnder_30 rfl ?_
          refine wk_ireturn dX12_isUnder_34 rfl rfl ?_
          refine h1 ?_
          first | exact Or.inl c1 | exact Or.inr (Or.inl c6) | exact Or.inr (Or.inr (Or.inl ⟨c11, c16⟩)) | exact Or.inr (Or.inr (Or.inr ⟨c21, c26⟩))
        · skip
          refine wk_iload_n (i := 0) (q := 20) dX12_isUnder_19 rfl rfl rfl ?_
          refine wk_iconst (v := 5) (q := 21) dX12_isUnder_20 rfl rfl ?_
          refine wk_icmp_ne (t := 33) (q := 24) dX12_isUnder_21 rfl rfl (fun c21 => ?_) (fun c21 => ?_)
          · skip
            refine wk_iconst (v := 0) (q := 34) dX12_isUnder_33 rfl rfl ?_
            refine wk_ireturn dX12_isUnder_34 rfl rfl ?_
            refine h0 (fun hh => ?_)
            rcases hh with e | e | ⟨e1, e2⟩ | ⟨e1, e2⟩ <;> first | exact c1 e | exact c6 e | exact c11 e1 | exact c16 e2 | exact c21 e1 | exact c26 e2
          · skip
            refine wk_iload_n (i := 1) (q := 25) dX12_isUnder_24 rfl rfl rfl ?_
            refine wk_iconst (v := 2) (q := 26) dX12_isUnder_25 rfl rfl ?_
            refine wk_icmp_ne (t := 33) (q := 29) dX12_isUnder_26 rfl rfl (fun c26 => ?_) (fun c26 => ?_)
            · skip
              refine wk_iconst (v := 0) (q := 34) dX12_isUnder_33 rfl rfl ?_
              refine wk_ireturn dX12_isUnder_34 rfl rfl ?_
              refine h0 (fun hh => ?_)
              rcases hh with e | e | ⟨e1, e2⟩ | ⟨e1, e2⟩ <;> first | exact c1 e | exact c6 e | exact c11 e1 | exact c16 e2 | exact c21 e1 | exact c26 e2
            · skip
              refine wk_iconst (v := 1) (q := 30) dX12_isUnder_29 rfl rfl ?_
              refine wk_goto (t := 34) dX12_isUnder_30 rfl ?_
              refine wk_ireturn dX12_isUnder_34 rfl rfl ?_
              refine h1 ?_
              first | exact Or.inl c1 | exact Or.inr (Or.inl c6) | exact Or.inr (Or.inr (Or.inl ⟨c11, c16⟩)) | exact Or.inr (Or.inr (Or.inr ⟨c21, c26⟩))
theorem ck_X12_as {i k : Int32} (hO : okA D A) (h1 : ∀ g, g < cA A → i = nI g → 0 ≤ k ∧ k ≤ 5 → isUnP (A (5 + 7 * g + 0)) k → Q (.int (A (5 + 7 * g + 3))) (wr m 73 A) L) (h2 : ∀ g, g < cA A → i = nI g → 0 ≤ k ∧ k ≤ 5 → ¬ isUnP (A (5 + 7 * g + 0)) k → Q (.int (-1000000003)) (rfA (wr m 73 A) 2) L) (h0 : ((∀ g, g < cA A → ¬ i = nI g) ∨ ¬ (0 ≤ k ∧ k ≤ 5)) → Q (.int (-1000000001)) (rfA (wr m 73 A) 0) L) : CK E 3 MX12_as [.ref (ev_z E + 72), .int i, .int k] (wr m 73 A) L Q := by
  have hc8 := hO.1.2.1
  refine CK.of rfl rfl (lv := [(0, _), (1, _), (2, _)]) rfl ?_
  refine wk_aload_n (i := 0) (q := 1) dX12_as_0 rfl rfl rfl ?_
  refine wk_iload_n (i := 1) (q := 2) dX12_as_1 rfl rfl rfl ?_
  refine wk_V1r (d' := 2) (q := 5) lkX12_103 dX12_as_2 rfl rfl rfl rfl rfl rfl rfl ?_
  refine ck_X12_isGarment hO (fun g hg e => ?_) (fun hno => ?_)
  · skip
    subst e
    refine wk_if_eq (t := 15) (q := 8) dX12_as_5 rfl rfl (fun h => absurd h (by decide)) (fun _ => ?_)
    refine wk_iload_n (i := 2) (q := 9) dX12_as_8 rfl rfl rfl ?_
    refine wk_S1r (d' := 2) (q := 12) lkX12_95 dX12_as_9 rfl rfl rfl rfl ?_
    refine ck_X12_isKind (fun hk => ?_) (fun hk => ?_)
    · skip
      refine wk_if_ne (t := 22) (q := 15) dX12_as_12 rfl rfl (fun _ => ?_) (fun h => absurd h (by decide))
      refine wk_aload_n (i := 0) (q := 23) dX12_as_22 rfl rfl rfl ?_
      refine wk_iload_n (i := 1) (q := 24) dX12_as_23 rfl rfl rfl ?_
      refine wk_iconst (v := 0) (q := 25) dX12_as_24 rfl rfl ?_
      refine wk_V2r (d' := 2) (q := 28) lkX12_67 dX12_as_25 rfl rfl rfl rfl rfl rfl rfl ?_
      refine ck_X12_its (g := g) (w := 0) (by omega) (by omega) ?_
      refine wk_iload_n (i := 2) (q := 29) dX12_as_28 rfl rfl rfl ?_
      refine wk_S2r (d' := 1) (q := 32) lkX12_143 dX12_as_29 rfl rfl rfl rfl ?_
      refine ck_X12_isUnder (fun hu => ?_) (fun hu => ?_)
      · skip
        refine wk_if_eq (t := 44) (q := 35) dX12_as_32 rfl rfl (fun h => absurd h (by decide)) (fun _ => ?_)
        refine wk_aload_n (i := 0) (q := 36) dX12_as_35 rfl rfl rfl ?_
        refine wk_iload_n (i := 1) (q := 37) dX12_as_36 rfl rfl rfl ?_
        refine wk_iconst (v := 3) (q := 38) dX12_as_37 rfl rfl ?_
        refine wk_V2r (d' := 2) (q := 41) lkX12_67 dX12_as_38 rfl rfl rfl rfl rfl rfl rfl ?_
        refine ck_X12_its (g := g) (w := 3) (by omega) (by omega) ?_
        refine wk_goto (t := 50) dX12_as_41 rfl ?_
        refine wk_ireturn dX12_as_50 rfl rfl ?_
        first | exact h2 g hg rfl hk hu | exact h1 g hg rfl hk hu
      · skip
        refine wk_if_eq (t := 44) (q := 35) dX12_as_32 rfl rfl (fun _ => ?_) (fun h => absurd (by decide) h)
        refine wk_aload_n (i := 0) (q := 45) dX12_as_44 rfl rfl rfl ?_
        refine wk_ldc (q := 47) dX12_as_45 kX12_146 rfl ?_
        refine wk_V1r (d' := 1) (q := 50) lkX12_63 dX12_as_47 rfl rfl rfl rfl rfl rfl rfl ?_
        refine ck_X12_finds (i := 2) (by decide) (by decide) ?_
        refine wk_ireturn dX12_as_50 rfl rfl ?_
        first | exact h2 g hg rfl hk hu | exact h1 g hg rfl hk hu
    · skip
      refine wk_if_ne (t := 22) (q := 15) dX12_as_12 rfl rfl (fun h => absurd (by decide) h) (fun _ => ?_)
      refine wk_aload_n (i := 0) (q := 16) dX12_as_15 rfl rfl rfl ?_
      refine wk_ldc (q := 18) dX12_as_16 kX12_41 rfl ?_
      refine wk_V1r (d' := 1) (q := 21) lkX12_63 dX12_as_18 rfl rfl rfl rfl rfl rfl rfl ?_
      refine ck_X12_finds (i := 0) (by decide) (by decide) ?_
      refine wk_ireturn dX12_as_21 rfl rfl ?_
      first | exact h0 (Or.inl hno) | exact h0 (Or.inr hk)
  · skip
    refine wk_if_eq (t := 15) (q := 8) dX12_as_5 rfl rfl (fun _ => ?_) (fun h => absurd (by decide) h)
    refine wk_aload_n (i := 0) (q := 16) dX12_as_15 rfl rfl rfl ?_
    refine wk_ldc (q := 18) dX12_as_16 kX12_41 rfl ?_
    refine wk_V1r (d' := 1) (q := 21) lkX12_63 dX12_as_18 rfl rfl rfl rfl rfl rfl rfl ?_
    refine ck_X12_finds (i := 0) (by decide) (by decide) ?_
    refine wk_ireturn dX12_as_21 rfl rfl ?_
    first | exact h0 (Or.inl hno) | exact h0 (Or.inr hk)
theorem ck_X12_addsPerson {c : Nat} {l w : Int32} (hc : A 2 = nI c) (hc8 : c < 6) (hcc : c = pA A) (hQ : Q (.int (nI c)) (wr m 73 (addP A l w)) L) : CK E 1 MX12_addsPerson [.ref (ev_z E + 72), .int l, .int w] (wr m 73 A) L Q := by
  refine CK.of rfl rfl (lv := [(0, _), (1, _), (2, _)]) rfl ?_
  refine wk_aload_n (i := 0) (q := 1) dX12_addsPerson_0 rfl rfl rfl ?_
  refine wk_get (q := 4) fgX12_7 dX12_addsPerson_1 rfl rfl rfl rfl ?_
  refine wk_iconst (v := 2) (q := 5) dX12_addsPerson_4 rfl rfl ?_
  refine wk_sld (n := 2) (q := 6) dX12_addsPerson_5 rfl (by decide) rfl ?_
  refine wk_istore_n (i := 3) (q := 7) (lv' := [_, _, _, _]) dX12_addsPerson_6 rfl rfl rfl rfl ?_
  rw [hc]
  refine wk_aload_n (i := 0) (q := 8) dX12_addsPerson_7 rfl rfl rfl ?_
  refine wk_get (q := 11) fgX12_7 dX12_addsPerson_8 rfl rfl rfl rfl ?_
  refine wk_iconst (v := 2) (q := 12) dX12_addsPerson_11 rfl rfl ?_
  refine wk_dup2 (q := 13) dX12_addsPerson_12 rfl rfl rfl ?_
  refine wk_sld (n := 2) (q := 14) dX12_addsPerson_13 rfl (by decide) rfl ?_
  refine wk_iconst (v := 1) (q := 15) dX12_addsPerson_14 rfl rfl ?_
  refine wk_iadd (q := 16) dX12_addsPerson_15 rfl ?_
  refine wk_sst (n := 2) (q := 17) dX12_addsPerson_16 rfl (by decide) rfl ?_
  refine wk_aload_n (i := 0) (q := 18) dX12_addsPerson_17 rfl rfl rfl ?_
  refine wk_get (q := 21) fgX12_7 dX12_addsPerson_18 rfl rfl rfl rfl ?_
  refine wk_bipush (v := 61) (q := 23) dX12_addsPerson_21 rfl rfl ?_
  refine wk_iconst (v := 2) (q := 24) dX12_addsPerson_23 rfl rfl ?_
  refine wk_iload_n (i := 3) (q := 25) dX12_addsPerson_24 rfl rfl rfl ?_
  refine wk_imul (q := 26) dX12_addsPerson_25 rfl ?_
  refine wk_iadd (q := 27) dX12_addsPerson_26 rfl ?_
  refine wk_iload_n (i := 1) (q := 28) dX12_addsPerson_27 rfl rfl rfl ?_
  rw [show 61 + 2 * nI c = 61 + 2 * nI c + nI 0 from (Int32.add_zero _).symm]
  refine wk_sst (n := (61 + 2 * c + 0)) (q := 29) dX12_addsPerson_28 (sz_e c 0) (by omega) rfl ?_
  refine wk_aload_n (i := 0) (q := 30) dX12_addsPerson_29 rfl rfl rfl ?_
  refine wk_get (q := 33) fgX12_7 dX12_addsPerson_30 rfl rfl rfl rfl ?_
  refine wk_bipush (v := 61) (q := 35) dX12_addsPerson_33 rfl rfl ?_
  refine wk_iconst (v := 2) (q := 36) dX12_addsPerson_35 rfl rfl ?_
  refine wk_iload_n (i := 3) (q := 37) dX12_addsPerson_36 rfl rfl rfl ?_
  refine wk_imul (q := 38) dX12_addsPerson_37 rfl ?_
  refine wk_iadd (q := 39) dX12_addsPerson_38 rfl ?_
  refine wk_iconst (v := 1) (q := 40) dX12_addsPerson_39 rfl rfl ?_
  refine wk_iadd (q := 41) dX12_addsPerson_40 rfl ?_
  refine wk_iload_n (i := 2) (q := 42) dX12_addsPerson_41 rfl rfl rfl ?_
  refine wk_sst (n := (61 + 2 * c + 1)) (q := 43) dX12_addsPerson_42 (sz_e c 1) (by omega) rfl ?_
  refine wk_iload_n (i := 3) (q := 44) dX12_addsPerson_43 rfl rfl rfl ?_
  refine wk_ireturn dX12_addsPerson_44 rfl rfl ?_
  refine cast ?_ hQ
  unfold addP
  rw [← hcc, hc]
  congr 2
  funext j
  unfold upd
  by_cases e0 : j = 2
  · (subst e0; rw [if_pos rfl, if_neg (by omega), if_neg (by omega), if_pos rfl])
  · (rw [if_neg e0]; by_cases e1 : j = 61 + 2 * c + 1; (rw [if_pos e1, if_pos e1]); (rw [if_neg e1, if_neg e1]; by_cases e2 : j = 61 + 2 * c; (rw [if_pos e2, if_pos (by omega)]); (rw [if_neg e2, if_neg (by omega), if_neg e0])))
theorem ck_X12_person {l w : Int32} (hO : okA D A) (h1 : 10 ≤ l ∧ l ≤ 200 → 10 ≤ w ∧ w ≤ 200 → pA A < 6 → Q (.int (nI (pA A))) (wr m 73 (addP A l w)) L) (h2 : 10 ≤ l ∧ l ≤ 200 → 10 ≤ w ∧ w ≤ 200 → pA A = 6 → Q (.int (-1000000002)) (rfA (wr m 73 A) 1) L) (h0 : ¬ ((10 ≤ l ∧ l ≤ 200) ∧ 10 ≤ w ∧ w ≤ 200) → Q (.int (-1000000001)) (rfA (wr m 73 A) 0) L) : CK E 3 MX12_person [.ref (ev_z E + 72), .int l, .int w] (wr m 73 A) L Q := by
  have hp6 := hO.2.1.2.1
  refine CK.of rfl rfl (lv := [(0, _), (1, _), (2, _)]) rfl ?_
  refine wk_iload_n (i := 1) (q := 1) dX12_person_0 rfl rfl rfl ?_
  refine wk_i2l (q := 2) dX12_person_1 rfl ?_
  refine wk_S1r (d' := 2) (q := 5) lkX12_115 dX12_person_2 rfl rfl rfl rfl ?_
  refine ck_X12_isSize (fun hw => ?_) (fun hw => ?_)
  · skip
    have hl := hw
    refine wk_if_eq (t := 16) (q := 8) dX12_person_5 rfl rfl (fun h => absurd h (by decide)) (fun _ => ?_)
    refine wk_iload_n (i := 2) (q := 9) dX12_person_8 rfl rfl rfl ?_
    refine wk_i2l (q := 10) dX12_person_9 rfl ?_
    refine wk_S1r (d' := 2) (q := 13) lkX12_115 dX12_person_10 rfl rfl rfl rfl ?_
    refine ck_X12_isSize (fun hw => ?_) (fun hw => ?_)
    · skip
      refine wk_if_ne (t := 23) (q := 16) dX12_person_13 rfl rfl (fun _ => ?_) (fun h => absurd h (by decide))
      refine wk_aload_n (i := 0) (q := 24) dX12_person_23 rfl rfl rfl ?_
      refine wk_get (q := 27) fgX12_7 dX12_person_24 rfl rfl rfl rfl ?_
      refine wk_iconst (v := 2) (q := 28) dX12_person_27 rfl rfl ?_
      refine wk_sld (n := 2) (q := 29) dX12_person_28 rfl (by decide) rfl ?_
      refine wk_bipush (v := 6) (q := 31) dX12_person_29 rfl rfl ?_
      rw [hO.2.1.1]
      refine wk_icmp_ne (t := 43) (q := 34) dX12_person_31 rfl rfl (fun c31 => ?_) (fun c31 => ?_)
      · skip
        have hlt : pA A < 6 := by (rcases Nat.lt_or_ge (pA A) 6 with h | h; exact h; exact absurd (show nI (pA A) = nI 6 by rw [show pA A = 6 by omega]) c31)
        refine wk_aload_n (i := 0) (q := 44) dX12_person_43 rfl rfl rfl ?_
        refine wk_iload_n (i := 1) (q := 45) dX12_person_44 rfl rfl rfl ?_
        refine wk_iload_n (i := 2) (q := 46) dX12_person_45 rfl rfl rfl ?_
        refine wk_V2r (d' := 1) (q := 49) lkX12_147 dX12_person_46 rfl rfl rfl rfl rfl rfl rfl ?_
        refine ck_X12_addsPerson hO.2.1.1 hlt rfl ?_
        refine wk_ireturn dX12_person_49 rfl rfl ?_
        first | exact h2 hl hw heq | exact h1 hl hw hlt
      · skip
        have heq : pA A = 6 := nI_inj (a := pA A) (b := 6) (by omega) (by omega) c31
        refine wk_aload_n (i := 0) (q := 35) dX12_person_34 rfl rfl rfl ?_
        refine wk_ldc (q := 37) dX12_person_35 kX12_99 rfl ?_
        refine wk_V1r (d' := 1) (q := 40) lkX12_63 dX12_person_37 rfl rfl rfl rfl rfl rfl rfl ?_
        refine ck_X12_finds (i := 1) (by decide) (by decide) ?_
        refine wk_goto (t := 49) dX12_person_40 rfl ?_
        refine wk_ireturn dX12_person_49 rfl rfl ?_
        first | exact h2 hl hw heq | exact h1 hl hw hlt
    · skip
      refine wk_if_ne (t := 23) (q := 16) dX12_person_13 rfl rfl (fun h => absurd (by decide) h) (fun _ => ?_)
      refine wk_aload_n (i := 0) (q := 17) dX12_person_16 rfl rfl rfl ?_
      refine wk_ldc (q := 19) dX12_person_17 kX12_41 rfl ?_
      refine wk_V1r (d' := 1) (q := 22) lkX12_63 dX12_person_19 rfl rfl rfl rfl rfl rfl rfl ?_
      refine ck_X12_finds (i := 0) (by decide) (by decide) ?_
      refine wk_ireturn dX12_person_22 rfl rfl ?_
      exact h0 (fun h => by first | exact hw h.1 | exact hw h.2)
  · skip
    refine wk_if_eq (t := 16) (q := 8) dX12_person_5 rfl rfl (fun _ => ?_) (fun h => absurd (by decide) h)
    refine wk_aload_n (i := 0) (q := 17) dX12_person_16 rfl rfl rfl ?_
    refine wk_ldc (q := 19) dX12_person_17 kX12_41 rfl ?_
    refine wk_V1r (d' := 1) (q := 22) lkX12_63 dX12_person_19 rfl rfl rfl rfl rfl rfl rfl ?_
    refine ck_X12_finds (i := 0) (by decide) (by decide) ?_
    refine wk_ireturn dX12_person_22 rfl rfl ?_
    exact h0 (fun h => by first | exact hw h.1 | exact hw h.2)
theorem ck_X12_size {i w : Int32} (hO : okA D A) (h1 : ∀ p f, p < pA A → f ≤ 1 → i = nI p → w = nI f → Q (.int (A (61 + 2 * p + f))) (wr m 73 A) L) (h0 : (∀ p f, p < pA A → f ≤ 1 → ¬ (i = nI p ∧ w = nI f)) → Q (.int (-1000000001)) (rfA (wr m 73 A) 0) L) : CK E 3 MX12_size [.ref (ev_z E + 72), .int i, .int w] (wr m 73 A) L Q := by
  have hp6 := hO.2.1.2.1
  refine CK.of rfl rfl (lv := [(0, _), (1, _), (2, _)]) rfl ?_
  refine wk_aload_n (i := 0) (q := 1) dX12_size_0 rfl rfl rfl ?_
  refine wk_iload_n (i := 1) (q := 2) dX12_size_1 rfl rfl rfl ?_
  refine wk_V1r (d' := 2) (q := 5) lkX12_150 dX12_size_2 rfl rfl rfl rfl rfl rfl rfl ?_
  refine ck_X12_isPerson hO (fun p hp e => ?_) (fun hnp => ?_)
  · skip
    subst e
    refine wk_if_eq (t := 27) (q := 8) dX12_size_5 rfl rfl (fun h => absurd h (by decide)) (fun _ => ?_)
    refine wk_iload_n (i := 2) (q := 9) dX12_size_8 rfl rfl rfl ?_
    refine wk_i2l (q := 10) dX12_size_9 rfl ?_
    refine wk_lconst (v := 0) (q := 11) dX12_size_10 rfl rfl ?_
    refine wk_lconst (v := 1) (q := 12) dX12_size_11 rfl rfl ?_
    refine wk_S3r (d' := 1) (q := 15) lkX12_46 dX12_size_12 rfl rfl rfl rfl ?_
    refine ck_X12_in (lo := 0) (hi := 1) (fun hw => ?_) (fun hw => ?_)
    · skip
      obtain ⟨f, -, hf, rfl⟩ := rng (lo := 0) (hi := 1) (by omega) (by omega) hw
      refine wk_if_eq (t := 27) (q := 18) dX12_size_15 rfl rfl (fun h => absurd h (by decide)) (fun _ => ?_)
      refine wk_aload_n (i := 0) (q := 19) dX12_size_18 rfl rfl rfl ?_
      refine wk_iload_n (i := 1) (q := 20) dX12_size_19 rfl rfl rfl ?_
      refine wk_iload_n (i := 2) (q := 21) dX12_size_20 rfl rfl rfl ?_
      refine wk_V2r (d' := 1) (q := 24) lkX12_70 dX12_size_21 rfl rfl rfl rfl rfl rfl rfl ?_
      refine ck_X12_sizeOfOne (g := p) (w := f) (by omega) (by omega) ?_
      refine wk_goto (t := 33) dX12_size_24 rfl ?_
      refine wk_ireturn dX12_size_33 rfl rfl ?_
      first | exact h1 p f hp hf rfl rfl | (refine h0 (fun p' f hp' hf h => ?_); first | exact hnp p' hp' h.1 | (have h2 := h.2; subst h2; exact hw (rng' (lo := 0) (hi := 1) (by omega) (by omega) hf)))
    · skip
      refine wk_if_eq (t := 27) (q := 18) dX12_size_15 rfl rfl (fun _ => ?_) (fun h => absurd (by decide) h)
      refine wk_aload_n (i := 0) (q := 28) dX12_size_27 rfl rfl rfl ?_
      refine wk_ldc (q := 30) dX12_size_28 kX12_41 rfl ?_
      refine wk_V1r (d' := 1) (q := 33) lkX12_63 dX12_size_30 rfl rfl rfl rfl rfl rfl rfl ?_
      refine ck_X12_finds (i := 0) (by decide) (by decide) ?_
      refine wk_ireturn dX12_size_33 rfl rfl ?_
      first | exact h1 p f hp hf rfl rfl | (refine h0 (fun p' f hp' hf h => ?_); first | exact hnp p' hp' h.1 | (have h2 := h.2; subst h2; exact hw (rng' (lo := 0) (hi := 1) (by omega) (by omega) hf)))
  · skip
    refine wk_if_eq (t := 27) (q := 8) dX12_size_5 rfl rfl (fun _ => ?_) (fun h => absurd (by decide) h)
    refine wk_aload_n (i := 0) (q := 28) dX12_size_27 rfl rfl rfl ?_
    refine wk_ldc (q := 30) dX12_size_28 kX12_41 rfl ?_
    refine wk_V1r (d' := 1) (q := 33) lkX12_63 dX12_size_30 rfl rfl rfl rfl rfl rfl rfl ?_
    refine ck_X12_finds (i := 0) (by decide) (by decide) ?_
    refine wk_ireturn dX12_size_33 rfl rfl ?_
    first | exact h1 p f hp hf rfl rfl | (refine h0 (fun p' f hp' hf h => ?_); first | exact hnp p' hp' h.1 | (have h2 := h.2; subst h2; exact hw (rng' (lo := 0) (hi := 1) (by omega) (by omega) hf)))
theorem ck_X12_fits {i : Int32} (hO : okA D A) (h1 : ∀ p, p < pA A → i = nI p → Q (.int (bitsS (fitB A p) (cA A))) (wr m 73 A) L) (h0 : (∀ p, p < pA A → ¬ i = nI p) → Q (.int (-1000000001)) (rfA (wr m 73 A) 0) L) : CK E 5 MX12_fits [.ref (ev_z E + 72), .int i] (wr m 73 A) L Q := by
  have hp6 := hO.2.1.2.1
  refine CK.of rfl rfl (lv := [(0, _), (1, _)]) rfl ?_
  refine wk_aload_n (i := 0) (q := 1) dX12_fits_0 rfl rfl rfl ?_
  refine wk_iload_n (i := 1) (q := 2) dX12_fits_1 rfl rfl rfl ?_
  refine wk_V1r (d' := 2) (q := 5) lkX12_150 dX12_fits_2 rfl rfl rfl rfl rfl rfl rfl ?_
  refine ck_X12_isPerson hO (fun p hp e => ?_) (fun hnp => ?_)
  · skip
    subst e
    refine wk_if_eq (t := 16) (q := 8) dX12_fits_5 rfl rfl (fun h => absurd h (by decide)) (fun _ => ?_)
    refine wk_aload_n (i := 0) (q := 9) dX12_fits_8 rfl rfl rfl ?_
    refine wk_iload_n (i := 1) (q := 10) dX12_fits_9 rfl rfl rfl ?_
    refine wk_V1r (d' := 4) (q := 13) lkX12_79 dX12_fits_10 rfl rfl rfl rfl rfl rfl rfl ?_
    refine ck_X12_fittingOnes (p := p) hO.1.1 hO.1.2.1 (by omega) ?_
    refine wk_goto (t := 22) dX12_fits_13 rfl ?_
    refine wk_ireturn dX12_fits_22 rfl rfl ?_
    first | exact h1 p hp rfl | exact h0 hnp
  · skip
    refine wk_if_eq (t := 16) (q := 8) dX12_fits_5 rfl rfl (fun _ => ?_) (fun h => absurd (by decide) h)
    refine wk_aload_n (i := 0) (q := 17) dX12_fits_16 rfl rfl rfl ?_
    refine wk_ldc (q := 19) dX12_fits_17 kX12_41 rfl ?_
    refine wk_V1r (d' := 1) (q := 22) lkX12_63 dX12_fits_19 rfl rfl rfl rfl rfl rfl rfl ?_
    refine ck_X12_finds (i := 0) (by decide) (by decide) ?_
    refine wk_ireturn dX12_fits_22 rfl rfl ?_
    first | exact h1 p hp rfl | exact h0 hnp
theorem ck_X12_days {n : Int32} (hO : okA D A) (hd : 0 ≤ (A 0).toInt ∧ (A 0).toInt ≤ 99999) (h1 : ∀ N, 1 ≤ N → N ≤ 100 → n = nI N → (A 0).toInt + N ≤ 99999 → Q (.int (bitsS (wetB (dayA A N)) (cA A))) (wr m 73 (dayA A N)) L) (h2 : ∀ N, 1 ≤ N → N ≤ 100 → n = nI N → ¬ (A 0).toInt + N ≤ 99999 → Q (.int (-1000000005)) (rfA (wr m 73 A) 4) L) (h0 : ¬ (1 ≤ n ∧ n ≤ 100) → Q (.int (-1000000001)) (rfA (wr m 73 A) 0) L) : CK E 6 MX12_days [.ref (ev_z E + 72), .int n] (wr m 73 A) L Q := by
  refine CK.of rfl rfl (lv := [(0, _), (1, _)]) rfl ?_
  refine wk_iload_n (i := 1) (q := 1) dX12_days_0 rfl rfl rfl ?_
  refine wk_i2l (q := 2) dX12_days_1 rfl ?_
  refine wk_lconst (v := 1) (q := 3) dX12_days_2 rfl rfl ?_
  refine wk_ldc2 (q := 6) dX12_days_3 kX12_157 rfl ?_
  refine wk_S3r (d' := 1) (q := 9) lkX12_46 dX12_days_6 rfl rfl rfl rfl ?_
  refine ck_X12_in (lo := 1) (hi := 100) (fun hw => ?_) (fun hw => ?_)
  · skip
    obtain ⟨N, hN1, hN2, rfl⟩ := rng (lo := 1) (hi := 100) (by omega) (by omega) hw
    have hi := nI_toInt (n := N) (by omega)
    have hs : (A 0 + nI N).toInt = (A 0).toInt + N := by (rw [ad_i (by omega) (by omega), hi])
    refine wk_if_ne (t := 19) (q := 12) dX12_days_9 rfl rfl (fun _ => ?_) (fun h => absurd h (by decide))
    refine wk_aload_n (i := 0) (q := 20) dX12_days_19 rfl rfl rfl ?_
    refine wk_get (q := 23) fgX12_7 dX12_days_20 rfl rfl rfl rfl ?_
    refine wk_iconst (v := 0) (q := 24) dX12_days_23 rfl rfl ?_
    refine wk_sld (n := 0) (q := 25) dX12_days_24 rfl (by decide) rfl ?_
    refine wk_iload_n (i := 1) (q := 26) dX12_days_25 rfl rfl rfl ?_
    refine wk_iadd (q := 27) dX12_days_26 rfl ?_
    refine wk_ldc (q := 29) dX12_days_27 kX12_159 rfl ?_
    refine wk_icmp_le (t := 39) (q := 32) dX12_days_29 rfl rfl (fun c29 => ?_) (fun c29 => ?_)
    · skip
      refine wk_aload_n (i := 0) (q := 40) dX12_days_39 rfl rfl rfl ?_
      refine wk_iload_n (i := 1) (q := 41) dX12_days_40 rfl rfl rfl ?_
      refine wk_V1v (d' := 5) (q := 44) lkX12_160 dX12_days_41 rfl rfl rfl rfl rfl rfl rfl ?_
      refine ck_X12_daysGo (N := N) (by omega) hO ?_
      refine wk_aload_n (i := 0) (q := 45) dX12_days_44 rfl rfl rfl ?_
      refine wk_V0r (d' := 3) (q := 48) lkX12_82 dX12_days_45 rfl rfl rfl rfl rfl rfl rfl ?_
      refine ck_X12_wetOnes (c := cA A) ((upd_n (by decide)).trans ((gmapA_n (by omega)).trans hO.1.1)) hO.1.2.1 ?_
      refine wk_ireturn dX12_days_48 rfl rfl ?_
      exact h1 N hN1 hN2 rfl (by rw [fa_le, hs, show (99999 : Int32).toInt = 99999 by decide] at c29; omega)
    · skip
      refine wk_aload_n (i := 0) (q := 33) dX12_days_32 rfl rfl rfl ?_
      refine wk_ldc (q := 35) dX12_days_33 kX12_139 rfl ?_
      refine wk_V1r (d' := 1) (q := 38) lkX12_63 dX12_days_35 rfl rfl rfl rfl rfl rfl rfl ?_
      refine ck_X12_finds (i := 4) (by decide) (by decide) ?_
      refine wk_ireturn dX12_days_38 rfl rfl ?_
      exact h2 N hN1 hN2 rfl (by rw [fa_le, hs, show (99999 : Int32).toInt = 99999 by decide] at c29; omega)
  · skip
    refine wk_if_ne (t := 19) (q := 12) dX12_days_9 rfl rfl (fun h => absurd (by decide) h) (fun _ => ?_)
    refine wk_aload_n (i := 0) (q := 13) dX12_days_12 rfl rfl rfl ?_
    refine wk_ldc (q := 15) dX12_days_13 kX12_41 rfl ?_
    refine wk_V1r (d' := 1) (q := 18) lkX12_63 dX12_days_15 rfl rfl rfl rfl rfl rfl rfl ?_
    refine ck_X12_finds (i := 0) (by decide) (by decide) ?_
    refine wk_ireturn dX12_days_18 rfl rfl ?_
    exact h0 hw
end MO
