/-! a kind's number, what stands under what, the trial of the class -/
section KN
variable {E : EVt} {d : Nat} {M : MDt} {pc q : Nat} {lv : List (Nat × Value)} {st : List Value} {m : Mm} {L : Ml} {Q : Value → Mm → Ml → Prop}
theorem c05 {c : Int32} (h : 0 ≤ c.toInt ∧ c.toInt ≤ 5) (e1 : ¬ c = 1) (e2 : ¬ c = 2) (e3 : ¬ c = 3) (e4 : ¬ c = 4) (e5 : ¬ c = 5) : c = 0 := by
  rw [fa_eq] at *
  have l0 : (0 : Int32).toInt = 0 := by decide
  have l1 : (1 : Int32).toInt = 1 := by decide
  have l2 : (2 : Int32).toInt = 2 := by decide
  have l3 : (3 : Int32).toInt = 3 := by decide
  have l4 : (4 : Int32).toInt = 4 := by decide
  have l5 : (5 : Int32).toInt = 5 := by decide
  omega
theorem wk_gnum {ix : Nat} {c : Int32} (h1 : FG M.1.cls ix 1 0) (h3 : FG M.1.cls ix 3 0) (h4 : FG M.1.cls ix 4 0) (h7 : FG M.1.cls ix 7 0) (h8 : FG M.1.cls ix 8 0) (h10 : FG M.1.cls ix 10 0) (hc : 0 ≤ c.toInt ∧ c.toInt ≤ 5) (hd : decode M.2.1 pc = .ok (.getfield ix, 3)) (hq : pc + 3 = q) (kk : WK E d M q lv (.int c :: st) m L Q) : WK E d M pc lv (.ref (ev_z E + kref c) :: st) m L Q := by
  by_cases e1 : c = 1
  · subst e1
    exact wk_get (s := 10) (k := 2) (v := .int 1) h10 hd rfl rfl rfl hq kk
  by_cases e2 : c = 2
  · subst e2
    exact wk_get (s := 1) (k := 3) (v := .int 2) h1 hd rfl rfl rfl hq kk
  by_cases e3 : c = 3
  · subst e3
    exact wk_get (s := 7) (k := 4) (v := .int 3) h7 hd rfl rfl rfl hq kk
  by_cases e4 : c = 4
  · subst e4
    exact wk_get (s := 3) (k := 6) (v := .int 4) h3 hd rfl rfl rfl hq kk
  by_cases e5 : c = 5
  · subst e5
    exact wk_get (s := 8) (k := 7) (v := .int 5) h8 hd rfl rfl rfl hq kk
  · have e0 := c05 hc e1 e2 e3 e4 e5
    subst e0
    exact wk_get (s := 4) (k := 1) (v := .int 0) h4 hd rfl rfl rfl hq kk
theorem ck_und_0 {k : Int32} (h1 : isUnP 0 k → Q (.int 1) m L) (h0 : ¬ isUnP 0 k → Q (.int 0) m L) : CK E 1 MX4_isOrIsUnder [.ref (ev_z E + 1), .int k] m L Q := by
  refine CK.of rfl rfl (lv := [(0, _), (1, _)]) rfl ?_
  refine wk_aload_n (i := 0) (q := 1) dX4_isOrIsUnder_0 rfl rfl rfl ?_
  refine wk_astore_n (i := 2) (q := 2) (lv' := [_, _, _]) dX4_isOrIsUnder_1 rfl rfl rfl rfl ?_
  refine wk_aload_n (i := 2) (q := 3) dX4_isOrIsUnder_2 rfl rfl rfl ?_
  refine wk_ifnull (q := 6) dX4_isOrIsUnder_3 rfl ?_
  refine wk_aload_n (i := 2) (q := 7) dX4_isOrIsUnder_6 rfl rfl rfl ?_
  refine wk_get (v := .int 0) (q := 10) fgX4_9_4 dX4_isOrIsUnder_7 rfl rfl rfl rfl ?_
  refine wk_iload_n (i := 1) (q := 11) dX4_isOrIsUnder_10 rfl rfl rfl ?_
  refine wk_icmp_ne (t := 16) (q := 14) dX4_isOrIsUnder_11 rfl rfl (fun c11 => ?_) (fun c11 => ?_)
  · skip
    refine wk_aload_n (i := 2) (q := 17) dX4_isOrIsUnder_16 rfl rfl rfl ?_
    refine wk_get (v := .null) (q := 20) fgX4_15_4 dX4_isOrIsUnder_17 rfl rfl rfl rfl ?_
    refine wk_astore_nN (i := 2) (q := 21) (lv' := [_, _, _]) dX4_isOrIsUnder_20 rfl rfl rfl rfl ?_
    refine wk_goto (t := 2) dX4_isOrIsUnder_21 rfl ?_
    refine wk_aload_nN (i := 2) (q := 3) dX4_isOrIsUnder_2 rfl rfl rfl ?_
    refine wk_ifnullN (t := 24) dX4_isOrIsUnder_3 rfl ?_
    refine wk_iconst (v := 0) (q := 25) dX4_isOrIsUnder_24 rfl rfl ?_
    refine wk_ireturn dX4_isOrIsUnder_25 rfl rfl ?_
    refine h0 ?_
    unfold isUnP
    intro h
    rcases h with rfl | rfl | ⟨h, rfl⟩ | ⟨h, rfl⟩ <;> first | exact absurd h (by decide) | contradiction | simp_all
  · skip
    refine wk_iconst (v := 1) (q := 15) dX4_isOrIsUnder_14 rfl rfl ?_
    refine wk_ireturn dX4_isOrIsUnder_15 rfl rfl ?_
    subst c11
    exact h1 (by unfold isUnP; decide)
theorem ck_und_1 {k : Int32} (h1 : isUnP 1 k → Q (.int 1) m L) (h0 : ¬ isUnP 1 k → Q (.int 0) m L) : CK E 1 MX4_isOrIsUnder [.ref (ev_z E + 2), .int k] m L Q := by
  refine CK.of rfl rfl (lv := [(0, _), (1, _)]) rfl ?_
  refine wk_aload_n (i := 0) (q := 1) dX4_isOrIsUnder_0 rfl rfl rfl ?_
  refine wk_astore_n (i := 2) (q := 2) (lv' := [_, _, _]) dX4_isOrIsUnder_1 rfl rfl rfl rfl ?_
  refine wk_aload_n (i := 2) (q := 3) dX4_isOrIsUnder_2 rfl rfl rfl ?_
  refine wk_ifnull (q := 6) dX4_isOrIsUnder_3 rfl ?_
  refine wk_aload_n (i := 2) (q := 7) dX4_isOrIsUnder_6 rfl rfl rfl ?_
  refine wk_get (v := .int 1) (q := 10) fgX4_9_10 dX4_isOrIsUnder_7 rfl rfl rfl rfl ?_
  refine wk_iload_n (i := 1) (q := 11) dX4_isOrIsUnder_10 rfl rfl rfl ?_
  refine wk_icmp_ne (t := 16) (q := 14) dX4_isOrIsUnder_11 rfl rfl (fun c11 => ?_) (fun c11 => ?_)
  · skip
    refine wk_aload_n (i := 2) (q := 17) dX4_isOrIsUnder_16 rfl rfl rfl ?_
    refine wk_get (v := .ref (ev_z E + 1)) (q := 20) fgX4_15_10 dX4_isOrIsUnder_17 rfl rfl rfl rfl ?_
    refine wk_astore_n (i := 2) (q := 21) (lv' := [_, _, _]) dX4_isOrIsUnder_20 rfl rfl rfl rfl ?_
    refine wk_goto (t := 2) dX4_isOrIsUnder_21 rfl ?_
    refine wk_aload_n (i := 2) (q := 3) dX4_isOrIsUnder_2 rfl rfl rfl ?_
    refine wk_ifnull (q := 6) dX4_isOrIsUnder_3 rfl ?_
    refine wk_aload_n (i := 2) (q := 7) dX4_isOrIsUnder_6 rfl rfl rfl ?_
    refine wk_get (v := .int 0) (q := 10) fgX4_9_4 dX4_isOrIsUnder_7 rfl rfl rfl rfl ?_
    refine wk_iload_n (i := 1) (q := 11) dX4_isOrIsUnder_10 rfl rfl rfl ?_
    refine wk_icmp_ne (t := 16) (q := 14) dX4_isOrIsUnder_11 rfl rfl (fun c11 => ?_) (fun c11 => ?_)
    · skip
      refine wk_aload_n (i := 2) (q := 17) dX4_isOrIsUnder_16 rfl rfl rfl ?_
      refine wk_get (v := .null) (q := 20) fgX4_15_4 dX4_isOrIsUnder_17 rfl rfl rfl rfl ?_
      refine wk_astore_nN (i := 2) (q := 21) (lv' := [_, _, _]) dX4_isOrIsUnder_20 rfl rfl rfl rfl ?_
      refine wk_goto (t := 2) dX4_isOrIsUnder_21 rfl ?_
      refine wk_aload_nN (i := 2) (q := 3) dX4_isOrIsUnder_2 rfl rfl rfl ?_
      refine wk_ifnullN (t := 24) dX4_isOrIsUnder_3 rfl ?_
      refine wk_iconst (v := 0) (q := 25) dX4_isOrIsUnder_24 rfl rfl ?_
      refine wk_ireturn dX4_isOrIsUnder_25 rfl rfl ?_
      refine h0 ?_
      unfold isUnP
      intro h
      rcases h with rfl | rfl | ⟨h, rfl⟩ | ⟨h, rfl⟩ <;> first | exact absurd h (by decide) | contradiction | simp_all
    · skip
      refine wk_iconst (v := 1) (q := 15) dX4_isOrIsUnder_14 rfl rfl ?_
      refine wk_ireturn dX4_isOrIsUnder_15 rfl rfl ?_
      subst c11
      exact h1 (by unfold isUnP; decide)
  · skip
    refine wk_iconst (v := 1) (q := 15) dX4_isOrIsUnder_14 rfl rfl ?_
    refine wk_ireturn dX4_isOrIsUnder_15 rfl rfl ?_
    subst c11
    exact h1 (by unfold isUnP; decide)
theorem ck_und_2 {k : Int32} (h1 : isUnP 2 k → Q (.int 1) m L) (h0 : ¬ isUnP 2 k → Q (.int 0) m L) : CK E 1 MX4_isOrIsUnder [.ref (ev_z E + 3), .int k] m L Q := by
  refine CK.of rfl rfl (lv := [(0, _), (1, _)]) rfl ?_
  refine wk_aload_n (i := 0) (q := 1) dX4_isOrIsUnder_0 rfl rfl rfl ?_
  refine wk_astore_n (i := 2) (q := 2) (lv' := [_, _, _]) dX4_isOrIsUnder_1 rfl rfl rfl rfl ?_
  refine wk_aload_n (i := 2) (q := 3) dX4_isOrIsUnder_2 rfl rfl rfl ?_
  refine wk_ifnull (q := 6) dX4_isOrIsUnder_3 rfl ?_
  refine wk_aload_n (i := 2) (q := 7) dX4_isOrIsUnder_6 rfl rfl rfl ?_
  refine wk_get (v := .int 2) (q := 10) fgX4_9_1 dX4_isOrIsUnder_7 rfl rfl rfl rfl ?_
  refine wk_iload_n (i := 1) (q := 11) dX4_isOrIsUnder_10 rfl rfl rfl ?_
  refine wk_icmp_ne (t := 16) (q := 14) dX4_isOrIsUnder_11 rfl rfl (fun c11 => ?_) (fun c11 => ?_)
  · skip
    refine wk_aload_n (i := 2) (q := 17) dX4_isOrIsUnder_16 rfl rfl rfl ?_
    refine wk_get (v := .ref (ev_z E + 1)) (q := 20) fgX4_15_1 dX4_isOrIsUnder_17 rfl rfl rfl rfl ?_
    refine wk_astore_n (i := 2) (q := 21) (lv' := [_, _, _]) dX4_isOrIsUnder_20 rfl rfl rfl rfl ?_
    refine wk_goto (t := 2) dX4_isOrIsUnder_21 rfl ?_
    refine wk_aload_n (i := 2) (q := 3) dX4_isOrIsUnder_2 rfl rfl rfl ?_
    refine wk_ifnull (q := 6) dX4_isOrIsUnder_3 rfl ?_
    refine wk_aload_n (i := 2) (q := 7) dX4_isOrIsUnder_6 rfl rfl rfl ?_
    refine wk_get (v := .int 0) (q := 10) fgX4_9_4 dX4_isOrIsUnder_7 rfl rfl rfl rfl ?_
    refine wk_iload_n (i := 1) (q := 11) dX4_isOrIsUnder_10 rfl rfl rfl ?_
    refine wk_icmp_ne (t := 16) (q := 14) dX4_isOrIsUnder_11 rfl rfl (fun c11 => ?_) (fun c11 => ?_)
    · skip
      refine wk_aload_n (i := 2) (q := 17) dX4_isOrIsUnder_16 rfl rfl rfl ?_
      refine wk_get (v := .null) (q := 20) fgX4_15_4 dX4_isOrIsUnder_17 rfl rfl rfl rfl ?_
      refine wk_astore_nN (i := 2) (q := 21) (lv' := [_, _, _]) dX4_isOrIsUnder_20 rfl rfl rfl rfl ?_
      refine wk_goto (t := 2) dX4_isOrIsUnder_21 rfl ?_
      refine wk_aload_nN (i := 2) (q := 3) dX4_isOrIsUnder_2 rfl rfl rfl ?_
      refine wk_ifnullN (t := 24) dX4_isOrIsUnder_3 rfl ?_
      refine wk_iconst (v := 0) (q := 25) dX4_isOrIsUnder_24 rfl rfl ?_
      refine wk_ireturn dX4_isOrIsUnder_25 rfl rfl ?_
      refine h0 ?_
      unfold isUnP
      intro h
      rcases h with rfl | rfl | ⟨h, rfl⟩ | ⟨h, rfl⟩ <;> first | exact absurd h (by decide) | contradiction | simp_all
    · skip
      refine wk_iconst (v := 1) (q := 15) dX4_isOrIsUnder_14 rfl rfl ?_
      refine wk_ireturn dX4_isOrIsUnder_15 rfl rfl ?_
      subst c11
      exact h1 (by unfold isUnP; decide)
  · skip
    refine wk_iconst (v := 1) (q := 15) dX4_isOrIsUnder_14 rfl rfl ?_
    refine wk_ireturn dX4_isOrIsUnder_15 rfl rfl ?_
    subst c11
    exact h1 (by unfold isUnP; decide)
theorem ck_und_3 {k : Int32} (h1 : isUnP 3 k → Q (.int 1) m L) (h0 : ¬ isUnP 3 k → Q (.int 0) m L) : CK E 1 MX4_isOrIsUnder [.ref (ev_z E + 4), .int k] m L Q := by
  refine CK.of rfl rfl (lv := [(0, _), (1, _)]) rfl ?_
  refine wk_aload_n (i := 0) (q := 1) dX4_isOrIsUnder_0 rfl rfl rfl ?_
  refine wk_astore_n (i := 2) (q := 2) (lv' := [_, _, _]) dX4_isOrIsUnder_1 rfl rfl rfl rfl ?_
  refine wk_aload_n (i := 2) (q := 3) dX4_isOrIsUnder_2 rfl rfl rfl ?_
  refine wk_ifnull (q := 6) dX4_isOrIsUnder_3 rfl ?_
  refine wk_aload_n (i := 2) (q := 7) dX4_isOrIsUnder_6 rfl rfl rfl ?_
  refine wk_get (v := .int 3) (q := 10) fgX4_9_7 dX4_isOrIsUnder_7 rfl rfl rfl rfl ?_
  refine wk_iload_n (i := 1) (q := 11) dX4_isOrIsUnder_10 rfl rfl rfl ?_
  refine wk_icmp_ne (t := 16) (q := 14) dX4_isOrIsUnder_11 rfl rfl (fun c11 => ?_) (fun c11 => ?_)
  · skip
    refine wk_aload_n (i := 2) (q := 17) dX4_isOrIsUnder_16 rfl rfl rfl ?_
    refine wk_get (v := .ref (ev_z E + 1)) (q := 20) fgX4_15_7 dX4_isOrIsUnder_17 rfl rfl rfl rfl ?_
    refine wk_astore_n (i := 2) (q := 21) (lv' := [_, _, _]) dX4_isOrIsUnder_20 rfl rfl rfl rfl ?_
    refine wk_goto (t := 2) dX4_isOrIsUnder_21 rfl ?_
    refine wk_aload_n (i := 2) (q := 3) dX4_isOrIsUnder_2 rfl rfl rfl ?_
    refine wk_ifnull (q := 6) dX4_isOrIsUnder_3 rfl ?_
    refine wk_aload_n (i := 2) (q := 7) dX4_isOrIsUnder_6 rfl rfl rfl ?_
    refine wk_get (v := .int 0) (q := 10) fgX4_9_4 dX4_isOrIsUnder_7 rfl rfl rfl rfl ?_
    refine wk_iload_n (i := 1) (q := 11) dX4_isOrIsUnder_10 rfl rfl rfl ?_
    refine wk_icmp_ne (t := 16) (q := 14) dX4_isOrIsUnder_11 rfl rfl (fun c11 => ?_) (fun c11 => ?_)
    · skip
      refine wk_aload_n (i := 2) (q := 17) dX4_isOrIsUnder_16 rfl rfl rfl ?_
      refine wk_get (v := .null) (q := 20) fgX4_15_4 dX4_isOrIsUnder_17 rfl rfl rfl rfl ?_
      refine wk_astore_nN (i := 2) (q := 21) (lv' := [_, _, _]) dX4_isOrIsUnder_20 rfl rfl rfl rfl ?_
      refine wk_goto (t := 2) dX4_isOrIsUnder_21 rfl ?_
      refine wk_aload_nN (i := 2) (q := 3) dX4_isOrIsUnder_2 rfl rfl rfl ?_
      refine wk_ifnullN (t := 24) dX4_isOrIsUnder_3 rfl ?_
      refine wk_iconst (v := 0) (q := 25) dX4_isOrIsUnder_24 rfl rfl ?_
      refine wk_ireturn dX4_isOrIsUnder_25 rfl rfl ?_
      refine h0 ?_
      unfold isUnP
      intro h
      rcases h with rfl | rfl | ⟨h, rfl⟩ | ⟨h, rfl⟩ <;> first | exact absurd h (by decide) | contradiction | simp_all
    · skip
      refine wk_iconst (v := 1) (q := 15) dX4_isOrIsUnder_14 rfl rfl ?_
      refine wk_ireturn dX4_isOrIsUnder_15 rfl rfl ?_
      subst c11
      exact h1 (by unfold isUnP; decide)
  · skip
    refine wk_iconst (v := 1) (q := 15) dX4_isOrIsUnder_14 rfl rfl ?_
    refine wk_ireturn dX4_isOrIsUnder_15 rfl rfl ?_
    subst c11
    exact h1 (by unfold isUnP; decide)
theorem ck_und_4 {k : Int32} (h1 : isUnP 4 k → Q (.int 1) m L) (h0 : ¬ isUnP 4 k → Q (.int 0) m L) : CK E 1 MX4_isOrIsUnder [.ref (ev_z E + 6), .int k] m L Q := by
  refine CK.of rfl rfl (lv := [(0, _), (1, _)]) rfl ?_
  refine wk_aload_n (i := 0) (q := 1) dX4_isOrIsUnder_0 rfl rfl rfl ?_
  refine wk_astore_n (i := 2) (q := 2) (lv' := [_, _, _]) dX4_isOrIsUnder_1 rfl rfl rfl rfl ?_
  refine wk_aload_n (i := 2) (q := 3) dX4_isOrIsUnder_2 rfl rfl rfl ?_
  refine wk_ifnull (q := 6) dX4_isOrIsUnder_3 rfl ?_
  refine wk_aload_n (i := 2) (q := 7) dX4_isOrIsUnder_6 rfl rfl rfl ?_
  refine wk_get (v := .int 4) (q := 10) fgX4_9_3 dX4_isOrIsUnder_7 rfl rfl rfl rfl ?_
  refine wk_iload_n (i := 1) (q := 11) dX4_isOrIsUnder_10 rfl rfl rfl ?_
  refine wk_icmp_ne (t := 16) (q := 14) dX4_isOrIsUnder_11 rfl rfl (fun c11 => ?_) (fun c11 => ?_)
  · skip
    refine wk_aload_n (i := 2) (q := 17) dX4_isOrIsUnder_16 rfl rfl rfl ?_
    refine wk_get (v := .ref (ev_z E + 2)) (q := 20) fgX4_15_3 dX4_isOrIsUnder_17 rfl rfl rfl rfl ?_
    refine wk_astore_n (i := 2) (q := 21) (lv' := [_, _, _]) dX4_isOrIsUnder_20 rfl rfl rfl rfl ?_
    refine wk_goto (t := 2) dX4_isOrIsUnder_21 rfl ?_
    refine wk_aload_n (i := 2) (q := 3) dX4_isOrIsUnder_2 rfl rfl rfl ?_
    refine wk_ifnull (q := 6) dX4_isOrIsUnder_3 rfl ?_
    refine wk_aload_n (i := 2) (q := 7) dX4_isOrIsUnder_6 rfl rfl rfl ?_
    refine wk_get (v := .int 1) (q := 10) fgX4_9_10 dX4_isOrIsUnder_7 rfl rfl rfl rfl ?_
    refine wk_iload_n (i := 1) (q := 11) dX4_isOrIsUnder_10 rfl rfl rfl ?_
    refine wk_icmp_ne (t := 16) (q := 14) dX4_isOrIsUnder_11 rfl rfl (fun c11 => ?_) (fun c11 => ?_)
    · skip
      refine wk_aload_n (i := 2) (q := 17) dX4_isOrIsUnder_16 rfl rfl rfl ?_
      refine wk_get (v := .ref (ev_z E + 1)) (q := 20) fgX4_15_10 dX4_isOrIsUnder_17 rfl rfl rfl rfl ?_
      refine wk_astore_n (i := 2) (q := 21) (lv' := [_, _, _]) dX4_isOrIsUnder_20 rfl rfl rfl rfl ?_
      refine wk_goto (t := 2) dX4_isOrIsUnder_21 rfl ?_
      refine wk_aload_n (i := 2) (q := 3) dX4_isOrIsUnder_2 rfl rfl rfl ?_
      refine wk_ifnull (q := 6) dX4_isOrIsUnder_3 rfl ?_
      refine wk_aload_n (i := 2) (q := 7) dX4_isOrIsUnder_6 rfl rfl rfl ?_
      refine wk_get (v := .int 0) (q := 10) fgX4_9_4 dX4_isOrIsUnder_7 rfl rfl rfl rfl ?_
      refine wk_iload_n (i := 1) (q := 11) dX4_isOrIsUnder_10 rfl rfl rfl ?_
      refine wk_icmp_ne (t := 16) (q := 14) dX4_isOrIsUnder_11 rfl rfl (fun c11 => ?_) (fun c11 => ?_)
      · skip
        refine wk_aload_n (i := 2) (q := 17) dX4_isOrIsUnder_16 rfl rfl rfl ?_
        refine wk_get (v := .null) (q := 20) fgX4_15_4 dX4_isOrIsUnder_17 rfl rfl rfl rfl ?_
        refine wk_astore_nN (i := 2) (q := 21) (lv' := [_, _, _]) dX4_isOrIsUnder_20 rfl rfl rfl rfl ?_
        refine wk_goto (t := 2) dX4_isOrIsUnder_21 rfl ?_
        refine wk_aload_nN (i := 2) (q := 3) dX4_isOrIsUnder_2 rfl rfl rfl ?_
        refine wk_ifnullN (t := 24) dX4_isOrIsUnder_3 rfl ?_
        refine wk_iconst (v := 0) (q := 25) dX4_isOrIsUnder_24 rfl rfl ?_
        refine wk_ireturn dX4_isOrIsUnder_25 rfl rfl ?_
        refine h0 ?_
        unfold isUnP
        intro h
        rcases h with rfl | rfl | ⟨h, rfl⟩ | ⟨h, rfl⟩ <;> first | exact absurd h (by decide) | contradiction | simp_all
      · skip
        refine wk_iconst (v := 1) (q := 15) dX4_isOrIsUnder_14 rfl rfl ?_
        refine wk_ireturn dX4_isOrIsUnder_15 rfl rfl ?_
        subst c11
        exact h1 (by unfold isUnP; decide)
    · skip
      refine wk_iconst (v := 1) (q := 15) dX4_isOrIsUnder_14 rfl rfl ?_
      refine wk_ireturn dX4_isOrIsUnder_15 rfl rfl ?_
      subst c11
      exact h1 (by unfold isUnP; decide)
  · skip
    refine wk_iconst (v := 1) (q := 15) dX4_isOrIsUnder_14 rfl rfl ?_
    refine wk_ireturn dX4_isOrIsUnder_15 rfl rfl ?_
    subst c11
    exact h1 (by unfold isUnP; decide)
theorem ck_und_5 {k : Int32} (h1 : isUnP 5 k → Q (.int 1) m L) (h0 : ¬ isUnP 5 k → Q (.int 0) m L) : CK E 1 MX4_isOrIsUnder [.ref (ev_z E + 7), .int k] m L Q := by
  refine CK.of rfl rfl (lv := [(0, _), (1, _)]) rfl ?_
  refine wk_aload_n (i := 0) (q := 1) dX4_isOrIsUnder_0 rfl rfl rfl ?_
  refine wk_astore_n (i := 2) (q := 2) (lv' := [_, _, _]) dX4_isOrIsUnder_1 rfl rfl rfl rfl ?_
  refine wk_aload_n (i := 2) (q := 3) dX4_isOrIsUnder_2 rfl rfl rfl ?_
  refine wk_ifnull (q := 6) dX4_isOrIsUnder_3 rfl ?_
  refine wk_aload_n (i := 2) (q := 7) dX4_isOrIsUnder_6 rfl rfl rfl ?_
  refine wk_get (v := .int 5) (q := 10) fgX4_9_8 dX4_isOrIsUnder_7 rfl rfl rfl rfl ?_
  refine wk_iload_n (i := 1) (q := 11) dX4_isOrIsUnder_10 rfl rfl rfl ?_
  refine wk_icmp_ne (t := 16) (q := 14) dX4_isOrIsUnder_11 rfl rfl (fun c11 => ?_) (fun c11 => ?_)
  · skip
    refine wk_aload_n (i := 2) (q := 17) dX4_isOrIsUnder_16 rfl rfl rfl ?_
    refine wk_get (v := .ref (ev_z E + 3)) (q := 20) fgX4_15_8 dX4_isOrIsUnder_17 rfl rfl rfl rfl ?_
    refine wk_astore_n (i := 2) (q := 21) (lv' := [_, _, _]) dX4_isOrIsUnder_20 rfl rfl rfl rfl ?_
    refine wk_goto (t := 2) dX4_isOrIsUnder_21 rfl ?_
    refine wk_aload_n (i := 2) (q := 3) dX4_isOrIsUnder_2 rfl rfl rfl ?_
    refine wk_ifnull (q := 6) dX4_isOrIsUnder_3 rfl ?_
    refine wk_aload_n (i := 2) (q := 7) dX4_isOrIsUnder_6 rfl rfl rfl ?_
    refine wk_get (v := .int 2) (q := 10) fgX4_9_1 dX4_isOrIsUnder_7 rfl rfl rfl rfl ?_
    refine wk_iload_n (i := 1) (q := 11) dX4_isOrIsUnder_10 rfl rfl rfl ?_
    refine wk_icmp_ne (t := 16) (q := 14) dX4_isOrIsUnder_11 rfl rfl (fun c11 => ?_) (fun c11 => ?_)
    · skip
      refine wk_aload_n (i := 2) (q := 17) dX4_isOrIsUnder_16 rfl rfl rfl ?_
      refine wk_get (v := .ref (ev_z E + 1)) (q := 20) fgX4_15_1 dX4_isOrIsUnder_17 rfl rfl rfl rfl ?_
      refine wk_astore_n (i := 2) (q := 21) (lv' := [_, _, _]) dX4_isOrIsUnder_20 rfl rfl rfl rfl ?_
      refine wk_goto (t := 2) dX4_isOrIsUnder_21 rfl ?_
      refine wk_aload_n (i := 2) (q := 3) dX4_isOrIsUnder_2 rfl rfl rfl ?_
      refine wk_ifnull (q := 6) dX4_isOrIsUnder_3 rfl ?_
      refine wk_aload_n (i := 2) (q := 7) dX4_isOrIsUnder_6 rfl rfl rfl ?_
      refine wk_get (v := .int 0) (q := 10) fgX4_9_4 dX4_isOrIsUnder_7 rfl rfl rfl rfl ?_
      refine wk_iload_n (i := 1) (q := 11) dX4_isOrIsUnder_10 rfl rfl rfl ?_
      refine wk_icmp_ne (t := 16) (q := 14) dX4_isOrIsUnder_11 rfl rfl (fun c11 => ?_) (fun c11 => ?_)
      · skip
        refine wk_aload_n (i := 2) (q := 17) dX4_isOrIsUnder_16 rfl rfl rfl ?_
        refine wk_get (v := .null) (q := 20) fgX4_15_4 dX4_isOrIsUnder_17 rfl rfl rfl rfl ?_
        refine wk_astore_nN (i := 2) (q := 21) (lv' := [_, _, _]) dX4_isOrIsUnder_20 rfl rfl rfl rfl ?_
        refine wk_goto (t := 2) dX4_isOrIsUnder_21 rfl ?_
        refine wk_aload_nN (i := 2) (q := 3) dX4_isOrIsUnder_2 rfl rfl rfl ?_
        refine wk_ifnullN (t := 24) dX4_isOrIsUnder_3 rfl ?_
        refine wk_iconst (v := 0) (q := 25) dX4_isOrIsUnder_24 rfl rfl ?_
        refine wk_ireturn dX4_isOrIsUnder_25 rfl rfl ?_
        refine h0 ?_
        unfold isUnP
        intro h
        rcases h with rfl | rfl | ⟨h, rfl⟩ | ⟨h, rfl⟩ <;> first | exact absurd h (by decide) | contradiction | simp_all
      · skip
        refine wk_iconst (v := 1) (q := 15) dX4_isOrIsUnder_14 rfl rfl ?_
        refine wk_ireturn dX4_isOrIsUnder_15 rfl rfl ?_
        subst c11
        exact h1 (by unfold isUnP; decide)
    · skip
      refine wk_iconst (v := 1) (q := 15) dX4_isOrIsUnder_14 rfl rfl ?_
      refine wk_ireturn dX4_isOrIsUnder_15 rfl rfl ?_
      subst c11
      exact h1 (by unfold isUnP; decide)
  · skip
    refine wk_iconst (v := 1) (q := 15) dX4_isOrIsUnder_14 rfl rfl ?_
    refine wk_ireturn dX4_isOrIsUnder_15 rfl rfl ?_
    subst c11
    exact h1 (by unfold isUnP; decide)
theorem wk_kund {ix : Nat} {c k : Int32} {rest : List Value} (h1 : MLO M.1.cls ix RX1 RX4 yX4_isOrIsUnder MX4_isOrIsUnder 1) (h3 : MLO M.1.cls ix RX3 RX4 yX4_isOrIsUnder MX4_isOrIsUnder 1) (h4 : MLO M.1.cls ix RX4 RX4 yX4_isOrIsUnder MX4_isOrIsUnder 1) (h7 : MLO M.1.cls ix RX7 RX4 yX4_isOrIsUnder MX4_isOrIsUnder 1) (h8 : MLO M.1.cls ix RX8 RX4 yX4_isOrIsUnder MX4_isOrIsUnder 1) (h10 : MLO M.1.cls ix RX10 RX4 yX4_isOrIsUnder MX4_isOrIsUnder 1) (hc : 0 ≤ c.toInt ∧ c.toInt ≤ 5) (hd : decode M.2.1 pc = .ok (.invokevirtual ix, 3)) (hdd : Nat.ble 2 d = true) (hrm : Nat.ble (rest.map fun v => v.category).sum 8 = true) (hq : pc + 3 = q) (k1 : isUnP c k → WK E d M q lv (.int 1 :: rest) m L Q) (k0 : ¬ isUnP c k → WK E d M q lv (.int 0 :: rest) m L Q) : WK E d M pc lv (.int k :: .ref (ev_z E + kref c) :: rest) m L Q := by
  have hdn := Nat.le_of_ble_eq_true hdd
  by_cases e1 : c = 1
  · subst e1
    exact wk_O1r (d' := 1) (s := 10) (k := 2) (r := (RX10, TX10, 2)) h10 hd rfl rfl rfl rfl (Nat.ble_eq_true_of_le (by omega)) hrm hq (ck_und_1 k1 k0)
  by_cases e2 : c = 2
  · subst e2
    exact wk_O1r (d' := 1) (s := 1) (k := 3) (r := (RX1, TX1, 2)) h1 hd rfl rfl rfl rfl (Nat.ble_eq_true_of_le (by omega)) hrm hq (ck_und_2 k1 k0)
  by_cases e3 : c = 3
  · subst e3
    exact wk_O1r (d' := 1) (s := 7) (k := 4) (r := (RX7, TX7, 2)) h7 hd rfl rfl rfl rfl (Nat.ble_eq_true_of_le (by omega)) hrm hq (ck_und_3 k1 k0)
  by_cases e4 : c = 4
  · subst e4
    exact wk_O1r (d' := 1) (s := 3) (k := 6) (r := (RX3, TX3, 2)) h3 hd rfl rfl rfl rfl (Nat.ble_eq_true_of_le (by omega)) hrm hq (ck_und_4 k1 k0)
  by_cases e5 : c = 5
  · subst e5
    exact wk_O1r (d' := 1) (s := 8) (k := 7) (r := (RX8, TX8, 2)) h8 hd rfl rfl rfl rfl (Nat.ble_eq_true_of_le (by omega)) hrm hq (ck_und_5 k1 k0)
  · have e0 := c05 hc e1 e2 e3 e4 e5
    subst e0
    exact wk_O1r (d' := 1) (s := 4) (k := 1) (r := (RX4, TX4, 2)) h4 hd rfl rfl rfl rfl (Nat.ble_eq_true_of_le (by omega)) hrm hq (ck_und_0 k1 k0)
end KN
abbrev Po (m : Mm) (L : Ml) (a' : Mm) (aL' : Ml) (Q : Value → Mm → Ml → Prop) (r : Value) : Prop := ∀ m' L', CR m' L' a' aL' → FC m m' L L' → Q r m' L'
def wsd (d t : Int32) (v : Nat → Int32) (N : Nat) (pu : Int32) : Nat → Int32 := dryN (if 0 < pu then drwG pu (wshN d t v N) else wshN d t v N) 3
theorem E7_wsd {d t pu : Int32} {v w : Nat → Int32} {N : Nat} (h : E7 v w) : E7 (wsd d t v N pu) (wsd d t w N pu) := by
  unfold wsd
  split
  · exact ((h.wshN N).drw).dryN 3
  · exact (h.wshN N).dryN 3
theorem E7.fit {v w : Nat → Int32} {l b : Int32} (h : E7 v w) : fitP v l b ↔ fitP w l b := by
  unfold fitP
  rw [h 1 (by decide), h 2 (by decide), h 4 (by decide), h 6 (by decide)]
section TR
variable {E : EVt} {m : Mm} {L : Ml} {Q : Value → Mm → Ml → Prop} {A : Nat → Int32} {D : Nat}
theorem ck_X11_tryWashes {k N : Nat} (hN : N < 2 ^ 31) (hk : shp k = 2) (h59 : k ≠ 59) (ho : okG D (m k)) (h1 : 0 ≤ (m 8 6).toInt) (h2 : (m 8 6).toInt ≤ 95) (hQ : Q .null (wr m 59 (wshN (m 8 6) (m 8 7) (cpG (m k) (m 59)) N)) L) : CK E 5 MX11_tryWashes [.ref (ev_z E + 0), .ref (ev_z E + k), .int (nI N)] m L Q := by
  refine CK.of rfl rfl (lv := [(0, _), (1, _), (2, _)]) rfl ?_
  refine wk_aload_n (i := 0) (q := 1) dX11_tryWashes_0 rfl rfl rfl ?_
  refine wk_get (q := 4) fgX11_35 dX11_tryWashes_1 rfl rfl rfl rfl ?_
  refine wk_aload_n (i := 1) (q := 5) dX11_tryWashes_4 rfl rfl rfl ?_
  refine wk_V1v (d' := 1) (q := 8) lkX11_190 dX11_tryWashes_5 rfl rfl rfl rfl rfl rfl rfl ?_
  refine ck_X2_become rfl hk h59 ?_
  refine wk_aload_n (i := 0) (q := 9) dX11_tryWashes_8 rfl rfl rfl ?_
  refine wk_get (q := 12) fgX11_35 dX11_tryWashes_9 rfl rfl rfl rfl ?_
  refine wk_iload_n (i := 2) (q := 13) dX11_tryWashes_12 rfl rfl rfl ?_
  refine wk_aload_n (i := 0) (q := 14) dX11_tryWashes_13 rfl rfl rfl ?_
  refine wk_get (q := 17) fgX11_18 dX11_tryWashes_14 rfl rfl rfl rfl ?_
  refine wk_get (q := 20) fgX11_65 dX11_tryWashes_17 rfl rfl rfl rfl ?_
  refine wk_aload_n (i := 0) (q := 21) dX11_tryWashes_20 rfl rfl rfl ?_
  refine wk_get (q := 24) fgX11_18 dX11_tryWashes_21 rfl rfl rfl rfl ?_
  refine wk_get (q := 27) fgX11_69 dX11_tryWashes_24 rfl rfl rfl rfl ?_
  refine wk_V3v (d' := 4) (q := 30) lkX11_210 dX11_tryWashes_27 rfl rfl rfl rfl rfl rfl rfl ?_
  refine ck_X2_goThroughWashes hN rfl (by rw [wr_s]; exact E7.cp.ok ho) (by rw [wr_n (by decide)]; exact h1) (by rw [wr_n (by decide)]; exact h2) ?_
  rw [wr_wr, wr_s, wr_n (show (8 : Nat) ≠ 59 by decide)]
  refine wk_return dX11_tryWashes_30 rfl ?_
  exact hQ
theorem ck_X11_wouldSuit {g p N : Nat} {dg pu : Int32} (hN : N < 2 ^ 31) (hD : D ≤ 10000000) (hB : hasB m 8 A) (hO : okA D A) (hg : g < cA A) (hp : p < pA A) (h1 : 0 ≤ dg.toInt) (h2 : dg.toInt ≤ 95) (p1 : 0 ≤ pu.toInt) (p2 : pu.toInt ≤ 50) (hQ1 : fitP (wsd dg (A 4) (gv A g) N pu) (A (61 + 2 * p)) (A (61 + 2 * p + 1)) → ∀ v, Q (.int 1) (wr m 59 v) L) (hQ0 : ¬ fitP (wsd dg (A 4) (gv A g) N pu) (A (61 + 2 * p)) (A (61 + 2 * p + 1)) → ∀ v, Q (.int 0) (wr m 59 v) L) : CK E 5 MX11_wouldSuit [.ref (ev_z E + 0), .ref (ev_z E + (8 + 1 + 1 + g)), .ref (ev_z E + (8 + 10 + 1 + p)), .int (nI N), .int dg, .int pu] m L Q := by
  refine CK.of rfl rfl (lv := [(0, _), (1, _), (2, _), (3, _), (4, _), (5, _)]) rfl ?_
  have hc8 := hO.1.2.1
  have hp6 := hO.2.1.2.1
  have hp1 := hO.2.1.2.2 p hp
  have hgo := hB.ok (g := g) (by omega) (hO.1.2.2 g hg)
  have hsg := sh_g (n := g) sb_8 (by omega)
  have hsp := sh_p (n := p) sb_8 (by omega)
  have hcp : E7 (cpG (m (8 + 1 + 1 + g)) (m 59)) (gv A g) := E7.cp.trans (hB.e7 (by omega))
  have hok : okG D (cpG (m (8 + 1 + 1 + g)) (m 59)) := E7.cp.ok hgo
  have hw : m 8 7 = A 4 := hB.2.2.2.2.1
  have q0 := hB.pp (g := p) (f := 0) (by omega) rfl
  have q1 := hB.pp (g := p) (f := 1) (by omega) rfl
  have n9 : (8 + 10 + 1 + p) ≠ 59 := by omega
  have z0 : (0 : Int32).toInt = 0 := by decide
  refine wk_aload_n (i := 0) (q := 1) dX11_wouldSuit_0 rfl rfl rfl ?_
  refine wk_get (q := 4) fgX11_35 dX11_wouldSuit_1 rfl rfl rfl rfl ?_
  refine wk_aload_n (i := 1) (q := 5) dX11_wouldSuit_4 rfl rfl rfl ?_
  refine wk_V1v (d' := 1) (q := 8) lkX11_190 dX11_wouldSuit_5 rfl rfl rfl rfl rfl rfl rfl ?_
  refine ck_X2_become rfl hsg (by omega) ?_
  refine wk_aload_n (i := 0) (q := 9) dX11_wouldSuit_8 rfl rfl rfl ?_
  refine wk_get (q := 12) fgX11_35 dX11_wouldSuit_9 rfl rfl rfl rfl ?_
  refine wk_iload_n (i := 3) (q := 13) dX11_wouldSuit_12 rfl rfl rfl ?_
  refine wk_iload (i := 4) (q := 15) dX11_wouldSuit_13 rfl rfl ?_
  refine wk_aload_n (i := 0) (q := 16) dX11_wouldSuit_15 rfl rfl rfl ?_
  refine wk_get (q := 19) fgX11_18 dX11_wouldSuit_16 rfl rfl rfl rfl ?_
  refine wk_get (q := 22) fgX11_69 dX11_wouldSuit_19 rfl rfl rfl rfl ?_
  refine wk_V3v (d' := 4) (q := 25) lkX11_210 dX11_wouldSuit_22 rfl rfl rfl rfl rfl rfl rfl ?_
  refine ck_X2_goThroughWashes hN rfl (by rw [wr_s]; exact hok) h1 h2 ?_
  rw [wr_wr, wr_s, wr_n (show (8 : Nat) ≠ 59 by decide), hw]
  refine wk_iload (i := 5) (q := 27) dX11_wouldSuit_25 rfl rfl ?_
  refine wk_if_le (t := 39) (q := 30) dX11_wouldSuit_27 rfl rfl (fun c27 => ?_) (fun c27 => ?_)
  · skip
    have e : wsd dg (A 4) (gv A g) N pu = dryN (wshN dg (A 4) (gv A g) N) 3 := by (unfold wsd; rw [if_neg (by rw [fa_lt]; rw [fa_le] at c27; omega)])
    rw [e] at hQ1 hQ0
    have hx := (ok_wshN (t := A 4) hok h1 h2 N).up (D' := D + 50) (by omega)
    have hy := (hcp.wshN (d := dg) (t := A 4) N).dryN 3
    refine wk_aload_n (i := 0) (q := 40) dX11_wouldSuit_39 rfl rfl rfl ?_
    refine wk_get (q := 43) fgX11_35 dX11_wouldSuit_40 rfl rfl rfl rfl ?_
    refine wk_iconst (v := 3) (q := 44) dX11_wouldSuit_43 rfl rfl ?_
    refine wk_V1v (d' := 4) (q := 47) lkX11_194 dX11_wouldSuit_44 rfl rfl rfl rfl rfl rfl rfl ?_
    refine ck_X2_dryFor (N := 3) (D := D + 50) (by omega) rfl (by rw [wr_s]; exact hx) (by omega) ?_
    rw [wr_wr, wr_s]
    refine wk_aload_n (i := 0) (q := 48) dX11_wouldSuit_47 rfl rfl rfl ?_
    refine wk_get (q := 51) fgX11_35 dX11_wouldSuit_48 rfl rfl rfl rfl ?_
    refine wk_aload_n (i := 2) (q := 52) dX11_wouldSuit_51 rfl rfl rfl ?_
    refine wk_V1r (d' := 2) (q := 55) lkX11_279 dX11_wouldSuit_52 rfl rfl rfl rfl rfl rfl rfl ?_
    refine ck_X2_suits (D := D + 50) rfl hsp (by rw [wr_s]; exact ok_dryN hx 3) (by rw [wr_n n9, q0]; exact hp1.1.1) (by rw [wr_n n9, q0]; exact hp1.1.2) (by rw [wr_n n9, q1]; exact hp1.2.1) (by rw [wr_n n9, q1]; exact hp1.2.2) (fun hf => ?_) (fun hf => ?_)
    · skip
      rw [wr_s, wr_n n9, q0, q1] at hf
      refine wk_ireturn dX11_wouldSuit_55 rfl rfl ?_
      exact hQ1 (hy.fit.mp hf) _
    · skip
      rw [wr_s, wr_n n9, q0, q1] at hf
      refine wk_ireturn dX11_wouldSuit_55 rfl rfl ?_
      exact hQ0 (fun hh => hf (hy.fit.mpr hh)) _
  · skip
    have e : wsd dg (A 4) (gv A g) N pu = dryN (drwG pu (wshN dg (A 4) (gv A g) N)) 3 := by (unfold wsd; rw [if_pos (by rw [fa_lt]; rw [fa_le] at c27; omega)])
    rw [e] at hQ1 hQ0
    have hx := ok_drw (ok_wshN (t := A 4) hok h1 h2 N) (by omega) p1 p2
    have hy := ((hcp.wshN (d := dg) (t := A 4) N).drw (n := pu)).dryN 3
    refine wk_aload_n (i := 0) (q := 31) dX11_wouldSuit_30 rfl rfl rfl ?_
    refine wk_get (q := 34) fgX11_35 dX11_wouldSuit_31 rfl rfl rfl rfl ?_
    refine wk_iload (i := 5) (q := 36) dX11_wouldSuit_34 rfl rfl ?_
    refine wk_V1v (d' := 4) (q := 39) lkX11_152 dX11_wouldSuit_36 rfl rfl rfl rfl rfl rfl rfl ?_
    refine ck_X2_stretch (D := D) rfl (by rw [wr_s]; exact ok_wshN hok h1 h2 N) (by omega) p1 p2 ?_
    rw [wr_wr, wr_s]
    refine wk_aload_n (i := 0) (q := 40) dX11_wouldSuit_39 rfl rfl rfl ?_
    refine wk_get (q := 43) fgX11_35 dX11_wouldSuit_40 rfl rfl rfl rfl ?_
    refine wk_iconst (v := 3) (q := 44) dX11_wouldSuit_43 rfl rfl ?_
    refine wk_V1v (d' := 4) (q := 47) lkX11_194 dX11_wouldSuit_44 rfl rfl rfl rfl rfl rfl rfl ?_
    refine ck_X2_dryFor (N := 3) (D := D + 50) (by omega) rfl (by rw [wr_s]; exact hx) (by omega) ?_
    rw [wr_wr, wr_s]
    refine wk_aload_n (i := 0) (q := 48) dX11_wouldSuit_47 rfl rfl rfl ?_
    refine wk_get (q := 51) fgX11_35 dX11_wouldSuit_48 rfl rfl rfl rfl ?_
    refine wk_aload_n (i := 2) (q := 52) dX11_wouldSuit_51 rfl rfl rfl ?_
    refine wk_V1r (d' := 2) (q := 55) lkX11_279 dX11_wouldSuit_52 rfl rfl rfl rfl rfl rfl rfl ?_
    refine ck_X2_suits (D := D + 50) rfl hsp (by rw [wr_s]; exact ok_dryN hx 3) (by rw [wr_n n9, q0]; exact hp1.1.1) (by rw [wr_n n9, q0]; exact hp1.1.2) (by rw [wr_n n9, q1]; exact hp1.2.1) (by rw [wr_n n9, q1]; exact hp1.2.2) (fun hf => ?_) (fun hf => ?_)
    · skip
      rw [wr_s, wr_n n9, q0, q1] at hf
      refine wk_ireturn dX11_wouldSuit_55 rfl rfl ?_
      exact hQ1 (hy.fit.mp hf) _
    · skip
      rw [wr_s, wr_n n9, q0, q1] at hf
      refine wk_ireturn dX11_wouldSuit_55 rfl rfl ?_
      exact hQ0 (fun hh => hf (hy.fit.mpr hh)) _
theorem ck_X11_tryAs {k : Nat} {c : Int32} (hk : shp k = 2) (h59 : k ≠ 59) (hc : 0 ≤ c ∧ c ≤ 5) (hQ : Q (.int 1) (wr m 59 (upd (cpG (m k) (m 59)) 0 c)) L) : CK E 2 MX11_tryAs [.ref (ev_z E + 0), .ref (ev_z E + k), .int c] m L Q := by
  refine CK.of rfl rfl (lv := [(0, _), (1, _), (2, _)]) rfl ?_
  refine wk_aload_n (i := 0) (q := 1) dX11_tryAs_0 rfl rfl rfl ?_
  refine wk_get (q := 4) fgX11_18 dX11_tryAs_1 rfl rfl rfl rfl ?_
  refine wk_iload_n (i := 2) (q := 5) dX11_tryAs_4 rfl rfl rfl ?_
  refine wk_V1r (d' := 1) (q := 8) lkX11_156 dX11_tryAs_5 rfl rfl rfl rfl rfl rfl rfl ?_
  refine ck_X0_kindAt (b := 8) rfl (fun hk1 => ?_) (fun hk1 => ?_)
  · skip
    refine wk_astore_n (i := 3) (q := 9) (lv' := [_, _, _, _]) dX11_tryAs_8 rfl rfl rfl rfl ?_
    refine wk_aload_n (i := 3) (q := 10) dX11_tryAs_9 rfl rfl rfl ?_
    refine wk_ifnonnull (t := 15) dX11_tryAs_10 rfl ?_
    refine wk_aload_n (i := 0) (q := 16) dX11_tryAs_15 rfl rfl rfl ?_
    refine wk_get (q := 19) fgX11_35 dX11_tryAs_16 rfl rfl rfl rfl ?_
    refine wk_aload_n (i := 1) (q := 20) dX11_tryAs_19 rfl rfl rfl ?_
    refine wk_V1v (d' := 1) (q := 23) lkX11_190 dX11_tryAs_20 rfl rfl rfl rfl rfl rfl rfl ?_
    refine ck_X2_become rfl hk h59 ?_
    refine wk_aload_n (i := 0) (q := 24) dX11_tryAs_23 rfl rfl rfl ?_
    refine wk_get (q := 27) fgX11_35 dX11_tryAs_24 rfl rfl rfl rfl ?_
    refine wk_aload_n (i := 3) (q := 28) dX11_tryAs_27 rfl rfl rfl ?_
    refine wk_putSort  (q := 31) fpX11_105 dX11_tryAs_28 rfl rfl rfl rfl ?_
    rw [wr_wr, wr_s]
    refine wk_iconst (v := 1) (q := 32) dX11_tryAs_31 rfl rfl ?_
    refine wk_ireturn dX11_tryAs_32 rfl rfl ?_
    exact hQ
  · skip
    exact absurd hc hk1
end TR
