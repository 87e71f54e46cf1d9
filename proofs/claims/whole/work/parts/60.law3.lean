/-! the law's loop, and the law from its entry -/
theorem l_6 : (6 : Int32).toInt = 6 := by decide
section LP
variable {E : EVt} {nm : String} {Q : Value → AHt → Prop}
theorem al_loop (hL : ev_L E ≤ 3072) (hQ : ∀ h, Q (.int 1) h) : ∀ (r i : Nat) (m : Mm) (L : Ml) (Dd : Nat), ev_L E < i + 6 * r + 6 → i + 6 * r ≤ 10000 → Dd + 50 * r ≤ 1000000 → CR m L m L → OK Dd m → AL E nm i 18 [] m L Q := by
  intro r
  induction r with
  | zero =>
    intro i m L Dd h1 h2 h3 hC hO
    refine aw_iload_n (i := 3) (q := 19) dL_law_18 rfl rfl rfl ?_
    refine aw_aload_n (i := 0) (q := 20) dL_law_19 rfl rfl rfl ?_
    refine aw_slen (q := 21) dL_law_20 rfl ?_
    refine aw_bipush (v := 6) (q := 23) dL_law_21 rfl rfl ?_
    refine aw_isub (q := 24) dL_law_23 rfl ?_
    refine aw_icmp_gt (t := 1260) (q := 27) dL_law_24 rfl rfl (fun _ => ?_) (fun c => absurd ?_ c)
    · refine aw_iconst (v := 1) (q := 1261) dL_law_1260 rfl rfl ?_
      exact aw_ireturn (ty := .boolean) dL_law_1261 rfl rfl (Nat.le_refl _) (Nat.le_refl _) rfl (hQ _)
    · show nI (ev_L E) - 6 < nI i
      rw [fa_lt, sb_i (by rw [nI_toInt (by omega), l_6]; omega) (by rw [nI_toInt (by omega), l_6]; omega), nI_toInt (by omega), nI_toInt (by omega), l_6]
      omega
  | succ r ih =>
    intro i m L Dd h1 h2 h3 hC hO
    refine aw_iload_n (i := 3) (q := 19) dL_law_18 rfl rfl rfl ?_
    refine aw_aload_n (i := 0) (q := 20) dL_law_19 rfl rfl rfl ?_
    refine aw_slen (q := 21) dL_law_20 rfl ?_
    refine aw_bipush (v := 6) (q := 23) dL_law_21 rfl rfl ?_
    refine aw_isub (q := 24) dL_law_23 rfl ?_
    refine aw_icmp_gt (t := 1260) (q := 27) dL_law_24 rfl rfl (fun _ => ?_) (fun c => ?_)
    · refine aw_iconst (v := 1) (q := 1261) dL_law_1260 rfl rfl ?_
      exact aw_ireturn (ty := .boolean) dL_law_1261 rfl rfl (Nat.le_refl _) (Nat.le_refl _) rfl (hQ _)
    · have hi : i + 6 ≤ ev_L E := by
        have c : ¬ nI (ev_L E) - 6 < nI i := c
        rw [fa_lt, sb_i (by rw [nI_toInt (by omega), l_6]; omega) (by rw [nI_toInt (by omega), l_6]; omega), nI_toInt (by omega), nI_toInt (by omega), l_6] at c
        omega
      have K : ∀ m2 L2, CR m2 L2 m2 L2 → OK (Dd + 50) m2 → AL E nm i 1254 [] m2 L2 Q := by
        intro m2 L2 hC2 hO2
        refine aw_iinc (w := 6) (q := 1257) (lv' := [(3, .int (nI i + 6)), _, _, _]) dL_law_1254 rfl rfl (Nat.le_of_ble_eq_true rfl) rfl rfl ?_
        refine aw_goto (t := 18) dL_law_1257 rfl ?_
        rw [show nI i + 6 = nI (i + 6) from nI_add i 6]
        exact ih (i + 6) m2 L2 (Dd + 50) (by omega) (by omega) (by omega) hC2 hO2
      have hD : Dd ≤ 1000000 := by omega
      have K0 : AL E nm i 1254 [] m L Q := K m L hC (OK_up hO (Nat.le_add_right Dd 50))
      refine aw_aload_n (i := 0) (q := 28) dL_law_27 rfl rfl rfl ?_
      refine aw_iload_n (i := 3) (q := 29) dL_law_28 rfl rfl rfl ?_
      refine aw_sld (q := 30) dL_law_29 (nI_in (by omega) (by omega)) rfl rfl ?_
      refine aw_bipush (v := 63) (q := 32) dL_law_30 rfl rfl ?_
      refine aw_iand (q := 33) dL_law_32 rfl ?_
      refine aw_table (cs := [(0, 188), (1, 221), (2, 244), (3, 267), (4, 300), (5, 343), (6, 366), (7, 399), (8, 432), (9, 465), (10, 498), (11, 531), (12, 554), (13, 577), (14, 620), (15, 663), (16, 696), (17, 729), (18, 762), (19, 795), (20, 818), (21, 841), (22, 874), (23, 887), (24, 900), (25, 943), (26, 1017), (27, 1080), (28, 1103), (29, 1136), (30, 1169), (31, 1182), (32, 1195), (33, 1208), (34, 1231)]) (td := 1254) dL_law_33 (by decide +kernel) ?_
      refine And.intro (fun _ => al_machine hi hL hC hO hD K) (fun _ => ?_)
      refine And.intro (fun _ => al_now hi hL hC hO hD K) (fun _ => ?_)
      refine And.intro (fun _ => al_garment hi hL hC hO hD K) (fun _ => ?_)
      refine And.intro (fun _ => al_of hi hL hC hO hD K) (fun _ => ?_)
      refine And.intro (fun _ => al_set hi hL hC hO hD K) (fun _ => ?_)
      refine And.intro (fun _ => al_wash hi hL hC hO hD K) (fun _ => ?_)
      refine And.intro (fun _ => al_draw hi hL hC hO hD K) (fun _ => ?_)
      refine And.intro (fun _ => al_turn hi hL hC hO hD K) (fun _ => ?_)
      refine And.intro (fun _ => al_as hi hL hC hO hD K) (fun _ => ?_)
      refine And.intro (fun _ => al_person hi hL hC hO hD K) (fun _ => ?_)
      refine And.intro (fun _ => al_size hi hL hC hO hD K) (fun _ => ?_)
      refine And.intro (fun _ => al_fits hi hL hC hO hD K) (fun _ => ?_)
      refine And.intro (fun _ => al_days hi hL hC hO hD K) (fun _ => ?_)
      refine And.intro (fun _ => al_on hi hL hC hO hD K) (fun _ => ?_)
      refine And.intro (fun _ => al_again hi hL hC hO hD K) (fun _ => ?_)
      refine And.intro (fun _ => al_washes hi hL hC hO hD K) (fun _ => ?_)
      refine And.intro (fun _ => al_warmest hi hL hC hO hD K) (fun _ => ?_)
      refine And.intro (fun _ => al_pull hi hL hC hO hD K) (fun _ => ?_)
      refine And.intro (fun _ => al_kind hi hL hC hO hD K) (fun _ => ?_)
      refine And.intro (fun _ => al_dressed hi hL hC hO hD K) (fun _ => ?_)
      refine And.intro (fun _ => al_shortest hi hL hC hO hD K) (fun _ => ?_)
      refine And.intro (fun _ => al_feed hi hL hC hO hD K) (fun _ => ?_)
      refine And.intro (fun _ => al_wipe hi hL hC hO hD K) (fun _ => ?_)
      refine And.intro (fun _ => al_basket hi hL hC hO hD K) (fun _ => ?_)
      refine And.intro (fun _ => al_sheet hi hL hC hO hD K) (fun _ => ?_)
      refine And.intro (fun _ => al_write hi hL hC hO hD K) (fun _ => ?_)
      refine And.intro (fun _ => al_copy hi hL hC hO hD K) (fun _ => ?_)
      refine And.intro (fun _ => al_lays hi hL hC hO hD K) (fun _ => ?_)
      refine And.intro (fun _ => al_book hi hL hC hO hD K) (fun _ => ?_)
      refine And.intro (fun _ => al_read hi hL hC hO hD K) (fun _ => ?_)
      refine And.intro (fun _ => al_image hi hL hC hO hD K) (fun _ => ?_)
      refine And.intro (fun _ => al_undo hi hL hC hO hD K) (fun _ => ?_)
      refine And.intro (fun _ => al_tear hi hL hC hO hD K) (fun _ => ?_)
      refine And.intro (fun _ => al_count hi hL hC hO hD K) (fun _ => ?_)
      refine And.intro (fun _ => al_status hi hL hC hO hD K) (fun _ => ?_)
      exact K0
end LP
section LE0
variable {E : EVt} {nm : String} {Q : Value → AHt → Prop}
/-- the law's contract, over its own start -/
theorem al_law {h : AHt} (hL : ev_L E ≤ 3072) (hQ : ∀ h, Q (.int 1) h) : AW E 12 (ML nm) (0, 83, 1257) 0 0 0 [(0, .ref (ev_b E))] [] h Q := by
  refine an_new (a := 0) (ci := 11) (fs := [.null, .null, .null, .null, .null, .null, .null, .int 0]) (q := 3) dL_law_0 ck_11 ⟨w_21, w_22, w_1⟩ hd_11 (Nat.le_of_ble_eq_true rfl) (Nat.le_of_ble_eq_true rfl) rfl rfl ?_
  intro h1 e1 o1
  refine aw_dup (q := 4) dL_law_3 rfl rfl ?_
  refine aw_callI (As := []) (rest := [.ref (ev_z E + 0)]) (mc := 71) (ms := 606) (d' := 6) (q := 7) lkL_9 dL_law_4 (Nat.le_of_ble_eq_true rfl) rfl rfl (Nat.le_of_ble_eq_true rfl) (Nat.le_of_ble_eq_true rfl) (Nat.le_of_ble_eq_true rfl) rfl ?_
  refine ct_X11_init e1 ?_
  intro h2 r2
  refine aw_astore_n (i := 1) (q := 8) (lv' := [_, _]) dL_law_7 rfl (Nat.le_of_ble_eq_true rfl) rfl rfl ?_
  refine an_new (a := 72) (ci := 12) (fs := [.null, .null, .null, .null, .null, .int 0, .null, .int 0, .int 0, .int 0, .int 0, .int 0, .null, .null, .null, .null]) (q := 11) dL_law_8 ck_12 ⟨w_817, w_818, w_13⟩ hd_12 (Nat.le_of_ble_eq_true rfl) (Nat.le_of_ble_eq_true rfl) rfl rfl ?_
  intro h3 e3 o3
  refine aw_dup (q := 12) dL_law_11 rfl rfl ?_
  refine aw_callI (As := []) (rest := [.ref (ev_z E + 72)]) (mc := 10) (ms := 627) (d' := 2) (q := 15) lkL_12 dL_law_12 (Nat.le_of_ble_eq_true rfl) rfl rfl (Nat.le_of_ble_eq_true rfl) (Nat.le_of_ble_eq_true rfl) (Nat.le_of_ble_eq_true rfl) rfl ?_
  refine ct_X12_init e3 ?_
  intro h4 o4 r4
  refine aw_astore_n (i := 2) (q := 16) (lv' := [_, _, _]) dL_law_15 rfl (Nat.le_of_ble_eq_true rfl) rfl rfl ?_
  refine aw_iconst (v := 0) (q := 17) dL_law_16 rfl rfl ?_
  refine aw_istore_n (i := 3) (q := 18) (lv' := [_, _, _, _]) dL_law_17 rfl (Nat.le_of_ble_eq_true rfl) rfl rfl ?_
  refine AW_cong (h' := HP E mI LI) (fun k hk => ?_) ?_
  · have hk : k < 83 := hk
    by_cases c : k < 72
    · exact Or.inl ((o4 k c).trans ((o3 k (by omega)).trans (r2 k c)))
    · exact Or.inl (r4 k (by omega) hk)
  exact al_loop (nm := nm) hL hQ 512 0 mI LI 0 (by omega) (by omega) (by omega) CR_I OK_I
end LE0
