/-! shapes of the cells by their places, and plain facts of ints (the fa_ rows begin as kit/laws/NUMBERS has them) -/
theorem fa_lt (a b : Int32) : a < b ↔ a.toInt < b.toInt := Int32.lt_iff_toInt_lt
theorem fa_le (a b : Int32) : a ≤ b ↔ a.toInt ≤ b.toInt := Int32.le_iff_toInt_le
theorem fa_eq (a b : Int32) : a = b ↔ a.toInt = b.toInt := Int32.toInt_inj.symm
theorem fa_lt64 (a b : Int64) : a < b ↔ a.toInt < b.toInt := Int64.lt_iff_toInt_lt
theorem fa_le64 (a b : Int64) : a ≤ b ↔ a.toInt ≤ b.toInt := Int64.le_iff_toInt_le
theorem fa_wide_le (a b : Int32) : a.toInt64 ≤ b.toInt64 ↔ a ≤ b := by
  rw [fa_le64, fa_le, Int32.toInt_toInt64, Int32.toInt_toInt64]
theorem fa_wide_lt (a b : Int32) : a.toInt64 < b.toInt64 ↔ a < b := by
  rw [fa_lt64, fa_lt, Int32.toInt_toInt64, Int32.toInt_toInt64]
theorem shp_in {P : Nat → Prop} {s : Nat} (hs : Nat.ble s 90 = true) (h : ∀ k, k < 83 → shp k = s → P k) {k : Nat} (hk : shp k = s) : P k := h k (shp_lt hk hs) hk
theorem isB_of {b : Nat} (h : shp b = 0) : b = 8 ∨ b = 25 ∨ b = 42 := shp_in (P := fun b => b = 8 ∨ b = 25 ∨ b = 42) rfl (by decide +kernel) h
theorem isS_of {b : Nat} (h : shp b = 6) : b = 63 ∨ b = 65 ∨ b = 67 ∨ b = 69 := shp_in (P := fun b => b = 63 ∨ b = 65 ∨ b = 67 ∨ b = 69) rfl (by decide +kernel) h
theorem isG_of {b : Nat} (h : shp b = 2) : (10 ≤ b ∧ b ≤ 17) ∨ (27 ≤ b ∧ b ≤ 34) ∨ (44 ≤ b ∧ b ≤ 51) ∨ b = 59 := shp_in (P := fun b => (10 ≤ b ∧ b ≤ 17) ∨ (27 ≤ b ∧ b ≤ 34) ∨ (44 ≤ b ∧ b ≤ 51) ∨ b = 59) rfl (by decide +kernel) h
theorem sb_8 : shp 8 = 0 := rfl
theorem sb_25 : shp 25 = 0 := rfl
theorem sb_42 : shp 42 = 0 := rfl
theorem sh_ga {b : Nat} (h : shp b = 0) : shp (b + 1) = 21 := by rcases isB_of h with rfl | rfl | rfl <;> rfl
theorem sh_pa {b : Nat} (h : shp b = 0) : shp (b + 10) = 22 := by rcases isB_of h with rfl | rfl | rfl <;> rfl
theorem sh_nu {b : Nat} (h : shp b = 6) : shp (b + 1) = 26 := by rcases isS_of h with rfl | rfl | rfl | rfl <;> rfl
theorem sh_g8 : ∀ n, n < 8 → shp (8 + 1 + 1 + n) = 2 ∧ shp (25 + 1 + 1 + n) = 2 ∧ shp (42 + 1 + 1 + n) = 2 := by decide +kernel
theorem sh_p8 : ∀ n, n < 6 → shp (8 + 10 + 1 + n) = 5 ∧ shp (25 + 10 + 1 + n) = 5 ∧ shp (42 + 10 + 1 + n) = 5 := by decide +kernel
theorem sh_g {b n : Nat} (h : shp b = 0) (hn : n < 8) : shp (b + 1 + 1 + n) = 2 := by
  have := sh_g8 n hn
  rcases isB_of h with rfl | rfl | rfl
  · exact this.1
  · exact this.2.1
  · exact this.2.2
theorem sh_p {b n : Nat} (h : shp b = 0) (hn : n < 6) : shp (b + 10 + 1 + n) = 5 := by
  have := sh_p8 n hn
  rcases isB_of h with rfl | rfl | rfl
  · exact this.1
  · exact this.2.1
  · exact this.2.2
theorem sh_s : ∀ {n : Nat}, n < 4 → shp (63 + 2 * n) = 6 := by
  intro n h
  have : ∀ n, n < 4 → shp (63 + 2 * n) = 6 := by decide +kernel
  exact this n h
theorem nI_mul (a b : Nat) : nI a * nI b = nI (a * b) := by
  unfold nI
  exact (Int32.ofNat_mul a b).symm
theorem nI_lit (n : Nat) : (OfNat.ofNat n : Int32) = nI n := rfl
theorem pc_or {x y : Int32} (c : Prop) [Decidable c] : (if c then x ||| y else x) = x ||| (if c then y else 0) := by
  split
  · rfl
  · simp
section SM
variable {E : EVt} {m : Mm} {L : Ml} {Q : Value → Mm → Ml → Prop}
theorem ck_X11_within {v lo hi : Int32} (h1 : lo ≤ v ∧ v ≤ hi → Q (.int 1) m L) (h0 : ¬ (lo ≤ v ∧ v ≤ hi) → Q (.int 0) m L) : CK E 1 MX11_within [.int v, .int lo, .int hi] m L Q := by
  refine CK.of rfl rfl (lv := [(0, _), (1, _), (2, _)]) rfl ?_
  refine wk_iload_n (i := 0) (q := 1) dX11_within_0 rfl rfl rfl ?_
  refine wk_iload_n (i := 1) (q := 2) dX11_within_1 rfl rfl rfl ?_
  refine wk_icmp_lt (t := 14) (q := 5) dX11_within_2 rfl rfl (fun c2 => ?_) (fun c2 => ?_)
  · skip
    refine wk_iconst (v := 0) (q := 15) dX11_within_14 rfl rfl ?_
    refine wk_ireturn dX11_within_15 rfl rfl ?_
    exact h0 (by first | omega | (simp only [fa_le, fa_lt, fa_eq] at * <;> omega))
  · skip
    refine wk_iload_n (i := 0) (q := 6) dX11_within_5 rfl rfl rfl ?_
    refine wk_iload_n (i := 2) (q := 7) dX11_within_6 rfl rfl rfl ?_
    refine wk_icmp_gt (t := 14) (q := 10) dX11_within_7 rfl rfl (fun c7 => ?_) (fun c7 => ?_)
    · skip
      refine wk_iconst (v := 0) (q := 15) dX11_within_14 rfl rfl ?_
      refine wk_ireturn dX11_within_15 rfl rfl ?_
      exact h0 (by first | omega | (simp only [fa_le, fa_lt, fa_eq] at * <;> omega))
    · skip
      refine wk_iconst (v := 1) (q := 11) dX11_within_10 rfl rfl ?_
      refine wk_goto (t := 15) dX11_within_11 rfl ?_
      refine wk_ireturn dX11_within_15 rfl rfl ?_
      exact h1 (by first | omega | (simp only [fa_le, fa_lt, fa_eq] at * <;> omega))
end SM
