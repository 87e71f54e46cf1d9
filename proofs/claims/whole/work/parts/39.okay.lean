/-! the ranges are kept by what a call does to the row -/
section OKS
variable {A : Nat → Int32} {D : Nat}
/-- a row with the same head but for day, degrees, towels; garments and people as they may be -/
theorem okA_mk {B : Nat → Int32} (h1 : B 1 = nI (cA A)) (h1c : cA A ≤ 8) (hg : ∀ g, g < cA A → okG D (gv B g)) (h2 : B 2 = nI (pA A)) (h2c : pA A ≤ 6) (hp : ∀ p, p < pA A → (10 ≤ (B (61 + 2 * p)).toInt ∧ (B (61 + 2 * p)).toInt ≤ 200) ∧ (10 ≤ (B (61 + 2 * p + 1)).toInt ∧ (B (61 + 2 * p + 1)).toInt ≤ 200)) (h3 : 20 ≤ (B 3).toInt ∧ (B 3).toInt ≤ 95) (h4 : B 4 = 0 ∨ B 4 = 1) : okA D B := by
  have c1 : cA B = cA A := by unfold cA; rw [h1, nI_clamp (by omega)]; rfl
  have c2 : pA B = pA A := by unfold pA; rw [h2, nI_clamp (by omega)]; rfl
  refine ⟨⟨by rw [c1]; exact h1, by rw [c1]; exact h1c, fun g hg1 => hg g (by rw [c1] at hg1; exact hg1)⟩, ⟨by rw [c2]; exact h2, by rw [c2]; exact h2c, fun p hp1 => hp p (by rw [c2] at hp1; exact hp1)⟩, trivial, h3, h4⟩
theorem okA_up {D' : Nat} (h : okA D A) (hD : D ≤ D') : okA D' A := ⟨⟨h.1.1, h.1.2.1, fun g hg => (h.1.2.2 g hg).up hD⟩, h.2⟩
theorem okA_cong {B : Nat → Int32} (h : okA D A) (e : eq73 B A) : okA D B := by
  obtain ⟨⟨h1, h2, h3⟩, ⟨h4, h5, h6⟩, h7, h8, h9⟩ := h
  exact okA_mk (A := A) ((e 1 (by decide)).trans h1) h2 (fun g hg => (h3 g hg).cong (fun f hf => e _ (by omega))) ((e 2 (by decide)).trans h4) h5 (fun p hp => by rw [e _ (by omega), e _ (by omega)]; exact h6 p hp) (by rw [e 3 (by decide)]; exact h8) (by rw [e 4 (by decide)]; exact h9)
theorem okA_tow {b : Int32} (h : okA D A) (hb : b = 0 ∨ b = 1) : okA D (upd A 4 b) := by
  obtain ⟨⟨h1, h2, h3⟩, ⟨h4, h5, h6⟩, h7, h8, h9⟩ := h
  exact okA_mk (A := A) ((upd_n (by decide)).trans h1) h2 (fun g hg => (h3 g hg).cong (fun f hf => upd_n (by omega))) ((upd_n (by decide)).trans h4) h5 (fun p hp => by rw [upd_n (by omega), upd_n (by omega)]; exact h6 p hp) (by rw [upd_n (by decide)]; exact h8) (by rw [upd_s]; exact hb)
theorem okA_fld {g f : Nat} {x : Int32} (h : okA D A) (hg : g < 8) (hf : f < 7) (hx : g < cA A → okG D (upd (gv A g) f x)) : okA D (upd A (5 + 7 * g + f) x) := by
  obtain ⟨⟨h1, h2, h3⟩, ⟨h4, h5, h6⟩, h7, h8, h9⟩ := h
  refine okA_mk (A := A) ((upd_n (by omega)).trans h1) h2 (fun j hj => ?_) ((upd_n (by omega)).trans h4) h5 (fun p hp => by rw [upd_n (by omega), upd_n (by omega)]; exact h6 p hp) (by rw [upd_n (by omega)]; exact h8) (by rw [upd_n (by omega)]; exact h9)
  by_cases e : j = g
  · subst e
    refine (hx hj).cong (fun i hi => ?_)
    show upd A (5 + 7 * j + f) x (5 + 7 * j + i) = upd (gv A j) f x i
    by_cases e2 : i = f
    · subst e2; rw [upd_s, upd_s]
    · rw [upd_n (by omega), upd_n e2]; rfl
  · exact (h3 j hj).cong (fun i hi => upd_n (by omega))
theorem ok_new {k : Nat} (hk : k < 6) : okG D (newG (nI k) (fun _ => 0)) := by
  have e := nI_toInt (n := k) (by omega)
  refine ⟨?_, ?_, ?_, ?_, ?_, ?_, ?_⟩
  · show 0 ≤ (nI k).toInt ∧ (nI k).toInt ≤ 5; omega
  · show 10 ≤ (100 : Int32).toInt ∧ (100 : Int32).toInt ≤ 200; decide
  · show 10 ≤ (100 : Int32).toInt ∧ (100 : Int32).toInt ≤ 200; decide
  · show 1 ≤ (10 : Int32).toInt ∧ (10 : Int32).toInt ≤ 99; decide
  · show 0 ≤ (0 : Int32).toInt ∧ (0 : Int32).toInt ≤ 3; decide
  · show 0 ≤ (0 : Int32).toInt ∧ (0 : Int32).toInt ≤ D
    have z : (0 : Int32).toInt = 0 := by decide
    omega
  · show 0 ≤ (0 : Int32).toInt ∧ (0 : Int32).toInt ≤ 9999; decide
theorem okA_addA {k : Nat} (h : okA D A) (hk : k < 6) (hc : cA A < 8) : okA D (addA A (nI k)) ∧ cA (addA A (nI k)) = cA A + 1 := by
  obtain ⟨⟨h1, h2, h3⟩, ⟨h4, h5, h6⟩, h7, h8, h9⟩ := h
  have e1 : addA A (nI k) 1 = nI (cA A + 1) := by
    show upd _ 1 (A 1 + 1) 1 = _
    rw [upd_s, h1, nI_1]
  have e2 : ∀ j, j < 5 → j ≠ 1 → addA A (nI k) j = A j := fun j hj hn => (upd_n hn).trans (gput_n (by omega))
  have c1 : cA (addA A (nI k)) = cA A + 1 := by unfold cA; rw [e1, nI_clamp (by omega)]; rfl
  have c2 : pA (addA A (nI k)) = pA A := by unfold pA; rw [e2 2 (by decide) (by decide)]
  refine ⟨⟨⟨by rw [c1]; exact e1, by omega, fun g hg => ?_⟩, ⟨by rw [c2, e2 2 (by decide) (by decide)]; exact h4, by rw [c2]; exact h5, fun p hp => ?_⟩, trivial, by rw [e2 3 (by decide) (by decide)]; exact h8, by rw [e2 4 (by decide) (by decide)]; exact h9⟩, c1⟩
  · rw [c1] at hg
    by_cases e : g = cA A
    · refine (ok_new (D := D) hk).cong (fun f hf => ?_)
      show addA A (nI k) (5 + 7 * g + f) = _
      unfold addA
      rw [upd_n (by omega), e, gput_s hf]
    · refine (h3 g (by omega)).cong (fun f hf => ?_)
      show addA A (nI k) (5 + 7 * g + f) = _
      unfold addA
      rw [upd_n (by omega), gput_n (by omega)]
      rfl
  · rw [c2] at hp
    have q0 : addA A (nI k) (61 + 2 * p) = A (61 + 2 * p) := (upd_n (by omega)).trans (gput_n (by omega))
    have q1 : addA A (nI k) (61 + 2 * p + 1) = A (61 + 2 * p + 1) := (upd_n (by omega)).trans (gput_n (by omega))
    rw [q0, q1]
    exact h6 p hp
theorem okA_addP {l w : Int32} (h : okA D A) (hc : pA A < 6) (hl : 10 ≤ l.toInt ∧ l.toInt ≤ 200) (hw : 10 ≤ w.toInt ∧ w.toInt ≤ 200) : okA D (addP A l w) := by
  obtain ⟨⟨h1, h2, h3⟩, ⟨h4, h5, h6⟩, h7, h8, h9⟩ := h
  have e2 : addP A l w 2 = nI (pA A + 1) := by
    show upd _ 2 (A 2 + 1) 2 = _
    rw [upd_s, h4, nI_1]
  have ej : ∀ j, j < 61 → j ≠ 2 → addP A l w j = A j := fun j hj hn => (upd_n hn).trans ((upd_n (by omega)).trans (upd_n (by omega)))
  have c1 : cA (addP A l w) = cA A := by unfold cA; rw [ej 1 (by decide) (by decide)]
  have c2 : pA (addP A l w) = pA A + 1 := by unfold pA; rw [e2, nI_clamp (by omega)]; rfl
  refine ⟨⟨by rw [c1, ej 1 (by decide) (by decide)]; exact h1, by rw [c1]; exact h2, fun g hg => ?_⟩, ⟨by rw [c2]; exact e2, by omega, fun p hp => ?_⟩, trivial, by rw [ej 3 (by decide) (by decide)]; exact h8, by rw [ej 4 (by decide) (by decide)]; exact h9⟩
  · rw [c1] at hg
    exact (h3 g hg).cong (fun f hf => ej _ (by omega) (by omega))
  · rw [c2] at hp
    unfold addP
    by_cases e : p = pA A
    · subst e
      rw [upd_n (by omega), upd_n (by omega), upd_s, upd_n (by omega), upd_s]
      exact ⟨hl, hw⟩
    · rw [upd_n (by omega), upd_n (by omega), upd_n (by omega), upd_n (by omega), upd_n (by omega), upd_n (by omega)]
      exact h6 p (by omega)
theorem ok_len {v : Nat → Int32} {x : Int32} (h : okG D v) (hx : 10 ≤ x.toInt ∧ x.toInt ≤ 200) : okG D (upd v 1 x) := by
  obtain ⟨o0, o1, o2, o3, o4, o5, o6⟩ := h
  exact ⟨by rw [upd_n (by decide)]; exact o0, by rw [upd_s]; exact hx, by rw [upd_n (by decide)]; exact o2, by rw [upd_n (by decide)]; exact o3, by rw [upd_n (by decide)]; exact o4, by rw [upd_n (by decide)]; exact o5, by rw [upd_n (by decide)]; exact o6⟩
theorem ok_bro {v : Nat → Int32} {x : Int32} (h : okG D v) (hx : 10 ≤ x.toInt ∧ x.toInt ≤ 200) : okG D (upd v 2 x) := by
  obtain ⟨o0, o1, o2, o3, o4, o5, o6⟩ := h
  exact ⟨by rw [upd_n (by decide)]; exact o0, by rw [upd_n (by decide)]; exact o1, by rw [upd_s]; exact hx, by rw [upd_n (by decide)]; exact o3, by rw [upd_n (by decide)]; exact o4, by rw [upd_n (by decide)]; exact o5, by rw [upd_n (by decide)]; exact o6⟩
theorem ok_thi {v : Nat → Int32} {x : Int32} (h : okG D v) (hx : 1 ≤ x.toInt ∧ x.toInt ≤ 99) : okG D (upd v 3 x) := by
  obtain ⟨o0, o1, o2, o3, o4, o5, o6⟩ := h
  exact ⟨by rw [upd_n (by decide)]; exact o0, by rw [upd_n (by decide)]; exact o1, by rw [upd_n (by decide)]; exact o2, by rw [upd_s]; exact hx, by rw [upd_n (by decide)]; exact o4, by rw [upd_n (by decide)]; exact o5, by rw [upd_n (by decide)]; exact o6⟩
theorem ok_hol {v : Nat → Int32} {x : Int32} (h : okG D v) (hx : 0 ≤ x.toInt ∧ x.toInt ≤ 9999) : okG D (upd v 6 x) := by
  obtain ⟨o0, o1, o2, o3, o4, o5, o6⟩ := h
  exact ⟨by rw [upd_n (by decide)]; exact o0, by rw [upd_n (by decide)]; exact o1, by rw [upd_n (by decide)]; exact o2, by rw [upd_n (by decide)]; exact o3, by rw [upd_n (by decide)]; exact o4, by rw [upd_n (by decide)]; exact o5, by rw [upd_s]; exact hx⟩
theorem ok_sor {v : Nat → Int32} {x : Int32} (h : okG D v) (hx : 0 ≤ x.toInt ∧ x.toInt ≤ 5) : okG D (upd v 0 x) := by
  obtain ⟨o0, o1, o2, o3, o4, o5, o6⟩ := h
  exact ⟨by rw [upd_s]; exact hx, by rw [upd_n (by decide)]; exact o1, by rw [upd_n (by decide)]; exact o2, by rw [upd_n (by decide)]; exact o3, by rw [upd_n (by decide)]; exact o4, by rw [upd_n (by decide)]; exact o5, by rw [upd_n (by decide)]; exact o6⟩
theorem num_ti {T : Nat → Int32} {tn p lo hi : Nat} (h : numB T tn p lo hi = true) : (lo : Int) ≤ (nI (tkV T tn p)).toInt ∧ (nI (tkV T tn p)).toInt ≤ hi := by
  obtain ⟨h1, h2, h3⟩ := numB_iff.mp h
  have := tkV_b h1
  rw [nI_toInt (by omega)]
  omega
end OKS
/-- an item that is well keeps the ranges, and the reading goes on -/
theorem thk_ok {T A A' : Nat → Int32} {tn g q p' D : Nat} (hO : okA D A) (hg : g < cA A) (h : thkS T tn A g q = (true, A', p')) : okA D A' := by
  have hc := hO.1.2.1
  unfold thkS at h
  split at h
  · split at h
    · rename_i hn
      cases h
      exact okA_fld hO (by omega) (by decide) (fun hg => ok_thi (hO.1.2.2 g hg) (num_ti hn))
    · cases h
  · cases h
    exact hO
theorem spn_ok {T A A' : Nat → Int32} {tn g q p' D : Nat} (hO : okA D A) (hg : g < cA A) (h : spnS T tn A g q = (true, A', p')) : okA D A' := by
  have hc := hO.1.2.1
  unfold spnS at h
  split at h
  · split at h
    · rename_i hn1
      split at h
      · rename_i hn2
        have o1 := okA_fld (f := 1) (x := nI (tkV T tn (tkE T tn q))) hO (show g < 8 by omega) (by decide) (fun hg => ok_len (hO.1.2.2 g hg) (num_ti hn1))
        have c1 : cA (upd A (5 + 7 * g + 1) (nI (tkV T tn (tkE T tn q)))) = cA A := by unfold cA; rw [upd_n (by omega)]
        have o2 := okA_fld (f := 2) (x := nI (tkV T tn (tkE T tn (tkE T tn q)))) o1 (show g < 8 by omega) (by decide) (fun hg => ok_bro (o1.1.2.2 g hg) (num_ti hn2))
        have c2 : cA (upd (upd A (5 + 7 * g + 1) (nI (tkV T tn (tkE T tn q)))) (5 + 7 * g + 2) (nI (tkV T tn (tkE T tn (tkE T tn q))))) = cA A := by
          unfold cA
          rw [upd_n (by omega), upd_n (by omega)]
        exact thk_ok o2 (by rw [c2]; exact hg) h
      · cases h
    · cases h
  · exact thk_ok hO hg h
theorem itm_ok {T A A' : Nat → Int32} {tn p p' D : Nat} (hO : okA D A) (h : itmS T tn A p = (true, A', p')) : okA D A' := by
  have hc := hO.1.2.1
  have hdg := hO.2.2.2.1
  unfold itmS at h
  split at h
  · rename_i hk
    unfold garS at h
    split at h
    · rename_i hlt
      have ho := okA_addA hO hk hlt
      exact spn_ok ho.1 (by rw [ho.2]; omega) h
    · cases h
  · split at h
    · unfold perS at h
      split at h
      · rename_i hlt
        split at h
        · rename_i hn1
          split at h
          · rename_i hn2
            cases h
            exact okA_addP hO hlt (num_ti hn1) (num_ti hn2)
          · cases h
        · cases h
      · cases h
    · split at h
      · unfold degS at h
        split at h
        · rename_i hn1
          cases h
          have := num_ti hn1
          exact (okA_deg hO (by omega) (by omega)).1
        · cases h
      · split at h
        · unfold wasS at h
          split at h
          · rename_i hw
            cases h
            exact (okA_gput (by omega) hO (Nat.le_refl D) (ok_wsh (hO.1.2.2 _ hw.2) (by omega) (by omega))).1
          · cases h
        · split at h
          · cases h
            exact okA_tow hO (Or.inr rfl)
          · split at h
            · cases h
              exact okA_tow hO (Or.inl rfl)
            · cases h
theorem nx_le {T : Nat → Int32} {tn p : Nat} : p ≤ tkE T tn p := Nat.le_trans tkS_le tkE_le
theorem thk_le {T A : Nat → Int32} {tn g q : Nat} (hq : q ≤ tn) : q ≤ (thkS T tn A g q).2.2 ∧ (thkS T tn A g q).2.2 ≤ tn := by
  have a1 := nx_le (T := T) (tn := tn) (p := q)
  have b1 := tkE_ub (T := T) hq
  have a2 := nx_le (T := T) (tn := tn) (p := tkE T tn q)
  have b2 := tkE_ub (T := T) b1
  unfold thkS
  split
  · split
    · exact ⟨by show q ≤ tkE T tn (tkE T tn q); omega, b2⟩
    · exact ⟨a1, b1⟩
  · exact ⟨Nat.le_refl q, hq⟩
theorem spn_le {T A : Nat → Int32} {tn g q : Nat} (hq : q ≤ tn) : q ≤ (spnS T tn A g q).2.2 ∧ (spnS T tn A g q).2.2 ≤ tn := by
  have a1 := nx_le (T := T) (tn := tn) (p := q)
  have b1 := tkE_ub (T := T) hq
  have a2 := nx_le (T := T) (tn := tn) (p := tkE T tn q)
  have b2 := tkE_ub (T := T) b1
  have a3 := nx_le (T := T) (tn := tn) (p := tkE T tn (tkE T tn q))
  have b3 := tkE_ub (T := T) b2
  unfold spnS
  split
  · split
    · split
      · have := thk_le (T := T) (A := upd (upd A (5 + 7 * g + 1) (nI (tkV T tn (tkE T tn q)))) (5 + 7 * g + 2) (nI (tkV T tn (tkE T tn (tkE T tn q))))) (g := g) b3
        exact ⟨by omega, this.2⟩
      · exact ⟨by show q ≤ tkE T tn (tkE T tn q); omega, b2⟩
    · exact ⟨a1, b1⟩
  · exact thk_le hq
theorem itm_le {T A : Nat → Int32} {tn p : Nat} (hq : p ≤ tn) : p ≤ (itmS T tn A p).2.2 ∧ (itmS T tn A p).2.2 ≤ tn := by
  have a1 := nx_le (T := T) (tn := tn) (p := p)
  have b1 := tkE_ub (T := T) hq
  have a2 := nx_le (T := T) (tn := tn) (p := tkE T tn p)
  have b2 := tkE_ub (T := T) b1
  have a3 := nx_le (T := T) (tn := tn) (p := tkE T tn (tkE T tn p))
  have b3 := tkE_ub (T := T) b2
  unfold itmS
  split
  · unfold garS
    split
    · have := spn_le (T := T) (A := addA A (nI (kdN T tn p))) (g := cA A) b1
      exact ⟨by omega, this.2⟩
    · exact ⟨Nat.le_refl p, hq⟩
  · split
    · unfold perS
      split
      · split
        · split
          · exact ⟨by show p ≤ tkE T tn (tkE T tn (tkE T tn p)); omega, b3⟩
          · exact ⟨by show p ≤ tkE T tn (tkE T tn p); omega, b2⟩
        · exact ⟨a1, b1⟩
      · exact ⟨Nat.le_refl p, hq⟩
    · split
      · unfold degS
        split
        · exact ⟨by show p ≤ tkE T tn (tkE T tn p); omega, b2⟩
        · exact ⟨a1, b1⟩
      · split
        · unfold wasS
          split
          · exact ⟨by show p ≤ tkE T tn (tkE T tn p); omega, b2⟩
          · exact ⟨a1, b1⟩
        · split
          · exact ⟨a1, b1⟩
          · split
            · exact ⟨a1, b1⟩
            · exact ⟨Nat.le_refl p, hq⟩
/-- the text from behind an item -/
def bskT (T : Nat → Int32) (tn : Nat) : Nat → (Nat → Int32) → Nat → Nat → Bool × (Nat → Int32) × Nat × Nat
  | 0, A, p, n => (false, A, p, n)
  | f + 1, A, p, n => if tkT T tn p = 0 then (true, A, p, n) else if tkT T tn p = 3 then (if (itmS T tn A (tkE T tn p)).1 = true then bskT T tn f (itmS T tn A (tkE T tn p)).2.1 (itmS T tn A (tkE T tn p)).2.2 (n + 1) else (false, A, (itmS T tn A (tkE T tn p)).2.2, n + 1)) else (false, A, p, n)
def bskF (T : Nat → Int32) (tn : Nat) (A : Nat → Int32) : Bool × (Nat → Int32) × Nat × Nat := if (itmS T tn A 0).1 = true then bskT T tn 121 (itmS T tn A 0).2.1 (itmS T tn A 0).2.2 1 else (false, A, (itmS T tn A 0).2.2, 1)
theorem bskT_ok {T : Nat → Int32} {tn D : Nat} : ∀ f A p n A' p' n', okA D A → bskT T tn f A p n = (true, A', p', n') → okA D A'
  | 0, A, p, n, A', p', n', _, h => by cases h
  | f + 1, A, p, n, A', p', n', hO, h => by
    unfold bskT at h
    split at h
    · cases h; exact hO
    · split at h
      · split at h
        · rename_i hi
          exact bskT_ok f _ _ _ _ _ _ (itm_ok hO (show itmS T tn A (tkE T tn p) = (true, (itmS T tn A (tkE T tn p)).2.1, (itmS T tn A (tkE T tn p)).2.2) from Prod.ext hi rfl)) h
        · cases h
      · cases h
theorem bskF_ok {T A A' : Nat → Int32} {tn D p' n' : Nat} (hO : okA D A) (h : bskF T tn A = (true, A', p', n')) : okA D A' := by
  unfold bskF at h
  split at h
  · rename_i hi
    exact bskT_ok 121 _ _ _ _ _ _ (itm_ok hO (show itmS T tn A 0 = (true, (itmS T tn A 0).2.1, (itmS T tn A 0).2.2) from Prod.ext hi rfl)) h
  · cases h
