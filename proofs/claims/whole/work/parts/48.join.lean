/-! joining: what the reference's rows read as, the ranges over a call, and the form of a joined call -/
def AG (a : Mm) (aL : Ml) (b : Mm) (bL : Ml) : Prop := eq73 (b 73) (a 73) ∧ (b 72 5 = a 72 5 ∧ (a 72 5 = 1 → eq73 (b 74) (a 74))) ∧ (b 72 7 = a 72 7 ∧ ∀ i, i < 120 → b 78 i = a 78 i) ∧ (∀ s, s < 4 → b 79 s = a 79 s ∧ b 80 s = a 80 s) ∧ (∀ i, i < 160 → bL 81 i = aL 81 i) ∧ (∀ i, i < 7 → b 77 i = a 77 i)
section JN
variable {m m' m1 m2 a b : Mm} {L L' L1 L2 aL bL : Ml} {D : Nat}
theorem AG_rows (h72 : b 72 = a 72) (h73 : b 73 = a 73) (h74 : b 74 = a 74) (h77 : b 77 = a 77) (h78 : b 78 = a 78) (h79 : b 79 = a 79) (h80 : b 80 = a 80) (h81 : bL 81 = aL 81) : AG a aL b bL :=
  ⟨fun j _ => by rw [h73], ⟨by rw [h72], fun _ j _ => by rw [h74]⟩, ⟨by rw [h72], fun i _ => by rw [h78]⟩, fun s _ => ⟨by rw [h79], by rw [h80]⟩, fun i _ => by rw [h81], fun i _ => by rw [h77]⟩
theorem CR_AG (h : CR m L a aL) (g : AG a aL b bL) : CR m L b bL := by
  obtain ⟨h1, ⟨h2, h3⟩, ⟨h4, h5⟩, h6, h7⟩ := h
  obtain ⟨g1, ⟨g2, g3⟩, ⟨g4, g5⟩, g6, g7, g8⟩ := g
  refine ⟨h1.cong g1, ⟨h2.trans g2.symm, fun q => ?_⟩, ⟨h4.trans g4.symm, fun i hi hj => ?_⟩, fun s hs => ?_, fun i hi => ?_⟩
  · rw [g2] at q
    exact (h3 q).cong (g3 q)
  · rw [g4] at hj
    rw [g5 i hi]
    exact h5 i hi hj
  · obtain ⟨q1, q2, q3⟩ := h6 s hs
    refine ⟨q1.trans (g6 s hs).1.symm, q2.trans (g6 s hs).2.symm, fun i hi => ?_⟩
    rw [q3 i hi, g7 _ (by omega)]
  · rw [h7 i hi, g8 i hi]
theorem OK_AG (h : OK D a) (g : AG a aL b bL) : OK D b := by
  obtain ⟨h1, h2, ⟨h4, h5⟩, h6, h7, h8⟩ := h
  obtain ⟨g1, ⟨g2, g3⟩, ⟨g4, g5⟩, g6, g7, g8⟩ := g
  have et : tnA b = tnA a := by unfold tnA; rw [g4]
  refine ⟨okA_cong h1 g1, ?_, ⟨by rw [et, g4]; exact h4, by rw [et]; exact h5⟩, fun s hs => ?_, by rw [g1 0 (by decide)]; exact h7, fun q => ?_⟩
  · rcases h2 with h2 | ⟨h2, h3⟩
    · exact Or.inl (g2.trans h2)
    · exact Or.inr ⟨g2.trans h2, okA_cong h3 (g3 h2)⟩
  · obtain ⟨q1, q2, q3⟩ := h6 s hs
    have es : szA b s = szA a s := by unfold szA; rw [(g6 s hs).2]
    rw [es, (g6 s hs).1, (g6 s hs).2]
    exact ⟨q1, q2, q3⟩
  · rw [g2] at q
    rw [g3 q 0 (by decide)]
    exact h8 q
theorem CR_low (h : CR m L b bL) (e : ∀ k, k < 72 → m' k = m k ∧ L' k = L k) : CR m' L' b bL := by
  obtain ⟨h1, ⟨h2, h3⟩, ⟨h4, h5⟩, h6, h7⟩ := h
  refine ⟨h1.mov (fun k _ _ => (e k (by omega)).1), ⟨by rw [(e 0 (by omega)).1]; exact h2, fun q => (h3 q).mov (fun k _ _ => (e k (by omega)).1)⟩, ⟨by rw [(e 60 (by omega)).1]; exact h4, fun i hi hj => by rw [(e 61 (by omega)).1]; exact h5 i hi hj⟩, fun s hs => ?_, fun i hi => by rw [(e 71 (by omega)).1]; exact h7 i hi⟩
  obtain ⟨g1, g2, g3⟩ := h6 s hs
  exact ⟨by rw [(e _ (by omega)).1]; exact g1, by rw [(e _ (by omega)).1]; exact g2, fun i hi => by rw [(e _ (by omega)).2]; exact g3 i hi⟩
theorem fin (h : CR m1 L1 a aL) (ho : OK D a) (hl : ∀ k, k < 72 → m2 k = m1 k ∧ L2 k = L1 k) (g : AG a aL m2 L2) : CR m2 L2 m2 L2 ∧ OK D m2 := ⟨CR_low (CR_AG h g) hl, OK_AG ho g⟩
theorem OK_up {D' : Nat} (h : OK D a) (hD : D ≤ D') : OK D' a := by
  obtain ⟨h1, h2, h3⟩ := h
  refine ⟨okA_up h1 hD, ?_, h3⟩
  rcases h2 with h2 | ⟨h2, h4⟩
  · exact Or.inl h2
  · exact Or.inr ⟨h2, okA_up h4 hD⟩
theorem OK_73d {X : Nat → Int32} (h : OK D a) (hx : okA (D + 50) X) (h0 : 0 ≤ (X 0).toInt ∧ (X 0).toInt ≤ 99999) : OK (D + 50) (wr a 73 X) := by
  obtain ⟨h1, h2, h3, h4, h5, h6⟩ := OK_up h (Nat.le_add_right D 50)
  refine ⟨by rw [wr_s]; exact hx, by rw [wr_n (by decide), wr_n (by decide)]; exact h2, ?_, ?_, by rw [wr_s]; exact h0, by rw [wr_n (by decide), wr_n (by decide)]; exact h6⟩
  · unfold tnA
    rw [wr_n (by decide)]
    exact h3
  · unfold szA
    rw [wr_n (by decide), wr_n (by decide)]
    exact h4
theorem OK_73 {X : Nat → Int32} (h : OK D a) (hx : okA (D + 50) X) (h0 : X 0 = a 73 0) : OK (D + 50) (wr a 73 X) := OK_73d h hx (by rw [h0]; exact h.2.2.2.2.1)
theorem OK_rf {i : Nat} (h : OK D a) : OK (D + 50) (rfA a i) := by
  obtain ⟨h1, h2, h3, h4, h5, h6⟩ := OK_up h (Nat.le_add_right D 50)
  unfold rfA
  refine ⟨by rw [wr_n (by decide)]; exact h1, by rw [wr_n (by decide), wr_n (by decide)]; exact h2, ?_, ?_, by rw [wr_n (by decide)]; exact h5, by rw [wr_n (by decide), wr_n (by decide)]; exact h6⟩
  · unfold tnA
    rw [wr_n (by decide)]
    exact h3
  · unfold szA
    rw [wr_n (by decide), wr_n (by decide)]
    exact h4
/-- the ends -/
theorem fin73 {X : Nat → Int32} (h : CR m1 L1 (wr m 73 X) L) (hF : FC m m1 L L1) (ho : OK D (wr m 73 X)) : CR (wr m1 73 X) L1 (wr m1 73 X) L1 ∧ OK D (wr m1 73 X) := by
  have f := fun k (hk : 72 ≤ k) => (hF k hk).1
  have fL := fun k (hk : 72 ≤ k) => (hF k hk).2
  refine fin h ho (fun k hk => ⟨wr_n (by omega), rfl⟩) ?_
  refine AG_rows ?_ ?_ ?_ ?_ ?_ ?_ ?_ ?_ <;> simp [wr, f, fL]
theorem fin0 (h : CR m1 L1 m L) (hF : FC m m1 L L1) (ho : OK D m) : CR (wr m1 73 (m 73)) L1 (wr m1 73 (m 73)) L1 ∧ OK (D + 50) (wr m1 73 (m 73)) := by
  have f := fun k (hk : 72 ≤ k) => (hF k hk).1
  have fL := fun k (hk : 72 ≤ k) => (hF k hk).2
  refine fin h (OK_up ho (Nat.le_add_right D 50)) (fun k hk => ⟨wr_n (by omega), rfl⟩) ?_
  refine AG_rows ?_ ?_ ?_ ?_ ?_ ?_ ?_ ?_ <;> simp [wr, f, fL]
theorem finR {i : Nat} (h : CR m1 L1 (rfA m i) L) (hF : FC m m1 L L1) (ho : OK D m) : CR (rfA (wr m1 73 (m 73)) i) L1 (rfA (wr m1 73 (m 73)) i) L1 ∧ OK (D + 50) (rfA (wr m1 73 (m 73)) i) := by
  have f := fun k (hk : 72 ≤ k) => (hF k hk).1
  have fL := fun k (hk : 72 ≤ k) => (hF k hk).2
  refine fin h (OK_rf ho) (fun k hk => ⟨by unfold rfA; rw [wr_n (by omega), wr_n (by omega)], rfl⟩) ?_
  refine AG_rows ?_ ?_ ?_ ?_ ?_ ?_ ?_ ?_ <;> simp [wr, rfA, f, fL]
theorem finQ {i : Nat} (h : CR m1 L1 (rfA m i) L) (hF : FC m m1 L L1) (ho : OK D m) : CR (rfA m1 i) L1 (rfA m1 i) L1 ∧ OK (D + 50) (rfA m1 i) := by
  have f := fun k (hk : 72 ≤ k) => (hF k hk).1
  have fL := fun k (hk : 72 ≤ k) => (hF k hk).2
  refine fin h (OK_rf ho) (fun k hk => ⟨by unfold rfA; rw [wr_n (by omega)], rfl⟩) ?_
  refine AG_rows ?_ ?_ ?_ ?_ ?_ ?_ ?_ ?_ <;> simp [wr, rfA, f, fL]
theorem fin76 {B : Nat → Int32} (h : CR m1 L1 m L) (hF : FC m m1 L L1) (ho : OK D m) : CR (wr (wr m1 76 B) 73 (m 73)) L1 (wr (wr m1 76 B) 73 (m 73)) L1 ∧ OK (D + 50) (wr (wr m1 76 B) 73 (m 73)) := by
  have f := fun k (hk : 72 ≤ k) => (hF k hk).1
  have fL := fun k (hk : 72 ≤ k) => (hF k hk).2
  refine fin h (OK_up ho (Nat.le_add_right D 50)) (fun k hk => ⟨by rw [wr_n (by omega), wr_n (by omega)], rfl⟩) ?_
  refine AG_rows ?_ ?_ ?_ ?_ ?_ ?_ ?_ ?_ <;> simp [wr, f, fL]
theorem fin76R {B : Nat → Int32} {i : Nat} (h : CR m1 L1 (rfA m i) L) (hF : FC m m1 L L1) (ho : OK D m) : CR (rfA (wr (wr m1 76 B) 73 (m 73)) i) L1 (rfA (wr (wr m1 76 B) 73 (m 73)) i) L1 ∧ OK (D + 50) (rfA (wr (wr m1 76 B) 73 (m 73)) i) := by
  have f := fun k (hk : 72 ≤ k) => (hF k hk).1
  have fL := fun k (hk : 72 ≤ k) => (hF k hk).2
  refine fin h (OK_rf ho) (fun k hk => ⟨by unfold rfA; rw [wr_n (by omega), wr_n (by omega), wr_n (by omega)], rfl⟩) ?_
  refine AG_rows ?_ ?_ ?_ ?_ ?_ ?_ ?_ ?_ <;> simp [wr, rfA, f, fL]
end JN
theorem CK_73 {E : EVt} {d : Nat} {M : MDt} {av : List Value} {m : Mm} {L : Ml} {Q : Value → Mm → Ml → Prop} {A : Nat → Int32} (e : m 73 = A) (h : CK E d M av (wr m 73 A) L Q) : CK E d M av m L Q := by
  subst e
  rw [wr_self] at h
  exact h
/-- the joined call: the class's answer is the reference's, and the two stay alike -/
def JI (E : EVt) (d1 d2 : Nat) (M1 M2 : MDt) (av : List Value) : Prop := ∀ (m : Mm) (L : Ml) (D : Nat), CR m L m L → OK D m → D ≤ 1000000 →
  CK E d1 M1 (.ref (ev_z E + 0) :: av) m L (fun v m1 L1 => ∃ x : Int32, v = .int x ∧ CK E d2 M2 (.ref (ev_z E + 72) :: av) m1 L1 (fun w m2 L2 => w = .int x ∧ CR m2 L2 m2 L2 ∧ OK (D + 50) m2))
def JL (E : EVt) (d1 d2 : Nat) (M1 M2 : MDt) (av : List Value) : Prop := ∀ (m : Mm) (L : Ml) (D : Nat), CR m L m L → OK D m → D ≤ 1000000 →
  CK E d1 M1 (.ref (ev_z E + 0) :: av) m L (fun v m1 L1 => ∃ x : Int64, v = .long x ∧ CK E d2 M2 (.ref (ev_z E + 72) :: av) m1 L1 (fun w m2 L2 => w = .long x ∧ CR m2 L2 m2 L2 ∧ OK (D + 50) m2))
theorem nj {i : Int32} {x y : Nat} (h1 : i = nI x) (h2 : i = nI y) (hx : x < 1000) (hy : y < 1000) : x = y := nI_inj (by omega) (by omega) (h1.symm.trans h2)
theorem ti {v : Int32} {lo hi : Nat} (hl : lo < 2 ^ 31) (hh : hi < 2 ^ 31) (h : nI lo ≤ v ∧ v ≤ nI hi) : (lo : Int) ≤ v.toInt ∧ v.toInt ≤ hi := by
  rw [fa_le, fa_le, nI_toInt hl, nI_toInt hh] at h
  exact h
theorem ti_n {v : Int32} {lo hi : Nat} (hl : lo ≤ hi) (hh : hi < 2 ^ 31) (h : nI lo ≤ v ∧ v ≤ nI hi) : ∃ n, lo ≤ n ∧ n ≤ hi ∧ v = nI n := rng hh hl h
