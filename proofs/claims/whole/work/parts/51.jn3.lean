/-! the calls joined, third part: images, the tape, the text -/
theorem itm_day {T A A' : Nat → Int32} {tn p p' : Nat} (hg8 : ∀ g, g < cA A → g < 8) (h : itmS T tn A p = (true, A', p')) : A' 0 = A 0 := by
  have ht : ∀ (A : Nat → Int32) g q A' p', thkS T tn A g q = (true, A', p') → A' 0 = A 0 := by
    intro A g q A' p' h
    unfold thkS at h
    split at h
    · split at h
      · cases h
        exact upd_n (by omega)
      · cases h
    · cases h
      rfl
  have hs : ∀ (A : Nat → Int32) g q A' p', spnS T tn A g q = (true, A', p') → A' 0 = A 0 := by
    intro A g q A' p' h
    unfold spnS at h
    split at h
    · split at h
      · split at h
        · exact (ht _ _ _ _ _ h).trans ((upd_n (by omega)).trans (upd_n (by omega)))
        · cases h
      · cases h
    · exact ht _ _ _ _ _ h
  unfold itmS at h
  split at h
  · unfold garS at h
    split at h
    · exact (hs _ _ _ _ _ h).trans ((upd_n (by decide)).trans (gput_n (by omega)))
    · cases h
  · split at h
    · unfold perS at h
      split at h
      · split at h
        · split at h
          · cases h
            exact (upd_n (by decide)).trans ((upd_n (by omega)).trans (upd_n (by omega)))
          · cases h
        · cases h
      · cases h
    · split at h
      · unfold degS at h
        split at h
        · cases h
          exact upd_n (by decide)
        · cases h
      · split at h
        · unfold wasS at h
          split at h
          · cases h
            exact gput_n (by omega)
          · cases h
        · split at h
          · cases h
            exact upd_n (by decide)
          · split at h
            · cases h
              exact upd_n (by decide)
            · cases h
theorem bskT_day {T : Nat → Int32} {tn D : Nat} : ∀ f A p n A' p' n', okA D A → bskT T tn f A p n = (true, A', p', n') → A' 0 = A 0
  | 0, A, p, n, A', p', n', _, h => by cases h
  | f + 1, A, p, n, A', p', n', hO, h => by
    unfold bskT at h
    split at h
    · cases h; rfl
    · split at h
      · split at h
        · rename_i hi
          have e : itmS T tn A (tkE T tn p) = (true, (itmS T tn A (tkE T tn p)).2.1, (itmS T tn A (tkE T tn p)).2.2) := Prod.ext hi rfl
          exact (bskT_day f _ _ _ _ _ _ (itm_ok hO e) h).trans (itm_day (fun g hg => Nat.lt_of_lt_of_le hg hO.1.2.1) e)
        · cases h
      · cases h
theorem bskF_day {T A A' : Nat → Int32} {tn D p' n' : Nat} (hO : okA D A) (h : bskF T tn A = (true, A', p', n')) : A' 0 = A 0 := by
  unfold bskF at h
  split at h
  · rename_i hi
    have e : itmS T tn A 0 = (true, (itmS T tn A 0).2.1, (itmS T tn A 0).2.2) := Prod.ext hi rfl
    exact (bskT_day 121 _ _ _ _ _ _ (itm_ok hO e) h).trans (itm_day (fun g hg => Nat.lt_of_lt_of_le hg hO.1.2.1) e)
  · cases h
theorem nI_m1 {n : Nat} (h : n < 2 ^ 31) : ¬ nI n = -1 := by
  rw [fa_eq, nI_toInt h, show (-1 : Int32).toInt = -1 by decide]
  omega
theorem nI_r {w : Int32} {n : Nat} (hw : w = nI n) (h : n ≤ 6) : -1 ≤ w ∧ w ≤ 6 := by
  rw [hw, fa_le, fa_le, nI_toInt (by omega), show (-1 : Int32).toInt = -1 by decide, show (6 : Int32).toInt = 6 by decide]
  omega
section J3
variable {E : EVt} {a : Mm} {D : Nat}
theorem OK_tape {T S : Nat → Int32} {k : Nat} (h : OK D a) (hk : k ≤ 120) (h5 : S 5 = a 72 5) (h7 : S 7 = nI k) : OK (D + 50) (wr (wr a 78 T) 72 S) := by
  obtain ⟨h1, h2, h3, h4, h5', h6⟩ := OK_up h (Nat.le_add_right D 50)
  have ht : tnA (wr (wr a 78 T) 72 S) = k := by
    unfold tnA
    rw [wr_s, h7, nI_clamp (by omega)]
  refine ⟨by rw [wr_n (by decide), wr_n (by decide)]; exact h1, by rw [wr_s, h5, wr_n (by decide), wr_n (by decide)]; exact h2, by rw [ht, wr_s]; exact ⟨h7, hk⟩, ?_, by rw [wr_n (by decide), wr_n (by decide)]; exact h5', by rw [wr_s, h5, wr_n (by decide), wr_n (by decide)]; exact h6⟩
  unfold szA
  rw [wr_n (by decide), wr_n (by decide), wr_n (by decide), wr_n (by decide)]
  exact h4
theorem OK_wipe {S : Nat → Int32} (h : OK D a) (h5 : S 5 = a 72 5) (h7 : S 7 = 0) : OK (D + 50) (wr a 72 S) := by
  have := OK_tape (T := a 78) (k := 0) h (by omega) h5 h7
  rw [wr_self] at this
  exact this
theorem OK_kept {S X : Nat → Int32} (h : OK D a) (hx : okA D X) (hx0 : 0 ≤ (X 0).toInt ∧ (X 0).toInt ≤ 99999) (h5 : S 5 = 0 ∨ S 5 = 1) (h7 : S 7 = a 72 7) : OK (D + 50) (wr (wr a 74 X) 72 S) := by
  obtain ⟨h1, h2, h3, h4, h5', h6⟩ := OK_up h (Nat.le_add_right D 50)
  have ht : tnA (wr (wr a 74 X) 72 S) = tnA a := by
    unfold tnA
    rw [wr_s, h7]
  refine ⟨by rw [wr_n (by decide), wr_n (by decide)]; exact h1, ?_, by rw [ht, wr_s, h7]; exact h3, ?_, by rw [wr_n (by decide), wr_n (by decide)]; exact h5', fun _ => by rw [wr_n (by decide), wr_s]; exact hx0⟩
  · rw [wr_s, wr_n (by decide), wr_s]
    rcases h5 with e | e
    · exact Or.inl e
    · exact Or.inr ⟨e, okA_up hx (Nat.le_add_right D 50)⟩
  · unfold szA
    rw [wr_n (by decide), wr_n (by decide), wr_n (by decide), wr_n (by decide)]
    exact h4
theorem jn_feed {y n : Int32} : JI E 2 2 MX11_feed MX12_feed [.int y, .int n] := by
  intro m L D hC hO hD
  have ht := hO.2.2.1.1
  have ht2 := hO.2.2.1.2
  refine ck_X11_feed hC hO (fun N h1 h2 hn hl => ?_) (fun N h1 h2 hn hl => ?_) (fun hn => ?_)
  · intro m1 L1 hC1 hF
    refine ⟨_, rfl, ?_⟩
    have f := fun k (hk : 72 ≤ k) => (hF k hk).1
    have fL := fun k (hk : 72 ≤ k) => (hF k hk).2
    refine ck_X12_feed (tn := tnA m) (by rw [f 72 (by decide)]; exact ht) ht2 (fun N' h1' h2' hn' hl' => ?_) (fun N' h1' h2' hn' hl' => ?_) (fun q => absurd (rg hn h1 h2 (by omega)) q)
    · obtain rfl := nj hn' hn (by omega) (by omega)
      refine ⟨rfl, fin hC1 (OK_tape (k := tnA m + _) hO hl (upd_n (by decide)) upd_s) (fun k hk => ⟨by rw [wr_n (by omega), wr_n (by omega)], rfl⟩) ?_⟩
      refine AG_rows ?_ ?_ ?_ ?_ ?_ ?_ ?_ ?_ <;> simp [wr, f, fL]
    · obtain rfl := nj hn' hn (by omega) (by omega)
      exact absurd hl hl'
  · intro m1 L1 hC1 hF
    refine ⟨_, rfl, ?_⟩
    have f := fun k (hk : 72 ≤ k) => (hF k hk).1
    refine ck_X12_feed (tn := tnA m) (by rw [f 72 (by decide)]; exact ht) ht2 (fun N' h1' h2' hn' hl' => ?_) (fun N' h1' h2' hn' hl' => ⟨rfl, finQ hC1 hF hO⟩) (fun q => absurd (rg hn h1 h2 (by omega)) q)
    obtain rfl := nj hn' hn (by omega) (by omega)
    exact absurd hl' hl
  · intro m1 L1 hC1 hF
    refine ⟨_, rfl, ?_⟩
    have f := fun k (hk : 72 ≤ k) => (hF k hk).1
    exact ck_X12_feed (tn := tnA m) (by rw [f 72 (by decide)]; exact ht) ht2 (fun N' h1' h2' hn' hl' => absurd (rg hn' h1' h2' (by omega)) hn) (fun N' h1' h2' hn' hl' => absurd (rg hn' h1' h2' (by omega)) hn) (fun _ => ⟨rfl, finQ hC1 hF hO⟩)
theorem jn_wipe : JI E 2 1 MX11_wipe MX12_wipe [] := by
  intro m L D hC hO hD
  refine ck_X11_wipe hC ?_
  intro m1 L1 hC1 hF
  refine ⟨_, rfl, ?_⟩
  have f := fun k (hk : 72 ≤ k) => (hF k hk).1
  have fL := fun k (hk : 72 ≤ k) => (hF k hk).2
  refine ck_X12_wipe ⟨by rw [f 72 (by decide)], fin hC1 (OK_wipe hO (upd_n (by decide)) upd_s) (fun k hk => ⟨by rw [wr_n (by omega)], rfl⟩) ?_⟩
  refine AG_rows ?_ ?_ ?_ ?_ ?_ ?_ ?_ ?_ <;> simp [wr, f, fL]
theorem jn_basket : JI E 10 8 MX11_basket MX12_basket [] := by
  intro m L D hC hO hD
  have ht := hO.2.2.1.1
  have ht2 := hO.2.2.1.2
  refine ck_X11_basket hC hO (fun A' p' n' hb => ?_) (fun A0 p' n' hb => ?_)
  · intro m1 L1 hC1 hF
    refine ⟨_, rfl, CK_73 (hF 73 (by decide)).1 ?_⟩
    have f := fun k (hk : 72 ≤ k) => (hF k hk).1
    have fL := fun k (hk : 72 ≤ k) => (hF k hk).2
    refine ck_X12_basket (tn := tnA m) (by rw [f 72 (by decide)]; exact ht) ht2 hO.1 (fun A2 p2 n2 S2 B hb2 h5 h7 => ?_) (fun A2 p2 n2 S2 B A3 hb2 h5 h7 he => ?_)
    · rw [f 78 (by decide), hb] at hb2
      cases hb2
      have hO2 := OK_wipe (S := upd (m 72) 7 0) hO (upd_n (by decide)) upd_s
      refine ⟨rfl, fin (a := wr (wr m 72 (upd (m 72) 7 0)) 73 A') hC1 ?_ (fun k hk => ⟨by rw [wr_n (by omega), wr_n (by omega), wr_n (by omega)], rfl⟩) ?_⟩
      · have hO3 := OK_73d (X := A') hO (okA_up (bskF_ok hO.1 hb) (Nat.le_add_right D 50)) (by rw [bskF_day hO.1 hb]; exact hO.2.2.2.2.1)
        obtain ⟨g1, g2, g3, g4, g5, g6⟩ := hO2
        obtain ⟨k1, k2, k3, k4, k5, k6⟩ := hO3
        rw [wr_s] at k1 k5
        refine ⟨by rw [wr_s]; exact k1, by rw [wr_n (by decide), wr_n (show (74 : Nat) ≠ 73 by decide)]; exact g2, by unfold tnA; rw [wr_n (by decide)]; exact g3, by unfold szA; rw [wr_n (show (79 : Nat) ≠ 73 by decide), wr_n (show (80 : Nat) ≠ 73 by decide)]; exact g4, by rw [wr_s]; exact k5, by rw [wr_n (by decide), wr_n (show (74 : Nat) ≠ 73 by decide)]; exact g6⟩
      · rw [f 72 (by decide)] at h5
        refine ⟨fun j _ => by simp [wr], ⟨by simp [wr, upd_n, h5], fun _ j _ => by simp [wr, f]⟩, ⟨by simp [wr, upd_s, h7], fun i _ => by simp [wr, f]⟩, fun s _ => by simp [wr, f], fun i _ => by simp [fL], fun i _ => by simp [wr, f]⟩
    · rw [f 78 (by decide), hb] at hb2
      cases hb2
  · intro m1 L1 hC1 hF
    refine ⟨_, rfl, CK_73 (hF 73 (by decide)).1 ?_⟩
    have f := fun k (hk : 72 ≤ k) => (hF k hk).1
    have fL := fun k (hk : 72 ≤ k) => (hF k hk).2
    refine ck_X12_basket (tn := tnA m) (by rw [f 72 (by decide)]; exact ht) ht2 hO.1 (fun A2 p2 n2 S2 B hb2 h5 h7 => ?_) (fun A2 p2 n2 S2 B A3 hb2 h5 h7 he => ?_)
    · rw [f 78 (by decide), hb] at hb2
      cases hb2
    · rw [f 78 (by decide), hb] at hb2
      cases hb2
      refine ⟨by rw [f 78 (by decide)], fin hC1 (OK_wipe hO (upd_n (by decide)) upd_s) (fun k hk => ⟨by rw [wr_n (by omega), wr_n (by omega), wr_n (by omega)], rfl⟩) ?_⟩
      rw [f 72 (by decide)] at h5
      refine ⟨fun j hj => by simp [wr, he j hj], ⟨by simp [wr, upd_n, h5], fun _ j _ => by simp [wr, f]⟩, ⟨by simp [wr, upd_s, h7], fun i _ => by simp [wr, f]⟩, fun s _ => by simp [wr, f], fun i _ => by simp [fL], fun i _ => by simp [wr, f]⟩
theorem jn_image : JI E 3 1 MX11_image MX12_image [] := by
  intro m L D hC hO hD
  refine ck_X11_image hC ?_
  intro m1 L1 hC1 hF
  refine ⟨_, rfl, CK_73 (hF 73 (by decide)).1 ?_⟩
  have f := fun k (hk : 72 ≤ k) => (hF k hk).1
  have fL := fun k (hk : 72 ≤ k) => (hF k hk).2
  refine ck_X12_image (fun B he => ⟨rfl, fin hC1 (OK_kept hO hO.1 hO.2.2.2.2.1 (Or.inr upd_s) (upd_n (by decide))) (fun k hk => ⟨by rw [wr_n (by omega), wr_n (by omega), wr_n (by omega)], rfl⟩) ?_⟩)
  refine ⟨fun j _ => by simp [wr], ⟨by simp [wr, f], fun _ j hj => by simp [wr, he j hj]⟩, ⟨by simp [wr, f], fun i _ => by simp [wr, f]⟩, fun s _ => by simp [wr, f], fun i _ => by simp [fL], fun i _ => by simp [wr, f]⟩
theorem jn_undo : JI E 3 2 MX11_undo MX12_undo [] := by
  intro m L D hC hO hD
  refine ck_X11_undo hC hO (fun h1 => ?_) (fun h0 => ?_)
  · intro m1 L1 hC1 hF
    refine ⟨_, rfl, CK_73 (hF 73 (by decide)).1 ?_⟩
    have f := fun k (hk : 72 ≤ k) => (hF k hk).1
    have fL := fun k (hk : 72 ≤ k) => (hF k hk).2
    refine ck_X12_undo (fun _ B he => ⟨by rw [f 74 (by decide)], fin hC1 (OK_73d hO ?_ (hO.2.2.2.2.2 h1)) (fun k hk => ⟨by rw [wr_n (by omega)], rfl⟩) ?_⟩) (fun q => ?_)
    · rcases hO.2.1 with q | q
      · exact absurd (h1.symm.trans q) (by decide)
      · exact okA_up q.2 (Nat.le_add_right D 50)
    · rw [f 74 (by decide)] at he
      refine ⟨fun j hj => by simp [wr, he j hj], ⟨by simp [wr, f], fun _ j hj => by simp [wr, f]⟩, ⟨by simp [wr, f], fun i _ => by simp [wr, f]⟩, fun s _ => by simp [wr, f], fun i _ => by simp [fL], fun i _ => by simp [wr, f]⟩
    · rw [f 72 (by decide)] at q
      exact absurd (h1.symm.trans q) (by decide)
  · intro m1 L1 hC1 hF
    refine ⟨_, rfl, CK_73 (hF 73 (by decide)).1 ?_⟩
    have f := fun k (hk : 72 ≤ k) => (hF k hk).1
    exact ck_X12_undo (fun q B he => absurd (by rw [f 72 (by decide)]; exact h0) q) (fun _ => ⟨rfl, finR hC1 hF hO⟩)
theorem jn_tear : JI E 1 1 MX11_tear MX12_tear [] := by
  intro m L D hC hO hD
  have h01 : m 72 5 = 0 ∨ m 72 5 = 1 := by
    rcases hO.2.1 with q | q
    · exact Or.inl q
    · exact Or.inr q.1
  refine ck_X11_tear hC hO ?_
  intro m1 L1 hC1 hF
  refine ⟨_, rfl, ?_⟩
  have f := fun k (hk : 72 ≤ k) => (hF k hk).1
  have fL := fun k (hk : 72 ≤ k) => (hF k hk).2
  refine ck_X12_tear (by rw [f 72 (by decide)]; exact h01) ⟨by rw [f 72 (by decide)], fin hC1 ?_ (fun k hk => ⟨by rw [wr_n (by omega)], rfl⟩) ?_⟩
  · have := OK_kept (S := upd (m 72) 5 0) (X := m 74) hO
    rcases hO.2.1 with q | q
    · have e : upd (m 72) 5 0 = m 72 := by rw [← q]; exact upd_same
      rw [e, wr_self]
      exact OK_up hO (Nat.le_add_right D 50)
    · have := OK_kept (S := upd (m 72) 5 0) (X := m 74) hO q.2 (hO.2.2.2.2.2 q.1) (Or.inl upd_s) (upd_n (by decide))
      rw [wr_self] at this
      exact this
  · refine AG_rows ?_ ?_ ?_ ?_ ?_ ?_ ?_ ?_ <;> simp [wr, f, fL]
theorem jn_count {w : Int32} : JI E 2 4 MX11_count MX12_count [.int w] := by
  intro m L D hC hO hD
  refine ck_X11_count hC hO (fun n hn hw => ?_) (fun hn => ?_)
  · have hC1 := hC
    have hF : FC m m L L := FC.rf
    refine ⟨_, rfl, CK_73 rfl ?_⟩
    refine ck_X12_count hO.1 (fun n' hn' hw' => ?_) (fun q => absurd hw (q n hn))
    obtain rfl := nj hw' hw (by omega) (by omega)
    exact ⟨by rw [wr_self], fin0 hC1 hF hO⟩
  · intro m1 L1 hC1 hF
    refine ⟨_, rfl, CK_73 (hF 73 (by decide)).1 ?_⟩
    exact ck_X12_count hO.1 (fun n' hn' hw' => absurd hw' (hn n' hn')) (fun _ => ⟨rfl, finR hC1 hF hO⟩)
theorem jn_status {w : Int32} : JI E 2 2 MX11_status MX12_status [.int w] := by
  intro m L D hC hO hD
  have hu := OK_up hO (Nat.le_add_right D 50)
  refine ck_X11_status hC (fun n hn hw => ?_) (fun hw => ?_) (fun hn => ?_)
  · have hC1 := hC
    have hF : FC m m L L := FC.rf
    refine ⟨_, rfl, ?_⟩
    refine ck_X12_status (fun n' hn' hw' => ?_) (fun q => ?_) (fun q => ?_)
    · obtain rfl := nj hw' hw (by omega) (by omega)
      exact ⟨rfl, hC, hu⟩
    · exact absurd (hw.symm.trans q) (nI_m1 (by omega))
    · exact absurd (nI_r (n := n) hw (by omega)) q
  · have hC1 := hC
    have hF : FC m m L L := FC.rf
    refine ⟨_, rfl, ?_⟩
    refine ck_X12_status (fun n' hn' hw' => ?_) (fun q => ⟨rfl, hC, hu⟩) (fun q => ?_)
    · exact absurd (hw'.symm.trans hw) (nI_m1 (by omega))
    · exact absurd ⟨by rw [hw]; decide, by rw [hw]; decide⟩ q
  · intro m1 L1 hC1 hF
    refine ⟨_, rfl, ?_⟩
    refine ck_X12_status (fun n' hn' hw' => ?_) (fun q => ?_) (fun q => ⟨rfl, finQ hC1 hF hO⟩)
    · exact absurd (nI_r (n := n') hw' (by omega)) hn
    · exact absurd ⟨by rw [q]; decide, by rw [q]; decide⟩ hn
end J3
