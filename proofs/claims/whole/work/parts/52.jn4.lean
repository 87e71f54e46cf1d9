/-! the calls joined, fourth part: sheets -/
theorem ly_ok {A : Nat → Int32} {F : Nat → Int64} {D : Nat} (h : okA D A) : ∀ k, k ≤ cA A → okA D (lyS A F k).1
  | 0, _ => h
  | k + 1, hk => by
    have ih := ly_ok (F := F) h k (by omega)
    have c8 := h.1.2.1
    by_cases c : 10 ≤ F k ∧ F k ≤ 200
    · rw [lyS_t c]
      have e : (F k).toInt32.toInt = (F k).toInt := by
        rw [Int64.toInt_toInt32]
        have c1 := c.1
        have c2 := c.2
        rw [fa_le64, show (10 : Int64).toInt = 10 by decide] at c1
        rw [fa_le64, show (200 : Int64).toInt = 200 by decide] at c2
        exact bm_i (by omega) (by omega)
      have c1 := c.1
      have c2 := c.2
      rw [fa_le64, show (10 : Int64).toInt = 10 by decide] at c1
      rw [fa_le64, show (200 : Int64).toInt = 200 by decide] at c2
      exact okA_fld ih (by omega) (by decide) (fun hg => ok_len (ih.1.2.2 k hg) (by rw [e]; omega))
    · rw [lyS_f c]
      exact ih
section J4
variable {E : EVt} {a : Mm} {D : Nat}
theorem OK_sheet {s k : Nat} {b : Int32} (h : OK D a) (hb : bOk b) (hk : k ≤ 40) : OK (D + 50) (wr (wr a 79 (upd (a 79) s b)) 80 (upd (a 80) s (nI k))) := by
  obtain ⟨h1, h2, h3, h4, h5, h6⟩ := OK_up h (Nat.le_add_right D 50)
  refine ⟨by rw [wr_n (by decide), wr_n (by decide)]; exact h1, by rw [wr_n (by decide), wr_n (by decide), wr_n (show (74 : Nat) ≠ 80 by decide), wr_n (show (74 : Nat) ≠ 79 by decide)]; exact h2, by unfold tnA; rw [wr_n (by decide), wr_n (by decide)]; exact h3, fun t ht => ?_, by rw [wr_n (by decide), wr_n (by decide)]; exact h5, by rw [wr_n (by decide), wr_n (by decide), wr_n (show (74 : Nat) ≠ 80 by decide), wr_n (show (74 : Nat) ≠ 79 by decide)]; exact h6⟩
  unfold szA
  rw [wr_s, wr_n (by decide), wr_s]
  by_cases e : t = s
  · subst e
    rw [upd_s, upd_s, nI_clamp (by omega)]
    exact ⟨hb, rfl, hk⟩
  · rw [upd_n e, upd_n e]
    exact h4 t ht
theorem jn_sheet {si b n : Int32} : JI E 2 3 MX11_sheet MX12_sheet [.int si, .int b, .int n] := by
  intro m L D hC hO hD
  refine ck_X11_sheet hC (fun s hs hsi hb hn => ?_) (fun s hs hsi hb hn => ?_) (fun hx => ?_)
  · intro m1 L1 hC1 hF
    refine ⟨_, rfl, ?_⟩
    have f := fun k (hk : 72 ≤ k) => (hF k hk).1
    have fL := fun k (hk : 72 ≤ k) => (hF k hk).2
    obtain ⟨N, -, hN, rfl⟩ := rng (lo := 0) (hi := 40) (by omega) (by omega) hn
    refine ck_X12_sheet (fun s' hs' hsi' _ _ => ?_) (fun s' hs' hsi' _ hn' => absurd hn' (nI_pos (by omega))) (fun q => ?_)
    · obtain rfl := nj hsi' hsi (by omega) (by omega)
      refine ⟨rfl, fin hC1 ?_ (fun k hk => ⟨by rw [wr_n (by omega), wr_n (by omega)], by rw [wrL_n (by omega)]⟩) ?_⟩
      · by_cases c : b = 0
        · rw [if_pos c]
          exact OK_sheet (k := 0) hO hb (by omega)
        · rw [if_neg c]
          exact OK_sheet hO hb hN
      · refine AG_rows ?_ ?_ ?_ ?_ ?_ ?_ ?_ ?_ <;> simp [wr, wrL, f, fL]
    · rcases q with q | q | q
      · exact absurd hsi (q s hs)
      · exact absurd hb q
      · exact absurd q (by rw [fa_lt, nI_toInt (by omega), show (40 : Int32).toInt = 40 by decide]; omega)
  · intro m1 L1 hC1 hF
    refine ⟨_, rfl, ?_⟩
    refine ck_X12_sheet (fun s' hs' hsi' _ hn' => ?_) (fun s' hs' hsi' _ hn' => ⟨rfl, finQ hC1 hF hO⟩) (fun q => ?_)
    · exfalso
      rw [fa_lt] at hn
      rw [fa_le] at hn'
      omega
    · rcases q with q | q | q
      · exact absurd hsi (q s hs)
      · exact absurd hb q
      · exfalso
        rw [fa_lt, show (0 : Int32).toInt = 0 by decide] at hn
        rw [fa_lt, show (40 : Int32).toInt = 40 by decide] at q
        omega
  · intro m1 L1 hC1 hF
    refine ⟨_, rfl, ?_⟩
    refine ck_X12_sheet (fun s' hs' hsi' hb' hn' => ?_) (fun s' hs' hsi' hb' hn' => ?_) (fun q => ⟨rfl, finQ hC1 hF hO⟩)
    · exfalso
      rcases hx with q | q | q
      · exact absurd hsi' (q s' hs')
      · exact absurd hb' q
      · rw [fa_lt, show (40 : Int32).toInt = 40 by decide] at q
        have h2 := hn'.2
        rw [fa_le, show (40 : Int32).toInt = 40 by decide] at h2
        omega
    · exfalso
      rcases hx with q | q | q
      · exact absurd hsi' (q s' hs')
      · exact absurd hb' q
      · rw [fa_lt, show (0 : Int32).toInt = 0 by decide] at hn'
        rw [fa_lt, show (40 : Int32).toInt = 40 by decide] at q
        omega
theorem jn_write {si i : Int32} {v : Int64} : JL E 3 4 MX11_write MX12_write [.int si, .int i, .long v] := by
  intro m L D hC hO hD
  have hz := hO.2.2.2.1
  refine ck_X11_write hC hO (fun s n hs hn hsi hi hb => ?_) (fun s hs hsi hb => ?_) (fun s hs hsi hb hn => ?_) (fun hx => ?_)
  · intro m1 L1 hC1 hF
    refine ⟨_, rfl, ?_⟩
    have f := fun k (hk : 72 ≤ k) => (hF k hk).1
    have fL := fun k (hk : 72 ≤ k) => (hF k hk).2
    have hc : ∀ s, s < 4 → m1 80 s = nI (szA m s) ∧ szA m s ≤ 40 := fun s hs => by rw [f 80 (by decide)]; exact (hz s hs).2
    have h40 := (hz s hs).2.2
    refine ck_X12_write hc (fun s' n' hs' hn' hsi' hi' hb' => ?_) (fun s' hs' hsi' hb' => ?_) (fun s' hs' hsi' hb' hn' => ?_) (fun q => absurd hsi (q s hs))
    · obtain rfl := nj hsi' hsi (by omega) (by omega)
      obtain rfl := nj hi' hi (by omega) (by omega)
      refine ⟨by rw [fL 81 (by decide)], fin hC1 (OK_up hO (Nat.le_add_right D 50)) (fun k hk => ⟨rfl, by rw [wrL_n (by omega)]⟩) ?_⟩
      refine AG_rows ?_ ?_ ?_ ?_ ?_ ?_ ?_ ?_ <;> simp [wrL, f, fL]
    · obtain rfl := nj hsi' hsi (by omega) (by omega)
      rw [f 79 (by decide)] at hb'
      exact absurd hb' hb
    · obtain rfl := nj hsi' hsi (by omega) (by omega)
      exact absurd hi (hn' n hn)
  · intro m1 L1 hC1 hF
    refine ⟨_, rfl, ?_⟩
    have f := fun k (hk : 72 ≤ k) => (hF k hk).1
    have hc : ∀ s, s < 4 → m1 80 s = nI (szA m s) ∧ szA m s ≤ 40 := fun s hs => by rw [f 80 (by decide)]; exact (hz s hs).2
    refine ck_X12_write hc (fun s' n' hs' hn' hsi' hi' hb' => ?_) (fun s' hs' hsi' hb' => ⟨rfl, finQ hC1 hF hO⟩) (fun s' hs' hsi' hb' hn' => ?_) (fun q => absurd hsi (q s hs))
    · obtain rfl := nj hsi' hsi (by omega) (by omega)
      rw [f 79 (by decide)] at hb'
      exact absurd hb hb'
    · obtain rfl := nj hsi' hsi (by omega) (by omega)
      rw [f 79 (by decide)] at hb'
      exact absurd hb hb'
  · intro m1 L1 hC1 hF
    refine ⟨_, rfl, ?_⟩
    have f := fun k (hk : 72 ≤ k) => (hF k hk).1
    have hc : ∀ s, s < 4 → m1 80 s = nI (szA m s) ∧ szA m s ≤ 40 := fun s hs => by rw [f 80 (by decide)]; exact (hz s hs).2
    refine ck_X12_write hc (fun s' n' hs' hn' hsi' hi' hb' => ?_) (fun s' hs' hsi' hb' => ?_) (fun s' hs' hsi' hb' hn' => ⟨rfl, finQ hC1 hF hO⟩) (fun q => absurd hsi (q s hs))
    · obtain rfl := nj hsi' hsi (by omega) (by omega)
      exact absurd hi' (hn n' hn')
    · obtain rfl := nj hsi' hsi (by omega) (by omega)
      rw [f 79 (by decide)] at hb'
      exact absurd hb' hb
  · intro m1 L1 hC1 hF
    refine ⟨_, rfl, ?_⟩
    have f := fun k (hk : 72 ≤ k) => (hF k hk).1
    have hc : ∀ s, s < 4 → m1 80 s = nI (szA m s) ∧ szA m s ≤ 40 := fun s hs => by rw [f 80 (by decide)]; exact (hz s hs).2
    exact ck_X12_write hc (fun s' n' hs' hn' hsi' hi' hb' => absurd hsi' (hx s' hs')) (fun s' hs' hsi' hb' => absurd hsi' (hx s' hs')) (fun s' hs' hsi' hb' hn' => absurd hsi' (hx s' hs')) (fun _ => ⟨rfl, finQ hC1 hF hO⟩)
theorem jn_copy {si fr ti_ to n : Int32} : JI E 2 3 MX11_copy MX12_copy [.int si, .int fr, .int ti_, .int to, .int n] := by
  intro m L D hC hO hD
  have hz := hO.2.2.2.1
  refine ck_X11_copy hC hO (fun s t fo o k hs ht hsi hti hb1 hb2 hb3 hfr hto hn hl1 hl2 => ?_) (fun s t hs ht hsi hti hb => ?_) (fun s t hs ht hsi hti hb1 hb2 hb3 => ?_) (fun s t hs ht hsi hti hb1 hb2 hb3 hx => ?_) (fun hx => ?_)
  · intro m1 L1 hC1 hF
    refine ⟨_, rfl, ?_⟩
    have f := fun k (hk : 72 ≤ k) => (hF k hk).1
    have fL := fun k (hk : 72 ≤ k) => (hF k hk).2
    have e79 := f 79 (by decide)
    have hc : ∀ s, s < 4 → m1 80 s = nI (szA m s) ∧ szA m s ≤ 40 := fun s hs => by rw [f 80 (by decide)]; exact (hz s hs).2
    have h40 := (hz s hs).2.2
    have h41 := (hz t ht).2.2
    refine ck_X12_copy hc (fun s' t' fo' o' k' hs' ht' hsi' hti' _ _ _ hfr' hto' hn' hl1' hl2' M => ?_) (fun s' t' hs' ht' hsi' hti' hb' => ?_) (fun s' t' hs' ht' hsi' hti' hb1' hb2' hb3' => ?_) (fun s' t' hs' ht' hsi' hti' hb1' hb2' hb3' hx' => ?_) (fun q => ?_)
    · obtain rfl := nj hsi' hsi (by omega) (by omega)
      obtain rfl := nj hti' hti (by omega) (by omega)
      obtain rfl := nj hfr' hfr (by omega) (by omega)
      obtain rfl := nj hto' hto (by omega) (by omega)
      obtain rfl := nj hn' hn (by omega) (by omega)
      refine ⟨rfl, fin hC1 (OK_up hO (Nat.le_add_right D 50)) (fun k hk => ⟨rfl, by rw [wrL_n (by omega), wrL_n (by omega)]⟩) ?_⟩
      refine AG_rows ?_ ?_ ?_ ?_ ?_ ?_ ?_ ?_ <;> simp [wrL, f, fL]
    · obtain rfl := nj hsi' hsi (by omega) (by omega)
      obtain rfl := nj hti' hti (by omega) (by omega)
      rw [e79] at hb'
      rcases hb' with q | q
      · exact absurd q hb1
      · exact absurd q hb2
    · obtain rfl := nj hsi' hsi (by omega) (by omega)
      obtain rfl := nj hti' hti (by omega) (by omega)
      rw [e79] at hb3'
      exact absurd hb3 hb3'
    · obtain rfl := nj hsi' hsi (by omega) (by omega)
      obtain rfl := nj hti' hti (by omega) (by omega)
      exact absurd ⟨hfr, hto, hn⟩ (hx' fo o k hl1 hl2)
    · rcases q with q | q
      · exact absurd hsi (q s hs)
      · exact absurd hti (q t ht)
  · intro m1 L1 hC1 hF
    refine ⟨_, rfl, ?_⟩
    have f := fun k (hk : 72 ≤ k) => (hF k hk).1
    have e79 := f 79 (by decide)
    have hc : ∀ s, s < 4 → m1 80 s = nI (szA m s) ∧ szA m s ≤ 40 := fun s hs => by rw [f 80 (by decide)]; exact (hz s hs).2
    refine ck_X12_copy hc (fun s' t' fo' o' k' hs' ht' hsi' hti' hb1' hb2' _ hfr' hto' hn' hl1' hl2' M => ?_) (fun s' t' hs' ht' hsi' hti' hb' => ⟨rfl, finQ hC1 hF hO⟩) (fun s' t' hs' ht' hsi' hti' hb1' hb2' hb3' => ?_) (fun s' t' hs' ht' hsi' hti' hb1' hb2' hb3' hx' => ?_) (fun q => ?_)
    · obtain rfl := nj hsi' hsi (by omega) (by omega)
      obtain rfl := nj hti' hti (by omega) (by omega)
      rw [e79] at hb1' hb2'
      rcases hb with q | q
      · exact absurd q hb1'
      · exact absurd q hb2'
    · obtain rfl := nj hsi' hsi (by omega) (by omega)
      obtain rfl := nj hti' hti (by omega) (by omega)
      rw [e79] at hb1' hb2'
      rcases hb with q | q
      · exact absurd q hb1'
      · exact absurd q hb2'
    · obtain rfl := nj hsi' hsi (by omega) (by omega)
      obtain rfl := nj hti' hti (by omega) (by omega)
      rw [e79] at hb1' hb2'
      rcases hb with q | q
      · exact absurd q hb1'
      · exact absurd q hb2'
    · rcases q with q | q
      · exact absurd hsi (q s hs)
      · exact absurd hti (q t ht)
  · intro m1 L1 hC1 hF
    refine ⟨_, rfl, ?_⟩
    have f := fun k (hk : 72 ≤ k) => (hF k hk).1
    have e79 := f 79 (by decide)
    have hc : ∀ s, s < 4 → m1 80 s = nI (szA m s) ∧ szA m s ≤ 40 := fun s hs => by rw [f 80 (by decide)]; exact (hz s hs).2
    refine ck_X12_copy hc (fun s' t' fo' o' k' hs' ht' hsi' hti' hb1' hb2' hb3' hfr' hto' hn' hl1' hl2' M => ?_) (fun s' t' hs' ht' hsi' hti' hb' => ?_) (fun s' t' hs' ht' hsi' hti' hb1' hb2' hb3' => ⟨rfl, finQ hC1 hF hO⟩) (fun s' t' hs' ht' hsi' hti' hb1' hb2' hb3' hx' => ?_) (fun q => ?_)
    · obtain rfl := nj hsi' hsi (by omega) (by omega)
      obtain rfl := nj hti' hti (by omega) (by omega)
      rw [e79] at hb3'
      exact absurd hb3' hb3
    · obtain rfl := nj hsi' hsi (by omega) (by omega)
      obtain rfl := nj hti' hti (by omega) (by omega)
      rw [e79] at hb'
      rcases hb' with q | q
      · exact absurd q hb1
      · exact absurd q hb2
    · obtain rfl := nj hsi' hsi (by omega) (by omega)
      obtain rfl := nj hti' hti (by omega) (by omega)
      rw [e79] at hb3'
      exact absurd hb3' hb3
    · rcases q with q | q
      · exact absurd hsi (q s hs)
      · exact absurd hti (q t ht)
  · intro m1 L1 hC1 hF
    refine ⟨_, rfl, ?_⟩
    have f := fun k (hk : 72 ≤ k) => (hF k hk).1
    have e79 := f 79 (by decide)
    have hc : ∀ s, s < 4 → m1 80 s = nI (szA m s) ∧ szA m s ≤ 40 := fun s hs => by rw [f 80 (by decide)]; exact (hz s hs).2
    refine ck_X12_copy hc (fun s' t' fo' o' k' hs' ht' hsi' hti' hb1' hb2' hb3' hfr' hto' hn' hl1' hl2' M => ?_) (fun s' t' hs' ht' hsi' hti' hb' => ?_) (fun s' t' hs' ht' hsi' hti' hb1' hb2' hb3' => ?_) (fun s' t' hs' ht' hsi' hti' hb1' hb2' hb3' hx' => ⟨rfl, finQ hC1 hF hO⟩) (fun q => ?_)
    · obtain rfl := nj hsi' hsi (by omega) (by omega)
      obtain rfl := nj hti' hti (by omega) (by omega)
      exact absurd ⟨hfr', hto', hn'⟩ (hx fo' o' k' hl1' hl2')
    · obtain rfl := nj hsi' hsi (by omega) (by omega)
      obtain rfl := nj hti' hti (by omega) (by omega)
      rw [e79] at hb'
      rcases hb' with q | q
      · exact absurd q hb1
      · exact absurd q hb2
    · obtain rfl := nj hsi' hsi (by omega) (by omega)
      obtain rfl := nj hti' hti (by omega) (by omega)
      rw [e79] at hb3'
      exact absurd hb3 hb3'
    · rcases q with q | q
      · exact absurd hsi (q s hs)
      · exact absurd hti (q t ht)
  · intro m1 L1 hC1 hF
    refine ⟨_, rfl, ?_⟩
    have f := fun k (hk : 72 ≤ k) => (hF k hk).1
    have hc : ∀ s, s < 4 → m1 80 s = nI (szA m s) ∧ szA m s ≤ 40 := fun s hs => by rw [f 80 (by decide)]; exact (hz s hs).2
    have bad : ∀ s t, s < 4 → t < 4 → si = nI s → ti_ = nI t → False := by
      intro s t hs ht h1 h2
      rcases hx with q | q
      · exact q s hs h1
      · exact q t ht h2
    exact ck_X12_copy hc (fun s' t' fo' o' k' hs' ht' hsi' hti' hb1' hb2' hb3' hfr' hto' hn' hl1' hl2' M => (bad s' t' hs' ht' hsi' hti').elim) (fun s' t' hs' ht' hsi' hti' hb' => (bad s' t' hs' ht' hsi' hti').elim) (fun s' t' hs' ht' hsi' hti' hb1' hb2' hb3' => (bad s' t' hs' ht' hsi' hti').elim) (fun s' t' hs' ht' hsi' hti' hb1' hb2' hb3' hx' => (bad s' t' hs' ht' hsi' hti').elim) (fun q => ⟨rfl, finQ hC1 hF hO⟩)
theorem jn_lays {si : Int32} : JI E 2 4 MX11_lays MX12_lays [.int si] := by
  intro m L D hC hO hD
  have hz := hO.2.2.2.1
  refine ck_X11_lays hC hO (fun s hs hsi hb => ?_) (fun s hs hsi hb => ?_) (fun hx => ?_)
  · intro m1 L1 hC1 hF
    refine ⟨_, rfl, CK_73 (hF 73 (by decide)).1 ?_⟩
    have f := fun k (hk : 72 ≤ k) => (hF k hk).1
    have fL := fun k (hk : 72 ≤ k) => (hF k hk).2
    have e79 := f 79 (by decide)
    have e81 := fL 81 (by decide)
    have hc : ∀ s, s < 4 → m1 80 s = nI (szA m s) ∧ szA m s ≤ 40 := fun s hs => by rw [f 80 (by decide)]; exact (hz s hs).2
    refine ck_X12_lays hc hO.1 (fun s' hs' hsi' hb' => ?_) (fun s' hs' hsi' hb' => ?_) (fun q => absurd hsi (q s hs))
    · obtain rfl := nj hsi' hsi (by omega) (by omega)
      rw [e81]
      exact ⟨rfl, fin73 hC1 hF (OK_73 hO (okA_up (ly_ok hO.1 _ (Nat.min_le_right _ _)) (Nat.le_add_right D 50)) (lyS_hd _ 0 (by decide)))⟩
    · obtain rfl := nj hsi' hsi (by omega) (by omega)
      rw [e79] at hb'
      exact absurd hb' hb
  · intro m1 L1 hC1 hF
    refine ⟨_, rfl, CK_73 (hF 73 (by decide)).1 ?_⟩
    have f := fun k (hk : 72 ≤ k) => (hF k hk).1
    have e79 := f 79 (by decide)
    have hc : ∀ s, s < 4 → m1 80 s = nI (szA m s) ∧ szA m s ≤ 40 := fun s hs => by rw [f 80 (by decide)]; exact (hz s hs).2
    refine ck_X12_lays hc hO.1 (fun s' hs' hsi' hb' => ?_) (fun s' hs' hsi' hb' => ⟨rfl, finR hC1 hF hO⟩) (fun q => absurd hsi (q s hs))
    obtain rfl := nj hsi' hsi (by omega) (by omega)
    rw [e79] at hb'
    exact absurd hb hb'
  · intro m1 L1 hC1 hF
    refine ⟨_, rfl, CK_73 (hF 73 (by decide)).1 ?_⟩
    have f := fun k (hk : 72 ≤ k) => (hF k hk).1
    have hc : ∀ s, s < 4 → m1 80 s = nI (szA m s) ∧ szA m s ≤ 40 := fun s hs => by rw [f 80 (by decide)]; exact (hz s hs).2
    exact ck_X12_lays hc hO.1 (fun s' hs' hsi' hb' => absurd hsi' (hx s' hs')) (fun s' hs' hsi' hb' => absurd hsi' (hx s' hs')) (fun _ => ⟨rfl, finR hC1 hF hO⟩)
theorem jn_book {si gi : Int32} : JI E 4 6 MX11_book MX12_book [.int si, .int gi] := by
  intro m L D hC hO hD
  have hz := hO.2.2.2.1
  have c8 := hO.1.1.2.1
  refine ck_X11_book hC hO (fun s g hs hg hsi hgi hb => ?_) (fun s hs hsi hb => ?_) (fun s hs hsi hb hn => ?_) (fun hx => ?_)
  · intro m1 L1 hC1 hF
    refine ⟨_, rfl, CK_73 (hF 73 (by decide)).1 ?_⟩
    have f := fun k (hk : 72 ≤ k) => (hF k hk).1
    have fL := fun k (hk : 72 ≤ k) => (hF k hk).2
    have e79 := f 79 (by decide)
    have e81 := fL 81 (by decide)
    have hc : ∀ s, s < 4 → m1 80 s = nI (szA m s) ∧ szA m s ≤ 40 := fun s hs => by rw [f 80 (by decide)]; exact (hz s hs).2
    refine ck_X12_book hc hO.1 (fun s' g' hs' hg' hsi' hgi' hb' B => ?_) (fun s' hs' hsi' hb' => ?_) (fun s' hs' hsi' hb' hn' => absurd hgi (hn' g hg)) (fun q => absurd hsi (q s hs))
    · obtain rfl := nj hsi' hsi (by omega) (by omega)
      obtain rfl := nj hgi' hgi (by omega) (by omega)
      rw [e79, e81]
      refine ⟨rfl, fin hC1 (OK_up hO (Nat.le_add_right D 50)) (fun k hk => ⟨by rw [wr_n (by omega), wr_n (by omega)], by rw [wrL_n (by omega)]⟩) ?_⟩
      refine AG_rows ?_ ?_ ?_ ?_ ?_ ?_ ?_ ?_ <;> simp [wr, wrL, f, fL]
    · obtain rfl := nj hsi' hsi (by omega) (by omega)
      rw [e79] at hb'
      exact absurd hb' hb
  · intro m1 L1 hC1 hF
    refine ⟨_, rfl, CK_73 (hF 73 (by decide)).1 ?_⟩
    have f := fun k (hk : 72 ≤ k) => (hF k hk).1
    have e79 := f 79 (by decide)
    have hc : ∀ s, s < 4 → m1 80 s = nI (szA m s) ∧ szA m s ≤ 40 := fun s hs => by rw [f 80 (by decide)]; exact (hz s hs).2
    refine ck_X12_book hc hO.1 (fun s' g' hs' hg' hsi' hgi' hb' B => ?_) (fun s' hs' hsi' hb' => ⟨rfl, finR hC1 hF hO⟩) (fun s' hs' hsi' hb' hn' => ?_) (fun q => absurd hsi (q s hs))
    · obtain rfl := nj hsi' hsi (by omega) (by omega)
      rw [e79] at hb'
      exact absurd hb hb'
    · obtain rfl := nj hsi' hsi (by omega) (by omega)
      rw [e79] at hb'
      exact absurd hb hb'
  · intro m1 L1 hC1 hF
    refine ⟨_, rfl, CK_73 (hF 73 (by decide)).1 ?_⟩
    have f := fun k (hk : 72 ≤ k) => (hF k hk).1
    have e79 := f 79 (by decide)
    have hc : ∀ s, s < 4 → m1 80 s = nI (szA m s) ∧ szA m s ≤ 40 := fun s hs => by rw [f 80 (by decide)]; exact (hz s hs).2
    refine ck_X12_book hc hO.1 (fun s' g' hs' hg' hsi' hgi' hb' B => absurd hgi' (hn g' hg')) (fun s' hs' hsi' hb' => ?_) (fun s' hs' hsi' hb' hn' => ⟨rfl, finR hC1 hF hO⟩) (fun q => absurd hsi (q s hs))
    obtain rfl := nj hsi' hsi (by omega) (by omega)
    rw [e79] at hb'
    exact absurd hb' hb
  · intro m1 L1 hC1 hF
    refine ⟨_, rfl, CK_73 (hF 73 (by decide)).1 ?_⟩
    have f := fun k (hk : 72 ≤ k) => (hF k hk).1
    have hc : ∀ s, s < 4 → m1 80 s = nI (szA m s) ∧ szA m s ≤ 40 := fun s hs => by rw [f 80 (by decide)]; exact (hz s hs).2
    exact ck_X12_book hc hO.1 (fun s' g' hs' hg' hsi' hgi' hb' B => absurd hsi' (hx s' hs')) (fun s' hs' hsi' hb' => absurd hsi' (hx s' hs')) (fun s' hs' hsi' hb' hn' => absurd hsi' (hx s' hs')) (fun _ => ⟨rfl, finR hC1 hF hO⟩)
theorem jn_read {si gi : Int32} : JI E 5 7 MX11_read MX12_read [.int si, .int gi] := by
  intro m L D hC hO hD
  have hz := hO.2.2.2.1
  have c8 := hO.1.1.2.1
  refine ck_X11_read hC hO (fun s g hs hg hsi hgi hb => ?_) (fun s hs hsi hb => ?_) (fun s hs hsi hb hn => ?_) (fun hx => ?_)
  · intro m1 L1 hC1 hF
    refine ⟨_, rfl, CK_73 (hF 73 (by decide)).1 ?_⟩
    have f := fun k (hk : 72 ≤ k) => (hF k hk).1
    have fL := fun k (hk : 72 ≤ k) => (hF k hk).2
    have e79 := f 79 (by decide)
    have e81 := fL 81 (by decide)
    have hc : ∀ s, s < 4 → m1 80 s = nI (szA m s) ∧ szA m s ≤ 40 := fun s hs => by rw [f 80 (by decide)]; exact (hz s hs).2
    refine ck_X12_read hc hO.1 (fun s' g' hs' hg' hsi' hgi' hb' B => ?_) (fun s' hs' hsi' hb' => ?_) (fun s' hs' hsi' hb' hn' => absurd hgi (hn' g hg)) (fun q => absurd hsi (q s hs))
    · obtain rfl := nj hsi' hsi (by omega) (by omega)
      obtain rfl := nj hgi' hgi (by omega) (by omega)
      rw [e81]
      exact ⟨rfl, fin76 hC1 hF hO⟩
    · obtain rfl := nj hsi' hsi (by omega) (by omega)
      rw [e79] at hb'
      exact absurd hb' hb
  · intro m1 L1 hC1 hF
    refine ⟨_, rfl, CK_73 (hF 73 (by decide)).1 ?_⟩
    have f := fun k (hk : 72 ≤ k) => (hF k hk).1
    have e79 := f 79 (by decide)
    have hc : ∀ s, s < 4 → m1 80 s = nI (szA m s) ∧ szA m s ≤ 40 := fun s hs => by rw [f 80 (by decide)]; exact (hz s hs).2
    refine ck_X12_read hc hO.1 (fun s' g' hs' hg' hsi' hgi' hb' B => ?_) (fun s' hs' hsi' hb' => ⟨rfl, finR hC1 hF hO⟩) (fun s' hs' hsi' hb' hn' => ?_) (fun q => absurd hsi (q s hs))
    · obtain rfl := nj hsi' hsi (by omega) (by omega)
      rw [e79] at hb'
      exact absurd hb hb'
    · obtain rfl := nj hsi' hsi (by omega) (by omega)
      rw [e79] at hb'
      exact absurd hb hb'
  · intro m1 L1 hC1 hF
    refine ⟨_, rfl, CK_73 (hF 73 (by decide)).1 ?_⟩
    have f := fun k (hk : 72 ≤ k) => (hF k hk).1
    have e79 := f 79 (by decide)
    have hc : ∀ s, s < 4 → m1 80 s = nI (szA m s) ∧ szA m s ≤ 40 := fun s hs => by rw [f 80 (by decide)]; exact (hz s hs).2
    refine ck_X12_read hc hO.1 (fun s' g' hs' hg' hsi' hgi' hb' B => absurd hgi' (hn g' hg')) (fun s' hs' hsi' hb' => ?_) (fun s' hs' hsi' hb' hn' => ⟨rfl, finR hC1 hF hO⟩) (fun q => absurd hsi (q s hs))
    obtain rfl := nj hsi' hsi (by omega) (by omega)
    rw [e79] at hb'
    exact absurd hb' hb
  · intro m1 L1 hC1 hF
    refine ⟨_, rfl, CK_73 (hF 73 (by decide)).1 ?_⟩
    have f := fun k (hk : 72 ≤ k) => (hF k hk).1
    have hc : ∀ s, s < 4 → m1 80 s = nI (szA m s) ∧ szA m s ≤ 40 := fun s hs => by rw [f 80 (by decide)]; exact (hz s hs).2
    exact ck_X12_read hc hO.1 (fun s' g' hs' hg' hsi' hgi' hb' B => absurd hsi' (hx s' hs')) (fun s' hs' hsi' hb' => absurd hsi' (hx s' hs')) (fun s' hs' hsi' hb' hn' => absurd hsi' (hx s' hs')) (fun _ => ⟨rfl, finR hC1 hF hO⟩)
end J4
