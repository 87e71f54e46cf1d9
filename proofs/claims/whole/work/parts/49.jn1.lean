/-! the calls joined, first part -/
theorem zo {v : Int32} (h : 0 ≤ v ∧ v ≤ 1) : v = 0 ∨ v = 1 := by
  obtain ⟨n, -, hn, rfl⟩ := rng (lo := 0) (hi := 1) (by omega) (by omega) h
  obtain rfl | rfl : n = 0 ∨ n = 1 := by omega
  · exact Or.inl rfl
  · exact Or.inr rfl
theorem rg {n : Int32} {N lo hi : Nat} (h : n = nI N) (h1 : lo ≤ N) (h2 : N ≤ hi) (hh : hi < 2 ^ 31) : nI lo ≤ n ∧ n ≤ nI hi := by
  rw [h]
  exact rng' hh h1 h2
theorem set_ok {D g f : Nat} {A : Nat → Int32} {w v : Int32} (h : okA D A) (hg : g < cA A) (hf : f = 1 ∨ f = 2 ∨ f = 3 ∨ f = 6) (hw : w = nI f) (hm : maySetP w v) : okA D (upd A (5 + 7 * g + f) v) := by
  have c8 := h.1.2.1
  have hG := h.1.2.2 g hg
  refine okA_fld h (by omega) (by omega) (fun _ => ?_)
  subst hw
  unfold maySetP at hm
  rcases hf with rfl | rfl | rfl | rfl
  · rcases hm with ⟨_, hx⟩ | ⟨e, hx⟩ | ⟨e, hx⟩
    · have := ti (lo := 10) (hi := 200) (by omega) (by omega) hx
      exact ok_len hG (by omega)
    · exact absurd e (by decide)
    · exact absurd e (by decide)
  · rcases hm with ⟨_, hx⟩ | ⟨e, hx⟩ | ⟨e, hx⟩
    · have := ti (lo := 10) (hi := 200) (by omega) (by omega) hx
      exact ok_bro hG (by omega)
    · exact absurd e (by decide)
    · exact absurd e (by decide)
  · rcases hm with ⟨e | e, hx⟩ | ⟨e, hx⟩ | ⟨e, hx⟩
    · exact absurd e (by decide)
    · exact absurd e (by decide)
    · have := ti (lo := 1) (hi := 99) (by omega) (by omega) hx
      exact ok_thi hG (by omega)
    · exact absurd e (by decide)
  · rcases hm with ⟨e | e, hx⟩ | ⟨e, hx⟩ | ⟨e, hx⟩
    · exact absurd e (by decide)
    · exact absurd e (by decide)
    · exact absurd e (by decide)
    · have := ti (lo := 0) (hi := 9999) (by omega) (by omega) hx
      exact ok_hol hG (by omega)
section J1
variable {E : EVt}
theorem jn_machine {w v : Int32} : JI E 2 2 MX11_machine MX12_machine [.int w, .int v] := by
  intro m L D hC hO hD
  refine ck_X11_machine hC (fun hw hv => ?_) (fun hw hv => ?_) (fun n1 n2 => ?_)
  · intro m1 L1 hC1 hF
    refine ⟨_, rfl, CK_73 (hF 73 (by decide)).1 ?_⟩
    have hv' := ti (lo := 20) (hi := 95) (by omega) (by omega) hv
    exact ck_X12_machine (fun _ _ => ⟨rfl, fin73 hC1 hF (OK_73 hO (okA_up (okA_deg hO.1 (by omega) (by omega)).1 (Nat.le_add_right D 50)) (upd_n (by decide)))⟩) (fun q _ => absurd (hw.symm.trans q) (by decide)) (fun q _ => absurd ⟨hw, hv⟩ q)
  · intro m1 L1 hC1 hF
    refine ⟨_, rfl, CK_73 (hF 73 (by decide)).1 ?_⟩
    exact ck_X12_machine (fun q _ => absurd (hw.symm.trans q) (by decide)) (fun _ _ => ⟨rfl, fin73 hC1 hF (OK_73 hO (okA_up (okA_tow hO.1 (zo hv)) (Nat.le_add_right D 50)) (upd_n (by decide)))⟩) (fun _ q => absurd ⟨hw, hv⟩ q)
  · intro m1 L1 hC1 hF
    refine ⟨_, rfl, CK_73 (hF 73 (by decide)).1 ?_⟩
    exact ck_X12_machine (fun p q => absurd ⟨p, q⟩ n1) (fun p q => absurd ⟨p, q⟩ n2) (fun _ _ => ⟨rfl, finR hC1 hF hO⟩)
theorem jn_now {w : Int32} : JI E 5 6 MX11_now MX12_now [.int w] := by
  intro m L D hC hO hD
  refine ck_X11_now hC hO (fun n hn hw => ?_) (fun hn => ?_)
  · have hC1 := hC
    have hF : FC m m L L := FC.rf
    refine ⟨_, rfl, CK_73 rfl ?_⟩
    refine ck_X12_now hO.1 (fun n' hn' hw' => ?_) (fun q => absurd hw (q n hn))
    obtain rfl := nj hw' hw (by omega) (by omega)
    exact ⟨rfl, fin0 hC1 hF hO⟩
  · intro m1 L1 hC1 hF
    refine ⟨_, rfl, CK_73 (hF 73 (by decide)).1 ?_⟩
    exact ck_X12_now hO.1 (fun n' hn' hw' => absurd hw' (hn n' hn')) (fun _ => ⟨rfl, finR hC1 hF hO⟩)
theorem jn_garment {k : Int32} : JI E 3 3 MX11_garment MX12_garment [.int k] := by
  intro m L D hC hO hD
  refine ck_X11_garment hC hO (fun hk hl => ?_) (fun hk he => ?_) (fun hk => ?_)
  · obtain ⟨k', -, hk', rfl⟩ := rng (lo := 0) (hi := 5) (by omega) (by omega) hk
    intro m1 L1 hC1 hF
    refine ⟨_, rfl, CK_73 (hF 73 (by decide)).1 ?_⟩
    exact ck_X12_garment hO.1 (fun _ _ => ⟨rfl, fin73 hC1 hF (OK_73 hO (okA_up (okA_addA hO.1 (by omega) hl).1 (Nat.le_add_right D 50)) ((upd_n (by decide)).trans (gput_n (by omega))))⟩) (fun _ q => absurd q (by omega)) (fun q => absurd hk q)
  · intro m1 L1 hC1 hF
    refine ⟨_, rfl, CK_73 (hF 73 (by decide)).1 ?_⟩
    exact ck_X12_garment hO.1 (fun _ q => absurd q (by omega)) (fun _ _ => ⟨rfl, finR hC1 hF hO⟩) (fun q => absurd hk q)
  · intro m1 L1 hC1 hF
    refine ⟨_, rfl, CK_73 (hF 73 (by decide)).1 ?_⟩
    exact ck_X12_garment hO.1 (fun q _ => absurd q hk) (fun q _ => absurd q hk) (fun _ => ⟨rfl, finR hC1 hF hO⟩)
theorem jn_of {i w : Int32} : JI E 4 5 MX11_of MX12_of [.int i, .int w] := by
  intro m L D hC hO hD
  have c8 := hO.1.1.2.1
  refine ck_X11_of hC hO (fun g n hg hn hi hw => ?_) (fun hn => ?_)
  · have hC1 := hC
    have hF : FC m m L L := FC.rf
    refine ⟨_, rfl, CK_73 rfl ?_⟩
    refine ck_X12_of hO.1 (fun g' n' hg' hn' hi' hw' => ?_) (fun q => absurd ⟨hi, hw⟩ (q g n hg hn))
    obtain rfl := nj hi' hi (by omega) (by omega)
    obtain rfl := nj hw' hw (by omega) (by omega)
    exact ⟨rfl, fin0 hC1 hF hO⟩
  · intro m1 L1 hC1 hF
    refine ⟨_, rfl, CK_73 (hF 73 (by decide)).1 ?_⟩
    exact ck_X12_of hO.1 (fun g' n' hg' hn' hi' hw' => absurd ⟨hi', hw'⟩ (hn g' n' hg' hn')) (fun _ => ⟨rfl, finR hC1 hF hO⟩)
theorem jn_set {i w v : Int32} : JI E 4 4 MX11_set MX12_set [.int i, .int w, .int v] := by
  intro m L D hC hO hD
  have c8 := hO.1.1.2.1
  refine ck_X11_set hC hO (fun g f hg hf hi hw hm => ?_) (fun hn => ?_)
  · intro m1 L1 hC1 hF
    refine ⟨_, rfl, CK_73 (hF 73 (by decide)).1 ?_⟩
    refine ck_X12_set hO.1 (fun g' f' hg' hf' hi' hw' _ => ?_) (fun q => ?_)
    · obtain rfl := nj hi' hi (by omega) (by omega)
      obtain rfl := nj hw' hw (by omega) (by omega)
      exact ⟨rfl, fin73 hC1 hF (OK_73 hO (okA_up (set_ok hO.1 hg' hf' hw' hm) (Nat.le_add_right D 50)) (upd_n (by omega)))⟩
    · rcases q with q | q
      · exact absurd hi (q g hg)
      · exact absurd hm q
  · intro m1 L1 hC1 hF
    refine ⟨_, rfl, CK_73 (hF 73 (by decide)).1 ?_⟩
    refine ck_X12_set hO.1 (fun g f hg hf hi hw hm => ?_) (fun _ => ⟨rfl, finR hC1 hF hO⟩)
    rcases hn with hn | hn
    · exact absurd hi (hn g hg)
    · exact absurd hm hn
theorem jn_wash {i : Int32} : JI E 4 6 MX11_wash MX12_wash [.int i] := by
  intro m L D hC hO hD
  have c8 := hO.1.1.2.1
  have hd := hO.1.2.2.2.1
  refine ck_X11_wash hC hO (fun g hg hi => ?_) (fun hn => ?_)
  · intro m1 L1 hC1 hF
    refine ⟨_, rfl, CK_73 (hF 73 (by decide)).1 ?_⟩
    refine ck_X12_wash hO.1 (fun g' hg' hi' => ?_) (fun q => absurd hi (q g hg))
    obtain rfl := nj hi' hi (by omega) (by omega)
    exact ⟨rfl, fin73 hC1 hF (OK_73 hO (okA_gput (by omega) hO.1 (Nat.le_add_right D 50) ((ok_wsh (hO.1.1.2.2 _ hg') (by omega) (by omega)).up (Nat.le_add_right D 50))).1 (gput_n (by omega)))⟩
  · intro m1 L1 hC1 hF
    refine ⟨_, rfl, CK_73 (hF 73 (by decide)).1 ?_⟩
    exact ck_X12_wash hO.1 (fun g' hg' hi' => absurd hi' (hn g' hg')) (fun _ => ⟨rfl, finR hC1 hF hO⟩)
theorem jn_draw {i n : Int32} : JI E 5 5 MX11_draw MX12_draw [.int i, .int n] := by
  intro m L D hC hO hD
  have c8 := hO.1.1.2.1
  refine ck_X11_draw hC hO (by omega) (fun g hg hi hn hw => ?_) (fun g hg hi hn hw => ?_) (fun hn => ?_)
  · intro m1 L1 hC1 hF
    refine ⟨_, rfl, CK_73 (hF 73 (by decide)).1 ?_⟩
    refine ck_X12_draw hO.1 (fun g' hg' hi' _ _ => ?_) (fun g' hg' hi' _ hw' => ?_) (fun q => ?_)
    · obtain rfl := nj hi' hi (by omega) (by omega)
      have hn' := ti (lo := 1) (hi := 50) (by omega) (by omega) hn
      exact ⟨rfl, fin73 hC1 hF (OK_73 hO (okA_gput (by omega) hO.1 (Nat.le_add_right D 50) (ok_drw (hO.1.1.2.2 _ hg') (by omega) (by omega) (by omega))).1 (gput_n (by omega)))⟩
    · obtain rfl := nj hi' hi (by omega) (by omega)
      exact absurd hw' hw
    · rcases q with q | q
      · exact absurd hi (q g hg)
      · exact absurd hn q
  · intro m1 L1 hC1 hF
    refine ⟨_, rfl, CK_73 (hF 73 (by decide)).1 ?_⟩
    refine ck_X12_draw hO.1 (fun g' hg' hi' _ hw' => ?_) (fun g' hg' hi' _ hw' => ?_) (fun q => ?_)
    · obtain rfl := nj hi' hi (by omega) (by omega)
      exact absurd hw hw'
    · exact ⟨rfl, finR hC1 hF hO⟩
    · rcases q with q | q
      · exact absurd hi (q g hg)
      · exact absurd hn q
  · intro m1 L1 hC1 hF
    refine ⟨_, rfl, CK_73 (hF 73 (by decide)).1 ?_⟩
    refine ck_X12_draw hO.1 (fun g' hg' hi' hn' hw' => ?_) (fun g' hg' hi' hn' hw' => ?_) (fun q => ⟨rfl, finR hC1 hF hO⟩)
    · rcases hn with q | q
      · exact absurd hi' (q g' hg')
      · exact absurd hn' q
    · rcases hn with q | q
      · exact absurd hi' (q g' hg')
      · exact absurd hn' q
theorem jn_turn {i k : Int32} : JI E 2 3 MX11_turn MX12_turn [.int i, .int k] := by
  intro m L D hC hO hD
  have c8 := hO.1.1.2.1
  refine ck_X11_turn hC hO (fun g hg hi hk => ?_) (fun hn => ?_)
  · intro m1 L1 hC1 hF
    refine ⟨_, rfl, CK_73 (hF 73 (by decide)).1 ?_⟩
    refine ck_X12_turn hO.1 (fun g' hg' hi' _ => ?_) (fun q => ?_)
    · obtain rfl := nj hi' hi (by omega) (by omega)
      have hk' := ti (lo := 0) (hi := 5) (by omega) (by omega) hk
      exact ⟨rfl, fin73 hC1 hF (OK_73 hO (okA_up (okA_fld hO.1 (by omega) (by decide) (fun _ => ok_sor (hO.1.1.2.2 _ hg') (by omega))) (Nat.le_add_right D 50)) (upd_n (by omega)))⟩
    · rcases q with q | q
      · exact absurd hi (q g hg)
      · exact absurd hk q
  · intro m1 L1 hC1 hF
    refine ⟨_, rfl, CK_73 (hF 73 (by decide)).1 ?_⟩
    refine ck_X12_turn hO.1 (fun g' hg' hi' hk' => ?_) (fun q => ⟨rfl, finR hC1 hF hO⟩)
    rcases hn with q | q
    · exact absurd hi' (q g' hg')
    · exact absurd hk' q
theorem jn_as {i k : Int32} : JI E 3 3 MX11_as MX12_as [.int i, .int k] := by
  intro m L D hC hO hD
  have c8 := hO.1.1.2.1
  refine ck_X11_as hC hO (fun g hg hi hk hu => ?_) (fun g hg hi hk hu => ?_) (fun hn => ?_)
  · have hC1 := hC
    have hF : FC m m L L := FC.rf
    refine ⟨_, rfl, CK_73 rfl ?_⟩
    refine ck_X12_as hO.1 (fun g' hg' hi' _ hu' => ?_) (fun g' hg' hi' _ hu' => ?_) (fun q => ?_)
    · obtain rfl := nj hi' hi (by omega) (by omega)
      exact ⟨rfl, fin0 hC1 hF hO⟩
    · obtain rfl := nj hi' hi (by omega) (by omega)
      exact absurd hu hu'
    · rcases q with q | q
      · exact absurd hi (q g hg)
      · exact absurd hk q
  · intro m1 L1 hC1 hF
    refine ⟨_, rfl, CK_73 (hF 73 (by decide)).1 ?_⟩
    refine ck_X12_as hO.1 (fun g' hg' hi' _ hu' => ?_) (fun g' hg' hi' _ hu' => ⟨rfl, finR hC1 hF hO⟩) (fun q => ?_)
    · obtain rfl := nj hi' hi (by omega) (by omega)
      exact absurd hu' hu
    · rcases q with q | q
      · exact absurd hi (q g hg)
      · exact absurd hk q
  · intro m1 L1 hC1 hF
    refine ⟨_, rfl, CK_73 (hF 73 (by decide)).1 ?_⟩
    refine ck_X12_as hO.1 (fun g' hg' hi' hk' hu' => ?_) (fun g' hg' hi' hk' hu' => ?_) (fun q => ⟨rfl, finR hC1 hF hO⟩)
    · rcases hn with q | q
      · exact absurd hi' (q g' hg')
      · exact absurd hk' q
    · rcases hn with q | q
      · exact absurd hi' (q g' hg')
      · exact absurd hk' q
theorem jn_person {l w : Int32} : JI E 3 3 MX11_person MX12_person [.int l, .int w] := by
  intro m L D hC hO hD
  refine ck_X11_person hC hO (fun hl hw hp => ?_) (fun hl hw hp => ?_) (fun hn => ?_)
  · intro m1 L1 hC1 hF
    refine ⟨_, rfl, CK_73 (hF 73 (by decide)).1 ?_⟩
    have hl' := ti (lo := 10) (hi := 200) (by omega) (by omega) hl
    have hw' := ti (lo := 10) (hi := 200) (by omega) (by omega) hw
    exact ck_X12_person hO.1 (fun _ _ _ => ⟨rfl, fin73 hC1 hF (OK_73 hO (okA_up (okA_addP hO.1 hp (by omega) (by omega)) (Nat.le_add_right D 50)) ((upd_n (by decide)).trans ((upd_n (by omega)).trans (upd_n (by omega)))))⟩) (fun _ _ q => absurd q (by omega)) (fun q => absurd ⟨hl, hw⟩ q)
  · intro m1 L1 hC1 hF
    refine ⟨_, rfl, CK_73 (hF 73 (by decide)).1 ?_⟩
    exact ck_X12_person hO.1 (fun _ _ q => absurd q (by omega)) (fun _ _ _ => ⟨rfl, finR hC1 hF hO⟩) (fun q => absurd ⟨hl, hw⟩ q)
  · intro m1 L1 hC1 hF
    refine ⟨_, rfl, CK_73 (hF 73 (by decide)).1 ?_⟩
    exact ck_X12_person hO.1 (fun p q _ => absurd ⟨p, q⟩ hn) (fun p q _ => absurd ⟨p, q⟩ hn) (fun _ => ⟨rfl, finR hC1 hF hO⟩)
theorem jn_size {i w : Int32} : JI E 2 3 MX11_size MX12_size [.int i, .int w] := by
  intro m L D hC hO hD
  have p6 := hO.1.2.1.2.1
  refine ck_X11_size hC hO (fun p f hp hf hi hw => ?_) (fun hn => ?_)
  · have hC1 := hC
    have hF : FC m m L L := FC.rf
    refine ⟨_, rfl, CK_73 rfl ?_⟩
    refine ck_X12_size hO.1 (fun p' f' hp' hf' hi' hw' => ?_) (fun q => absurd ⟨hi, hw⟩ (q p f hp hf))
    obtain rfl := nj hi' hi (by omega) (by omega)
    obtain rfl := nj hw' hw (by omega) (by omega)
    exact ⟨rfl, fin0 hC1 hF hO⟩
  · intro m1 L1 hC1 hF
    refine ⟨_, rfl, CK_73 (hF 73 (by decide)).1 ?_⟩
    exact ck_X12_size hO.1 (fun p f hp hf hi hw => absurd ⟨hi, hw⟩ (hn p f hp hf)) (fun _ => ⟨rfl, finR hC1 hF hO⟩)
theorem jn_fits {i : Int32} : JI E 4 5 MX11_fits MX12_fits [.int i] := by
  intro m L D hC hO hD
  have p6 := hO.1.2.1.2.1
  refine ck_X11_fits hC hO (fun p hp hi => ?_) (fun hn => ?_)
  · have hC1 := hC
    have hF : FC m m L L := FC.rf
    refine ⟨_, rfl, CK_73 rfl ?_⟩
    refine ck_X12_fits hO.1 (fun p' hp' hi' => ?_) (fun q => absurd hi (q p hp))
    obtain rfl := nj hi' hi (by omega) (by omega)
    exact ⟨rfl, fin0 hC1 hF hO⟩
  · intro m1 L1 hC1 hF
    refine ⟨_, rfl, CK_73 (hF 73 (by decide)).1 ?_⟩
    exact ck_X12_fits hO.1 (fun p hp hi => absurd hi (hn p hp)) (fun _ => ⟨rfl, finR hC1 hF hO⟩)
theorem jn_days {n : Int32} : JI E 6 6 MX11_days MX12_days [.int n] := by
  intro m L D hC hO hD
  have h0 := hO.2.2.2.2.1
  refine ck_X11_days hC hO (by omega) (fun N h1 h2 hn hd => ?_) (fun N h1 h2 hn hd => ?_) (fun hn => ?_)
  · intro m1 L1 hC1 hF
    refine ⟨_, rfl, CK_73 (hF 73 (by decide)).1 ?_⟩
    refine ck_X12_days hO.1 h0 (fun N' h1' h2' hn' hd' => ?_) (fun N' h1' h2' hn' hd' => ?_) (fun q => absurd (rg hn h1 h2 (by omega)) q)
    · obtain rfl := nj hn' hn (by omega) (by omega)
      refine ⟨rfl, fin73 hC1 hF (OK_73d hO (okA_up (okA_day hO.1).1 (Nat.le_add_right D 50)) ?_)⟩
      show 0 ≤ (upd _ 0 _ 0).toInt ∧ (upd _ 0 _ 0).toInt ≤ 99999
      rw [upd_s, ad_i (by rw [nI_toInt (by omega)]; omega) (by rw [nI_toInt (by omega)]; omega), nI_toInt (by omega)]
      omega
    · obtain rfl := nj hn' hn (by omega) (by omega)
      exact absurd hd hd'
  · intro m1 L1 hC1 hF
    refine ⟨_, rfl, CK_73 (hF 73 (by decide)).1 ?_⟩
    refine ck_X12_days hO.1 h0 (fun N' h1' h2' hn' hd' => ?_) (fun N' h1' h2' hn' hd' => ⟨rfl, finR hC1 hF hO⟩) (fun q => absurd (rg hn h1 h2 (by omega)) q)
    obtain rfl := nj hn' hn (by omega) (by omega)
    exact absurd hd' hd
  · intro m1 L1 hC1 hF
    refine ⟨_, rfl, CK_73 (hF 73 (by decide)).1 ?_⟩
    exact ck_X12_days hO.1 h0 (fun N' h1' h2' hn' hd' => absurd (rg hn' h1' h2' (by omega)) hn) (fun N' h1' h2' hn' hd' => absurd (rg hn' h1' h2' (by omega)) hn) (fun _ => ⟨rfl, finR hC1 hF hO⟩)
theorem jn_on {i n w : Int32} : JI E 5 6 MX11_on MX12_on [.int i, .int n, .int w] := by
  intro m L D hC hO hD
  have c8 := hO.1.1.2.1
  refine ck_X11_on hC hO (by omega) (fun g N f hg hN hf hi hn hw => ?_) (fun hx => ?_)
  · intro m1 L1 hC1 hF
    refine ⟨_, rfl, CK_73 (hF 73 (by decide)).1 ?_⟩
    refine ck_X12_on hO.1 (fun g' N' f' hg' hN' hf' hi' hn' hw' B => ?_) (fun q => absurd ⟨hi, hn, hw⟩ (q g N f hg hN hf))
    obtain rfl := nj hi' hi (by omega) (by omega)
    obtain rfl := nj hn' hn (by omega) (by omega)
    obtain rfl := nj hw' hw (by omega) (by omega)
    exact ⟨rfl, fin76 hC1 hF hO⟩
  · intro m1 L1 hC1 hF
    refine ⟨_, rfl, CK_73 (hF 73 (by decide)).1 ?_⟩
    exact ck_X12_on hO.1 (fun g N f hg hN hf hi hn hw B => absurd ⟨hi, hn, hw⟩ (hx g N f hg hN hf)) (fun _ => ⟨rfl, finR hC1 hF hO⟩)
theorem jn_again {i n w : Int32} : JI E 6 8 MX11_again MX12_again [.int i, .int n, .int w] := by
  intro m L D hC hO hD
  have c8 := hO.1.1.2.1
  refine ck_X11_again hC hO (fun g N f hg hN hf hi hn hw => ?_) (fun hx => ?_)
  · intro m1 L1 hC1 hF
    refine ⟨_, rfl, CK_73 (hF 73 (by decide)).1 ?_⟩
    refine ck_X12_again hO.1 (fun g' N' f' hg' hN' hf' hi' hn' hw' B => ?_) (fun q => absurd ⟨hi, hn, hw⟩ (q g N f hg hN hf))
    obtain rfl := nj hi' hi (by omega) (by omega)
    obtain rfl := nj hn' hn (by omega) (by omega)
    obtain rfl := nj hw' hw (by omega) (by omega)
    exact ⟨rfl, fin76 hC1 hF hO⟩
  · intro m1 L1 hC1 hF
    refine ⟨_, rfl, CK_73 (hF 73 (by decide)).1 ?_⟩
    exact ck_X12_again hO.1 (fun g N f hg hN hf hi hn hw B => absurd ⟨hi, hn, hw⟩ (hx g N f hg hN hf)) (fun _ => ⟨rfl, finR hC1 hF hO⟩)
end J1
