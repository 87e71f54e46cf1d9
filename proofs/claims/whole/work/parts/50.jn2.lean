/-! the calls joined, second part: what is best -/
section J2
variable {E : EVt}
theorem jn_washes {i pi : Int32} : JI E 6 8 MX11_washes MX12_washes [.int i, .int pi] := by
  intro m L D hC hO hD
  have c8 := hO.1.1.2.1
  have p6 := hO.1.2.1.2.1
  refine ck_X11_washes hC hO (by omega) (fun g p N hg hp hi hpi h1 h2 hf hm => ?_) (fun g p hg hp hi hpi hf => ?_) (fun hx => ?_)
  · intro m1 L1 hC1 hF
    refine ⟨_, rfl, CK_73 (hF 73 (by decide)).1 ?_⟩
    refine ck_X12_washes (by omega) hO.1 (fun g' p' N' hg' hp' hi' hpi' h1' h2' hf' hm' B => ?_) (fun g' p' hg' hp' hi' hpi' hf' B => ?_) (fun q => absurd ⟨hi, hpi⟩ (q g p hg hp))
    · obtain rfl := nj hi' hi (by omega) (by omega)
      obtain rfl := nj hpi' hpi (by omega) (by omega)
      have e : N' = N := by
        rcases Nat.lt_trichotomy N' N with h | h | h
        · exact absurd hf' (hm N' (by omega) (by omega))
        · exact h
        · exact absurd hf (hm' N (by omega) (by omega))
      subst e
      exact ⟨rfl, fin76 hC1 hF hO⟩
    · obtain rfl := nj hi' hi (by omega) (by omega)
      obtain rfl := nj hpi' hpi (by omega) (by omega)
      exact absurd hf (hf' N h1 h2)
  · intro m1 L1 hC1 hF
    refine ⟨_, rfl, CK_73 (hF 73 (by decide)).1 ?_⟩
    refine ck_X12_washes (by omega) hO.1 (fun g' p' N' hg' hp' hi' hpi' h1' h2' hf' hm' B => ?_) (fun g' p' hg' hp' hi' hpi' hf' B => ⟨rfl, fin76R hC1 hF hO⟩) (fun q => absurd ⟨hi, hpi⟩ (q g p hg hp))
    obtain rfl := nj hi' hi (by omega) (by omega)
    obtain rfl := nj hpi' hpi (by omega) (by omega)
    exact absurd hf' (hf N' h1' h2')
  · intro m1 L1 hC1 hF
    refine ⟨_, rfl, CK_73 (hF 73 (by decide)).1 ?_⟩
    exact ck_X12_washes (by omega) hO.1 (fun g' p' N' hg' hp' hi' hpi' h1' h2' hf' hm' B => absurd ⟨hi', hpi'⟩ (hx g' p' hg' hp')) (fun g' p' hg' hp' hi' hpi' hf' B => absurd ⟨hi', hpi'⟩ (hx g' p' hg' hp')) (fun _ => ⟨rfl, finR hC1 hF hO⟩)
theorem jn_warmest {i pi : Int32} : JI E 6 8 MX11_warmest MX12_warmest [.int i, .int pi] := by
  intro m L D hC hO hD
  have c8 := hO.1.1.2.1
  have p6 := hO.1.2.1.2.1
  refine ck_X11_warmest hC hO (by omega) (fun g p N hg hp hi hpi h1 h2 hf hm => ?_) (fun g p hg hp hi hpi hf => ?_) (fun hx => ?_)
  · intro m1 L1 hC1 hF
    refine ⟨_, rfl, CK_73 (hF 73 (by decide)).1 ?_⟩
    refine ck_X12_warmest (by omega) hO.1 (fun g' p' N' hg' hp' hi' hpi' h1' h2' hf' hm' B => ?_) (fun g' p' hg' hp' hi' hpi' hf' B => ?_) (fun q => absurd ⟨hi, hpi⟩ (q g p hg hp))
    · obtain rfl := nj hi' hi (by omega) (by omega)
      obtain rfl := nj hpi' hpi (by omega) (by omega)
      have e : N' = N := by
        rcases Nat.lt_trichotomy N' N with h | h | h
        · exact absurd hf (hm' N (by omega) (by omega))
        · exact h
        · exact absurd hf' (hm N' (by omega) (by omega))
      subst e
      exact ⟨rfl, fin76 hC1 hF hO⟩
    · obtain rfl := nj hi' hi (by omega) (by omega)
      obtain rfl := nj hpi' hpi (by omega) (by omega)
      exact absurd hf (hf' N h1 h2)
  · intro m1 L1 hC1 hF
    refine ⟨_, rfl, CK_73 (hF 73 (by decide)).1 ?_⟩
    refine ck_X12_warmest (by omega) hO.1 (fun g' p' N' hg' hp' hi' hpi' h1' h2' hf' hm' B => ?_) (fun g' p' hg' hp' hi' hpi' hf' B => ⟨rfl, fin76R hC1 hF hO⟩) (fun q => absurd ⟨hi, hpi⟩ (q g p hg hp))
    obtain rfl := nj hi' hi (by omega) (by omega)
    obtain rfl := nj hpi' hpi (by omega) (by omega)
    exact absurd hf' (hf N' h1' h2')
  · intro m1 L1 hC1 hF
    refine ⟨_, rfl, CK_73 (hF 73 (by decide)).1 ?_⟩
    exact ck_X12_warmest (by omega) hO.1 (fun g' p' N' hg' hp' hi' hpi' h1' h2' hf' hm' B => absurd ⟨hi', hpi'⟩ (hx g' p' hg' hp')) (fun g' p' hg' hp' hi' hpi' hf' B => absurd ⟨hi', hpi'⟩ (hx g' p' hg' hp')) (fun _ => ⟨rfl, finR hC1 hF hO⟩)
theorem jn_pull {i pi : Int32} : JI E 6 8 MX11_pull MX12_pull [.int i, .int pi] := by
  intro m L D hC hO hD
  have c8 := hO.1.1.2.1
  have p6 := hO.1.2.1.2.1
  refine ck_X11_pull hC hO (by omega) (fun g p N hg hp hi hpi h2 hf hm => ?_) (fun g p hg hp hi hpi hf => ?_) (fun hx => ?_)
  · intro m1 L1 hC1 hF
    refine ⟨_, rfl, CK_73 (hF 73 (by decide)).1 ?_⟩
    refine ck_X12_pull (by omega) hO.1 (fun g' p' N' hg' hp' hi' hpi' h2' hf' hm' B => ?_) (fun g' p' hg' hp' hi' hpi' hf' B => ?_) (fun q => absurd ⟨hi, hpi⟩ (q g p hg hp))
    · obtain rfl := nj hi' hi (by omega) (by omega)
      obtain rfl := nj hpi' hpi (by omega) (by omega)
      have e : N' = N := by
        rcases Nat.lt_trichotomy N' N with h | h | h
        · exact absurd hf' (hm N' (by omega))
        · exact h
        · exact absurd hf (hm' N (by omega))
      subst e
      exact ⟨rfl, fin76 hC1 hF hO⟩
    · obtain rfl := nj hi' hi (by omega) (by omega)
      obtain rfl := nj hpi' hpi (by omega) (by omega)
      exact absurd hf (hf' N h2)
  · intro m1 L1 hC1 hF
    refine ⟨_, rfl, CK_73 (hF 73 (by decide)).1 ?_⟩
    refine ck_X12_pull (by omega) hO.1 (fun g' p' N' hg' hp' hi' hpi' h2' hf' hm' B => ?_) (fun g' p' hg' hp' hi' hpi' hf' B => ⟨rfl, fin76R hC1 hF hO⟩) (fun q => absurd ⟨hi, hpi⟩ (q g p hg hp))
    obtain rfl := nj hi' hi (by omega) (by omega)
    obtain rfl := nj hpi' hpi (by omega) (by omega)
    exact absurd hf' (hf N' h2')
  · intro m1 L1 hC1 hF
    refine ⟨_, rfl, CK_73 (hF 73 (by decide)).1 ?_⟩
    exact ck_X12_pull (by omega) hO.1 (fun g' p' N' hg' hp' hi' hpi' h2' hf' hm' B => absurd ⟨hi', hpi'⟩ (hx g' p' hg' hp')) (fun g' p' hg' hp' hi' hpi' hf' B => absurd ⟨hi', hpi'⟩ (hx g' p' hg' hp')) (fun _ => ⟨rfl, finR hC1 hF hO⟩)
theorem jn_kind {i n : Int32} : JI E 5 8 MX11_kind MX12_kind [.int i, .int n] := by
  intro m L D hC hO hD
  have c8 := hO.1.1.2.1
  refine ck_X11_kind hC hO (fun g N hg h1 h2 hi hn => ?_) (fun hx => ?_)
  · intro m1 L1 hC1 hF
    refine ⟨_, rfl, CK_73 (hF 73 (by decide)).1 ?_⟩
    refine ck_X12_kind hO.1 (fun g' N' hg' h1' h2' hi' hn' B => ?_) (fun q => absurd ⟨hi, hn⟩ (q g N hg h1 h2))
    obtain rfl := nj hi' hi (by omega) (by omega)
    obtain rfl := nj hn' hn (by omega) (by omega)
    exact ⟨rfl, fin76 hC1 hF hO⟩
  · intro m1 L1 hC1 hF
    refine ⟨_, rfl, CK_73 (hF 73 (by decide)).1 ?_⟩
    exact ck_X12_kind hO.1 (fun g' N' hg' h1' h2' hi' hn' B => absurd ⟨hi', hn'⟩ (hx g' N' hg' h1' h2')) (fun _ => ⟨rfl, finR hC1 hF hO⟩)
theorem jn_dressed {n : Int32} : JI E 6 6 MX11_dressed MX12_dressed [.int n] := by
  intro m L D hC hO hD
  refine ck_X11_dressed hC hO (by omega) (fun N h2 hn hp => ?_) (fun N h2 hn hp => ?_) (fun hn => ?_)
  · intro m1 L1 hC1 hF
    refine ⟨_, rfl, CK_73 (hF 73 (by decide)).1 ?_⟩
    refine ck_X12_dressed hO.1 (fun N' h2' hn' hp' B => ?_) (fun N' h2' hn' hp' => absurd hp (by omega)) (fun q => absurd (rg (lo := 0) hn (Nat.zero_le _) h2 (by omega)) q)
    obtain rfl := nj hn' hn (by omega) (by omega)
    exact ⟨rfl, fin76 hC1 hF hO⟩
  · intro m1 L1 hC1 hF
    refine ⟨_, rfl, CK_73 (hF 73 (by decide)).1 ?_⟩
    exact ck_X12_dressed hO.1 (fun N' h2' hn' hp' B => absurd hp (by omega)) (fun N' h2' hn' hp' => ⟨rfl, finR hC1 hF hO⟩) (fun q => absurd (rg (lo := 0) hn (Nat.zero_le _) h2 (by omega)) q)
  · intro m1 L1 hC1 hF
    refine ⟨_, rfl, CK_73 (hF 73 (by decide)).1 ?_⟩
    exact ck_X12_dressed hO.1 (fun N' h2' hn' hp' B => absurd (rg (lo := 0) hn' (Nat.zero_le _) h2' (by omega)) hn) (fun N' h2' hn' hp' => absurd (rg (lo := 0) hn' (Nat.zero_le _) h2' (by omega)) hn) (fun _ => ⟨rfl, finR hC1 hF hO⟩)
theorem jn_shortest {n : Int32} : JI E 6 8 MX11_shortest MX12_shortest [.int n] := by
  intro m L D hC hO hD
  refine ck_X11_shortest hC hO (fun N j h2 hn hj hs => ?_) (fun N h2 hn hp => ?_) (fun hn => ?_)
  · intro m1 L1 hC1 hF
    refine ⟨_, rfl, CK_73 (hF 73 (by decide)).1 ?_⟩
    refine ck_X12_shortest hO.1 (fun N' j' h2' hn' hj' hs' B => ?_) (fun N' h2' hn' hp' B => absurd hp' (by omega)) (fun q => absurd (rg (lo := 0) hn (Nat.zero_le _) h2 (by omega)) q)
    obtain rfl := nj hn' hn (by omega) (by omega)
    exact ⟨by rw [← hs, ← hs'], fin76 hC1 hF hO⟩
  · intro m1 L1 hC1 hF
    refine ⟨_, rfl, CK_73 (hF 73 (by decide)).1 ?_⟩
    exact ck_X12_shortest hO.1 (fun N' j' h2' hn' hj' hs' B => absurd hp (by omega)) (fun N' h2' hn' hp' B => ⟨rfl, fin76R hC1 hF hO⟩) (fun q => absurd (rg (lo := 0) hn (Nat.zero_le _) h2 (by omega)) q)
  · intro m1 L1 hC1 hF
    refine ⟨_, rfl, CK_73 (hF 73 (by decide)).1 ?_⟩
    exact ck_X12_shortest hO.1 (fun N' j' h2' hn' hj' hs' B => absurd (rg (lo := 0) hn' (Nat.zero_le _) h2' (by omega)) hn) (fun N' h2' hn' hp' B => absurd (rg (lo := 0) hn' (Nat.zero_le _) h2' (by omega)) hn) (fun _ => ⟨rfl, finR hC1 hF hO⟩)
end J2
