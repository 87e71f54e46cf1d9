/-! the start, and the rules of the law's loop -/
theorem CR_I : CR mI LI mI LI := by
  refine ⟨⟨rfl, rfl, rfl, rfl, rfl, fun g hg f hf => ?_, fun p hp f hf => ?_⟩, ⟨rfl, fun q => absurd q (by decide)⟩, ⟨rfl, fun i _ hj => absurd hj (Nat.not_lt_zero i)⟩, fun s hs => ⟨?_, ?_, fun i _ => rfl⟩, fun i hi => ?_⟩
  · rw [mI_0 (by omega), mI_0 (by omega)]
  · rw [mI_0 (by omega), mI_0 (by omega)]
  · rw [mI_0 (by omega), mI_0 (by omega)]
  · rw [mI_0 (by omega), mI_0 (by omega)]
  · rw [mI_0 (by omega), mI_0 (by omega)]
theorem OK_I : OK 0 mI := by
  have z : (0 : Int32).toNatClampNeg = 0 := by decide
  have c0 : cA (mI 73) = 0 := z
  have p0 : pA (mI 73) = 0 := z
  have t0 : tnA mI = 0 := z
  refine ⟨⟨⟨by rw [c0]; rfl, by rw [c0]; omega, fun g hg => by rw [c0] at hg; omega⟩, ⟨by rw [p0]; rfl, by rw [p0]; omega, fun p hp => by rw [p0] at hp; omega⟩, trivial, by show 20 ≤ (40 : Int32).toInt ∧ (40 : Int32).toInt ≤ 95; decide, Or.inl rfl⟩, Or.inl rfl, ⟨by rw [t0]; rfl, by rw [t0]; omega⟩, fun s hs => ?_, by show 0 ≤ (0 : Int32).toInt ∧ (0 : Int32).toInt ≤ 99999; decide, fun q => absurd q (by decide)⟩
  have e : mI 80 s = 0 := mI_0 (by omega)
  have es : szA mI s = 0 := by unfold szA; rw [e]; exact z
  rw [es, e]
  exact ⟨Or.inl (mI_0 (by omega)), rfl, by omega⟩
abbrev ML (nm : String) : MDt := (⟨RL, nm, ""⟩, cL_law, 4, some .boolean)
abbrev lvL (E : EVt) (i : Nat) : List (Nat × Value) := [(3, .int (nI i)), (2, .ref (ev_z E + 72)), (1, .ref (ev_z E + 0)), (0, .ref (ev_b E))]
abbrev AL (E : EVt) (nm : String) (i pc : Nat) (st : List Value) (m : Mm) (L : Ml) (Q : Value → AHt → Prop) : Prop := AW E 12 (ML nm) (0, 83, 1257) 83 1257 pc (lvL E i) st (HP E m L) Q
section LW
variable {E : EVt} {nm : String} {i pc q : Nat} {st : List Value} {m : Mm} {L : Ml} {Q : Value → AHt → Prop}
theorem al_arg {k : Nat} {n : Int} (d1 : decode cL_law pc = .ok (.aload_n 0, 1)) (d2 : decode cL_law (pc + 1) = .ok (.iload_n 3, 1)) (d3 : decode cL_law (pc + 2) = .ok (.iconst n, 1)) (d4 : decode cL_law (pc + 3) = .ok (.iadd, 1)) (d5 : decode cL_law (pc + 4) = .ok (.iaload, 1)) (hn : Int32.ofInt n = nI k) (hk : Nat.ble k 5 = true) (hi : i + 6 ≤ ev_L E) (hL : ev_L E ≤ 3072) (hq : pc + 5 = q) (kk : AL E nm i q (.int (ev_x E (i + k)) :: st) m L Q) : AL E nm i pc st m L Q := by
  have hk := Nat.le_of_ble_eq_true hk
  subst hq
  refine aw_aload_n (i := 0) (q := pc + 1) d1 rfl rfl rfl ?_
  refine aw_iload_n (i := 3) (q := pc + 2) d2 rfl rfl rfl ?_
  refine aw_iconst (v := nI k) (q := pc + 3) d3 hn rfl ?_
  refine aw_iadd (q := pc + 4) d4 rfl ?_
  rw [nI_add]
  exact aw_sld (q := pc + 5) d5 (nI_in (by omega) (by omega)) (by rw [nI_clamp (by omega)]) rfl kk
theorem al_call {M' : MDt} {ix n d' k s : Nat} {ty : FieldType} {As rest : List Value} (hM : MLV RL ix M' n) (hd : decode cL_law pc = .ok (.invokevirtual ix, 3)) (hs : shp k = s) (hb : Nat.ble s 19 = true) (hcl : (vwCl[s]?).map (fun r => r.1) = some M'.1.cls) (hr : M'.2.2.2 = some ty) (hdd : Nat.ble (d' + 1) 12 = true) (hn : As.length = n) (hst : As.reverse ++ .ref (ev_z E + k) :: rest = st) (hrm : Nat.ble (rest.map fun v => v.category).sum 8 = true) (hq : pc + 3 = q) (kk : CK E d' M' (.ref (ev_z E + k) :: As) m L (fun v m' L' => AL E nm i q (v :: rest) m' L' Q)) : AL E nm i pc st m L Q := by
  obtain ⟨r, hr1, hr2⟩ := Option.map_eq_some_iff.mp hcl
  have hk : k < 83 := shp_lt hs (by have := Nat.le_of_ble_eq_true hb; exact Nat.ble_eq_true_of_le (by omega))
  exact aw_callV (M := ML nm) (B := (0, 83, 1257)) (cells := 83) (slots := 1257) (mc := 0) (ms := 0) (As := As) (rest := rest) hM hd (by show k < 0 + 83; omega) (HP_obj hs hb) hr1 hr2 (Nat.le_of_ble_eq_true hdd) hn hst (Nat.le_of_ble_eq_true hrm) (Nat.le_refl _) (Nat.le_refl _) hq (kk _ (fun v m' L' hw => by rw [hr]; exact hw))
theorem aw_table {d : Nat} {M : MDt} {B : Nat × Nat × Nat} {cells slots : Nat} {lv : List (Nat × Value)} {h : AHt} {dflt lo hi : Int} {offs : Array Int} {len : Nat} {x : Int32} {cs : List (Int32 × Nat)} {td : Nat} (hd : decode M.2.1 pc = .ok (.tableswitch dflt lo hi offs, len)) (hok : swok pc dflt lo hi offs cs td = true) (k : swK x (fun t => AW E d M B cells slots t lv st h Q) cs td) : AW E d M B cells slots pc lv (.int x :: st) h Q := by
  unfold swok at hok
  rw [Bool.and_eq_true, Bool.and_eq_true, List.all_eq_true, List.all_eq_true] at hok
  obtain ⟨h1, h2, h3⟩ := hok
  rcases swK_elim k with ⟨y, hy, rfl, hF⟩ | ⟨hne, hF⟩
  · have := h1 y hy
    rw [Bool.and_eq_true, Bool.and_eq_true, decide_eq_true_iff, decide_eq_true_iff, decide_eq_true_iff] at this
    exact aw_tableIn hd this.1 this.2.1 this.2.2 (by omega) hF
  · refine aw_tableOut hd ?_ (of_decide_eq_true h2) hF
    rcases Classical.em (x.toInt < lo ∨ hi < x.toInt) with h | h
    · exact h
    · exfalso
      have hj := h3 (x.toInt - lo).toNat (List.mem_range.mpr (by omega))
      obtain ⟨y, hy, he⟩ := List.any_eq_true.mp hj
      have he := of_decide_eq_true he
      exact hne y hy (Int32.toInt_inj.mp (by omega))
end LW
