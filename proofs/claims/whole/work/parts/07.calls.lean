section AWC
variable {p : Program} {l : Launch} {e : Env} {R : Room} {s : State} {m : MethodId} {args : Array Value} {below : List Frame} {meth : Method} {c : Code} {H : Heap} {locs : List Loc} {cells slots : Nat} {Qw : State → Prop}
theorem aw_run {E : EVt} {M' : MDt} {n mc ms pc : Nat} {ls : Array Slot} {st0 rest : List Value} {a : Array Value} {Q : Value → AHt → Prop}
    (hr : va_Run p l e R s m args below meth c H locs cells slots mc ms (F0 m pc ls st0) rest (aw_Q E M' n Q a) (aw_A E)) (hS : va_S (aw_A E) s.heap H locs)
    (kk : ∀ (v : Value) (h : AHt) (H1 : Heap) (locs1 : List Loc), Q v h → va_P (ev_D E) vwCl (wl (ev_z E) n h) H1 → va_S (aw_A E) s.heap H1 locs1 → W p l e R s m args below meth c H1 locs1 (cells + mc) (slots + ms) Qw (F0 m (pc + 3) ls ((M'.2.2.2.map (fun _ => v)).toList ++ rest))) : W p l e R s m args below meth c H locs cells slots Qw (F0 m pc ls st0) := by
  intro T hT X
  obtain ⟨v, st₀, t, T', L, h0, X', hL, e1, e2, ⟨⟨r, h, hq, hv, hp⟩, hz, hk⟩, st⟩ := hr T hT X
  cases hv
  rw [h0] at hz hk
  obtain ⟨t2, a1, b1⟩ := kk r h T'.heap (locs ++ L) hq (by rw [e1]; exact hp)
    ⟨Nat.le_trans hS.1 (by rw [e1]; exact hz), fun q h1 h2 => by rw [e1, hk q (Nat.lt_of_lt_of_le h1 hS.1) h2]; exact hS.2.1 q h1 h2, fun q hq => by
      rcases List.mem_append.mp hq with h | h
      · exact hS.2.2 q h
      · exact hL q h⟩ T' rfl X'
  exact ⟨t2, st t2 a1, b1⟩
theorem aw_blind {E : EVt} {n : Nat} {h : AHt} {av : List Value} : FrameBlind (va_Pc av (aw_P E n h)) := fun _ _ _ _ q => ⟨q.1, q.2.1.calling, q.2.2.1, q.2.2.2⟩
theorem aw_preU {E : EVt} {n : Nat} {h : AHt} {av : List Value} (hK : aw_K E s) (hS : va_S (aw_A E) s.heap H locs) (hP : va_P (ev_D E) vwCl (wl (ev_z E) n h) H) (hz : H.size = ev_z E + n) : ∀ U : State, U.heap = H → s.WarmedH U.vm → va_Pc av (aw_P E n h) av.toArray U := by
  intro U hU hW
  subst hU
  exact ⟨rfl, hK.at hW hS, hP, hz⟩
end AWC
def rOK (d' d mL : Nat) : Prop := d' + 1 ≤ d ∧ mL ≤ 17
theorem rOK.to {d' d mL mc ms mc' ms' : Nat} (h : rOK d' d mL) : (rmOf d' mc ms).frames + 1 ≤ (rmOf d mc' ms').frames ∧ 8 + (mL + 11) + (rmOf d' mc ms).locals ≤ (rmOf d mc' ms').locals := by
  have h1 := h.1
  have h2 := h.2
  refine ⟨h.1, ?_⟩
  show 8 + (mL + 11) + (36 * d' + 4) ≤ 36 * d + 4
  omega
def nMH (y : MethodName) (n : Nat) : Prop := y.cls ≠ "java/lang/invoke/MethodHandle" ∧ y.cls ≠ "java/lang/invoke/VarHandle" ∧ (parseMethodDescriptor y.desc).map (fun d => d.parameters.length) = some n
/-- a virtual call's words: the receiver is of the class that has the method -/
def MLV (own : String) (ix : Nat) (M' : MDt) (n : Nat) : Prop := (Cond.methodLink own ix M'.1 ∈ gtbl ∧ Cond.instanceMethod M'.1 ∈ gtbl ∧ Cond.selects M'.1.cls M'.1 M'.1 ∈ gtbl ∧ Cond.initialized M'.1.cls ∈ gtbl ∧ Cond.code M'.1 M'.2.1 M'.2.2.1 M'.2.2.2 ∈ gtbl) ∧ nMH M'.1 n ∧ M'.2.2.1 ≤ 17
theorem MLV.good {own : String} {ix : Nat} {M' : MDt} {n : Nat} (h : MLV own ix M' n) : GoodIn gtbl (wsV own ix M'.1.cls M'.1 (wsOf M')) := by
  obtain ⟨⟨h1, h2, h3, h4, h5⟩, -⟩ := h
  intro w hw
  unfold wsV at hw
  rcases List.mem_append.mp hw with hw | hw
  · simp only [List.mem_cons, List.not_mem_nil, or_false] at hw
    rcases hw with rfl | rfl | rfl | rfl
    · exact gt_good _ h1
    · exact gt_good _ h2
    · exact gt_good _ h3
    · exact gt_good _ h4
  · exact wsOf_good h5 w hw
section AWD
variable {E : EVt} {d d' : Nat} {M M' : MDt} {B : Nat × Nat × Nat} {cells slots pc q : Nat} {lv : List (Nat × Value)} {st : List Value} {h : AHt} {Q : Value → AHt → Prop}
theorem aw_callV {ix n ci a mc ms : Nat} {r : vw_C} {fs : List Value} {As rest : List Value} (hM : MLV M.1.cls ix M' n) (hd : decode M.2.1 pc = .ok (.invokevirtual ix, 3)) (ha : a < B.1 + cells) (hh : h a = .inr (ci, fs)) (hr : vwCl[ci]? = some r) (hr2 : r.1 = M'.1.cls) (hdd : d' + 1 ≤ d) (hn : As.length = n) (hst : As.reverse ++ .ref (ev_z E + a) :: rest = st) (hrm : (rest.map fun v => v.category).sum ≤ 8) (hc : cells + mc ≤ B.2.1) (hs : slots + ms ≤ B.2.2) (hq : pc + 3 = q)
    (k : CT E d' M' (B.1 + cells, mc, ms) (.ref (ev_z E + a) :: As) h (fun v h' => AW E d M B (cells + mc) (slots + ms) q lv ((M'.2.2.2.map (fun _ => v)).toList ++ rest) h' Q)) : AW E d M B cells slots pc lv st h Q := by
  intro p e s m args below meth c H locs ls hC hK hP hz hS hl
  subst hq; subst hst
  refine aw_sz hz hP hS (fun hsz => ?_)
  have cw : CallW (rmOf d B.2.1 B.2.2) s args M.1.cls M'.1.cls ix M'.1 M'.2.1 M'.2.2.1 M'.2.2.2 (wsOf M') (rmOf d' mc ms) mc ms n := cwV n hC.2.2.2.2.1 hM.good rfl rfl rfl ⟨rfl, hM.2.1⟩ (rOK.to ⟨hdd, hM.2.2⟩)
  have hrec := va_recv hK.1 hP hr (wl_get' ha hh)
  rw [hr2] at hrec
  refine aw_run (va_runV (As := As) (rest := rest) ⟨hC.1, hC.2.1, hC.2.2.1, hC.2.2.2.1, hC.2.2.2.2.1⟩ k cw ⟨aw_blind, hrec, aw_preU hK hS hP hsz⟩ rfl hn hl.1 rfl (by show 2 * 0 + _ ≤ 8; omega) hd ⟨hc, hs⟩) hS (fun v h1 H1 locs1 hv hP1 hS1 => ?_)
  exact hv p e s m args below meth c H1 locs1 ls hC hK (by rw [show B.1 + (cells + mc) = (B.1 + cells) + mc from (Nat.add_assoc _ _ _).symm]; exact hP1) hz hS1 hl
/-- a static call's words -/
def MLS (own : String) (ix : Nat) (M' : MDt) (n : Nat) : Prop := (Cond.methodLink own ix M'.1 ∈ gtbl ∧ Cond.static M'.1 ∈ gtbl ∧ Cond.initialized M'.1.cls ∈ gtbl ∧ Cond.code M'.1 M'.2.1 M'.2.2.1 M'.2.2.2 ∈ gtbl) ∧ nMH M'.1 n ∧ M'.2.2.1 ≤ 17
theorem aw_callS {ix n mc ms : Nat} {As rest : List Value} (hM : MLS M.1.cls ix M' n) (hd : decode M.2.1 pc = .ok (.invokestatic ix, 3)) (hdd : d' + 1 ≤ d) (hn : As.length = n) (hst : As.reverse ++ rest = st) (hrm : (rest.map fun v => v.category).sum ≤ 8) (hc : cells + mc ≤ B.2.1) (hs : slots + ms ≤ B.2.2) (hq : pc + 3 = q)
    (k : CT E d' M' (B.1 + cells, mc, ms) As h (fun v h' => AW E d M B (cells + mc) (slots + ms) q lv ((M'.2.2.2.map (fun _ => v)).toList ++ rest) h' Q)) : AW E d M B cells slots pc lv st h Q := by
  intro p e s m args below meth c H locs ls hC hK hP hz hS hl
  subst hq; subst hst
  refine aw_sz hz hP hS (fun hsz => ?_)
  have hts := hC.2.2.2.2.1
  have cb : CallB (rmOf d B.2.1 B.2.2) s args M.1.cls ix M'.1 M'.2.1 M'.2.2.1 M'.2.2.2 (wsOf M') (rmOf d' mc ms) mc ms n := callB_of n hts (wsOf_good hM.1.2.2.2) rfl rfl rfl (hts _ hM.1.2.2.1) (hts _ hM.1.1) hM.2.1 (rOK.to ⟨hdd, hM.2.2⟩)
  refine aw_run (va_runS (As := As) (rest := rest) ⟨hC.1, hC.2.1, hC.2.2.1, hC.2.2.2.1, hC.2.2.2.2.1⟩ k ⟨cb, hts _ hM.1.2.1⟩ ⟨aw_blind, aw_preU hK hS hP hsz⟩ rfl hn hl.1 rfl (by show 2 * 0 + _ ≤ 8; omega) hd ⟨hc, hs⟩) hS (fun v h1 H1 locs1 hv hP1 hS1 => ?_)
  exact hv p e s m args below meth c H1 locs1 ls hC hK (by rw [show B.1 + (cells + mc) = (B.1 + cells) + mc from (Nat.add_assoc _ _ _).symm]; exact hP1) hz hS1 hl
/-- a nest mate's static method -/
def MLN (own : String) (ix : Nat) (M' : MDt) (n : Nat) : Prop := (Cond.methodLinkNest own ix M'.1 RX11 ∈ nw_tbl ∧ Cond.static M'.1 ∈ gtbl ∧ Cond.initialized M'.1.cls ∈ gtbl ∧ Cond.code M'.1 M'.2.1 M'.2.2.1 M'.2.2.2 ∈ gtbl) ∧ nMH M'.1 n ∧ M'.2.2.1 ≤ 17
theorem aw_callSN {ix n mc ms : Nat} {As rest : List Value} (hM : MLN M.1.cls ix M' n) (hd : decode M.2.1 pc = .ok (.invokestatic ix, 3)) (hdd : d' + 1 ≤ d) (hn : As.length = n) (hst : As.reverse ++ rest = st) (hrm : (rest.map fun v => v.category).sum ≤ 8) (hc : cells + mc ≤ B.2.1) (hs : slots + ms ≤ B.2.2) (hq : pc + 3 = q)
    (k : CT E d' M' (B.1 + cells, mc, ms) As h (fun v h' => AW E d M B (cells + mc) (slots + ms) q lv ((M'.2.2.2.map (fun _ => v)).toList ++ rest) h' Q)) : AW E d M B cells slots pc lv st h Q := by
  intro p e s m args below meth c H locs ls hC hK hP hz hS hl
  subst hq; subst hst
  refine aw_sz hz hP hS (fun hsz => ?_)
  have hts := hC.2.2.2.2.1
  have cb : va_CN (rmOf d B.2.1 B.2.2) s args M.1.cls ix M'.1 RX11 M'.2.1 M'.2.2.1 M'.2.2.2 (wsOf M') (rmOf d' mc ms) mc ms n := va_cnB n hts (wsOf_good hM.1.2.2.2) rfl rfl rfl (hK.2.1 _ hM.1.1) (hts _ hM.1.2.2.1) hM.2.1 (rOK.to ⟨hdd, hM.2.2⟩)
  refine aw_run (va_runSN (As := As) (rest := rest) ⟨hC.1, hC.2.1, hC.2.2.1, hC.2.2.2.1, hC.2.2.2.2.1⟩ k ⟨cb, hts _ hM.1.2.1, trivial⟩ ⟨aw_blind, aw_preU hK hS hP hsz⟩ rfl hn hl.1 rfl (by show 2 * 0 + _ ≤ 8; omega) hd ⟨hc, hs⟩) hS (fun v h1 H1 locs1 hv hP1 hS1 => ?_)
  exact hv p e s m args below meth c H1 locs1 ls hC hK (by rw [show B.1 + (cells + mc) = (B.1 + cells) + mc from (Nat.add_assoc _ _ _).symm]; exact hP1) hz hS1 hl
/-- a method of a kind: named in owner, taken from the receiver's class C -/
def MLO (own : String) (ix : Nat) (C owner : String) (x : MethodName) (M' : MDt) (n : Nat) : Prop := (Cond.methodLink own ix x ∈ gtbl ∧ Cond.sameMethod x.cls owner x.name x.desc ∈ gtbl ∧ Cond.instanceMethod ⟨owner, x.name, x.desc⟩ ∈ gtbl ∧ (∃ b0 m0 r0, Cond.code ⟨owner, x.name, x.desc⟩ b0 m0 r0 ∈ gtbl) ∧ Cond.selects C x M'.1 ∈ gtbl ∧ Cond.instanceMethod M'.1 ∈ gtbl ∧ Cond.initialized M'.1.cls ∈ gtbl ∧ Cond.code M'.1 M'.2.1 M'.2.2.1 M'.2.2.2 ∈ gtbl) ∧ nMH ⟨owner, x.name, x.desc⟩ n ∧ M'.2.2.1 ≤ 17
theorem MLO.good {own : String} {ix : Nat} {C owner : String} {x : MethodName} {M' : MDt} {n : Nat} (h : MLO own ix C owner x M' n) : GoodIn gtbl (va_wsO own ix C owner x M'.1 (wsOf M')) := by
  obtain ⟨⟨h1, h2, h3, -, h4, h5, h6, h7⟩, -⟩ := h
  intro w hw
  unfold va_wsO at hw
  rcases List.mem_append.mp hw with hw | hw
  · simp only [List.mem_cons, List.not_mem_nil, or_false] at hw
    rcases hw with rfl | rfl | rfl | rfl | rfl | rfl
    · exact gt_good _ h1
    · exact gt_good _ h2
    · exact gt_good _ h3
    · exact gt_good _ h4
    · exact gt_good _ h5
    · exact gt_good _ h6
  · exact wsOf_good h7 w hw
theorem aw_callO {ix n ci a mc ms : Nat} {owner : String} {x : MethodName} {r : vw_C} {fs : List Value} {As rest : List Value} (hM : MLO M.1.cls ix r.1 owner x M' n) (hd : decode M.2.1 pc = .ok (.invokevirtual ix, 3)) (ha : a < B.1 + cells) (hh : h a = .inr (ci, fs)) (hr : vwCl[ci]? = some r) (hdd : d' + 1 ≤ d) (hn : As.length = n) (hst : As.reverse ++ .ref (ev_z E + a) :: rest = st) (hrm : (rest.map fun v => v.category).sum ≤ 8) (hc : cells + mc ≤ B.2.1) (hs : slots + ms ≤ B.2.2) (hq : pc + 3 = q)
    (k : CT E d' M' (B.1 + cells, mc, ms) (.ref (ev_z E + a) :: As) h (fun v h' => AW E d M B (cells + mc) (slots + ms) q lv ((M'.2.2.2.map (fun _ => v)).toList ++ rest) h' Q)) : AW E d M B cells slots pc lv st h Q := by
  intro p e s m args below meth c H locs ls hC hK hP hz hS hl
  subst hq; subst hst
  refine aw_sz hz hP hS (fun hsz => ?_)
  obtain ⟨b0, m0, r0, h0⟩ := hM.1.2.2.2.1
  have cw : va_CU (rmOf d B.2.1 B.2.2) s args M.1.cls r.1 owner ix x M'.1 M'.2.1 M'.2.2.1 M'.2.2.2 (wsOf M') (rmOf d' mc ms) mc ms n := va_cwO n hC.2.2.2.2.1 hM.good rfl rfl rfl h0 hM.2.1 (rOK.to ⟨hdd, hM.2.2⟩)
  have hrec := va_recv hK.1 hP hr (wl_get' ha hh)
  refine aw_run (va_runU (As := As) (rest := rest) ⟨hC.1, hC.2.1, hC.2.2.1, hC.2.2.2.1, hC.2.2.2.2.1⟩ k cw ⟨aw_blind, hrec, aw_preU hK hS hP hsz⟩ rfl hn hl.1 rfl (by show 2 * 0 + _ ≤ 8; omega) hd ⟨hc, hs⟩) hS (fun v h1 H1 locs1 hv hP1 hS1 => ?_)
  exact hv p e s m args below meth c H1 locs1 ls hC hK (by rw [show B.1 + (cells + mc) = (B.1 + cells) + mc from (Nat.add_assoc _ _ _).symm]; exact hP1) hz hS1 hl
/-- a constructor -/
def MLI (own : String) (ix : Nat) (M' : MDt) (n : Nat) : Prop := (Cond.methodLink own ix M'.1 ∈ gtbl ∧ Cond.instanceMethod M'.1 ∈ gtbl ∧ Cond.initialized M'.1.cls ∈ gtbl ∧ Cond.code M'.1 M'.2.1 M'.2.2.1 M'.2.2.2 ∈ gtbl) ∧ nMH M'.1 n ∧ M'.2.2.1 ≤ 17 ∧ M'.1.name = "<init>" ∧ M'.2.2.2 = none
theorem aw_callI {ix n a mc ms : Nat} {As rest : List Value} (hM : MLI M.1.cls ix M' n) (hd : decode M.2.1 pc = .ok (.invokespecial ix, 3)) (hdd : d' + 1 ≤ d) (hn : As.length = n) (hst : As.reverse ++ .ref (ev_z E + a) :: rest = st) (hrm : (rest.map fun v => v.category).sum ≤ 8) (hc : cells + mc ≤ B.2.1) (hs : slots + ms ≤ B.2.2) (hq : pc + 3 = q)
    (k : CT E d' M' (B.1 + cells, mc, ms) (.ref (ev_z E + a) :: As) h (fun v h' => AW E d M B (cells + mc) (slots + ms) q lv rest h' Q)) : AW E d M B cells slots pc lv st h Q := by
  intro p e s m args below meth c H locs ls hC hK hP hz hS hl
  subst hq; subst hst
  refine aw_sz hz hP hS (fun hsz => ?_)
  have hts := hC.2.2.2.2.1
  have cb : CallB (rmOf d B.2.1 B.2.2) s args M.1.cls ix M'.1 M'.2.1 M'.2.2.1 M'.2.2.2 (wsOf M') (rmOf d' mc ms) mc ms n := callB_of n hts (wsOf_good hM.1.2.2.2) rfl rfl rfl (hts _ hM.1.2.2.1) (hts _ hM.1.1) hM.2.1 (rOK.to ⟨hdd, hM.2.2.1⟩)
  rw [hM.2.2.2.2] at cb
  refine aw_run (va_runI (b := ev_z E + a) (As := As) (rest := rest) ⟨hC.1, hC.2.1, hC.2.2.1, hC.2.2.2.1, hC.2.2.2.2.1⟩ k ⟨cb, hM.2.2.2.1, hts _ hM.1.2.1⟩ ⟨aw_blind, aw_preU hK hS hP hsz⟩ rfl hn hl.1 rfl (by show 2 * 0 + _ ≤ 8; omega) hd ⟨hc, hs⟩) hS (fun v h1 H1 locs1 hv hP1 hS1 => ?_)
  rw [hM.2.2.2.2]
  exact hv p e s m args below meth c H1 locs1 ls hC hK (by rw [show B.1 + (cells + mc) = (B.1 + cells) + mc from (Nat.add_assoc _ _ _).symm]; exact hP1) hz hS1 hl
def MLJ (own : String) (ix : Nat) (M' : MDt) (n : Nat) : Prop := (Cond.methodLinkNest own ix M'.1 RX11 ∈ nw_tbl ∧ Cond.instanceMethod M'.1 ∈ gtbl ∧ Cond.initialized M'.1.cls ∈ gtbl ∧ Cond.code M'.1 M'.2.1 M'.2.2.1 M'.2.2.2 ∈ gtbl) ∧ nMH M'.1 n ∧ M'.2.2.1 ≤ 17 ∧ M'.1.name = "<init>" ∧ M'.2.2.2 = none
theorem aw_callIN {ix n a mc ms : Nat} {As rest : List Value} (hM : MLJ M.1.cls ix M' n) (hd : decode M.2.1 pc = .ok (.invokespecial ix, 3)) (hdd : d' + 1 ≤ d) (hn : As.length = n) (hst : As.reverse ++ .ref (ev_z E + a) :: rest = st) (hrm : (rest.map fun v => v.category).sum ≤ 8) (hc : cells + mc ≤ B.2.1) (hs : slots + ms ≤ B.2.2) (hq : pc + 3 = q)
    (k : CT E d' M' (B.1 + cells, mc, ms) (.ref (ev_z E + a) :: As) h (fun v h' => AW E d M B (cells + mc) (slots + ms) q lv rest h' Q)) : AW E d M B cells slots pc lv st h Q := by
  intro p e s m args below meth c H locs ls hC hK hP hz hS hl
  subst hq; subst hst
  refine aw_sz hz hP hS (fun hsz => ?_)
  have hts := hC.2.2.2.2.1
  have cb : va_CN (rmOf d B.2.1 B.2.2) s args M.1.cls ix M'.1 RX11 M'.2.1 M'.2.2.1 M'.2.2.2 (wsOf M') (rmOf d' mc ms) mc ms n := va_cnB n hts (wsOf_good hM.1.2.2.2) rfl rfl rfl (hK.2.1 _ hM.1.1) (hts _ hM.1.2.2.1) hM.2.1 (rOK.to ⟨hdd, hM.2.2.1⟩)
  rw [hM.2.2.2.2] at cb
  refine aw_run (va_runIN (b := ev_z E + a) (As := As) (rest := rest) ⟨hC.1, hC.2.1, hC.2.2.1, hC.2.2.2.1, hC.2.2.2.2.1⟩ k ⟨cb, hM.2.2.2.1, hts _ hM.1.2.1⟩ ⟨aw_blind, aw_preU hK hS hP hsz⟩ rfl hn hl.1 rfl (by show 2 * 0 + _ ≤ 8; omega) hd ⟨hc, hs⟩) hS (fun v h1 H1 locs1 hv hP1 hS1 => ?_)
  rw [hM.2.2.2.2]
  exact hv p e s m args below meth c H1 locs1 ls hC hK (by rw [show B.1 + (cells + mc) = (B.1 + cells) + mc from (Nat.add_assoc _ _ _).symm]; exact hP1) hz hS1 hl
theorem aw_objInit {ix a : Nat} (hM : Cond.methodLink M.1.cls ix Lib.objectInit ∈ gtbl ∧ Cond.instanceMethod Lib.objectInit ∈ gtbl ∧ Cond.code Lib.objectInit ⟨#[0xb1]⟩ 1 none ∈ gtbl) (hd : decode M.2.1 pc = .ok (.invokespecial ix, 3)) (hdd : 1 ≤ d) (hrm : (st.map fun v => v.category).sum ≤ 8) (hq : pc + 3 = q) (k : AW E d M B cells slots q lv st h Q) : AW E d M B cells slots pc lv (.ref a :: st) h Q := by
  intro p e s m args below meth c H locs ls hC hK hP hz hS hl
  subst hq
  have hts := hC.2.2.2.2.1
  refine W.objInit hC.1 hC.2.1 hC.2.2.2.1 (hts _ hM.1) (hts _ hM.2.1) (hts _ hM.2.2) (g := F0 m pc ls (.ref a :: st)) rfl (hl.1.trans hC.2.2.1.symm) rfl hd hdd ?_ (k p e s m args below meth c H locs ls hC hK hP hz hS hl)
  show 2 * 0 + _ + 12 ≤ 36 * d + 4
  omega
end AWD
