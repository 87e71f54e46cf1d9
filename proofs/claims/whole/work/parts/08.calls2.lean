/-- a call of super: named in x.cls, the code is owner's -/
def MLU (own : String) (ix : Nat) (x : MethodName) (M' : MDt) (n : Nat) : Prop := (Cond.methodLink own ix x ∈ gtbl ∧ Cond.sameMethod x.cls M'.1.cls x.name x.desc ∈ gtbl ∧ Cond.superclass own x.cls ∈ gtbl ∧ (x.cls = M'.1.cls ∨ Cond.superclass x.cls M'.1.cls ∈ gtbl) ∧ Cond.instanceMethod M'.1 ∈ gtbl ∧ Cond.initialized M'.1.cls ∈ gtbl ∧ Cond.code M'.1 M'.2.1 M'.2.2.1 M'.2.2.2 ∈ gtbl) ∧ nMH M'.1 n ∧ M'.2.2.1 ≤ 17 ∧ x.name ≠ "<init>" ∧ M'.1 = ⟨M'.1.cls, x.name, x.desc⟩
section AWSU
variable {p : Program} {l : Launch} {e : Env} {R : Room} {s : State} {m : MethodId} {args : Array Value} {below : List Frame} {meth : Method} {c : Code}
theorem aw_subOne {x o : ClassId} {dk : Class} (hdk : s.vm.classes[x]? = some dk) (hs : dk.super = some o) : s.vm.isSubclass x o = true := by
  have hsz : 0 < s.vm.classes.size := Nat.lt_of_le_of_lt (Nat.zero_le _) (Array.getElem?_eq_some_iff.mp hdk).1
  unfold Vm.isSubclass
  obtain ⟨n, hn⟩ : ∃ n, s.vm.classes.size = n + 1 := ⟨s.vm.classes.size - 1, by omega⟩
  rw [hn]
  simp [Vm.isSubclassAux, hdk, hs]
variable {H : Heap} {locs : List Loc} {cells slots : Nat}
theorem aw_runSU {E : EVt} {x : MethodName} {M M' : MDt} {d d' mc ms nB mB n ix nL : Nat} {Pc : Array Value → State → Prop} {Qc : Array Value → State → Outcome → State → Prop} {free : Addr → Prop} {C : String} {cC : ClassId} {b : Addr} {As rest : List Value} {g : JFrame}
    (hat : ClassAt s C cC) (S : CallFix p m c M.2.1 nL s args gtbl M.1.cls) (hM : Met l M'.1 (wsOf M') (rmOf d' mc ms) Pc Qc mc ms free) (cw : MLU M.1.cls ix x M' n) (hdd : d' + 1 ≤ d) (hp : PreV s H C b Pc As)
    (hg : g.method = m) (hn : As.length = n) (hsize : g.locals.size = nL) (hstack : g.stack = As.reverse ++ .ref b :: rest) (hW : 2 * g.monitorRoom + (rest.map fun v => v.category).sum ≤ 8) (hdg : decode M.2.1 g.pc = .ok (.invokespecial ix, 3)) (hf : cells + mc ≤ (rmOf d nB mB).cells ∧ slots + ms ≤ (rmOf d nB mB).slots) :
    va_Run p l e (rmOf d nB mB) s m args below meth c H locs cells slots mc ms g rest (Qc (Value.ref b :: As).toArray) (free) := by
  obtain ⟨⟨w1, w2, w3, w4, w5, w6, w7⟩, hnm, hml17, hno, hy⟩ := cw
  obtain ⟨hx, hb, hml, ho, hts⟩ := S
  have hR := rOK.to (mc := mc) (ms := ms) (mc' := nB) (ms' := mB) ⟨hdd, hml17⟩
  have hK : Back l (rmOf d nB mB) p e below s args M'.1 3 8 (PreOf (rmOf d nB mB) mc ms Pc) (PostOf Qc mc ms free) := back_of (bytes := M'.2.1) (maxL := M'.2.2.1) (ret := M'.2.2.2) hM hp.1 rfl rfl hR.1 hR.2 (pay_in hts (wsOf_good w7)) List.mem_cons_self (fun a' U hW => word_at hW (Or.inl (by first | rfl | simp [Cond.onTables, Cond.keeps, Cond.steady])) (hts _ w6))
  obtain ⟨-, ⟨cellB, hcB, hoB, hclB⟩, hPc⟩ := hp
  obtain ⟨hfc, kB, hkB, -⟩ := hat
  cases hfc.symm.trans hclB
  intro T hT X
  obtain ⟨mk, methM, hnamed, hmethM, hstM, habM⟩ := Cond.instanceMethod_spec (hts _ w5)
  obtain ⟨methM', cM, hmethM', -, -, -, -, -, -, hsigM⟩ := Cond.code_spec hnamed (hts _ w7)
  cases hmethM.symm.trans hmethM'
  obtain ⟨ps, dk, kp, hps, hdk, hkp, hsuper, -, -, hnid⟩ := Cond.superclass_spec ho (hts _ w3)
  have hn' : s.methodNamed? ⟨M'.1.cls, x.name, x.desc⟩ = some mk := by rw [← hy]; exact hnamed
  have hfM : s.vm.findClass M'.1.cls = some mk.cls := findClass_of_methodNamed hnamed
  have hsub : s.vm.isSubclass ps mk.cls = true := by
    rcases w4 with w4 | w4
    · have hpm : ps = mk.cls := Option.some.inj (hps.symm.trans (by rw [w4]; exact hfM))
      rw [hpm]
      simp [Vm.isSubclass, Vm.isSubclassAux]
    · obtain ⟨po, dk2, kp2, hpo, hdk2, -, hsuper2, -⟩ := Cond.superclass_spec hps (hts _ w4)
      have hpm : po = mk.cls := Option.some.inj (hpo.symm.trans hfM)
      rw [hpm] at hsuper2
      exact aw_subOne hdk2 hsuper2
  have hlen : As.length = methM.sig.parameters.length := by
    have h2 := hnm.2.2
    rw [hsigM] at h2
    exact hn.trans (Option.some.inj h2).symm
  obtain ⟨vm₁, X₁, hstep₁⟩ := X.invokespecialUp hx ho (hts _ w1) (hts _ w2) hn' hmethM hstM habM hno hdk hnid hps hsuper hsub (a := b) (cell := cellB) (by rw [hT]; exact hcB)
    (fun z h => by rw [h] at hoB; cases hoB) hkB (g := g) hg (argsL := As) (rest := rest) hlen hstack (by rw [hb]; exact hdg)
  obtain ⟨v, ⟨U', l2, c2, s2⟩, X', ⟨g', mk2, t, L, e1, e2, hq, h1, hL, h2, h3⟩, hsteps⟩ := hK m meth c ⟨T.setVm vm₁, locs, cells, slots⟩ { g with stack := rest } (.invokespecial ix) mk (Value.ref b :: As).toArray X₁ hg (hsize.trans hml.symm) (by rw [hb]; exact hdg) hW (X₁.named hnamed) ⟨hf.1, hf.2, hPc (T.setVm vm₁) hT X₁.warmed⟩
  dsimp only [Pt.U, Pt.locs, Pt.cells, Pt.slots] at X' e1 e2 h1 h2 h3 hsteps
  subst h1; subst h2; subst h3
  exact ⟨v, (T.setVm vm₁).calling g' mk2 (Value.ref b :: As).toArray, t, U', L, hT, X', hL, e1, e2, hq, fun target h => hstep₁ _ (by rw [doInvoke_state]; exact hsteps.trans h)⟩
end AWSU
section AWD2
variable {E : EVt} {d d' : Nat} {M M' : MDt} {B : Nat × Nat × Nat} {cells slots pc q : Nat} {lv : List (Nat × Value)} {st : List Value} {h : AHt} {Q : Value → AHt → Prop}
theorem aw_callU {ix n ci a mc ms : Nat} {x : MethodName} {r : vw_C} {fs : List Value} {As rest : List Value} (hM : MLU M.1.cls ix x M' n) (hd : decode M.2.1 pc = .ok (.invokespecial ix, 3)) (ha : a < B.1 + cells) (hh : h a = .inr (ci, fs)) (hr : vwCl[ci]? = some r) (hdd : d' + 1 ≤ d) (hn : As.length = n) (hst : As.reverse ++ .ref (ev_z E + a) :: rest = st) (hrm : (rest.map fun v => v.category).sum ≤ 8) (hc : cells + mc ≤ B.2.1) (hs : slots + ms ≤ B.2.2) (hq : pc + 3 = q)
    (k : CT E d' M' (B.1 + cells, mc, ms) (.ref (ev_z E + a) :: As) h (fun v h' => AW E d M B (cells + mc) (slots + ms) q lv ((M'.2.2.2.map (fun _ => v)).toList ++ rest) h' Q)) : AW E d M B cells slots pc lv st h Q := by
  intro p e s m args below meth c H locs ls hC hK hP hz hS hl
  subst hq; subst hst
  refine aw_sz hz hP hS (fun hsz => ?_)
  have hrec := va_recv hK.1 hP hr (wl_get' ha hh)
  refine aw_run (aw_runSU (E := E) (As := As) (rest := rest) (hK.1.1 ci r hr).2 ⟨hC.1, hC.2.1, hC.2.2.1, hC.2.2.2.1, hC.2.2.2.2.1⟩ k hM hdd ⟨aw_blind, hrec, aw_preU hK hS hP hsz⟩ rfl hn hl.1 rfl (by show 2 * 0 + _ ≤ 8; omega) hd ⟨hc, hs⟩) hS (fun v h1 H1 locs1 hv hP1 hS1 => ?_)
  exact hv p e s m args below meth c H1 locs1 ls hC hK (by rw [show B.1 + (cells + mc) = (B.1 + cells) + mc from (Nat.add_assoc _ _ _).symm]; exact hP1) hz hS1 hl
/-- Math.max, Math.min -/
def i_max (x y : Int32) : Int32 := if x < y then y else x
def i_min (x y : Int32) : Int32 := if y < x then y else x
theorem aw_mmax {ix : Nat} {x y : Int32} (hM : Cond.methodLink M.1.cls ix Lib.Math.max.name ∈ gtbl ∧ Cond.static Lib.Math.max.name ∈ gtbl ∧ Cond.initialized "java/lang/Math" ∈ gtbl ∧ Cond.code Lib.Math.max.name Lib.Math.max.code 2 (some .int) ∈ gtbl) (hd : decode M.2.1 pc = .ok (.invokestatic ix, 3)) (hdd : 1 ≤ d) (hrm : (st.map fun v => v.category).sum ≤ 8) (hc : cells ≤ B.2.1) (hs : slots ≤ B.2.2) (hq : pc + 3 = q) (k : AW E d M B cells slots q lv (.int (i_max x y) :: st) h Q) : AW E d M B cells slots pc lv (.int y :: .int x :: st) h Q := by
  intro p e s m args below meth c H locs ls hC hK hP hz hS hl
  subst hq
  have hts := hC.2.2.2.2.1
  exact va_mmax hC.1 hC.2.1 (hC.2.2.1.trans hl.1.symm) hC.2.2.2.1 (hts _ hM.1) (hts _ hM.2.1) (hts _ hM.2.2.1) (hts _ hM.2.2.2) hdd (by show _ + 13 ≤ 36 * d + 4; omega) hc hs hd (k p e s m args below meth c H locs ls hC hK hP hz hS hl)
theorem aw_mmin {ix : Nat} {x y : Int32} (hM : Cond.methodLink M.1.cls ix Lib.Math.min.name ∈ gtbl ∧ Cond.static Lib.Math.min.name ∈ gtbl ∧ Cond.initialized "java/lang/Math" ∈ gtbl ∧ Cond.code Lib.Math.min.name Lib.Math.min.code 2 (some .int) ∈ gtbl) (hd : decode M.2.1 pc = .ok (.invokestatic ix, 3)) (hdd : 1 ≤ d) (hrm : (st.map fun v => v.category).sum ≤ 8) (hc : cells ≤ B.2.1) (hs : slots ≤ B.2.2) (hq : pc + 3 = q) (k : AW E d M B cells slots q lv (.int (i_min x y) :: st) h Q) : AW E d M B cells slots pc lv (.int y :: .int x :: st) h Q := by
  intro p e s m args below meth c H locs ls hC hK hP hz hS hl
  subst hq
  have hts := hC.2.2.2.2.1
  exact va_mmin hC.1 hC.2.1 (hC.2.2.1.trans hl.1.symm) hC.2.2.2.1 (hts _ hM.1) (hts _ hM.2.1) (hts _ hM.2.2.1) (hts _ hM.2.2.2) hdd (by show _ + 13 ≤ 36 * d + 4; omega) hc hs hd (k p e s m args below meth c H locs ls hC hK hP hz hS hl)
/-- System.arraycopy over two rows of longs -/
theorem aw_copyl {ix a0 a1 n0 n1 : Nat} {f g : Nat → Int64} {sp dp n : Int32} (hM : Cond.methodLink M.1.cls ix arraycopyName ∈ gtbl ∧ Cond.native arraycopyName ∈ gtbl ∧ Cond.static arraycopyName ∈ gtbl ∧ Cond.initialized "java/lang/System" ∈ gtbl) (hd : decode M.2.1 pc = .ok (.invokestatic ix, 3)) (ha0 : a0 < B.1 + cells) (hh0 : h a0 = aL (ev_cy E 1) n0 f) (ha1 : a1 < B.1 + cells) (hh1 : h a1 = aL (ev_cy E 1) n1 g) (h1 : ¬ sp < 0) (h2 : ¬ dp < 0) (h3 : ¬ n < 0) (h4 : sp.toNatClampNeg + n.toNatClampNeg ≤ n0) (h5 : dp.toNatClampNeg + n.toNatClampNeg ≤ n1) (hdd : 1 ≤ d) (hrm : (st.map fun v => v.category).sum + (nativeFrameWords "java/lang/System" "arraycopy" 5 + 11) ≤ 40) (hq : pc + 3 = q) (k : AW E d M B cells slots q lv st (va_up h a1 (aL (ev_cy E 1) n1 (va_cpy f g sp.toNatClampNeg dp.toNatClampNeg n.toNatClampNeg))) Q) : AW E d M B cells slots pc lv (.int n :: .int dp :: .ref (ev_z E + a1) :: .int sp :: .ref (ev_z E + a0) :: st) h Q := by
  intro p e s m args below meth c H locs ls hC hK hP hz hS hl
  subst hq
  have hts := hC.2.2.2.2.1
  refine va_copyl (D := ev_D E) (cl := vwCl) hC.1 hC.2.1 (hC.2.2.1.trans hl.1.symm) hC.2.2.2.1 (hts _ hM.1) (hts _ hM.2.1) (hts _ hM.2.2.1) (hts _ hM.2.2.2) hK.1 hP (wl_D _ _ _) hS a0 a1 1 1 (wl_get' ha0 hh0) (wl_get' ha1 hh1) rfl rfl rfl h1 h2 h3 h4 h5 (fun _ _ => rfl) hdd (by show _ ≤ 36 * d + 4; omega) hd (fun H1 locs1 hP1 hD1 hS1 => ?_)
  rw [wl_set ha1] at hP1
  exact k p e s m args below meth c H1 locs1 ls hC hK hP1 hz hS1 hl
theorem aw_bastore {a n : Nat} {f : Nat → Int32} {i x : Int32} (hd : decode M.2.1 pc = .ok (.bastore, 1)) (ha : a < B.1 + cells) (hh : h a = aI (ev_cy E 2) n f) (hi : vp_in i n) (hq : pc + 1 = q) (kk : AW E d M B cells slots q lv st (va_up h a (aI (ev_cy E 2) n (upd f i.toNatClampNeg (vp_nar .byte x)))) Q) : AW E d M B cells slots pc lv (.int x :: .int i :: .ref (ev_z E + a) :: st) h Q := by
  intro p e s m args below meth c H locs ls hC hK hP hz hS hl
  subst hq
  refine va_bast (D := ev_D E) (cl := vwCl) hC.1 hC.2.1 hK.1 hP (wl_D _ _ _) hS a 2 (wl_get' ha hh) rfl hi hd (fun H1 locs1 hP1 hD1 hS1 => ?_)
  rw [wl_set ha] at hP1
  exact kk p e s m args below meth c H1 locs1 ls hC hK hP1 hz hS1 hl
/-- String constants -/
theorem aw_ldcS {ix i : Nat} (hd : decode M.2.1 pc = .ok (.ldc ix, 2)) (hM : M.1.cls = RX9) (hi : i < 13) (hix : sk_ix.getD i 0 = ix) (hq : pc + 2 = q) (k : AW E d M B cells slots q lv (.ref (ev_K E i) :: st) h Q) : AW E d M B cells slots pc lv st h Q := by
  intro p e s m args below meth c H locs ls hC hK hP hz hS hl
  subst hq; subst hix
  obtain ⟨k1, k2, k3, k4, k5, k6, k7, k8, k9, k10⟩ := id hK
  exact va_ldcS (own := RX9) hC.1 hC.2.1 (by rw [← hM]; exact hC.2.2.2.1) (k4 i hi) hd (k p e s m args below meth c H locs ls hC hK hP hz hS hl)
theorem aw_getsI {ix : Nat} (hd : decode M.2.1 pc = .ok (.getstatic ix, 3)) (hw : Cond.fieldLink M.1.cls ix RJ0 "COMPACT_STRINGS" "Z" ∈ gtbl) (hq : pc + 3 = q) (k : AW E d M B cells slots q lv (.int 1 :: st) h Q) : AW E d M B cells slots pc lv st h Q := by
  intro p e s m args below meth c H locs ls hC hK hP hz hS hl
  subst hq
  obtain ⟨k1, k2, k3, k4, k5, k6, k7, k8, k9, k10⟩ := id hK
  exact va_gets hC.1 hC.2.1 k8 hS hC.2.2.2.1 (hC.2.2.2.2.1 _ hw) (fun _ h9 => h9) hd (k p e s m args below meth c H locs ls hC hK hP hz hS hl)
theorem aw_getsQ {ix : Nat} (hd : decode M.2.1 pc = .ok (.getstatic ix, 3)) (hw : Cond.fieldLink M.1.cls ix RJ3 "SIOOBE_FORMATTER" "Ljava/util/function/BiFunction;" ∈ gtbl) (hq : pc + 3 = q) (k : ∀ v : Value, (v = .null ∨ ∃ a, v = .ref a) → AW E d M B cells slots q lv (v :: st) h Q) : AW E d M B cells slots pc lv st h Q := by
  intro p e s m args below meth c H locs ls hC hK hP hz hS hl
  subst hq
  obtain ⟨k1, k2, k3, k4, k5, k6, k7, k8, k9, k10⟩ := id hK
  rcases k9 with k9 | ⟨t, k9⟩
  · exact va_gets hC.1 hC.2.1 k9 hS hC.2.2.2.1 (hC.2.2.2.2.1 _ hw) (fun _ h9 => h9) hd (k .null (Or.inl rfl) p e s m args below meth c H locs ls hC hK hP hz hS hl)
  · exact va_gets hC.1 hC.2.1 k9 hS hC.2.2.2.1 (hC.2.2.2.2.1 _ hw) (fun _ h9 => h9) hd (k (.ref t) (Or.inr ⟨t, rfl⟩) p e s m args below meth c H locs ls hC hK hP hz hS hl)
theorem aw_skcoder {ix i : Nat} (hd : decode M.2.1 pc = .ok (.getfield ix, 3)) (hw : Cond.fieldLink M.1.cls ix RJ0 "coder" "B" ∈ gtbl) (hi : i < 13) (hq : pc + 3 = q) (k : AW E d M B cells slots q lv (.int 0 :: st) h Q) : AW E d M B cells slots pc lv (.ref (ev_K E i) :: st) h Q := by
  intro p e s m args below meth c H locs ls hC hK hP hz hS hl
  subst hq
  obtain ⟨k1, k2, k3, k4, k5, k6, k7, k8, k9, k10⟩ := id hK
  exact vk_getf hC.1 hC.2.1 (k7.1 i hi).2.1 hS hC.2.2.2.1 (hC.2.2.2.2.1 _ hw) (fun _ h9 => h9) hd (k p e s m args below meth c H locs ls hC hK hP hz hS hl)
theorem aw_skvalue {ix i : Nat} (hd : decode M.2.1 pc = .ok (.getfield ix, 3)) (hw : Cond.fieldLink M.1.cls ix RJ0 "value" "[B" ∈ gtbl) (hi : i < 13) (hq : pc + 3 = q) (k : AW E d M B cells slots q lv (.ref (ev_V E i) :: st) h Q) : AW E d M B cells slots pc lv (.ref (ev_K E i) :: st) h Q := by
  intro p e s m args below meth c H locs ls hC hK hP hz hS hl
  subst hq
  obtain ⟨k1, k2, k3, k4, k5, k6, k7, k8, k9, k10⟩ := id hK
  exact vk_getf hC.1 hC.2.1 (k7.1 i hi).2.2.1 hS hC.2.2.2.1 (hC.2.2.2.2.1 _ hw) (fun _ h9 => h9) hd (k p e s m args below meth c H locs ls hC hK hP hz hS hl)
theorem aw_sklen {i : Nat} (hd : decode M.2.1 pc = .ok (.arraylength, 1)) (hi : i < 13) (hq : pc + 1 = q) (k : AW E d M B cells slots q lv (.int (Int32.ofNat (sk_ln.getD i 0)) :: st) h Q) : AW E d M B cells slots pc lv (.ref (ev_V E i) :: st) h Q := by
  intro p e s m args below meth c H locs ls hC hK hP hz hS hl
  subst hq
  obtain ⟨k1, k2, k3, k4, k5, k6, k7, k8, k9, k10⟩ := id hK
  exact va_tlen hC.1 hC.2.1 (k7.1 i hi).2.2.2 hS rfl hd (k p e s m args below meth c H locs ls hC hK hP hz hS hl)
theorem aw_skbyte {i : Nat} {j : Int32} (hd : decode M.2.1 pc = .ok (.baload, 1)) (hi : i < 13) (hj : vp_in j (sk_ln.getD i 0)) (hq : pc + 1 = q) (k : AW E d M B cells slots q lv (.int ((sk_by.getD i []).getD j.toNatClampNeg 0) :: st) h Q) : AW E d M B cells slots pc lv (.int j :: .ref (ev_V E i) :: st) h Q := by
  intro p e s m args below meth c H locs ls hC hK hP hz hS hl
  subst hq
  obtain ⟨k1, k2, k3, k4, k5, k6, k7, k8, k9, k10⟩ := id hK
  exact va_tb hC.1 hC.2.1 (k7.1 i hi).2.2.2 hS hj rfl hd (k p e s m args below meth c H locs ls hC hK hP hz hS hl)
/-- a call of a String constant's own method -/
theorem aw_callK {ix n i : Nat} {As rest : List Value} (hM : MLV M.1.cls ix M' n) (hcl : M'.1.cls = RJ0) (hd : decode M.2.1 pc = .ok (.invokevirtual ix, 3)) (hi : i < 13) (hdd : d' + 1 ≤ d) (hn : As.length = n) (hst : As.reverse ++ .ref (ev_K E i) :: rest = st) (hrm : (rest.map fun v => v.category).sum ≤ 8) (hc : cells ≤ B.2.1) (hs : slots ≤ B.2.2) (hq : pc + 3 = q)
    (k : CT E d' M' (B.1 + cells, 0, 0) (.ref (ev_K E i) :: As) h (fun v h' => AW E d M B cells slots q lv ((M'.2.2.2.map (fun _ => v)).toList ++ rest) h' Q)) : AW E d M B cells slots pc lv st h Q := by
  intro p e s m args below meth c H locs ls hC hK hP hz hS hl
  subst hq; subst hst
  refine aw_sz hz hP hS (fun hsz => ?_)
  obtain ⟨k1, k2, k3, k4, k5, k6, k7, k8, k9, k10⟩ := id hK
  have cw : CallW (rmOf d B.2.1 B.2.2) s args M.1.cls M'.1.cls ix M'.1 M'.2.1 M'.2.2.1 M'.2.2.2 (wsOf M') (rmOf d' 0 0) 0 0 n := cwV n hC.2.2.2.2.1 hM.good rfl rfl rfl ⟨rfl, hM.2.1⟩ (rOK.to ⟨hdd, hM.2.2⟩)
  have hrec := vk_recv k7 hi hS
  have hcl2 : M'.1.cls = "java/lang/String" := hcl
  rw [← hcl2] at hrec
  refine aw_run (va_runV (As := As) (rest := rest) ⟨hC.1, hC.2.1, hC.2.2.1, hC.2.2.2.1, hC.2.2.2.2.1⟩ k cw ⟨aw_blind, hrec, aw_preU hK hS hP hsz⟩ rfl hn hl.1 rfl (by show 2 * 0 + _ ≤ 8; omega) hd ⟨hc, hs⟩) hS (fun v h1 H1 locs1 hv hP1 hS1 => ?_)
  exact hv p e s m args below meth c H1 locs1 ls hC hK hP1 hz hS1 hl
/-- making: an object, a row of numbers, a row of references -/
theorem aw_new {ix ci : Nat} {C : String} {T : u_T} {N : Nat} {ty : Nat → FieldType} {fs : List Value} (hd : decode M.2.1 pc = .ok (.new ix, 3)) (hci : CKp ci C T N ty) (hw : Cond.classLink M.1.cls ix C ∈ gtbl ∧ Cond.instantiable C N ∈ gtbl ∧ Cond.initialized C ∈ gtbl) (hfs : ∀ j, j < N → defaultValue (ty j) = vp_V fs j) (hc : cells + 1 ≤ B.2.1) (hs : slots + N ≤ B.2.2) (hq : pc + 3 = q)
    (k : AW E d M B (cells + 1) (slots + N) q lv (.ref (ev_z E + (B.1 + cells)) :: st) (va_up h (B.1 + cells) (.inr (ci, fs))) Q) : AW E d M B cells slots pc lv st h Q := by
  intro p e s m args below meth c H locs ls hC hK hP hz hS hl
  subst hq
  refine aw_sz hz hP hS (fun hsz => ?_)
  have hts := hC.2.2.2.2.1
  obtain ⟨c1, c2, c3, c4⟩ := hci
  have hKn := hK.1.1 ci _ c1
  refine W.newcK hC.1 hC.2.1 hC.2.2.2.1 (hts _ hw.1) (hts _ hw.2.1) (hts _ hw.2.2) rfl hd hc hs hKn.2.1 rfl fun H1 kC hkC e1 z1 o1 => ?_
  have hkp : ∀ (k : Nat) (x : Nat × va_E), (wl (ev_z E) (B.1 + cells) h)[k]? = some x → H1[x.1]? = H[x.1]? := fun k x hx => o1 x.1 ((hP k x hx).lt)
  have hP1 : va_P (ev_D E) vwCl (wl (ev_z E) (B.1 + cells) h ++ [(ev_z E + (B.1 + cells), .inr (ci, fs))]) H1 := (hP.kept hkp).app (fun k x hx => by
    have hz : k < 1 := (List.getElem?_eq_some_iff.mp hx).1
    rw [show k = 0 by omega] at hx
    cases hx
    rw [hsz] at e1
    exact ⟨_, c1, (u_born ty hts c2 hKn hkC e1 c3).to hfs⟩)
  rw [wl_push] at hP1
  have hS1 : va_S (aw_A E) s.heap H1 locs := ⟨Nat.le_trans hS.1 (by omega), fun x h1 h2 => (o1 x (Nat.lt_of_lt_of_le h1 hS.1)).trans (hS.2.1 x h1 h2), hS.2.2⟩
  have := k p e s m args below meth c H1 locs ls hC hK hP1 hz hS1 hl
  rw [hsz]
  exact this
theorem aw_newa {atype : ArrayType} {t : Nat} {ty : FieldType} {n : Int32} {N' : Nat} {a0 : vp_A} (hd : decode M.2.1 pc = .ok (.newarray atype, 2)) (hty : newarray.typeOf atype = ty) (ht : (tysOf (ev_cy E))[t]? = some (ev_cy E t, ty)) (hob : ∀ C, ty ≠ .object C) (hw : Cond.arrayClass ty ∈ gtbl) (ha : ∀ cA : ClassId, vp_cell cA a0 = arrV cA N' (fun _ => defaultValue ty)) (hn : ¬ n < 0) (hN : n.toNatClampNeg = N') (hbytes : N' * componentBytes ty ≤ 536870912) (hc : cells + 1 ≤ B.2.1) (hs : slots + N' ≤ B.2.2) (hq : pc + 2 = q)
    (k : AW E d M B (cells + 1) (slots + N') q lv (.ref (ev_z E + (B.1 + cells)) :: st) (va_up h (B.1 + cells) (.inl (ev_cy E t, a0))) Q) : AW E d M B cells slots pc lv (.int n :: st) h Q := by
  intro p e s m args below meth c H locs ls hC hK hP hz hS hl
  subst hq; subst hty
  refine aw_sz hz hP hS (fun hsz => ?_)
  have hts := hC.2.2.2.2.1
  refine va_newaK hC.1 hC.2.1 (hts _ hw) rfl hd rfl hn hN hbytes hc hs hsz fun H1 cA e1 z1 o1 hAr hNm => ?_
  have hcA : cA = ev_cy E t := by
    have h1 := (hK.1.2 t _ ht).2
    have h2 : s.vm.findClass ("[" ++ (newarray.typeOf atype).toString) = some (ev_cy E t) := by
      cases atype <;> exact h1
    exact Option.some.inj (hNm.symm.trans h2)
  subst hcA
  have hkp : ∀ (k : Nat) (x : Nat × va_E), (wl (ev_z E) (B.1 + cells) h)[k]? = some x → H1[x.1]? = H[x.1]? := fun k x hx => o1 x.1 (by have := (hP k x hx).lt; omega)
  have hP1 : va_P (ev_D E) vwCl (wl (ev_z E) (B.1 + cells) h ++ [(ev_z E + (B.1 + cells), .inl (ev_cy E t, a0))]) H1 := (hP.kept hkp).app (fun k x hx => by
    have hz : k < 1 := (List.getElem?_eq_some_iff.mp hx).1
    rw [show k = 0 by omega] at hx
    cases hx
    show H1[_]? = some (vp_cell _ _)
    rw [ha]
    exact e1)
  rw [wl_push] at hP1
  have hS1 : va_S (aw_A E) s.heap H1 locs := ⟨Nat.le_trans hS.1 (by omega), fun x h1 h2 => (o1 x (by have := hS.1; omega)).trans (hS.2.1 x h1 h2), hS.2.2⟩
  exact k p e s m args below meth c H1 locs ls hC hK hP1 hz hS1 hl
end AWD2
