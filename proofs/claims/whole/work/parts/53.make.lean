/-! making: rows of references, and steps whose heap is named anew -/
def cEq (e e' : va_E) : Prop := e = e' ∨ ∃ (cA : ClassId) (n : Nat) (f f' : Nat → Option Nat), e = aR cA n f ∧ e' = aR cA n f' ∧ ∀ i, i < n → f i = f' i
theorem cEq.rf {e : va_E} : cEq e e := Or.inl rfl
theorem arrV_cong {cA : ClassId} {n : Nat} {f g : Nat → Value} (h : ∀ j, j < n → f j = g j) : arrV cA n f = arrV cA n g := by
  have e : (fun j : Fin n => f j.val) = (fun j : Fin n => g j.val) := funext fun j => h j.1 j.2
  unfold arrV
  rw [e]
section MK
variable {E : EVt} {d : Nat} {M : MDt} {B : Nat × Nat × Nat} {cells slots pc q : Nat} {lv : List (Nat × Value)} {st : List Value} {h h' : AHt} {Q : Value → AHt → Prop}
theorem AW_cong (hc : ∀ k, k < B.1 + cells → cEq (h k) (h' k)) (k : AW E d M B cells slots pc lv st h' Q) : AW E d M B cells slots pc lv st h Q := by
  intro p e s m args below meth c H locs ls hC hK hP hz hS hl
  refine k p e s m args below meth c H locs ls hC hK ?_ hz hS hl
  intro j x hx
  obtain ⟨hj, rfl⟩ := wl_of hx
  have t := hP j _ (wl_get hj)
  rcases hc j hj with e | ⟨cA, n, f, f', e1, e2, e3⟩
  · rw [← e]
    exact t
  · rw [e1] at t
    rw [e2]
    have t1 : H[ev_z E + j]? = some (vp_cell cA (n, .inr (.inr (.inr (.inr f))))) := t
    show H[ev_z E + j]? = some (vp_cell cA (n, .inr (.inr (.inr (.inr f')))))
    rw [t1, vp_cell_q, vp_cell_q, arrV_cong (fun i hi => by rw [e3 i hi])]
theorem AW_lv {lv' : List (Nat × Value)} (e : lv' = lv) (k : AW E d M B cells slots pc lv' st h Q) : AW E d M B cells slots pc lv st h Q := e ▸ k
theorem aw_anew {ix t : Nat} {C : String} {n : Int32} {N' : Nat} (hd : decode M.2.1 pc = .ok (.anewarray ix, 3)) (ht : (tysOf (ev_cy E))[t]? = some (ev_cy E t, .object C)) (hC0 : C ∈ [RX4, RX2, RX5, RX6]) (hw : Cond.classLink M.1.cls ix C ∈ gtbl) (hn : ¬ n < 0) (hN : n.toNatClampNeg = N') (hbytes : N' * 4 ≤ 536870912) (hc : cells + 1 ≤ B.2.1) (hs : slots + N' ≤ B.2.2) (hq : pc + 3 = q)
    (k : AW E d M B (cells + 1) (slots + N') q lv (.ref (ev_z E + (B.1 + cells)) :: st) (va_up h (B.1 + cells) (aR (ev_cy E t) N' (fun _ => none))) Q) : AW E d M B cells slots pc lv (.int n :: st) h Q := by
  intro p e s m args below meth c H locs ls hC hK hP hz hS hl
  subst hq; subst hN
  refine aw_sz hz hP hS (fun hsz => ?_)
  have hts := hC.2.2.2.2.1
  refine W.anew hC.1 hC.2.1 hC.2.2.2.1 (hts _ hw) (va_AO.use (hK.2.2.1 C hC0)) rfl hd rfl hn hbytes hc hs fun cA kA comp f1 f2 f3 f4 => ?_
  have hcA : cA = ev_cy E t := by
    obtain ⟨kA', comp', g1, g2, g3, g4⟩ := (hK.1.2 t _ ht).2
    exact Option.some.inj (f1.symm.trans g4)
  subst hcA
  generalize hH1 : H.push ({ cls := ev_cy E t, slots := Array.replicate n.toNatClampNeg .null, vm := .none } : Cell) = H1
  have z1 : H1.size = H.size + 1 := by rw [← hH1, Array.size_push]
  have e1 : H1[H.size]? = some (arrV (ev_cy E t) n.toNatClampNeg (fun _ => .null)) := by rw [← hH1, Array.getElem?_push_size, ← arrV_new]
  have o1 : ∀ q : Nat, q < H.size → H1[q]? = H[q]? := fun q hq => by rw [← hH1, Array.getElem?_push, if_neg (Nat.ne_of_lt hq)]
  have hkp : ∀ (k : Nat) (x : Nat × va_E), (wl (ev_z E) (B.1 + cells) h)[k]? = some x → H1[x.1]? = H[x.1]? := fun k x hx => o1 x.1 ((hP k x hx).lt)
  have hP1 : va_P (ev_D E) vwCl (wl (ev_z E) (B.1 + cells) h ++ [(ev_z E + (B.1 + cells), aR (ev_cy E t) n.toNatClampNeg (fun _ => none))]) H1 := (hP.kept hkp).app (fun k x hx => by
    have hz : k < 1 := (List.getElem?_eq_some_iff.mp hx).1
    rw [show k = 0 by omega] at hx
    cases hx
    show H1[_]? = some (vp_cell _ _)
    rw [vp_cell_q, ← hsz]
    exact e1)
  rw [wl_push] at hP1
  have hS1 : va_S (aw_A E) s.heap H1 locs := ⟨Nat.le_trans hS.1 (by omega), fun x h1 h2 => (o1 x (Nat.lt_of_lt_of_le h1 hS.1)).trans (hS.2.1 x h1 h2), hS.2.2⟩
  have := k p e s m args below meth c H1 locs ls hC hK hP1 hz hS1 hl
  rw [hsz]
  exact this
theorem aw_aast {a n t v ci : Nat} {r : vw_C} {vs : List Value} {cA : ClassId} {f : Nat → Option Nat} {i : Int32} (ht : (tysOf (ev_cy E))[t]? = some (cA, .object r.1)) (hd : decode M.2.1 pc = .ok (.aastore, 1)) (ha : a < B.1 + cells) (hh : h a = aR cA n f) (hv : v < B.1 + cells) (hhv : h v = .inr (ci, vs)) (hcl : vwCl[ci]? = some r) (hi : vp_in i n) (hq : pc + 1 = q)
    (kk : AW E d M B cells slots q lv st (va_up h a (aR cA n (va_up f i.toNatClampNeg (some (ev_z E + v))))) Q) : AW E d M B cells slots pc lv (.ref (ev_z E + v) :: .int i :: .ref (ev_z E + a) :: st) h Q := by
  intro p e s m args below meth c H locs ls hC hK hP hz hS hl
  subst hq
  refine va_astq (D := ev_D E) (cl := vwCl) hC.1 hC.2.1 hK.1 hP (wl_D _ _ _) hS a t v ci (wl_get' ha hh) ht (wl_get' hv hhv) hcl hi hd (fun H1 locs1 hP1 hD1 hS1 => ?_)
  rw [wl_set ha] at hP1
  exact kk p e s m args below meth c H1 locs1 ls hC hK hP1 hz hS1 hl
theorem aw_aastO {a n t v ci : Nat} {C : String} {r : vw_C} {vs : List Value} {cA : ClassId} {f : Nat → Option Nat} {i : Int32} (ht : (tysOf (ev_cy E))[t]? = some (cA, .object C)) (hcs : Cond.castable r.1 C ∈ nw_tbl) (hd : decode M.2.1 pc = .ok (.aastore, 1)) (ha : a < B.1 + cells) (hh : h a = aR cA n f) (hv : v < B.1 + cells) (hhv : h v = .inr (ci, vs)) (hcl : vwCl[ci]? = some r) (hi : vp_in i n) (hq : pc + 1 = q)
    (kk : AW E d M B cells slots q lv st (va_up h a (aR cA n (va_up f i.toNatClampNeg (some (ev_z E + v))))) Q) : AW E d M B cells slots pc lv (.ref (ev_z E + v) :: .int i :: .ref (ev_z E + a) :: st) h Q := by
  intro p e s m args below meth c H locs ls hC hK hP hz hS hl
  subst hq
  refine va_astqO (D := ev_D E) (cl := vwCl) (E := C) hC.1 hC.2.1 hK.1 hP (wl_D _ _ _) hS a t v ci (wl_get' ha hh) ht (hK.2.1 _ hcs) (wl_get' hv hhv) hcl hi hd (fun H1 locs1 hP1 hD1 hS1 => ?_)
  rw [wl_set ha] at hP1
  exact kk p e s m args below meth c H1 locs1 ls hC hK hP1 hz hS1 hl
/-- the same, the heap behind it named anew -/
def NH (h : AHt) (a : Nat) (e : va_E) (K : AHt → Prop) : Prop := ∀ h', h' a = e → (∀ j, j ≠ a → h' j = h j) → K h'
theorem NH.use {a : Nat} {e : va_E} {K : AHt → Prop} (k : NH h a e K) : K (va_up h a e) := k _ (va_up_self _ _ _) (fun _ hj => va_up_ne _ _ hj)
theorem an_put {ix ci k a : Nat} {ft : FieldType} {fs : List Value} {v : Value} (hF : FP M.1.cls ix ci k ft) (hd : decode M.2.1 pc = .ok (.putfield ix, 3)) (ha : a < B.1 + cells) (hh : h a = .inr (ci, fs)) (hk2 : k < fs.length) (hn : narrow ft v = v) (hf : fits ft v = true) (hq : pc + 3 = q) (kk : NH h a (.inr (ci, fs.set k v)) (fun h' => AW E d M B cells slots q lv st h' Q)) : AW E d M B cells slots pc lv (v :: .ref (ev_z E + a) :: st) h Q := aw_putfield hF hd ha hh hk2 hn hf hq kk.use
theorem an_putF {ix ci k a : Nat} {ft : FieldType} {fs : List Value} {v : Value} (hF : FF M.1.cls ix ci k ft) (hin : M.1.name = "<init>") (hd : decode M.2.1 pc = .ok (.putfield ix, 3)) (ha : a < B.1 + cells) (hh : h a = .inr (ci, fs)) (hk2 : k < fs.length) (hn : narrow ft v = v) (hf : fits ft v = true) (hq : pc + 3 = q) (kk : NH h a (.inr (ci, fs.set k v)) (fun h' => AW E d M B cells slots q lv st h' Q)) : AW E d M B cells slots pc lv (v :: .ref (ev_z E + a) :: st) h Q := aw_putfieldF hF hin hd ha hh hk2 hn hf hq kk.use
theorem an_new {a ix ci : Nat} {C : String} {T : u_T} {N : Nat} {ty : Nat → FieldType} {fs : List Value} (hd : decode M.2.1 pc = .ok (.new ix, 3)) (hci : CKp ci C T N ty) (hw : Cond.classLink M.1.cls ix C ∈ gtbl ∧ Cond.instantiable C N ∈ gtbl ∧ Cond.initialized C ∈ gtbl) (hfs : ∀ j, j < N → defaultValue (ty j) = vp_V fs j) (hc : cells + 1 ≤ B.2.1) (hs : slots + N ≤ B.2.2) (hq : pc + 3 = q) (ha : B.1 + cells = a)
    (k : NH h a (.inr (ci, fs)) (fun h' => AW E d M B (cells + 1) (slots + N) q lv (.ref (ev_z E + a) :: st) h' Q)) : AW E d M B cells slots pc lv st h Q := by
  subst ha
  exact aw_new hd hci hw hfs hc hs hq k.use
theorem an_newa {a : Nat} {atype : ArrayType} {t : Nat} {ty : FieldType} {n : Int32} {N' : Nat} {a0 : vp_A} (hd : decode M.2.1 pc = .ok (.newarray atype, 2)) (hty : newarray.typeOf atype = ty) (ht : (tysOf (ev_cy E))[t]? = some (ev_cy E t, ty)) (hob : ∀ C, ty ≠ .object C) (hw : Cond.arrayClass ty ∈ gtbl) (haa : ∀ cA : ClassId, vp_cell cA a0 = arrV cA N' (fun _ => defaultValue ty)) (hn : ¬ n < 0) (hN : n.toNatClampNeg = N') (hbytes : N' * componentBytes ty ≤ 536870912) (hc : cells + 1 ≤ B.2.1) (hs : slots + N' ≤ B.2.2) (hq : pc + 2 = q) (ha : B.1 + cells = a)
    (k : NH h a (.inl (ev_cy E t, a0)) (fun h' => AW E d M B (cells + 1) (slots + N') q lv (.ref (ev_z E + a) :: st) h' Q)) : AW E d M B cells slots pc lv (.int n :: st) h Q := by
  subst ha
  exact aw_newa hd hty ht hob hw haa hn hN hbytes hc hs hq k.use
theorem an_anew {a ix t : Nat} {C : String} {n : Int32} {N' : Nat} (hd : decode M.2.1 pc = .ok (.anewarray ix, 3)) (ht : (tysOf (ev_cy E))[t]? = some (ev_cy E t, .object C)) (hC0 : C ∈ [RX4, RX2, RX5, RX6]) (hw : Cond.classLink M.1.cls ix C ∈ gtbl) (hn : ¬ n < 0) (hN : n.toNatClampNeg = N') (hbytes : N' * 4 ≤ 536870912) (hc : cells + 1 ≤ B.2.1) (hs : slots + N' ≤ B.2.2) (hq : pc + 3 = q) (ha : B.1 + cells = a)
    (k : NH h a (aR (ev_cy E t) N' (fun _ => none)) (fun h' => AW E d M B (cells + 1) (slots + N') q lv (.ref (ev_z E + a) :: st) h' Q)) : AW E d M B cells slots pc lv (.int n :: st) h Q := by
  subst ha
  exact aw_anew hd ht hC0 hw hn hN hbytes hc hs hq k.use
theorem an_aast {a n t v ci : Nat} {r : vw_C} {vs : List Value} {cA : ClassId} {f : Nat → Option Nat} {i : Int32} (ht : (tysOf (ev_cy E))[t]? = some (cA, .object r.1)) (hd : decode M.2.1 pc = .ok (.aastore, 1)) (ha : a < B.1 + cells) (hh : h a = aR cA n f) (hv : v < B.1 + cells) (hhv : h v = .inr (ci, vs)) (hcl : vwCl[ci]? = some r) (hi : vp_in i n) (hq : pc + 1 = q)
    (kk : NH h a (aR cA n (va_up f i.toNatClampNeg (some (ev_z E + v)))) (fun h' => AW E d M B cells slots q lv st h' Q)) : AW E d M B cells slots pc lv (.ref (ev_z E + v) :: .int i :: .ref (ev_z E + a) :: st) h Q := aw_aast ht hd ha hh hv hhv hcl hi hq kk.use
theorem an_aastO {a n t v ci : Nat} {C : String} {r : vw_C} {vs : List Value} {cA : ClassId} {f : Nat → Option Nat} {i : Int32} (ht : (tysOf (ev_cy E))[t]? = some (cA, .object C)) (hcs : Cond.castable r.1 C ∈ nw_tbl) (hd : decode M.2.1 pc = .ok (.aastore, 1)) (ha : a < B.1 + cells) (hh : h a = aR cA n f) (hv : v < B.1 + cells) (hhv : h v = .inr (ci, vs)) (hcl : vwCl[ci]? = some r) (hi : vp_in i n) (hq : pc + 1 = q)
    (kk : NH h a (aR cA n (va_up f i.toNatClampNeg (some (ev_z E + v)))) (fun h' => AW E d M B cells slots q lv st h' Q)) : AW E d M B cells slots pc lv (.ref (ev_z E + v) :: .int i :: .ref (ev_z E + a) :: st) h Q := aw_aastO ht hcs hd ha hh hv hhv hcl hi hq kk.use
theorem an_iast {a n : Nat} {f : Nat → Int32} {i x : Int32} (hd : decode M.2.1 pc = .ok (.iastore, 1)) (ha : a < B.1 + cells) (hh : h a = aI (ev_cy E 0) n f) (hi : vp_in i n) (hq : pc + 1 = q) (kk : NH h a (aI (ev_cy E 0) n (upd f i.toNatClampNeg x)) (fun h' => AW E d M B cells slots q lv st h' Q)) : AW E d M B cells slots pc lv (.int x :: .int i :: .ref (ev_z E + a) :: st) h Q := aw_iastore hd ha hh hi hq kk.use
end MK
