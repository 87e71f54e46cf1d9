/-! the abstract walk: AW (a walk at a pc over an abstract heap) and CT (a method's contract), both over the kit's W and Met -/
abbrev AHt : Type := Nat → va_E
abbrev MDt : Type := MethodName × ByteArray × Nat × Option FieldType
abbrev EVt : Type := Launch × va_G × (Nat → ClassId) × Nat × (Nat → Nat) × (Nat → Nat) × Nat × Nat × (Nat → Int32)
def ev_l (E : EVt) : Launch := E.1
def ev_D (E : EVt) : va_G := E.2.1
def ev_cy (E : EVt) : Nat → ClassId := E.2.2.1
def ev_z (E : EVt) : Nat := E.2.2.2.1
def ev_K (E : EVt) : Nat → Nat := E.2.2.2.2.1
def ev_V (E : EVt) : Nat → Nat := E.2.2.2.2.2.1
def ev_b (E : EVt) : Nat := E.2.2.2.2.2.2.1
def ev_L (E : EVt) : Nat := E.2.2.2.2.2.2.2.1
def ev_x (E : EVt) : Nat → Int32 := E.2.2.2.2.2.2.2.2
def gtbl : List Cond := lw_tbl.filter goodWord
theorem gt_in {w : Cond} {i : Nat} (h : tables_1[i]? = some w) (hg : goodWord w = true) : w ∈ gtbl :=
  List.mem_filter.mpr ⟨List.mem_append_right _ (List.mem_of_getElem? h), hg⟩
theorem gt_sel {q : MethodName × Nat} {w : Cond} (h : w ∈ k2_sels lw_privs) (hg : goodWord w = true) : w ∈ gtbl :=
  List.mem_filter.mpr ⟨List.mem_append_left _ h, hg⟩
theorem gt_good : GoodIn gtbl gtbl := fun w hw => ⟨hw, good_of_word (List.mem_filter.mp hw).2⟩
def wsOf (M : MDt) : List Cond := Cond.code M.1 M.2.1 M.2.2.1 M.2.2.2 :: gtbl
theorem wsOf_good {M : MDt} (h : Cond.code M.1 M.2.1 M.2.2.1 M.2.2.2 ∈ gtbl) : GoodIn gtbl (wsOf M) := by
  intro w hw
  rcases List.mem_cons.mp hw with rfl | hw
  · exact gt_good _ h
  · exact gt_good w hw
def tysOf (cy : Nat → ClassId) : List (ClassId × FieldType) := [(cy 0, .int), (cy 1, .long), (cy 2, .byte), (cy 3, .object RX4), (cy 4, .object RX2), (cy 5, .object RX5), (cy 6, .object RX6)]
def wl (z n : Nat) (h : AHt) : va_W := (List.range n).map (fun k => (z + k, h k))
theorem wl_get {z n k : Nat} {h : AHt} (hk : k < n) : (wl z n h)[k]? = some (z + k, h k) := by
  simp [wl, hk]
theorem wl_get' {z n k : Nat} {h : AHt} {e : va_E} (hk : k < n) (he : h k = e) : (wl z n h)[k]? = some (z + k, e) := by
  rw [wl_get hk, he]
theorem wl_of {z n k : Nat} {h : AHt} {q : Nat × va_E} (hq : (wl z n h)[k]? = some q) : k < n ∧ q = (z + k, h k) := by
  have hk : k < n := by
    have := (List.getElem?_eq_some_iff.mp hq).1
    simpa [wl] using this
  rw [wl_get hk] at hq
  exact ⟨hk, (Option.some.inj hq).symm⟩
theorem wl_set {z n k : Nat} {h : AHt} {e : va_E} (hk : k < n) : (wl z n h).set k (z + k, e) = wl z n (va_up h k e) := by
  apply List.ext_getElem?
  intro i
  rw [List.getElem?_set]
  by_cases hi : i < n
  · rw [wl_get hi, wl_get hi]
    by_cases hik : k = i
    · subst hik
      simp [wl, hk, va_up]
    · simp [hik, va_up, Ne.symm hik]
  · have e1 : (wl z n h)[i]? = none := by simp [wl]; omega
    have e2 : (wl z n (va_up h k e))[i]? = none := by simp [wl]; omega
    rw [e1, e2, if_neg (by omega)]
theorem wl_push {z n : Nat} {h : AHt} {e : va_E} : wl z n h ++ [(z + n, e)] = wl z (n + 1) (va_up h n e) := by
  apply List.ext_getElem?
  intro i
  have hl : (wl z n h).length = n := by simp [wl]
  rcases Nat.lt_trichotomy i n with hi | hi | hi
  · rw [List.getElem?_append_left (by omega), wl_get hi, wl_get (by omega)]
    simp [va_up, Nat.ne_of_lt hi]
  · subst hi
    rw [List.getElem?_append_right (by omega), wl_get (by omega), hl]
    simp [va_up]
  · have e2 : (wl z (n + 1) (va_up h n e))[i]? = none := by simp [wl]; omega
    rw [e2, List.getElem?_append_right (by omega), hl]
    rw [List.getElem?_eq_none]
    simp
    omega
theorem wl_D (z n : Nat) (h : AHt) : va_D (fun q => z ≤ q) (wl z n h) := by
  refine ⟨fun i j p q hp hq e => ?_, fun k q hq => ?_⟩
  · obtain ⟨-, rfl⟩ := wl_of hp
    obtain ⟨-, rfl⟩ := wl_of hq
    have e : z + i = z + j := e
    omega
  · obtain ⟨-, rfl⟩ := wl_of hq
    exact Nat.le_add_right z k
/-- the words that are not tables' words of the steady sort: nest mates, declared, castable -/
def nw_tbl : List Cond := [.methodLinkNest RX0 30 yX5_init RX11, .methodLinkNest RX11 41 yX9_init RX11, .methodLinkNest RX11 52 yX6_init RX11, .methodLinkNest RX2 69 yX11_within RX11, .methodLinkNest RX9 136 yX11_within RX11, .declares yX4_felts, .declares yX4_keeps, .castable RX10 RX4, .castable RX1 RX4, .castable RX7 RX4, .castable RX3 RX4, .castable RX8 RX4]
/-- the String constants of the Tape: pool entry and text -/
def sk_ix : List Nat := [77, 79, 81, 83, 85, 87, 89, 109, 52, 61, 66, 71, 75]
def sk_tx : List String := ["garment", "wool", "cotton", "silk", "jumper", "sock", "size", "thick", "person", "degrees", "wash", "towels", "none"]
def sk_by : List (List Int32) := [[103, 97, 114, 109, 101, 110, 116], [119, 111, 111, 108], [99, 111, 116, 116, 111, 110], [115, 105, 108, 107], [106, 117, 109, 112, 101, 114], [115, 111, 99, 107], [115, 105, 122, 101], [116, 104, 105, 99, 107], [112, 101, 114, 115, 111, 110], [100, 101, 103, 114, 101, 101, 115], [119, 97, 115, 104], [116, 111, 119, 101, 108, 115], [110, 111, 110, 101]]
def sk_ln : List Nat := [7, 4, 6, 4, 6, 4, 4, 5, 6, 7, 4, 6, 4]
def aw_A (E : EVt) : Nat → Prop := fun q => ev_z E ≤ q
/-- what holds of the tables and of the old cells, at any state of the run -/
def aw_K (E : EVt) (U : State) : Prop :=
  va_K (ev_D E) vwCl (tysOf (ev_cy E)) U ∧ (∀ w ∈ nw_tbl, va_Nw w U) ∧ (∀ C ∈ [RX4, RX2, RX5, RX6], va_AO C U) ∧ (∀ i : Nat, i < 13 → vk_R RX9 (sk_ix.getD i 0) (sk_tx.getD i "") (ev_K E i) U) ∧ ev_b E < ev_z E ∧ ev_z E ≤ U.heap.size ∧
  vk_S 13 sk_ln sk_by (ev_K E) (ev_V E) (aw_A E) U U.heap ∧ va_Z RJ0 "COMPACT_STRINGS" "Z" (.int 1) (aw_A E) U U.heap ∧ va_Zq RJ3 "SIOOBE_FORMATTER" "Ljava/util/function/BiFunction;" (aw_A E) U U.heap ∧ va_X (ev_b E) (ev_L E) (ev_x E) U U.heap
theorem nw_warm {s U : State} (hW : s.WarmedH U.vm) : ∀ w ∈ nw_tbl, va_Nw w s → va_Nw w U := by
  intro w hw h
  simp only [nw_tbl, List.mem_cons, List.not_mem_nil, or_false] at hw
  rcases hw with rfl | rfl | rfl | rfl | rfl | rfl | rfl | rfl | rfl | rfl | rfl | rfl
  · exact va_Nw.warmM hW h
  · exact va_Nw.warmM hW h
  · exact va_Nw.warmM hW h
  · exact va_Nw.warmM hW h
  · exact va_Nw.warmM hW h
  · exact va_Nw.warmD hW h
  · exact va_Nw.warmD hW h
  · exact va_Nw.warmC hW h
  · exact va_Nw.warmC hW h
  · exact va_Nw.warmC hW h
  · exact va_Nw.warmC hW h
  · exact va_Nw.warmC hW h
theorem aw_K.at {E : EVt} {s U : State} {locs : List Loc} (h : aw_K E s) (hW : s.WarmedH U.vm) (hS : va_S (aw_A E) s.heap U.heap locs) : aw_K E U := by
  obtain ⟨h1, h2, h3, h4, h5, h6, h7, h8, h9, h10⟩ := h
  refine ⟨va_K.moved hW.alike h1, fun w hw => nw_warm hW w hw (h2 w hw), fun C hC => va_AO.moved hW.alike (h3 C hC), fun i hi => (h4 i hi).warm hW, h5, Nat.le_trans h6 hS.1, (vk_S.moved hW.alike h7).kept hS.2.1, (va_Z.moved hW.alike h8).kept hS.2.1, (va_Zq.moved hW.alike h9).kept hS.2.1, (va_X.moved hW.alike h10).kept (hS.2.1 _ (Nat.lt_of_lt_of_le h5 h6) (fun q => absurd q (Nat.not_le.mpr h5)))⟩
theorem aw_K.calling {E : EVt} {U : State} {g : JFrame} {mk : MethodId} {a : Array Value} (h : aw_K E U) : aw_K E (U.calling g mk a) := by
  obtain ⟨h1, h2, h3, h4, h5, h6, h7, h8, h9, h10⟩ := h
  have hv : U.vm = (U.calling g mk a).vm := rfl
  have hh : U.heap = (U.calling g mk a).heap := rfl
  have hal : U.vm.Alike (U.calling g mk a).vm := Vm.Alike.refl U.vm
  refine ⟨va_K.moved hal h1, fun w hw => ?_, fun C hC => va_AO.moved hal (h3 C hC), fun i hi => vk_R.same rfl (h4 i hi), h5, h6, vk_S.moved hal h7, va_Z.moved hal h8, va_Zq.moved hal h9, va_X.moved hal h10⟩
  have h := h2 w hw
  simp only [nw_tbl, List.mem_cons, List.not_mem_nil, or_false] at hw
  rcases hw with rfl | rfl | rfl | rfl | rfl | rfl | rfl | rfl | rfl | rfl | rfl | rfl <;> exact va_Nw.same rfl hv h
def rmOf (d mc ms : Nat) : Room := { frames := d, cells := mc, slots := ms, locals := 36 * d + 4 }
def aw_C (M : MDt) (p : Program) (s : State) (m : MethodId) (args : Array Value) (meth : Method) (c : Code) : Prop :=
  p.tables.exec = Jvm.exec ∧ c.code = M.2.1 ∧ c.maxLocals = M.2.2.1 ∧ s.vm.findClass M.1.cls = some m.cls ∧ (∀ w ∈ gtbl, w.before args s = true) ∧ meth.sig.returnType = M.2.2.2 ∧ meth.locks = false ∧ meth.name = M.1.name
def aw_Q (E : EVt) (M : MDt) (n : Nat) (Q : Value → AHt → Prop) : Array Value → State → Outcome → State → Prop := fun _ st o t =>
  (∃ (v : Value) (h : AHt), Q v h ∧ o = .returned (M.2.2.2.map (fun _ => v)) ∧ va_P (ev_D E) vwCl (wl (ev_z E) n h) t.heap) ∧ va_F (aw_A E) st t
def aw_P (E : EVt) (n : Nat) (h : AHt) (U : State) : Prop := aw_K E U ∧ va_P (ev_D E) vwCl (wl (ev_z E) n h) U.heap ∧ U.heap.size = ev_z E + n
/-- the method's contract: from av and the heap h (of B.1 cells) it comes to a value and a heap with Q, having made B.2.1 cells of B.2.2 slots, its calls d deep -/
def CT (E : EVt) (d : Nat) (M : MDt) (B : Nat × Nat × Nat) (av : List Value) (h : AHt) (Q : Value → AHt → Prop) : Prop :=
  Met (ev_l E) M.1 (wsOf M) (rmOf d B.2.1 B.2.2) (va_Pc av (aw_P E B.1 h)) (aw_Q E M (B.1 + B.2.1) Q) B.2.1 B.2.2 (aw_A E)
/-- the walk at pc -/
def AW (E : EVt) (d : Nat) (M : MDt) (B : Nat × Nat × Nat) (cells slots pc : Nat) (lv : List (Nat × Value)) (st : List Value) (h : AHt) (Q : Value → AHt → Prop) : Prop :=
  ∀ (p : Program) (e : Env) (s : State) (m : MethodId) (args : Array Value) (below : List Frame) (meth : Method) (c : Code) (H : Heap) (locs : List Loc) (ls : Array Slot),
    aw_C M p s m args meth c → aw_K E s → va_P (ev_D E) vwCl (wl (ev_z E) (B.1 + cells) h) H → s.heap.size = ev_z E + B.1 → va_S (aw_A E) s.heap H locs → lv_has ls M.2.2.1 lv →
    W p (ev_l E) e (rmOf d B.2.1 B.2.2) s m args below meth c H locs cells slots (MQ below (aw_Q E M (B.1 + B.2.1) Q) args s B.2.1 B.2.2 (aw_A E)) (F0 m pc ls st)
theorem CT.of {E : EVt} {d : Nat} {M : MDt} {B : Nat × Nat × Nat} {av : List Value} {h : AHt} {Q : Value → AHt → Prop} {lv : List (Nat × Value)} (hy : plainName M.1.cls = true) (hlen : (lg_sl av).length ≤ M.2.2.1) (hlv : lv_args 0 av = lv)
    (k : AW E d M B 0 0 0 lv [] h Q) : CT E d M B av h Q := by
  refine Met.ofW (cc := M.2.1) (maxL := M.2.2.1) (ret := M.2.2.2) hy rfl ?_
  intro p e s m args below meth c s₁ Bd hml hv
  obtain ⟨rfl, hK, hP, hz⟩ := hv
  have hts := atoms_spec (ws := wsOf M) Bd.pre
  have hown : s.vm.findClass M.1.cls = some m.cls := findClass_of_methodNamed Bd.named
  have hl := lv_entry av (n := M.2.2.1) hlen
  rw [hlv] at hl
  rw [lg_entry_eq]
  exact k p e s m _ below meth c s.heap [] _ ⟨Bd.exec, Bd.bytes, hml, hown, fun w hw => hts w (List.mem_cons_of_mem _ hw), Bd.returns, Bd.notSynchronized, (name_of_methodNamed Bd.named Bd.method).1⟩ hK hP hz va_S.rf hl
/-- how many cells there are, wherever the walk stands -/
theorem aw_sz {p : Program} {l : Launch} {e : Env} {R : Room} {s : State} {m : MethodId} {args : Array Value} {below : List Frame} {meth : Method} {c : Code} {H : Heap} {locs : List Loc} {cells slots : Nat} {Q : State → Prop} {g : JFrame} {D : va_G} {cl : List vw_C} {z n : Nat} {h : AHt} {A : Nat → Prop} (hs0 : s.heap.size = z + n) (hP : va_P D cl (wl z (n + cells) h) H) (hS : va_S A s.heap H locs)
    (kk : H.size = z + (n + cells) → W p l e R s m args below meth c H locs cells slots Q g) : W p l e R s m args below meth c H locs cells slots Q g := by
  intro T hT X
  have h1 := X.heapSize
  rw [hT, hs0] at h1
  have h2 : z + (n + cells) ≤ H.size := by
    rcases Nat.eq_zero_or_pos cells with h0 | h0
    · have := hS.1
      omega
    · have := (hP (n + cells - 1) _ (wl_get (by omega))).lt
      dsimp at this
      omega
  exact kk (by omega) T hT X
