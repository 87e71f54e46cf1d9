/-! THE CLAIM OUT OF ONE WALK OF THE LAW'S BODY. Your part is whole_start (and what it stands on); all else here is the same for every law, but numbers. -/
def R_law : String := "FeltedWashLaw"
def lw_P (b : Addr) (xs : List Int32) (args : Array Value) (s : State) : Prop := args = #[.ref b] ∧ s.IntsAt b xs ∧ xs.length ≤ 3072 ∧ (Jvm.Cond.and given_1 narrow_1).before args s = true
def lw_Q (_ : Array Value) (s : State) (o : Outcome) (t : State) : Prop := o = .returned (some (.int 1)) ∧ Framed s o t [] 600000 7302250
def lw_Z (below : List Frame) (a : Array Value) (s : State) : State → Prop := fun t => ∃ o, t.status = .running ∧ Ended t below o ∧ lw_Q a s o t
/-- the law's own end, with 1 on the stack, nothing written that was there before, its room as the claim has it -/
theorem lw_ret {p : Program} {l : Launch} {e : Env} {s : State} {m : MethodId} {below : List Frame} {meth : Method} {c : Code} {b : Nat} (hx : p.tables.exec = Jvm.exec) (hb : c.code = code) (hr : meth.sig.returnType = ret) (hlocks : meth.locks = false) {pc : Nat} {H : Heap} {ls : Array Slot} (hdg : decode code pc = .ok (.ireturn, 1)) : W p l e room_1 s m #[Value.ref b] below meth c H [] 600000 7302250 (lw_Z below #[Value.ref b] s) (F0 m pc ls [.int 1]) := by
  intro T hT X
  obtain ⟨fs, hret, hrun, hended, hW, hframe⟩ := X.leave (v := some (.int 1)) (hlocks := hlocks) (fun h => by rw [hr] at h; cases h)
  have hmeth' : T.vm.method? m = some meth := X.method'
  refine ⟨T.setFrames fs, ?_, .returned (some (.int 1)), hrun, hended, rfl, ⟨_, rfl⟩, hW, hframe⟩
  jvm_step X.here [X.here.top, hx, hb, hdg, hmeth', hr, ret, narrow_b1]
  (try refine ⟨rfl, ?_⟩); (try refine ⟨rfl, ?_⟩)
  first | (intro acts; rw [hret _ acts rfl rfl rfl]) | rw [hret _ _ rfl rfl rfl]
  exact Steps.refl _
/-- what holds at the law's entry: the machine, the code, the tables' words (any of lw_tbl by 'hts w (by decide +kernel)'), the script of L ints xs at the cell b, what the Statement gives of the start (any of its parts by flat_of_before) -/
def lw_At (p : Program) (s : State) (m : MethodId) (meth : Method) (c : Code) (b L : Nat) (xs : Nat → Int32) : Prop :=
  p.tables.exec = Jvm.exec ∧ c.code = code ∧ meth.sig.returnType = ret ∧ c.maxLocals = 4 ∧ s.vm.findClass R_law = some m.cls ∧ (∀ w ∈ lw_tbl, w.before #[Value.ref b] s = true) ∧ va_X b L xs s s.heap ∧ b < s.heap.size ∧ meth.locks = false ∧ (Jvm.Cond.and given_1 narrow_1).before #[Value.ref b] s = true
/-! what the start gives -/
def nrL : List Cond := flatC (Jvm.Cond.and given_1 narrow_1)
def bsS : List Nat := [56, 67, 76, 88, 99, 113, 126, 140, 156, 174, 194, 212, 233]
def psS : List Nat := [636, 689, 690, 691, 692, 693, 699, 713, 714, 720, 725, 732, 733]
def tmS (i : Nat) : Term := .string RX9 (sk_ix.getD i 0)
abbrev vlS (i : Nat) : Term := .field (tmS i) "java/lang/String" "value" "[B"
theorem nr_ex : ∀ i, i < 13 → nrL[bsS.getD i 0]? = some (Cond.exactly (tmS i) "java/lang/String") := by decide +kernel
theorem nr_co : ∀ i, i < 13 → nrL[bsS.getD i 0 + 1]? = some (Cond.eq (.field (tmS i) "java/lang/String" "coder" "B") (.int 0)) := by decide +kernel
theorem nr_ar : ∀ i, i < 13 → nrL[bsS.getD i 0 + 2]? = some (Cond.arrayOf (vlS i) .byte) := by decide +kernel
theorem nr_le : ∀ i, i < 13 → nrL[bsS.getD i 0 + 3]? = some (Cond.eq (.length (vlS i)) (.int (Int32.ofNat (sk_ln.getD i 0)))) := by decide +kernel
theorem nr_el : ∀ i, i < 13 → ∀ j, j < sk_ln.getD i 0 → nrL[bsS.getD i 0 + 4 + j]? = some (Cond.eq (.elem (vlS i) (.int (Int32.ofNat j))) (.int ((sk_by.getD i []).getD j 0))) := by decide +kernel
theorem nr_ne : ∀ j, j < 13 → ∀ i, i < j → nrL[bsS.getD j 0 + 4 + sk_ln.getD j 0 + i]? = some (Cond.not (Cond.eq (tmS i) (tmS j))) := by decide +kernel
theorem tb_st : ∀ i, i < 13 → tables_1[psS.getD i 0]? = some (Cond.stringRef RX9 (sk_ix.getD i 0) (sk_tx.getD i "")) := by decide +kernel
theorem ln_st : ∀ i, i < 13 → sk_ln.getD i 0 < 2 ^ 31 := by decide +kernel
theorem tw {w : Cond} {i : Nat} (h : tables_1[i]? = some w) : w ∈ lw_tbl := List.mem_append_right _ (List.mem_of_getElem? h)
theorem tn_0 : tables_1[142]? = some (Cond.methodLinkNest RX0 30 yX5_init RX11) := by decide +kernel
theorem tn_1 : tables_1[194]? = some (Cond.methodLinkNest RX11 41 yX9_init RX11) := by decide +kernel
theorem tn_2 : tables_1[228]? = some (Cond.methodLinkNest RX11 52 yX6_init RX11) := by decide +kernel
theorem tn_3 : tables_1[308]? = some (Cond.methodLinkNest RX2 69 yX11_within RX11) := by decide +kernel
theorem tn_4 : tables_1[708]? = some (Cond.methodLinkNest RX9 136 yX11_within RX11) := by decide +kernel
theorem tn_5 : tables_1[376]? = some (Cond.declares yX4_felts) := by decide +kernel
theorem tn_6 : tables_1[415]? = some (Cond.declares yX4_keeps) := by decide +kernel
theorem tn_7 : tables_1[1277]? = some (Cond.castable RX10 RX4) := by decide +kernel
theorem tn_8 : tables_1[1278]? = some (Cond.castable RX1 RX4) := by decide +kernel
theorem tn_9 : tables_1[1279]? = some (Cond.castable RX7 RX4) := by decide +kernel
theorem tn_10 : tables_1[1280]? = some (Cond.castable RX3 RX4) := by decide +kernel
theorem tn_11 : tables_1[1281]? = some (Cond.castable RX8 RX4) := by decide +kernel
theorem ta_0 : tables_1[73]? = some (Cond.arrayOver (.object RX4)) := by decide +kernel
theorem ta_1 : tables_1[99]? = some (Cond.arrayOver (.object RX2)) := by decide +kernel
theorem ta_2 : tables_1[140]? = some (Cond.arrayOver (.object RX5)) := by decide +kernel
theorem ta_3 : tables_1[226]? = some (Cond.arrayOver (.object RX6)) := by decide +kernel
theorem ts_0 : tables_1[650]? = some (Cond.laysStatic RJ0 "COMPACT_STRINGS" "Z") := by decide +kernel
theorem ts_1 : tables_1[666]? = some (Cond.laysStatic RJ3 "SIOOBE_FORMATTER" "Ljava/util/function/BiFunction;") := by decide +kernel
theorem ti_0 : tables_1[16]? = some (Cond.initialized RJ0) := by decide +kernel
theorem ti_1 : tables_1[18]? = some (Cond.initialized RJ3) := by decide +kernel
theorem nr_cs : nrL[4]? = some (Cond.eq (.static RJ0 "COMPACT_STRINGS" "Z") (.int 1)) := by decide +kernel
theorem nr_sf : nrL[5]? = some (Cond.isRef (.static RJ3 "SIOOBE_FORMATTER" "Ljava/util/function/BiFunction;")) := by decide +kernel
theorem st_cl {s : State} {args : Array Value} (htg : ∀ w ∈ gtbl, w.before args s = true) : ∃ D : va_G, ∀ (k : Nat) (q : vw_C), vwCl[k]? = some q → u_Kn s q.1 q.2.1 q.2.2 (D.1 k) (D.2 k) := by
  have h0 : ∀ k : Nat, ∃ p : ClassId × (Nat → Nat), ∀ q : vw_C, vwCl[k]? = some q → u_Kn s q.1 q.2.1 q.2.2 p.1 p.2 := by
    intro k
    by_cases hk : k < 13
    · obtain rfl | rfl | rfl | rfl | rfl | rfl | rfl | rfl | rfl | rfl | rfl | rfl | rfl : k = 0 ∨ k = 1 ∨ k = 2 ∨ k = 3 ∨ k = 4 ∨ k = 5 ∨ k = 6 ∨ k = 7 ∨ k = 8 ∨ k = 9 ∨ k = 10 ∨ k = 11 ∨ k = 12 := by omega
      · obtain ⟨cC, iS, hu⟩ := u_known (C := RX0) (T := TX0) (N := 8) (n := 8) htg ck_0.2.1 (htg _ w_93)
        exact ⟨(cC, iS), fun q hq => by cases hq; exact hu⟩
      · obtain ⟨cC, iS, hu⟩ := u_known (C := RX1) (T := TX1) (N := 2) (n := 2) htg ck_1.2.1 (htg _ w_56)
        exact ⟨(cC, iS), fun q hq => by cases hq; exact hu⟩
      · obtain ⟨cC, iS, hu⟩ := u_known (C := RX2) (T := TX2) (N := 7) (n := 7) htg ck_2.2.1 (htg _ w_100)
        exact ⟨(cC, iS), fun q hq => by cases hq; exact hu⟩
      · obtain ⟨cC, iS, hu⟩ := u_known (C := RX3) (T := TX3) (N := 2) (n := 2) htg ck_3.2.1 (htg _ w_75)
        exact ⟨(cC, iS), fun q hq => by cases hq; exact hu⟩
      · obtain ⟨cC, iS, hu⟩ := u_known (C := RX4) (T := TX4) (N := 2) (n := 2) htg ck_4.2.1 (htg _ w_33)
        exact ⟨(cC, iS), fun q hq => by cases hq; exact hu⟩
      · obtain ⟨cC, iS, hu⟩ := u_known (C := RX5) (T := TX5) (N := 2) (n := 2) htg ck_5.2.1 (htg _ w_141)
        exact ⟨(cC, iS), fun q hq => by cases hq; exact hu⟩
      · obtain ⟨cC, iS, hu⟩ := u_known (C := RX6) (T := TX6) (N := 3) (n := 3) htg ck_6.2.1 (htg _ w_227)
        exact ⟨(cC, iS), fun q hq => by cases hq; exact hu⟩
      · obtain ⟨cC, iS, hu⟩ := u_known (C := RX7) (T := TX7) (N := 2) (n := 2) htg ck_7.2.1 (htg _ w_65)
        exact ⟨(cC, iS), fun q hq => by cases hq; exact hu⟩
      · obtain ⟨cC, iS, hu⟩ := u_known (C := RX8) (T := TX8) (N := 2) (n := 2) htg ck_8.2.1 (htg _ w_84)
        exact ⟨(cC, iS), fun q hq => by cases hq; exact hu⟩
      · obtain ⟨cC, iS, hu⟩ := u_known (C := RX9) (T := TX9) (N := 8) (n := 8) htg ck_9.2.1 (htg _ w_193)
        exact ⟨(cC, iS), fun q hq => by cases hq; exact hu⟩
      · obtain ⟨cC, iS, hu⟩ := u_known (C := RX10) (T := TX10) (N := 2) (n := 2) htg ck_10.2.1 (htg _ w_47)
        exact ⟨(cC, iS), fun q hq => by cases hq; exact hu⟩
      · obtain ⟨cC, iS, hu⟩ := u_known (C := RX11) (T := TX11) (N := 8) (n := 8) htg ck_11.2.1 (htg _ w_22)
        exact ⟨(cC, iS), fun q hq => by cases hq; exact hu⟩
      · obtain ⟨cC, iS, hu⟩ := u_known (C := RX12) (T := TX12) (N := 16) (n := 16) htg ck_12.2.1 (htg _ w_818)
        exact ⟨(cC, iS), fun q hq => by cases hq; exact hu⟩
    · refine ⟨(0, fun _ => 0), fun q hq => ?_⟩
      have h1 := (List.getElem?_eq_some_iff.mp hq).1
      have h2 : vwCl.length = 13 := rfl
      omega
  obtain ⟨ad, had⟩ := Classical.axiomOfChoice h0
  exact ⟨(fun k => (ad k).1, fun k => (ad k).2), had⟩
theorem st_ap {s : State} {args : Array Value} {ty : FieldType} (h : (Cond.arrayClass ty).before args s = true) (hob : ∀ C, ty ≠ .object C) : ∃ cA : ClassId, ArrOfT s cA ty ∧ va_RA s cA ty := by
  obtain ⟨cA, kA, comp, h1, h2, h3⟩ := Cond.arrayClass_spec h
  refine ⟨cA, fun n z => ⟨fun k h => (by cases h), kA, h2, comp, h3⟩, ?_⟩
  cases ty with
  | object C => exact absurd rfl (hob C)
  | _ => exact h1
theorem st_ao {s : State} {args : Array Value} {C : String} (h : (Cond.arrayOver (.object C)).before args s = true) : ∃ cA : ClassId, ArrOfT s cA (.object C) ∧ va_RA s cA (.object C) := by
  obtain ⟨comp, cA, kA, h1, h2, h3, h4, h5⟩ := Cond.arrayOver_spec h
  exact ⟨cA, fun n z => ⟨fun k h => (by cases h), kA, h3, comp, h4⟩, kA, comp, h3, h4, h1, h5⟩
theorem st_K {s : State} (l : Launch) {b L : Nat} {xs : Nat → Int32} (hts : ∀ w ∈ lw_tbl, w.before #[Value.ref b] s = true) (hX : va_X b L xs s s.heap) (hbl : b < s.heap.size) (hgv : (Jvm.Cond.and given_1 narrow_1).before #[Value.ref b] s = true) : ∃ E : EVt, ev_l E = l ∧ ev_z E = s.heap.size ∧ ev_b E = b ∧ ev_L E = L ∧ ev_x E = xs ∧ aw_K E s := by
  have htg : ∀ w ∈ gtbl, w.before #[Value.ref b] s = true := fun w hw => hts w (List.mem_filter.mp hw).1
  have hnr : ∀ {w : Cond} {i : Nat}, nrL[i]? = some w → w.before #[Value.ref b] s = true := fun h => flat_of_before _ hgv _ (List.mem_of_getElem? h)
  have hA : ∀ a : Nat, a < s.heap.size → ¬ (fun q : Nat => s.heap.size ≤ q) a := fun a h q => absurd h (Nat.not_lt.mpr q)
  obtain ⟨D, hD⟩ := st_cl htg
  obtain ⟨c0, a0, r0⟩ := st_ap (htg _ w_271) (fun C q => by cases q)
  obtain ⟨c1, a1, r1⟩ := st_ap (htg _ w_245) (fun C q => by cases q)
  obtain ⟨c2, a2, r2⟩ := st_ap (htg _ w_224) (fun C q => by cases q)
  obtain ⟨c3, a3, r3⟩ := st_ao (hts _ (tw ta_0))
  obtain ⟨c4, a4, r4⟩ := st_ao (hts _ (tw ta_1))
  obtain ⟨c5, a5, r5⟩ := st_ao (hts _ (tw ta_2))
  obtain ⟨c6, a6, r6⟩ := st_ao (hts _ (tw ta_3))
  obtain ⟨adK, adV, hSv, hev⟩ := vk_Sof (N := 13) (tm := tmS) (len := sk_ln) (byt := sk_by) (A := fun q : Nat => s.heap.size ≤ q) ln_st (fun i hi => hnr (nr_ex i hi)) (fun i hi => hnr (nr_co i hi)) (fun i hi => hnr (nr_ar i hi)) (fun i hi => hnr (nr_le i hi)) (fun i hi j hj => hnr (nr_el i hi j hj)) (fun i j hi hj hij => by
    rcases Nat.lt_or_gt_of_ne hij with h | h
    · exact Or.inl (hnr (nr_ne j hj i h))
    · exact Or.inr (hnr (nr_ne i hi j h))) hA
  refine ⟨(l, D, (fun t => [c0, c1, c2, c3, c4, c5, c6].getD t 0), s.heap.size, adK, adV, b, L, xs), rfl, rfl, rfl, rfl, rfl, ⟨hD, ?_⟩, ?_, ?_, ?_, hbl, Nat.le_refl _, hSv, va_Zof (hts _ (tw ts_0)) (hts _ (tw ti_0)) (va_eqt (hnr nr_cs)) hA, va_Zqof (hts _ (tw ts_1)) (hts _ (tw ti_1)) (hnr nr_sf) hA, hX⟩
  · intro k q hq
    by_cases hk : k < 7
    · obtain rfl | rfl | rfl | rfl | rfl | rfl | rfl : k = 0 ∨ k = 1 ∨ k = 2 ∨ k = 3 ∨ k = 4 ∨ k = 5 ∨ k = 6 := by omega
      · cases hq; exact ⟨a0, r0⟩
      · cases hq; exact ⟨a1, r1⟩
      · cases hq; exact ⟨a2, r2⟩
      · cases hq; exact ⟨a3, r3⟩
      · cases hq; exact ⟨a4, r4⟩
      · cases hq; exact ⟨a5, r5⟩
      · cases hq; exact ⟨a6, r6⟩
    · have h1 := (List.getElem?_eq_some_iff.mp hq).1
      exact absurd h1 hk
  · exact List.forall_mem_cons.mpr ⟨va_Nw.of rfl (hts _ (tw tn_0)), List.forall_mem_cons.mpr ⟨va_Nw.of rfl (hts _ (tw tn_1)), List.forall_mem_cons.mpr ⟨va_Nw.of rfl (hts _ (tw tn_2)), List.forall_mem_cons.mpr ⟨va_Nw.of rfl (hts _ (tw tn_3)), List.forall_mem_cons.mpr ⟨va_Nw.of rfl (hts _ (tw tn_4)), List.forall_mem_cons.mpr ⟨va_Nw.of rfl (hts _ (tw tn_5)), List.forall_mem_cons.mpr ⟨va_Nw.of rfl (hts _ (tw tn_6)), List.forall_mem_cons.mpr ⟨va_Nw.of rfl (hts _ (tw tn_7)), List.forall_mem_cons.mpr ⟨va_Nw.of rfl (hts _ (tw tn_8)), List.forall_mem_cons.mpr ⟨va_Nw.of rfl (hts _ (tw tn_9)), List.forall_mem_cons.mpr ⟨va_Nw.of rfl (hts _ (tw tn_10)), List.forall_mem_cons.mpr ⟨va_Nw.of rfl (hts _ (tw tn_11)), fun _ h => absurd h List.not_mem_nil⟩⟩⟩⟩⟩⟩⟩⟩⟩⟩⟩⟩
  · exact List.forall_mem_cons.mpr ⟨va_AO.of (hts _ (tw ta_0)), List.forall_mem_cons.mpr ⟨va_AO.of (hts _ (tw ta_1)), List.forall_mem_cons.mpr ⟨va_AO.of (hts _ (tw ta_2)), List.forall_mem_cons.mpr ⟨va_AO.of (hts _ (tw ta_3)), fun _ h => absurd h List.not_mem_nil⟩⟩⟩⟩
  · exact fun i hi => vk_R.of (hts _ (tw (tb_st i hi))) (hev i hi)
theorem room_le {s : State} {pl : Platform} {r r' : Room} (h : s.hasRoom pl r = true) (h1 : r'.frames ≤ r.frames) (h2 : r'.cells ≤ r.cells) (h3 : r'.slots ≤ r.slots) (h4 : r'.locals ≤ r.locals) : s.hasRoom pl r' = true := by
  simp only [State.hasRoom, Bool.and_eq_true, decide_eq_true_eq] at h ⊢
  obtain ⟨⟨⟨⟨q1, q2, q3, q4, q5, q6⟩, q7⟩, q8⟩, q9⟩ := h
  exact ⟨⟨⟨⟨by omega, by omega, by omega, by omega, by omega, q6⟩, by omega⟩, by omega⟩, q9⟩
theorem whole_start {p : Program} {e : Env} {s : State} {m : MethodId} {below : List Frame} {meth : Method} {c : Code} (l : Launch) (hflags : l.flags = flags0) {b L : Nat} {xs : Nat → Int32} (hL : L ≤ 3072) (C0 : lw_At p s m meth c b L xs) : W p l e room_1 s m #[Value.ref b] below meth c s.heap [] 0 0 (lw_Z below #[Value.ref b] s) (entryFrame m ([Value.ref b] : List Value).toArray 4) := by
  obtain ⟨hx, hb, hr, hml, hown, hts, hX, hbl, hlocks, hgv⟩ := id C0
  obtain ⟨E, el, ez, eb, eL, ex, hK⟩ := st_K l hts hX hbl hgv
  have A := al_law (E := E) (nm := meth.name) (h := fun _ => .inl (0, 0, .inl (fun _ => 0))) (Q := fun v _ => v = .int 1) (by rw [eL]; exact hL) (fun _ => rfl)
  have hl := lv_entry ([.ref b]) (n := 4) (Nat.le_of_ble_eq_true rfl)
  rw [lg_entry_eq]
  generalize (lg_sl ([.ref b]) ++ List.replicate (4 - (lg_sl ([.ref b])).length) Slot.unset).toArray = ls at hl ⊢
  have hl : lv_has ls 4 [(0, .ref (ev_b E))] := by rw [eb]; exact hl
  have W1 := A p e s m #[Value.ref b] below meth c s.heap [] ls ⟨hx, hb, hml, hown, fun w hw => hts w (List.mem_filter.mp hw).1, hr, hlocks, rfl⟩ hK (fun k q hq => absurd (wl_of hq).1 (Nat.not_lt_zero k)) (by rw [ez]; rfl) va_S.rf hl
  rw [el] at W1
  intro T hT X
  have X1 : Stand p l e (rmOf 12 83 1257) s m #[Value.ref b] below meth c T [] 0 0 := { X with room := room_le X.room (Nat.le_refl _) (Nat.le_of_ble_eq_true rfl) (Nat.le_of_ble_eq_true rfl) (Nat.le_refl _) }
  obtain ⟨t, s1, oc, b1, b2, ⟨⟨v, h, hv, ho, -⟩, -⟩, Lc, ⟨f1, f2, f3⟩, hfr⟩ := W1 T hT X1
  refine ⟨t, s1, oc, b1, b2, ?_, f1, f2, ?_⟩
  · rw [ho, hv]
    rfl
  · refine f3.weaken (fun y hy hlt => ?_) (Nat.le_of_ble_eq_true rfl) (Nat.le_of_ble_eq_true rfl)
    have := hfr y hy
    have : ev_z E ≤ y.base := this
    rw [ez] at this
    exact absurd hlt (Nat.not_lt.mpr this)
