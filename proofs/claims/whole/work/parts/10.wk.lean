/-! the memory of the made objects, and the walk over it -/

abbrev Mm : Type := Nat → Nat → Int32
abbrev Ml : Type := Nat → Nat → Int64
/-- which sort of cell: the class's number, or 20.. for a row -/
def shp (k : Nat) : Nat := [11, 4, 10, 1, 7, 20, 3, 8, 0, 21, 2, 2, 2, 2, 2, 2, 2, 2, 22, 5, 5, 5, 5, 5, 5, 0, 21, 2, 2, 2, 2, 2, 2, 2, 2, 22, 5, 5, 5, 5, 5, 5, 0, 21, 2, 2, 2, 2, 2, 2, 2, 2, 22, 5, 5, 5, 5, 5, 5, 2, 9, 25, 23, 6, 26, 6, 26, 6, 26, 6, 26, 24, 12, 24, 24, 24, 24, 24, 24, 24, 24, 26, 26].getD k 99
def ilen (k : Nat) : Nat := if k = 71 then 7 else if k = 77 then 7 else if k = 78 then 120 else if k = 79 then 4 else if k = 80 then 4 else 73
def llen (k : Nat) : Nat := if k = 81 then 160 else 40
theorem ilen_lt (k : Nat) : ilen k < 2 ^ 31 := by unfold ilen; repeat' split
                                                  all_goals decide
theorem llen_lt (k : Nat) : llen k < 2 ^ 31 := by unfold llen; repeat' split
                                                  all_goals decide
theorem shp_lt {k s : Nat} (h : shp k = s) (hs : Nat.ble s 90 = true) : k < 83 := by
  have hs := Nat.le_of_ble_eq_true hs
  rcases Nat.lt_or_ge k 83 with h1 | h1
  · exact h1
  · exfalso
    have : shp k = 99 := by
      unfold shp
      rw [List.getD_eq_getElem?_getD, List.getElem?_eq_none (by simpa using h1)]
      rfl
    omega
/-- the kinds: their cells by number, their numbers by cell -/
def kref (c : Int32) : Nat := if c = 1 then 2 else if c = 2 then 3 else if c = 3 then 4 else if c = 4 then 6 else if c = 5 then 7 else 1
def kcl (i : Nat) : Nat := match i with
  | 1 => 2
  | 2 => 3
  | 3 => 4
  | 4 => 6
  | 5 => 7
  | _ => 1
def knum (k : Nat) : Int32 := match k with
  | 2 => 1
  | 3 => 2
  | 4 => 3
  | 6 => 4
  | 7 => 5
  | _ => 0
def kab (z k : Nat) : Value := match k with
  | 2 => .ref (z + 1)
  | 3 => .ref (z + 1)
  | 4 => .ref (z + 1)
  | 6 => .ref (z + 2)
  | 7 => .ref (z + 3)
  | _ => .null
def hfs (z : Nat) (m : Mm) (s k : Nat) : List Value := match s with
  | 0 => [.ref (z + 5), .ref (z + (k + 1)), .ref (z + (k + 10)), .int (m k 3), .int (m k 4), .int (m k 5), .int (m k 6), .int (m k 7)]
  | 2 => [.ref (z + kref (m k 0)), .int (m k 1), .int (m k 2), .int (m k 3), .int (m k 4), .int (m k 5), .int (m k 6)]
  | 5 => [.int (m k 0), .int (m k 1)]
  | 6 => [.ref (z + (k + 1)), .int (m k 1), .int (m k 2)]
  | 9 => [.ref (z + 61), .int (m k 1), .int (m k 2), .int (m k 3), .int (m k 4), .int (m k 5), .int (m k 6), .int (m k 7)]
  | 11 => [.ref (z + 8), .ref (z + 25), .ref (z + 42), .ref (z + 59), .ref (z + 60), .ref (z + 62), .ref (z + 71), .int (m k 7)]
  | 12 => [.ref (z + 73), .ref (z + 74), .ref (z + 75), .ref (z + 76), .ref (z + 77), .int (m k 5), .ref (z + 78), .int (m k 7), .int (m k 8), .int (m k 9), .int (m k 10), .int (m k 11), .ref (z + 79), .ref (z + 80), .ref (z + 81), .ref (z + 82)]
  | _ => [.int (knum k), kab z k]
def hcell (E : EVt) (m : Mm) (L : Ml) (s k : Nat) : va_E := match s with
  | 20 => aR (ev_cy E 3) 6 (fun i => some (ev_z E + kcl i))
  | 21 => aR (ev_cy E 4) 8 (fun i => some (ev_z E + (k + 1 + i)))
  | 22 => aR (ev_cy E 5) 6 (fun i => some (ev_z E + (k + 1 + i)))
  | 23 => aR (ev_cy E 6) 4 (fun i => some (ev_z E + (63 + 2 * i)))
  | 24 => aI (ev_cy E 0) (ilen k) (m k)
  | 25 => aI (ev_cy E 2) 120 (m k)
  | 26 => aL (ev_cy E 1) (llen k) (L k)
  | s => .inr (s, hfs (ev_z E) m s k)
def HP (E : EVt) (m : Mm) (L : Ml) : AHt := fun k => hcell E m L (shp k) k
theorem HP_at {E : EVt} {m : Mm} {L : Ml} {k s : Nat} (h : shp k = s) : HP E m L k = hcell E m L s k := by unfold HP; rw [h]
theorem HP_obj {E : EVt} {m : Mm} {L : Ml} {k s : Nat} (h : shp k = s) (hs : Nat.ble s 19 = true) : HP E m L k = .inr (s, hfs (ev_z E) m s k) := by
  rw [HP_at h]
  have := Nat.le_of_ble_eq_true hs
  unfold hcell
  split <;> first | omega | rfl
/-- a row of the memory set -/
def wr (m : Mm) (k : Nat) (v : Nat → Int32) : Mm := fun j => if j = k then v else m j
def wrL (L : Ml) (k : Nat) (v : Nat → Int64) : Ml := fun j => if j = k then v else L j
theorem wr_s {m : Mm} {k : Nat} {v : Nat → Int32} : wr m k v k = v := if_pos rfl
theorem wr_n {m : Mm} {k j : Nat} {v : Nat → Int32} (h : j ≠ k) : wr m k v j = m j := if_neg h
theorem wrL_s {L : Ml} {k : Nat} {v : Nat → Int64} : wrL L k v k = v := if_pos rfl
theorem wrL_n {L : Ml} {k j : Nat} {v : Nat → Int64} (h : j ≠ k) : wrL L k v j = L j := if_neg h
theorem hcell_loc {E : EVt} {m m' : Mm} {L L' : Ml} {s k : Nat} (h : m k = m' k) (hL : L k = L' k) : hcell E m L s k = hcell E m' L' s k := by
  unfold hcell hfs
  rw [h, hL]
theorem HP_wr {E : EVt} {m : Mm} {L : Ml} {k : Nat} {v : Nat → Int32} {e : va_E} (h : hcell E (wr m k v) L (shp k) k = e) : va_up (HP E m L) k e = HP E (wr m k v) L := by
  funext j
  unfold va_up
  by_cases hj : j = k
  · subst hj
    rw [if_pos rfl, ← h]
    rfl
  · rw [if_neg hj]
    exact hcell_loc (wr_n hj).symm rfl
theorem HP_wrL {E : EVt} {m : Mm} {L : Ml} {k : Nat} {v : Nat → Int64} {e : va_E} (h : hcell E m (wrL L k v) (shp k) k = e) : va_up (HP E m L) k e = HP E m (wrL L k v) := by
  funext j
  unfold va_up
  by_cases hj : j = k
  · subst hj
    rw [if_pos rfl, ← h]
    rfl
  · rw [if_neg hj]
    exact hcell_loc rfl (wrL_n hj).symm
def WK (E : EVt) (d : Nat) (M : MDt) (pc : Nat) (lv : List (Nat × Value)) (st : List Value) (m : Mm) (L : Ml) (Q : Value → Mm → Ml → Prop) : Prop :=
  ∀ Qh : Value → AHt → Prop, (∀ v m' L', Q v m' L' → Qh v (HP E m' L')) → AW E d M (83, 0, 0) 0 0 pc lv st (HP E m L) Qh
def CK (E : EVt) (d : Nat) (M : MDt) (av : List Value) (m : Mm) (L : Ml) (Q : Value → Mm → Ml → Prop) : Prop :=
  ∀ Qh : Value → AHt → Prop, (∀ v m' L', Q v m' L' → Qh v (HP E m' L')) → CT E d M (83, 0, 0) av (HP E m L) Qh
theorem CK.of {E : EVt} {d : Nat} {M : MDt} {av : List Value} {m : Mm} {L : Ml} {Q : Value → Mm → Ml → Prop} {lv : List (Nat × Value)} (hy : plainName M.1.cls = true) (hlen : Nat.ble (lg_sl av).length M.2.2.1 = true) (hlv : lv_args 0 av = lv) (k : WK E d M 0 lv [] m L Q) : CK E d M av m L Q :=
  fun Qh hQ => CT.of hy (Nat.le_of_ble_eq_true hlen) hlv (k Qh hQ)
theorem CK.mono {E : EVt} {d : Nat} {M : MDt} {av : List Value} {m : Mm} {L : Ml} {Q Q' : Value → Mm → Ml → Prop} (k : CK E d M av m L Q) (h : ∀ v m' L', Q v m' L' → Q' v m' L') : CK E d M av m L Q' :=
  fun Qh hQ => k Qh (fun v m' L' hq => hQ v m' L' (h v m' L' hq))
section WKR
variable {E : EVt} {d : Nat} {M : MDt} {pc q : Nat} {lv : List (Nat × Value)} {st : List Value} {m : Mm} {L : Ml} {Q : Value → Mm → Ml → Prop}

theorem wk_iadd {x y : Int32} (hd : decode M.2.1 pc = .ok (.iadd, 1)) (hq : pc + 1 = q) (k : WK E d M q lv (.int (x + y) :: st) m L Q) : WK E d M pc lv (.int y :: .int x :: st) m L Q :=
  fun Qh hQ => aw_iadd hd hq (k Qh hQ)
theorem wk_isub {x y : Int32} (hd : decode M.2.1 pc = .ok (.isub, 1)) (hq : pc + 1 = q) (k : WK E d M q lv (.int (x - y) :: st) m L Q) : WK E d M pc lv (.int y :: .int x :: st) m L Q :=
  fun Qh hQ => aw_isub hd hq (k Qh hQ)
theorem wk_imul {x y : Int32} (hd : decode M.2.1 pc = .ok (.imul, 1)) (hq : pc + 1 = q) (k : WK E d M q lv (.int (x * y) :: st) m L Q) : WK E d M pc lv (.int y :: .int x :: st) m L Q :=
  fun Qh hQ => aw_imul hd hq (k Qh hQ)
theorem wk_iand {x y : Int32} (hd : decode M.2.1 pc = .ok (.iand, 1)) (hq : pc + 1 = q) (k : WK E d M q lv (.int (x &&& y) :: st) m L Q) : WK E d M pc lv (.int y :: .int x :: st) m L Q :=
  fun Qh hQ => aw_iand hd hq (k Qh hQ)
theorem wk_ior {x y : Int32} (hd : decode M.2.1 pc = .ok (.ior, 1)) (hq : pc + 1 = q) (k : WK E d M q lv (.int (x ||| y) :: st) m L Q) : WK E d M pc lv (.int y :: .int x :: st) m L Q :=
  fun Qh hQ => aw_ior hd hq (k Qh hQ)
theorem wk_ixor {x y : Int32} (hd : decode M.2.1 pc = .ok (.ixor, 1)) (hq : pc + 1 = q) (k : WK E d M q lv (.int (x ^^^ y) :: st) m L Q) : WK E d M pc lv (.int y :: .int x :: st) m L Q :=
  fun Qh hQ => aw_ixor hd hq (k Qh hQ)
theorem wk_ishl {x y : Int32} (hd : decode M.2.1 pc = .ok (.ishl, 1)) (hq : pc + 1 = q) (k : WK E d M q lv (.int (x <<< (y &&& 31)) :: st) m L Q) : WK E d M pc lv (.int y :: .int x :: st) m L Q :=
  fun Qh hQ => aw_ishl hd hq (k Qh hQ)
theorem wk_ishr {x y : Int32} (hd : decode M.2.1 pc = .ok (.ishr, 1)) (hq : pc + 1 = q) (k : WK E d M q lv (.int (x >>> (y &&& 31)) :: st) m L Q) : WK E d M pc lv (.int y :: .int x :: st) m L Q :=
  fun Qh hQ => aw_ishr hd hq (k Qh hQ)
theorem wk_iushr {x y : Int32} (hd : decode M.2.1 pc = .ok (.iushr, 1)) (hq : pc + 1 = q) (k : WK E d M q lv (.int (x.toUInt32 >>> (y.toUInt32 &&& Int32.toUInt32 31)).toInt32 :: st) m L Q) : WK E d M pc lv (.int y :: .int x :: st) m L Q :=
  fun Qh hQ => aw_iushr hd hq (k Qh hQ)
theorem wk_idiv {x y : Int32} (hd : decode M.2.1 pc = .ok (.idiv, 1)) (hne : ¬ y = 0) (hq : pc + 1 = q) (k : WK E d M q lv (.int (x / y) :: st) m L Q) : WK E d M pc lv (.int y :: .int x :: st) m L Q :=
  fun Qh hQ => aw_idiv hd hne hq (k Qh hQ)
theorem wk_irem {x y : Int32} (hd : decode M.2.1 pc = .ok (.irem, 1)) (hne : ¬ y = 0) (hq : pc + 1 = q) (k : WK E d M q lv (.int (x - x / y * y) :: st) m L Q) : WK E d M pc lv (.int y :: .int x :: st) m L Q :=
  fun Qh hQ => aw_irem hd hne hq (k Qh hQ)
theorem wk_ladd {x y : Int64} (hd : decode M.2.1 pc = .ok (.ladd, 1)) (hq : pc + 1 = q) (k : WK E d M q lv (.long (x + y) :: st) m L Q) : WK E d M pc lv (.long y :: .long x :: st) m L Q :=
  fun Qh hQ => aw_ladd hd hq (k Qh hQ)
theorem wk_lsub {x y : Int64} (hd : decode M.2.1 pc = .ok (.lsub, 1)) (hq : pc + 1 = q) (k : WK E d M q lv (.long (x - y) :: st) m L Q) : WK E d M pc lv (.long y :: .long x :: st) m L Q :=
  fun Qh hQ => aw_lsub hd hq (k Qh hQ)
theorem wk_lmul {x y : Int64} (hd : decode M.2.1 pc = .ok (.lmul, 1)) (hq : pc + 1 = q) (k : WK E d M q lv (.long (x * y) :: st) m L Q) : WK E d M pc lv (.long y :: .long x :: st) m L Q :=
  fun Qh hQ => aw_lmul hd hq (k Qh hQ)
theorem wk_land {x y : Int64} (hd : decode M.2.1 pc = .ok (.land, 1)) (hq : pc + 1 = q) (k : WK E d M q lv (.long (x &&& y) :: st) m L Q) : WK E d M pc lv (.long y :: .long x :: st) m L Q :=
  fun Qh hQ => aw_land hd hq (k Qh hQ)
theorem wk_lor {x y : Int64} (hd : decode M.2.1 pc = .ok (.lor, 1)) (hq : pc + 1 = q) (k : WK E d M q lv (.long (x ||| y) :: st) m L Q) : WK E d M pc lv (.long y :: .long x :: st) m L Q :=
  fun Qh hQ => aw_lor hd hq (k Qh hQ)
theorem wk_lshl {x : Int64} {y : Int32} (hd : decode M.2.1 pc = .ok (.lshl, 1)) (hq : pc + 1 = q) (k : WK E d M q lv (.long (x <<< (y.toInt64 &&& 63)) :: st) m L Q) : WK E d M pc lv (.int y :: .long x :: st) m L Q :=
  fun Qh hQ => aw_lshl hd hq (k Qh hQ)
theorem wk_i2l {x : Int32} (hd : decode M.2.1 pc = .ok (.i2l, 1)) (hq : pc + 1 = q) (k : WK E d M q lv (.long x.toInt64 :: st) m L Q) : WK E d M pc lv (.int x :: st) m L Q :=
  fun Qh hQ => aw_i2l hd hq (k Qh hQ)
theorem wk_l2i {x : Int64} (hd : decode M.2.1 pc = .ok (.l2i, 1)) (hq : pc + 1 = q) (k : WK E d M q lv (.int x.toInt32 :: st) m L Q) : WK E d M pc lv (.long x :: st) m L Q :=
  fun Qh hQ => aw_l2i hd hq (k Qh hQ)
theorem wk_i2b {x : Int32} (hd : decode M.2.1 pc = .ok (.i2b, 1)) (hq : pc + 1 = q) (k : WK E d M q lv (.int x.toInt8.toInt32 :: st) m L Q) : WK E d M pc lv (.int x :: st) m L Q :=
  fun Qh hQ => aw_i2b hd hq (k Qh hQ)
theorem wk_i2s {x : Int32} (hd : decode M.2.1 pc = .ok (.i2s, 1)) (hq : pc + 1 = q) (k : WK E d M q lv (.int x.toInt16.toInt32 :: st) m L Q) : WK E d M pc lv (.int x :: st) m L Q :=
  fun Qh hQ => aw_i2s hd hq (k Qh hQ)
theorem wk_i2c {x : Int32} (hd : decode M.2.1 pc = .ok (.i2c, 1)) (hq : pc + 1 = q) (k : WK E d M q lv (.int (x.toUInt32 % 65536).toInt32 :: st) m L Q) : WK E d M pc lv (.int x :: st) m L Q :=
  fun Qh hQ => aw_i2c hd hq (k Qh hQ)
theorem wk_iconst {n : Int} {v : Int32} (hd : decode M.2.1 pc = .ok (.iconst n, 1)) (hv : Int32.ofInt n = v) (hq : pc + 1 = q) (k : WK E d M q lv (.int v :: st) m L Q) : WK E d M pc lv st m L Q :=
  fun Qh hQ => aw_iconst hd hv hq (k Qh hQ)
theorem wk_bipush {n : Int} {v : Int32} (hd : decode M.2.1 pc = .ok (.bipush n, 2)) (hv : (Int8.ofInt n).toInt32 = v) (hq : pc + 2 = q) (k : WK E d M q lv (.int v :: st) m L Q) : WK E d M pc lv st m L Q :=
  fun Qh hQ => aw_bipush hd hv hq (k Qh hQ)
theorem wk_sipush {n : Int} {v : Int32} (hd : decode M.2.1 pc = .ok (.sipush n, 3)) (hv : (Int16.ofInt n).toInt32 = v) (hq : pc + 3 = q) (k : WK E d M q lv (.int v :: st) m L Q) : WK E d M pc lv st m L Q :=
  fun Qh hQ => aw_sipush hd hv hq (k Qh hQ)
theorem wk_lconst {n : Fin 2} {v : Int64} (hd : decode M.2.1 pc = .ok (.lconst n, 1)) (hv : Int64.ofNat (n : Nat) = v) (hq : pc + 1 = q) (k : WK E d M q lv (.long v :: st) m L Q) : WK E d M pc lv st m L Q :=
  fun Qh hQ => aw_lconst hd hv hq (k Qh hQ)
theorem wk_dup {a : Value} (hd : decode M.2.1 pc = .ok (.dup, 1)) (ha : a.category = 1) (hq : pc + 1 = q) (k : WK E d M q lv (a :: a :: st) m L Q) : WK E d M pc lv (a :: st) m L Q :=
  fun Qh hQ => aw_dup hd ha hq (k Qh hQ)
theorem wk_pop {a : Value} (hd : decode M.2.1 pc = .ok (.pop, 1)) (ha : a.category = 1) (hq : pc + 1 = q) (k : WK E d M q lv st m L Q) : WK E d M pc lv (a :: st) m L Q :=
  fun Qh hQ => aw_pop hd ha hq (k Qh hQ)
theorem wk_dup2 {a b : Value} (hd : decode M.2.1 pc = .ok (.dup2, 1)) (ha : a.category = 1) (hb : b.category = 1) (hq : pc + 1 = q) (k : WK E d M q lv (a :: b :: a :: b :: st) m L Q) : WK E d M pc lv (a :: b :: st) m L Q :=
  fun Qh hQ => aw_dup2 hd ha hb hq (k Qh hQ)
theorem wk_null (hd : decode M.2.1 pc = .ok (.aconst_null, 1)) (hq : pc + 1 = q) (k : WK E d M q lv (.null :: st) m L Q) : WK E d M pc lv st m L Q :=
  fun Qh hQ => aw_null hd hq (k Qh hQ)
theorem wk_ldc {ix : Nat} {v : Int32} (hd : decode M.2.1 pc = .ok (.ldc ix, 2)) (hw : Cond.constant M.1.cls ix v ∈ gtbl) (hq : pc + 2 = q) (k : WK E d M q lv (.int v :: st) m L Q) : WK E d M pc lv st m L Q :=
  fun Qh hQ => aw_ldc hd hw hq (k Qh hQ)
theorem wk_ldcw {ix : Nat} {v : Int32} (hd : decode M.2.1 pc = .ok (.ldc_w ix, 3)) (hw : Cond.constant M.1.cls ix v ∈ gtbl) (hq : pc + 3 = q) (k : WK E d M q lv (.int v :: st) m L Q) : WK E d M pc lv st m L Q :=
  fun Qh hQ => aw_ldcw hd hw hq (k Qh hQ)
theorem wk_ldc2 {ix : Nat} {v : Int64} (hd : decode M.2.1 pc = .ok (.ldc2_w ix, 3)) (hw : Cond.constantLong M.1.cls ix v ∈ gtbl) (hq : pc + 3 = q) (k : WK E d M q lv (.long v :: st) m L Q) : WK E d M pc lv st m L Q :=
  fun Qh hQ => aw_ldc2 hd hw hq (k Qh hQ)
theorem wk_iload_n {x : Int32} {j : Fin 4} {i : Nat} (hd : decode M.2.1 pc = .ok (.iload_n j, 1)) (hi : (j : Nat) = i) (hv : lvg lv i = some (.int x)) (hq : pc + 1 = q) (k : WK E d M q lv (.int x :: st) m L Q) : WK E d M pc lv st m L Q :=
  fun Qh hQ => aw_iload_n hd hi hv hq (k Qh hQ)
theorem wk_iload {x : Int32} {i : Nat} (hd : decode M.2.1 pc = .ok (.iload i, 2)) (hv : lvg lv i = some (.int x)) (hq : pc + 2 = q) (k : WK E d M q lv (.int x :: st) m L Q) : WK E d M pc lv st m L Q :=
  fun Qh hQ => aw_iload hd hv hq (k Qh hQ)
theorem wk_lload_n {x : Int64} {j : Fin 4} {i : Nat} (hd : decode M.2.1 pc = .ok (.lload_n j, 1)) (hi : (j : Nat) = i) (hv : lvg lv i = some (.long x)) (hq : pc + 1 = q) (k : WK E d M q lv (.long x :: st) m L Q) : WK E d M pc lv st m L Q :=
  fun Qh hQ => aw_lload_n hd hi hv hq (k Qh hQ)
theorem wk_lload {x : Int64} {i : Nat} (hd : decode M.2.1 pc = .ok (.lload i, 2)) (hv : lvg lv i = some (.long x)) (hq : pc + 2 = q) (k : WK E d M q lv (.long x :: st) m L Q) : WK E d M pc lv st m L Q :=
  fun Qh hQ => aw_lload hd hv hq (k Qh hQ)
theorem wk_aload_n {x : Nat} {j : Fin 4} {i : Nat} (hd : decode M.2.1 pc = .ok (.aload_n j, 1)) (hi : (j : Nat) = i) (hv : lvg lv i = some (.ref x)) (hq : pc + 1 = q) (k : WK E d M q lv (.ref x :: st) m L Q) : WK E d M pc lv st m L Q :=
  fun Qh hQ => aw_aload_n hd hi hv hq (k Qh hQ)
theorem wk_aload {x : Nat} {i : Nat} (hd : decode M.2.1 pc = .ok (.aload i, 2)) (hv : lvg lv i = some (.ref x)) (hq : pc + 2 = q) (k : WK E d M q lv (.ref x :: st) m L Q) : WK E d M pc lv st m L Q :=
  fun Qh hQ => aw_aload hd hv hq (k Qh hQ)
theorem wk_aload_nN {j : Fin 4} {i : Nat} (hd : decode M.2.1 pc = .ok (.aload_n j, 1)) (hi : (j : Nat) = i) (hv : lvg lv i = some .null) (hq : pc + 1 = q) (k : WK E d M q lv (.null :: st) m L Q) : WK E d M pc lv st m L Q :=
  fun Qh hQ => aw_aload_nN hd hi hv hq (k Qh hQ)
theorem wk_aloadN {i : Nat} (hd : decode M.2.1 pc = .ok (.aload i, 2)) (hv : lvg lv i = some .null) (hq : pc + 2 = q) (k : WK E d M q lv (.null :: st) m L Q) : WK E d M pc lv st m L Q :=
  fun Qh hQ => aw_aloadN hd hv hq (k Qh hQ)
theorem wk_if_eq {x : Int32} {off : Int} {t : Nat} (hd : decode M.2.1 pc = .ok (.ifCond .eq off, 3)) (ht : (pc : Int) + off = (t : Int)) (hq : pc + 3 = q) (kt : x = 0 → WK E d M t lv st m L Q) (kf : ¬ x = 0 → WK E d M q lv st m L Q) : WK E d M pc lv (.int x :: st) m L Q :=
  fun Qh hQ => aw_if_eq hd ht hq (fun g => kt g Qh hQ) (fun g => kf g Qh hQ)
theorem wk_icmp_eq {x y : Int32} {off : Int} {t : Nat} (hd : decode M.2.1 pc = .ok (.if_icmp .eq off, 3)) (ht : (pc : Int) + off = (t : Int)) (hq : pc + 3 = q) (kt : x = y → WK E d M t lv st m L Q) (kf : ¬ x = y → WK E d M q lv st m L Q) : WK E d M pc lv (.int y :: .int x :: st) m L Q :=
  fun Qh hQ => aw_icmp_eq hd ht hq (fun g => kt g Qh hQ) (fun g => kf g Qh hQ)
theorem wk_if_ne {x : Int32} {off : Int} {t : Nat} (hd : decode M.2.1 pc = .ok (.ifCond .ne off, 3)) (ht : (pc : Int) + off = (t : Int)) (hq : pc + 3 = q) (kt : ¬ x = 0 → WK E d M t lv st m L Q) (kf : x = 0 → WK E d M q lv st m L Q) : WK E d M pc lv (.int x :: st) m L Q :=
  fun Qh hQ => aw_if_ne hd ht hq (fun g => kt g Qh hQ) (fun g => kf g Qh hQ)
theorem wk_icmp_ne {x y : Int32} {off : Int} {t : Nat} (hd : decode M.2.1 pc = .ok (.if_icmp .ne off, 3)) (ht : (pc : Int) + off = (t : Int)) (hq : pc + 3 = q) (kt : ¬ x = y → WK E d M t lv st m L Q) (kf : x = y → WK E d M q lv st m L Q) : WK E d M pc lv (.int y :: .int x :: st) m L Q :=
  fun Qh hQ => aw_icmp_ne hd ht hq (fun g => kt g Qh hQ) (fun g => kf g Qh hQ)
theorem wk_if_lt {x : Int32} {off : Int} {t : Nat} (hd : decode M.2.1 pc = .ok (.ifCond .lt off, 3)) (ht : (pc : Int) + off = (t : Int)) (hq : pc + 3 = q) (kt : x < 0 → WK E d M t lv st m L Q) (kf : ¬ x < 0 → WK E d M q lv st m L Q) : WK E d M pc lv (.int x :: st) m L Q :=
  fun Qh hQ => aw_if_lt hd ht hq (fun g => kt g Qh hQ) (fun g => kf g Qh hQ)
theorem wk_icmp_lt {x y : Int32} {off : Int} {t : Nat} (hd : decode M.2.1 pc = .ok (.if_icmp .lt off, 3)) (ht : (pc : Int) + off = (t : Int)) (hq : pc + 3 = q) (kt : x < y → WK E d M t lv st m L Q) (kf : ¬ x < y → WK E d M q lv st m L Q) : WK E d M pc lv (.int y :: .int x :: st) m L Q :=
  fun Qh hQ => aw_icmp_lt hd ht hq (fun g => kt g Qh hQ) (fun g => kf g Qh hQ)
theorem wk_if_ge {x : Int32} {off : Int} {t : Nat} (hd : decode M.2.1 pc = .ok (.ifCond .ge off, 3)) (ht : (pc : Int) + off = (t : Int)) (hq : pc + 3 = q) (kt : 0 ≤ x → WK E d M t lv st m L Q) (kf : ¬ 0 ≤ x → WK E d M q lv st m L Q) : WK E d M pc lv (.int x :: st) m L Q :=
  fun Qh hQ => aw_if_ge hd ht hq (fun g => kt g Qh hQ) (fun g => kf g Qh hQ)
theorem wk_icmp_ge {x y : Int32} {off : Int} {t : Nat} (hd : decode M.2.1 pc = .ok (.if_icmp .ge off, 3)) (ht : (pc : Int) + off = (t : Int)) (hq : pc + 3 = q) (kt : y ≤ x → WK E d M t lv st m L Q) (kf : ¬ y ≤ x → WK E d M q lv st m L Q) : WK E d M pc lv (.int y :: .int x :: st) m L Q :=
  fun Qh hQ => aw_icmp_ge hd ht hq (fun g => kt g Qh hQ) (fun g => kf g Qh hQ)
theorem wk_if_gt {x : Int32} {off : Int} {t : Nat} (hd : decode M.2.1 pc = .ok (.ifCond .gt off, 3)) (ht : (pc : Int) + off = (t : Int)) (hq : pc + 3 = q) (kt : 0 < x → WK E d M t lv st m L Q) (kf : ¬ 0 < x → WK E d M q lv st m L Q) : WK E d M pc lv (.int x :: st) m L Q :=
  fun Qh hQ => aw_if_gt hd ht hq (fun g => kt g Qh hQ) (fun g => kf g Qh hQ)
theorem wk_icmp_gt {x y : Int32} {off : Int} {t : Nat} (hd : decode M.2.1 pc = .ok (.if_icmp .gt off, 3)) (ht : (pc : Int) + off = (t : Int)) (hq : pc + 3 = q) (kt : y < x → WK E d M t lv st m L Q) (kf : ¬ y < x → WK E d M q lv st m L Q) : WK E d M pc lv (.int y :: .int x :: st) m L Q :=
  fun Qh hQ => aw_icmp_gt hd ht hq (fun g => kt g Qh hQ) (fun g => kf g Qh hQ)
theorem wk_if_le {x : Int32} {off : Int} {t : Nat} (hd : decode M.2.1 pc = .ok (.ifCond .le off, 3)) (ht : (pc : Int) + off = (t : Int)) (hq : pc + 3 = q) (kt : x ≤ 0 → WK E d M t lv st m L Q) (kf : ¬ x ≤ 0 → WK E d M q lv st m L Q) : WK E d M pc lv (.int x :: st) m L Q :=
  fun Qh hQ => aw_if_le hd ht hq (fun g => kt g Qh hQ) (fun g => kf g Qh hQ)
theorem wk_icmp_le {x y : Int32} {off : Int} {t : Nat} (hd : decode M.2.1 pc = .ok (.if_icmp .le off, 3)) (ht : (pc : Int) + off = (t : Int)) (hq : pc + 3 = q) (kt : x ≤ y → WK E d M t lv st m L Q) (kf : ¬ x ≤ y → WK E d M q lv st m L Q) : WK E d M pc lv (.int y :: .int x :: st) m L Q :=
  fun Qh hQ => aw_icmp_le hd ht hq (fun g => kt g Qh hQ) (fun g => kf g Qh hQ)
theorem wk_goto {off : Int} {t : Nat} (hd : decode M.2.1 pc = .ok (.goto off, 3)) (ht : (pc : Int) + off = (t : Int)) (k : WK E d M t lv st m L Q) : WK E d M pc lv st m L Q :=
  fun Qh hQ => aw_goto hd ht (k Qh hQ)
theorem wk_ifnull {x : Nat} {off : Int} (hd : decode M.2.1 pc = .ok (.ifnull off, 3)) (hq : pc + 3 = q) (k : WK E d M q lv st m L Q) : WK E d M pc lv (.ref x :: st) m L Q :=
  fun Qh hQ => aw_ifnull hd hq (k Qh hQ)
theorem wk_ifnullN {off : Int} {t : Nat} (hd : decode M.2.1 pc = .ok (.ifnull off, 3)) (ht : (pc : Int) + off = (t : Int)) (k : WK E d M t lv st m L Q) : WK E d M pc lv (.null :: st) m L Q :=
  fun Qh hQ => aw_ifnullN hd ht (k Qh hQ)
theorem wk_ifnonnull {x : Nat} {off : Int} {t : Nat} (hd : decode M.2.1 pc = .ok (.ifnonnull off, 3)) (ht : (pc : Int) + off = (t : Int)) (k : WK E d M t lv st m L Q) : WK E d M pc lv (.ref x :: st) m L Q :=
  fun Qh hQ => aw_ifnonnull hd ht (k Qh hQ)
theorem wk_ifnonnullN {off : Int} (hd : decode M.2.1 pc = .ok (.ifnonnull off, 3)) (hq : pc + 3 = q) (k : WK E d M q lv st m L Q) : WK E d M pc lv (.null :: st) m L Q :=
  fun Qh hQ => aw_ifnonnullN hd hq (k Qh hQ)
theorem wk_lcmp {x y : Int64} (hd : decode M.2.1 pc = .ok (.lcmp, 1)) (hq : pc + 1 = q) (k : WK E d M q lv (.int (lg_cmp x y) :: st) m L Q) : WK E d M pc lv (.long y :: .long x :: st) m L Q :=
  fun Qh hQ => aw_lcmp hd hq (k Qh hQ)
theorem wk_mmax {ix : Nat} {x y : Int32} (hM : Cond.methodLink M.1.cls ix Lib.Math.max.name ∈ gtbl ∧ Cond.static Lib.Math.max.name ∈ gtbl ∧ Cond.initialized "java/lang/Math" ∈ gtbl ∧ Cond.code Lib.Math.max.name Lib.Math.max.code 2 (some .int) ∈ gtbl) (hd : decode M.2.1 pc = .ok (.invokestatic ix, 3)) (hdd : Nat.ble 1 d = true) (hrm : Nat.ble (st.map fun v => v.category).sum 8 = true) (hq : pc + 3 = q) (k : WK E d M q lv (.int (i_max x y) :: st) m L Q) : WK E d M pc lv (.int y :: .int x :: st) m L Q :=
  fun Qh hQ => aw_mmax hM hd (Nat.le_of_ble_eq_true hdd) (Nat.le_of_ble_eq_true hrm) (Nat.le_refl _) (Nat.le_refl _) hq (k Qh hQ)
theorem wk_mmin {ix : Nat} {x y : Int32} (hM : Cond.methodLink M.1.cls ix Lib.Math.min.name ∈ gtbl ∧ Cond.static Lib.Math.min.name ∈ gtbl ∧ Cond.initialized "java/lang/Math" ∈ gtbl ∧ Cond.code Lib.Math.min.name Lib.Math.min.code 2 (some .int) ∈ gtbl) (hd : decode M.2.1 pc = .ok (.invokestatic ix, 3)) (hdd : Nat.ble 1 d = true) (hrm : Nat.ble (st.map fun v => v.category).sum 8 = true) (hq : pc + 3 = q) (k : WK E d M q lv (.int (i_min x y) :: st) m L Q) : WK E d M pc lv (.int y :: .int x :: st) m L Q :=
  fun Qh hQ => aw_mmin hM hd (Nat.le_of_ble_eq_true hdd) (Nat.le_of_ble_eq_true hrm) (Nat.le_refl _) (Nat.le_refl _) hq (k Qh hQ)
theorem wk_ldcS {ix i : Nat} (hd : decode M.2.1 pc = .ok (.ldc ix, 2)) (hM : M.1.cls = RX9) (hi : i < 13) (hix : sk_ix.getD i 0 = ix) (hq : pc + 2 = q) (k : WK E d M q lv (.ref (ev_K E i) :: st) m L Q) : WK E d M pc lv st m L Q :=
  fun Qh hQ => aw_ldcS hd hM hi hix hq (k Qh hQ)
theorem wk_getsI {ix : Nat} (hd : decode M.2.1 pc = .ok (.getstatic ix, 3)) (hw : Cond.fieldLink M.1.cls ix RJ0 "COMPACT_STRINGS" "Z" ∈ gtbl) (hq : pc + 3 = q) (k : WK E d M q lv (.int 1 :: st) m L Q) : WK E d M pc lv st m L Q :=
  fun Qh hQ => aw_getsI hd hw hq (k Qh hQ)
theorem wk_skcoder {ix i : Nat} (hd : decode M.2.1 pc = .ok (.getfield ix, 3)) (hw : Cond.fieldLink M.1.cls ix RJ0 "coder" "B" ∈ gtbl) (hi : i < 13) (hq : pc + 3 = q) (k : WK E d M q lv (.int 0 :: st) m L Q) : WK E d M pc lv (.ref (ev_K E i) :: st) m L Q :=
  fun Qh hQ => aw_skcoder hd hw hi hq (k Qh hQ)
theorem wk_skvalue {ix i : Nat} (hd : decode M.2.1 pc = .ok (.getfield ix, 3)) (hw : Cond.fieldLink M.1.cls ix RJ0 "value" "[B" ∈ gtbl) (hi : i < 13) (hq : pc + 3 = q) (k : WK E d M q lv (.ref (ev_V E i) :: st) m L Q) : WK E d M pc lv (.ref (ev_K E i) :: st) m L Q :=
  fun Qh hQ => aw_skvalue hd hw hi hq (k Qh hQ)
theorem wk_sklen {i : Nat} (hd : decode M.2.1 pc = .ok (.arraylength, 1)) (hi : i < 13) (hq : pc + 1 = q) (k : WK E d M q lv (.int (Int32.ofNat (sk_ln.getD i 0)) :: st) m L Q) : WK E d M pc lv (.ref (ev_V E i) :: st) m L Q :=
  fun Qh hQ => aw_sklen hd hi hq (k Qh hQ)
theorem wk_skbyte {i : Nat} {j : Int32} (hd : decode M.2.1 pc = .ok (.baload, 1)) (hi : i < 13) (hj : vp_in j (sk_ln.getD i 0)) (hq : pc + 1 = q) (k : WK E d M q lv (.int ((sk_by.getD i []).getD j.toNatClampNeg 0) :: st) m L Q) : WK E d M pc lv (.int j :: .ref (ev_V E i) :: st) m L Q :=
  fun Qh hQ => aw_skbyte hd hi hj hq (k Qh hQ)

theorem wk_ireturn {v : Int32} {ty : FieldType} (hd : decode M.2.1 pc = .ok (.ireturn, 1)) (hr : M.2.2.2 = some ty) (hn : narrow ty (.int v) = .int v) (hq : Q (.int v) m L) : WK E d M pc lv [.int v] m L Q :=
  fun Qh hQ => aw_ireturn hd hr hn (Nat.le_refl _) (Nat.le_refl _) rfl (hQ _ _ _ hq)
theorem wk_lreturn {v : Int64} (hd : decode M.2.1 pc = .ok (.lreturn, 1)) (hr : M.2.2.2 = some .long) (hq : Q (.long v) m L) : WK E d M pc lv [.long v] m L Q :=
  fun Qh hQ => aw_lreturn hd hr (Nat.le_refl _) rfl (hQ _ _ _ hq)
theorem wk_areturn {a : Nat} {rt : FieldType} (hd : decode M.2.1 pc = .ok (.areturn, 1)) (hr : M.2.2.2 = some rt) (hrt : (∃ n, rt = .object n) ∨ ∃ t, rt = .array t) (hq : Q (.ref a) m L) : WK E d M pc lv [.ref a] m L Q :=
  fun Qh hQ => aw_areturn hd hr hrt (Or.inr ⟨a, rfl⟩) (Nat.le_refl _) rfl (hQ _ _ _ hq)
theorem wk_areturnN {rt : FieldType} (hd : decode M.2.1 pc = .ok (.areturn, 1)) (hr : M.2.2.2 = some rt) (hrt : (∃ n, rt = .object n) ∨ ∃ t, rt = .array t) (hq : Q .null m L) : WK E d M pc lv [.null] m L Q :=
  fun Qh hQ => aw_areturn hd hr hrt (Or.inl rfl) (Nat.le_refl _) rfl (hQ _ _ _ hq)
theorem wk_return (hd : decode M.2.1 pc = .ok (.return_, 1)) (hr : M.2.2.2 = none) (hq : Q .null m L) : WK E d M pc lv [] m L Q :=
  fun Qh hQ => aw_return hd hr (Nat.le_refl _) rfl (hQ _ _ _ hq)
/-! locals set in their places -/
def lvf : List (Nat × Value) → Nat → List (Nat × Value)
  | [], _ => []
  | (j, w) :: t, i => match Nat.beq j i with
    | true => lvf t i
    | false => match Nat.beq (j + 1) i && Nat.beq w.category 2 with
      | true => lvf t i
      | false => (j, w) :: lvf t i
def lvu : List (Nat × Value) → Nat → Value → List (Nat × Value)
  | [], i, v => [(i, v)]
  | (j, w) :: t, i, v => match Nat.beq j i with
    | true => (i, v) :: lvf t i
    | false => match Nat.beq (j + 1) i && Nat.beq w.category 2 with
      | true => lvu t i v
      | false => (j, w) :: lvu t i v
theorem lvf_in : ∀ (l : List (Nat × Value)) (i : Nat) (x : Nat × Value), x ∈ lvf l i → x ∈ l ∧ ¬ x.1 = i ∧ ¬ (x.1 + 1 = i ∧ x.2.category = 2)
  | [], _, _, h => absurd h List.not_mem_nil
  | (j, w) :: t, i, x, h => by
    simp only [lvf] at h
    split at h
    · have := lvf_in t i x h
      exact ⟨List.mem_cons_of_mem _ this.1, this.2⟩
    · rename_i h1
      split at h
      · have := lvf_in t i x h
        exact ⟨List.mem_cons_of_mem _ this.1, this.2⟩
      · rename_i h2
        rcases List.mem_cons.mp h with rfl | h
        · refine ⟨List.mem_cons_self, fun e => ?_, fun e => ?_⟩
          · have e : j = i := e
            rw [e, Nat.beq_refl] at h1
            cases h1
          · have e1 : j + 1 = i := e.1
            have e2 : w.category = 2 := e.2
            rw [e1, e2, Nat.beq_refl] at h2
            cases h2
        · have := lvf_in t i x h
          exact ⟨List.mem_cons_of_mem _ this.1, this.2⟩
theorem lvu_in : ∀ (l : List (Nat × Value)) (i : Nat) (v : Value) (x : Nat × Value), x ∈ lvu l i v → x = (i, v) ∨ (x ∈ l ∧ ¬ x.1 = i ∧ ¬ (x.1 + 1 = i ∧ x.2.category = 2))
  | [], i, v, x, h => Or.inl (List.mem_singleton.mp h)
  | (j, w) :: t, i, v, x, h => by
    simp only [lvu] at h
    split at h
    · rcases List.mem_cons.mp h with rfl | h
      · exact Or.inl rfl
      · have := lvf_in t i x h
        exact Or.inr ⟨List.mem_cons_of_mem _ this.1, this.2⟩
    · rename_i h1
      split at h
      · rcases lvu_in t i v x h with h | h
        · exact Or.inl h
        · exact Or.inr ⟨List.mem_cons_of_mem _ h.1, h.2⟩
      · rename_i h2
        rcases List.mem_cons.mp h with rfl | h
        · refine Or.inr ⟨List.mem_cons_self, fun e => ?_, fun e => ?_⟩
          · have e : j = i := e
            rw [e, Nat.beq_refl] at h1
            cases h1
          · have e1 : j + 1 = i := e.1
            have e2 : w.category = 2 := e.2
            rw [e1, e2, Nat.beq_refl] at h2
            cases h2
        · rcases lvu_in t i v x h with h | h
          · exact Or.inl h
          · exact Or.inr ⟨List.mem_cons_of_mem _ h.1, h.2⟩
theorem lvu_sub {l : List (Nat × Value)} {i : Nat} {v : Value} : ∀ x ∈ lvu l i v, x ∈ (i, v) :: l.filter (fun q => !(q.1 == i) && !(q.1 + 1 == i && q.2.category == 2)) := by
  intro x hx
  rcases lvu_in l i v x hx with h | ⟨h1, h2, h3⟩
  · rw [h]; exact List.mem_cons_self
  · refine List.mem_cons_of_mem _ (List.mem_filter.mpr ⟨h1, ?_⟩)
    have a1 : (x.1 == i) = false := by simpa using h2
    have a2 : (x.1 + 1 == i && x.2.category == 2) = false := by
      rw [Bool.and_eq_false_iff]
      rcases Nat.decEq (x.1 + 1) i with h | h
      · left; simpa using h
      · right
        have : ¬ x.2.category = 2 := fun e => h3 ⟨h, e⟩
        simpa using this
    rw [a1, a2]
    rfl
theorem AW.sub {B : Nat × Nat × Nat} {cells slots : Nat} {h : AHt} {Qh : Value → AHt → Prop} {lv' : List (Nat × Value)} (hs : ∀ x ∈ lv', x ∈ lv) (k : AW E d M B cells slots pc lv' st h Qh) : AW E d M B cells slots pc lv st h Qh := by
  intro p e s m args below meth c H locs ls hC hK hP hz hS hl
  exact k p e s m args below meth c H locs ls hC hK hP hz hS ⟨hl.1, hl.2.1, fun x hx => hl.2.2 x (hs x hx)⟩
theorem lv_pick_sub : ∀ (ks : List Nat) (l : List (Nat × Value)), ∀ x ∈ lv_pick l ks, x ∈ l := by
  intro ks l x hx
  obtain ⟨k, -, hk⟩ := List.mem_filterMap.mp hx
  exact List.mem_of_getElem? hk
theorem wk_pick {lv' : List (Nat × Value)} (ks : List Nat) (hv : lv_pick lv ks = lv') (k : WK E d M pc lv' st m L Q) : WK E d M pc lv st m L Q :=
  fun Qh hQ => AW.sub (by subst hv; exact lv_pick_sub ks lv) (k Qh hQ)

theorem wk_istore_n {x : Int32} {j : Fin 4} {i : Nat} {lv' : List (Nat × Value)} (hd : decode M.2.1 pc = .ok (.istore_n j, 1)) (hi : (j : Nat) = i) (hn : Nat.ble (i + 1) M.2.2.1 = true) (hv : lvu lv i (Value.int x) = lv') (hq : pc + 1 = q) (k : WK E d M q lv' st m L Q) : WK E d M pc lv ((Value.int x) :: st) m L Q :=
  fun Qh hQ => aw_istore_n hd hi (Nat.le_of_ble_eq_true hn) rfl hq (AW.sub (by subst hv; exact lvu_sub) (k Qh hQ))
theorem wk_istore {x : Int32} {i : Nat} {lv' : List (Nat × Value)} (hd : decode M.2.1 pc = .ok (.istore i, 2)) (hn : Nat.ble (i + 1) M.2.2.1 = true) (hv : lvu lv i (Value.int x) = lv') (hq : pc + 2 = q) (k : WK E d M q lv' st m L Q) : WK E d M pc lv ((Value.int x) :: st) m L Q :=
  fun Qh hQ => aw_istore hd (Nat.le_of_ble_eq_true hn) rfl hq (AW.sub (by subst hv; exact lvu_sub) (k Qh hQ))
theorem wk_astore_n {x : Nat} {j : Fin 4} {i : Nat} {lv' : List (Nat × Value)} (hd : decode M.2.1 pc = .ok (.astore_n j, 1)) (hi : (j : Nat) = i) (hn : Nat.ble (i + 1) M.2.2.1 = true) (hv : lvu lv i (Value.ref x) = lv') (hq : pc + 1 = q) (k : WK E d M q lv' st m L Q) : WK E d M pc lv ((Value.ref x) :: st) m L Q :=
  fun Qh hQ => aw_astore_n hd hi (Nat.le_of_ble_eq_true hn) rfl hq (AW.sub (by subst hv; exact lvu_sub) (k Qh hQ))
theorem wk_astore {x : Nat} {i : Nat} {lv' : List (Nat × Value)} (hd : decode M.2.1 pc = .ok (.astore i, 2)) (hn : Nat.ble (i + 1) M.2.2.1 = true) (hv : lvu lv i (Value.ref x) = lv') (hq : pc + 2 = q) (k : WK E d M q lv' st m L Q) : WK E d M pc lv ((Value.ref x) :: st) m L Q :=
  fun Qh hQ => aw_astore hd (Nat.le_of_ble_eq_true hn) rfl hq (AW.sub (by subst hv; exact lvu_sub) (k Qh hQ))
theorem wk_astore_nN {j : Fin 4} {i : Nat} {lv' : List (Nat × Value)} (hd : decode M.2.1 pc = .ok (.astore_n j, 1)) (hi : (j : Nat) = i) (hn : Nat.ble (i + 1) M.2.2.1 = true) (hv : lvu lv i Value.null = lv') (hq : pc + 1 = q) (k : WK E d M q lv' st m L Q) : WK E d M pc lv (Value.null :: st) m L Q :=
  fun Qh hQ => aw_astore_nN hd hi (Nat.le_of_ble_eq_true hn) rfl hq (AW.sub (by subst hv; exact lvu_sub) (k Qh hQ))
theorem wk_astoreN  {i : Nat} {lv' : List (Nat × Value)} (hd : decode M.2.1 pc = .ok (.astore i, 2)) (hn : Nat.ble (i + 1) M.2.2.1 = true) (hv : lvu lv i Value.null = lv') (hq : pc + 2 = q) (k : WK E d M q lv' st m L Q) : WK E d M pc lv (Value.null :: st) m L Q :=
  fun Qh hQ => aw_astoreN hd (Nat.le_of_ble_eq_true hn) rfl hq (AW.sub (by subst hv; exact lvu_sub) (k Qh hQ))
theorem wk_iinc {x w : Int32} {i : Nat} {n : Int} {lv' : List (Nat × Value)} (hd : decode M.2.1 pc = .ok (.iinc i n, 3)) (hx : lvg lv i = some (.int x)) (hw : Int32.ofInt n = w) (hn : Nat.ble (i + 1) M.2.2.1 = true) (hv : lvu lv i (.int (x + w)) = lv') (hq : pc + 3 = q) (k : WK E d M q lv' st m L Q) : WK E d M pc lv st m L Q :=
  fun Qh hQ => aw_iinc hd hx hw (Nat.le_of_ble_eq_true hn) rfl hq (AW.sub (by subst hv; exact lvu_sub) (k Qh hQ))
/-- a long: its two places -/
theorem wk_lstore_n {x : Int64} {j : Fin 4} {i : Nat} {lv' : List (Nat × Value)} (hd : decode M.2.1 pc = .ok (.lstore_n j, 1)) (hi : (j : Nat) = i) (hn : Nat.ble (i + 2) M.2.2.1 = true) (hv : lvu (lvf lv (i + 1)) i (Value.long x) = lv') (hq : pc + 1 = q) (k : WK E d M q lv' st m L Q) : WK E d M pc lv (Value.long x :: st) m L Q := by
  intro Qh hQ
  refine aw_lstore_n hd hi (Nat.le_of_ble_eq_true hn) rfl hq (AW.sub ?_ (k Qh hQ))
  subst hv
  intro y hy
  rcases lvu_in _ _ _ _ hy with h | ⟨h1, h2, h3⟩
  · rw [h]; exact List.mem_cons_self
  · obtain ⟨h4, h5, -⟩ := lvf_in _ _ _ h1
    refine List.mem_cons_of_mem _ (List.mem_filter.mpr ⟨h4, ?_⟩)
    have a1 : (y.1 == i) = false := by simpa using h2
    have a3 : (y.1 == i + 1) = false := by simpa using h5
    have a2 : (y.1 + 1 == i && y.2.category == 2) = false := by
      rw [Bool.and_eq_false_iff]
      rcases Nat.decEq (y.1 + 1) i with h | h
      · left; simpa using h
      · right
        have : ¬ y.2.category = 2 := fun e => h3 ⟨h, e⟩
        simpa using this
    rw [a1, a2, a3]
    rfl
theorem wk_lstore {x : Int64} {i : Nat} {lv' : List (Nat × Value)} (hd : decode M.2.1 pc = .ok (.lstore i, 2)) (hn : Nat.ble (i + 2) M.2.2.1 = true) (hv : lvu (lvf lv (i + 1)) i (Value.long x) = lv') (hq : pc + 2 = q) (k : WK E d M q lv' st m L Q) : WK E d M pc lv (Value.long x :: st) m L Q := by
  intro Qh hQ
  refine aw_lstore hd (Nat.le_of_ble_eq_true hn) rfl hq (AW.sub ?_ (k Qh hQ))
  subst hv
  intro y hy
  rcases lvu_in _ _ _ _ hy with h | ⟨h1, h2, h3⟩
  · rw [h]; exact List.mem_cons_self
  · obtain ⟨h4, h5, -⟩ := lvf_in _ _ _ h1
    refine List.mem_cons_of_mem _ (List.mem_filter.mpr ⟨h4, ?_⟩)
    have a1 : (y.1 == i) = false := by simpa using h2
    have a3 : (y.1 == i + 1) = false := by simpa using h5
    have a2 : (y.1 + 1 == i && y.2.category == 2) = false := by
      rw [Bool.and_eq_false_iff]
      rcases Nat.decEq (y.1 + 1) i with h | h
      · left; simpa using h
      · right
        have : ¬ y.2.category = 2 := fun e => h3 ⟨h, e⟩
        simpa using this
    rw [a1, a2, a3]
    rfl
/-! switches -/
def swK (x : Int32) (F : Nat → Prop) : List (Int32 × Nat) → Nat → Prop
  | [], td => F td
  | (c, t) :: r, td => (x = c → F t) ∧ (¬ x = c → swK x F r td)
theorem swK_elim {x : Int32} {F : Nat → Prop} : ∀ {cs : List (Int32 × Nat)} {td : Nat}, swK x F cs td → (∃ q ∈ cs, x = q.1 ∧ F q.2) ∨ ((∀ q ∈ cs, ¬ x = q.1) ∧ F td)
  | [], _, h => Or.inr ⟨fun _ h => absurd h List.not_mem_nil, h⟩
  | (c, t) :: r, td, h => by
    by_cases hx : x = c
    · exact Or.inl ⟨(c, t), List.mem_cons_self, hx, h.1 hx⟩
    · rcases swK_elim (h.2 hx) with ⟨q, h1, h2⟩ | ⟨h1, h2⟩
      · exact Or.inl ⟨q, List.mem_cons_of_mem _ h1, h2⟩
      · exact Or.inr ⟨List.forall_mem_cons.mpr ⟨hx, h1⟩, h2⟩
def swok (pc : Nat) (dflt lo hi : Int) (offs : Array Int) (cs : List (Int32 × Nat)) (td : Nat) : Bool :=
  cs.all (fun q => decide (¬ q.1.toInt < lo) && (decide (¬ hi < q.1.toInt) && decide (offs[(q.1.toInt - lo).toNat]? = some ((q.2 : Int) - (pc : Int))))) && (decide ((pc : Int) + dflt = (td : Int)) && (List.range (hi - lo + 1).toNat).all (fun (j : Nat) => cs.any (fun q => decide (q.1.toInt = lo + (j : Int)))))
theorem wk_table {dflt lo hi : Int} {offs : Array Int} {len : Nat} {x : Int32} {cs : List (Int32 × Nat)} {td : Nat} (hd : decode M.2.1 pc = .ok (.tableswitch dflt lo hi offs, len)) (hok : swok pc dflt lo hi offs cs td = true) (k : swK x (fun t => WK E d M t lv st m L Q) cs td) : WK E d M pc lv (.int x :: st) m L Q := by
  intro Qh hQ
  unfold swok at hok
  rw [Bool.and_eq_true, Bool.and_eq_true, List.all_eq_true, List.all_eq_true] at hok
  obtain ⟨h1, h2, h3⟩ := hok
  rcases swK_elim k with ⟨y, hy, rfl, hF⟩ | ⟨hne, hF⟩
  · have := h1 y hy
    rw [Bool.and_eq_true, Bool.and_eq_true, decide_eq_true_iff, decide_eq_true_iff, decide_eq_true_iff] at this
    exact aw_tableIn hd this.1 this.2.1 this.2.2 (by omega) (hF Qh hQ)
  · refine aw_tableOut hd ?_ (of_decide_eq_true h2) (hF Qh hQ)
    rcases Classical.em (x.toInt < lo ∨ hi < x.toInt) with h | h
    · exact h
    · exfalso
      have hj := h3 (x.toInt - lo).toNat (List.mem_range.mpr (by omega))
      obtain ⟨y, hy, he⟩ := List.any_eq_true.mp hj
      have he := of_decide_eq_true he
      exact hne y hy (Int32.toInt_inj.mp (by omega))
theorem wk_lookup {dflt : Int} {ps : Array (Int × Int)} {len t : Nat} {x : Int32} {off : Int} (hd : decode M.2.1 pc = .ok (.lookupswitch dflt ps, len)) (hp : (ps.toList.zip (ps.toList.drop 1)).all (fun (a, next) => a.1 < next.1) = true) (ho : Op.lookupswitch.offset ps.toList dflt x.toInt = off) (ht : (pc : Int) + off = (t : Int)) (k : WK E d M t lv st m L Q) : WK E d M pc lv (.int x :: st) m L Q :=
  fun Qh hQ => aw_lookup hd hp ho ht (k Qh hQ)
/-! the memory -/
theorem wk_get {ix s f k : Nat} {v : Value} (hF : FG M.1.cls ix s f) (hd : decode M.2.1 pc = .ok (.getfield ix, 3)) (hs : shp k = s) (hb : Nat.ble s 19 = true) (hv : (hfs (ev_z E) m s k)[f]? = some v) (hq : pc + 3 = q) (kk : WK E d M q lv (v :: st) m L Q) : WK E d M pc lv (.ref (ev_z E + k) :: st) m L Q :=
  fun Qh hQ => aw_getfield hF hd (shp_lt hs (by have := Nat.le_of_ble_eq_true hb; exact Nat.ble_eq_true_of_le (by omega))) (HP_obj hs hb) hv hq (kk Qh hQ)
def ifld (s f : Nat) : Bool := match s with
  | 0 => Nat.ble 3 f && Nat.ble f 7
  | 2 => Nat.ble 1 f && Nat.ble f 6
  | 5 => Nat.ble f 1
  | 6 => Nat.ble 1 f && Nat.ble f 2
  | 9 => Nat.ble 1 f && Nat.ble f 7
  | 11 => Nat.beq f 7
  | 12 => Nat.beq f 5 || (Nat.ble 7 f && Nat.ble f 11)
  | _ => false
theorem hfs_set {z : Nat} {m : Mm} {s k f : Nat} {x : Int32} (h : ifld s f = true) : (hfs z m s k).set f (.int x) = hfs z (wr m k (upd (m k) f x)) s k := by
  unfold hfs
  rw [wr_s]
  unfold ifld at h
  split at h <;> simp [Nat.ble_eq] at h
  · obtain rfl | rfl | rfl | rfl | rfl : f = 3 ∨ f = 4 ∨ f = 5 ∨ f = 6 ∨ f = 7 := by omega
    all_goals simp [upd]
  · obtain rfl | rfl | rfl | rfl | rfl | rfl : f = 1 ∨ f = 2 ∨ f = 3 ∨ f = 4 ∨ f = 5 ∨ f = 6 := by omega
    all_goals simp [upd]
  · obtain rfl | rfl : f = 0 ∨ f = 1 := by omega
    all_goals simp [upd]
  · obtain rfl | rfl : f = 1 ∨ f = 2 := by omega
    all_goals simp [upd]
  · obtain rfl | rfl | rfl | rfl | rfl | rfl | rfl : f = 1 ∨ f = 2 ∨ f = 3 ∨ f = 4 ∨ f = 5 ∨ f = 6 ∨ f = 7 := by omega
    all_goals simp [upd]
  · subst h
    simp [upd]
  · obtain rfl | rfl | rfl | rfl | rfl | rfl : f = 5 ∨ f = 7 ∨ f = 8 ∨ f = 9 ∨ f = 10 ∨ f = 11 := by omega
    all_goals simp [upd]
theorem hfs_len {z : Nat} {m : Mm} {s k f : Nat} (h : ifld s f = true) : f < (hfs z m s k).length := by
  unfold ifld at h
  unfold hfs
  split at h <;> simp [Nat.ble_eq] at h ⊢ <;> omega
theorem hcell_obj {E : EVt} {m : Mm} {L : Ml} {k s : Nat} (hs : Nat.ble s 19 = true) : hcell E m L s k = .inr (s, hfs (ev_z E) m s k) := by
  have := Nat.le_of_ble_eq_true hs
  unfold hcell
  split <;> first | omega | rfl
theorem wk_put {ix s f k : Nat} {ft : FieldType} {x : Int32} (hF : FP M.1.cls ix s f ft) (hd : decode M.2.1 pc = .ok (.putfield ix, 3)) (hs : shp k = s) (hb : Nat.ble s 19 = true) (hi : ifld s f = true) (hn : narrow ft (.int x) = .int x) (hf : fits ft (.int x) = true) (hq : pc + 3 = q) (kk : WK E d M q lv st (wr m k (upd (m k) f x)) L Q) : WK E d M pc lv (.int x :: .ref (ev_z E + k) :: st) m L Q := by
  intro Qh hQ
  refine aw_putfield hF hd (shp_lt hs (by have := Nat.le_of_ble_eq_true hb; exact Nat.ble_eq_true_of_le (by omega))) (HP_obj hs hb) (hfs_len hi) hn hf hq ?_
  rw [hfs_set hi, HP_wr (v := upd (m k) f x) (by rw [hs]; exact hcell_obj hb)]
  exact kk Qh hQ
theorem wk_putSort {ix k : Nat} {ft : FieldType} {c : Int32} (hF : FP M.1.cls ix 2 0 ft) (hd : decode M.2.1 pc = .ok (.putfield ix, 3)) (hs : shp k = 2) (hn : narrow ft (.ref (ev_z E + kref c)) = .ref (ev_z E + kref c)) (hf : fits ft (.ref (ev_z E + kref c)) = true) (hq : pc + 3 = q) (kk : WK E d M q lv st (wr m k (upd (m k) 0 c)) L Q) : WK E d M pc lv (.ref (ev_z E + kref c) :: .ref (ev_z E + k) :: st) m L Q := by
  intro Qh hQ
  refine aw_putfield hF hd (shp_lt hs rfl) (HP_obj hs rfl) (by show 0 < 7; decide) hn hf hq ?_
  rw [HP_wr (v := upd (m k) 0 c) (by
    rw [hs, hcell_obj rfl]
    show Sum.inr (2, hfs (ev_z E) (wr m k (upd (m k) 0 c)) 2 k) = Sum.inr (2, (hfs (ev_z E) m 2 k).set 0 _)
    simp [hfs, wr_s, upd])]
  exact kk Qh hQ
theorem wk_iald {k n : Nat} {i : Int32} (hd : decode M.2.1 pc = .ok (.iaload, 1)) (hs : shp k = 24) (hi : i = nI n) (hn : n < ilen k) (hq : pc + 1 = q) (kk : WK E d M q lv (.int (m k n) :: st) m L Q) : WK E d M pc lv (.int i :: .ref (ev_z E + k) :: st) m L Q := by
  intro Qh hQ
  subst hi
  exact aw_iaload hd (shp_lt hs rfl) (HP_at hs) (vp_in_nI hn (ilen_lt k)) (by rw [nI_clamp (Nat.lt_trans hn (ilen_lt k))]) hq (kk Qh hQ)
theorem wk_iast {k n : Nat} {i x : Int32} (hd : decode M.2.1 pc = .ok (.iastore, 1)) (hs : shp k = 24) (hi : i = nI n) (hn : n < ilen k) (hq : pc + 1 = q) (kk : WK E d M q lv st (wr m k (upd (m k) n x)) L Q) : WK E d M pc lv (.int x :: .int i :: .ref (ev_z E + k) :: st) m L Q := by
  intro Qh hQ
  subst hi
  refine aw_iastore hd (shp_lt hs rfl) (HP_at hs) (vp_in_nI hn (ilen_lt k)) hq ?_
  rw [nI_clamp (Nat.lt_trans hn (ilen_lt k)), HP_wr (v := upd (m k) n x) (by rw [hs]; show aI _ _ (wr m k (upd (m k) n x) k) = _; rw [wr_s])]
  exact kk Qh hQ
theorem wk_bald {k n : Nat} {i : Int32} (hd : decode M.2.1 pc = .ok (.baload, 1)) (hs : shp k = 25) (hi : i = nI n) (hn : n < 120) (hq : pc + 1 = q) (kk : WK E d M q lv (.int (m k n) :: st) m L Q) : WK E d M pc lv (.int i :: .ref (ev_z E + k) :: st) m L Q := by
  intro Qh hQ
  subst hi
  exact aw_baload hd (shp_lt hs rfl) (HP_at hs) (vp_in_nI hn (by omega)) (by rw [nI_clamp (by omega)]) hq (kk Qh hQ)
theorem wk_bast {k n : Nat} {i x : Int32} (hd : decode M.2.1 pc = .ok (.bastore, 1)) (hs : shp k = 25) (hi : i = nI n) (hn : n < 120) (hq : pc + 1 = q) (kk : WK E d M q lv st (wr m k (upd (m k) n x.toInt8.toInt32)) L Q) : WK E d M pc lv (.int x :: .int i :: .ref (ev_z E + k) :: st) m L Q := by
  intro Qh hQ
  subst hi
  refine aw_bastore hd (shp_lt hs rfl) (HP_at hs) (vp_in_nI hn (by omega)) hq ?_
  rw [nI_clamp (by omega), vp_nar_byte, HP_wr (v := upd (m k) n x.toInt8.toInt32) (by rw [hs]; show aI _ _ (wr m k (upd (m k) n x.toInt8.toInt32) k) = _; rw [wr_s])]
  exact kk Qh hQ
theorem wk_lald {k n : Nat} {i : Int32} (hd : decode M.2.1 pc = .ok (.laload, 1)) (hs : shp k = 26) (hi : i = nI n) (hn : n < llen k) (hq : pc + 1 = q) (kk : WK E d M q lv (.long (L k n) :: st) m L Q) : WK E d M pc lv (.int i :: .ref (ev_z E + k) :: st) m L Q := by
  intro Qh hQ
  subst hi
  exact aw_laload hd (shp_lt hs rfl) (HP_at hs) (vp_in_nI hn (llen_lt k)) (by rw [nI_clamp (Nat.lt_trans hn (llen_lt k))]) hq (kk Qh hQ)
theorem wk_last {k n : Nat} {i : Int32} {x : Int64} (hd : decode M.2.1 pc = .ok (.lastore, 1)) (hs : shp k = 26) (hi : i = nI n) (hn : n < llen k) (hq : pc + 1 = q) (kk : WK E d M q lv st m (wrL L k (vp_updL (L k) n x)) Q) : WK E d M pc lv (.long x :: .int i :: .ref (ev_z E + k) :: st) m L Q := by
  intro Qh hQ
  subst hi
  refine aw_lastore hd (shp_lt hs rfl) (HP_at hs) (vp_in_nI hn (llen_lt k)) hq ?_
  rw [nI_clamp (Nat.lt_trans hn (llen_lt k)), HP_wrL (v := vp_updL (L k) n x) (by rw [hs]; show aL _ _ (wrL L k (vp_updL (L k) n x) k) = _; rw [wrL_s])]
  exact kk Qh hQ
theorem wk_aaldK {k n : Nat} {i : Int32} (hd : decode M.2.1 pc = .ok (.aaload, 1)) (hs : shp k = 20) (hi : i = nI n) (hn : n < 6) (hq : pc + 1 = q) (kk : WK E d M q lv (.ref (ev_z E + kcl n) :: st) m L Q) : WK E d M pc lv (.int i :: .ref (ev_z E + k) :: st) m L Q := by
  intro Qh hQ
  subst hi
  exact aw_aaload (t := 3) rfl hd (shp_lt hs rfl) (HP_at hs) (vp_in_nI hn (by omega)) (by rw [nI_clamp (by omega)]) hq (kk Qh hQ)
theorem wk_aaldG {k n : Nat} {i : Int32} (hd : decode M.2.1 pc = .ok (.aaload, 1)) (hs : shp k = 21) (hi : i = nI n) (hn : n < 8) (hq : pc + 1 = q) (kk : WK E d M q lv (.ref (ev_z E + (k + 1 + n)) :: st) m L Q) : WK E d M pc lv (.int i :: .ref (ev_z E + k) :: st) m L Q := by
  intro Qh hQ
  subst hi
  exact aw_aaload (t := 4) rfl hd (shp_lt hs rfl) (HP_at hs) (vp_in_nI hn (by omega)) (by rw [nI_clamp (by omega)]) hq (kk Qh hQ)
theorem wk_aaldP {k n : Nat} {i : Int32} (hd : decode M.2.1 pc = .ok (.aaload, 1)) (hs : shp k = 22) (hi : i = nI n) (hn : n < 6) (hq : pc + 1 = q) (kk : WK E d M q lv (.ref (ev_z E + (k + 1 + n)) :: st) m L Q) : WK E d M pc lv (.int i :: .ref (ev_z E + k) :: st) m L Q := by
  intro Qh hQ
  subst hi
  exact aw_aaload (t := 5) rfl hd (shp_lt hs rfl) (HP_at hs) (vp_in_nI hn (by omega)) (by rw [nI_clamp (by omega)]) hq (kk Qh hQ)
theorem wk_aaldS {k n : Nat} {i : Int32} (hd : decode M.2.1 pc = .ok (.aaload, 1)) (hs : shp k = 23) (hi : i = nI n) (hn : n < 4) (hq : pc + 1 = q) (kk : WK E d M q lv (.ref (ev_z E + (63 + 2 * n)) :: st) m L Q) : WK E d M pc lv (.int i :: .ref (ev_z E + k) :: st) m L Q := by
  intro Qh hQ
  subst hi
  exact aw_aaload (t := 6) rfl hd (shp_lt hs rfl) (HP_at hs) (vp_in_nI hn (by omega)) (by rw [nI_clamp (by omega)]) hq (kk Qh hQ)
theorem wk_alenK {k : Nat} (hd : decode M.2.1 pc = .ok (.arraylength, 1)) (hs : shp k = 20) (hq : pc + 1 = q) (kk : WK E d M q lv (.int 6 :: st) m L Q) : WK E d M pc lv (.ref (ev_z E + k) :: st) m L Q :=
  fun Qh hQ => aw_alen (t := 3) rfl hd (shp_lt hs rfl) (HP_at hs) rfl hq (kk Qh hQ)
theorem wk_alenG {k : Nat} (hd : decode M.2.1 pc = .ok (.arraylength, 1)) (hs : shp k = 21) (hq : pc + 1 = q) (kk : WK E d M q lv (.int 8 :: st) m L Q) : WK E d M pc lv (.ref (ev_z E + k) :: st) m L Q :=
  fun Qh hQ => aw_alen (t := 4) rfl hd (shp_lt hs rfl) (HP_at hs) rfl hq (kk Qh hQ)
theorem wk_alenP {k : Nat} (hd : decode M.2.1 pc = .ok (.arraylength, 1)) (hs : shp k = 22) (hq : pc + 1 = q) (kk : WK E d M q lv (.int 6 :: st) m L Q) : WK E d M pc lv (.ref (ev_z E + k) :: st) m L Q :=
  fun Qh hQ => aw_alen (t := 5) rfl hd (shp_lt hs rfl) (HP_at hs) rfl hq (kk Qh hQ)
theorem wk_alenB {k : Nat} (hd : decode M.2.1 pc = .ok (.arraylength, 1)) (hs : shp k = 25) (hq : pc + 1 = q) (kk : WK E d M q lv (.int 120 :: st) m L Q) : WK E d M pc lv (.ref (ev_z E + k) :: st) m L Q :=
  fun Qh hQ => aw_alen (t := 2) rfl hd (shp_lt hs rfl) (HP_at hs) rfl hq (kk Qh hQ)
theorem wk_copyl {ix a0 a1 : Nat} {sp dp n : Int32} {ns nd nn : Nat} (hM : Cond.methodLink M.1.cls ix arraycopyName ∈ gtbl ∧ Cond.native arraycopyName ∈ gtbl ∧ Cond.static arraycopyName ∈ gtbl ∧ Cond.initialized "java/lang/System" ∈ gtbl) (hd : decode M.2.1 pc = .ok (.invokestatic ix, 3)) (hs0 : shp a0 = 26) (hs1 : shp a1 = 26) (h1 : sp = nI ns) (h2 : dp = nI nd) (h3 : n = nI nn) (h4 : ns + nn ≤ llen a0) (h5 : nd + nn ≤ llen a1) (hdd : Nat.ble 1 d = true) (hrm : st = []) (hq : pc + 3 = q) (k : WK E d M q lv st m (wrL L a1 (va_cpy (L a0) (L a1) ns nd nn)) Q) : WK E d M pc lv (.int n :: .int dp :: .ref (ev_z E + a1) :: .int sp :: .ref (ev_z E + a0) :: st) m L Q := by
  intro Qh hQ
  subst h1; subst h2; subst h3; subst hrm
  have l0 := llen_lt a0
  have l1 := llen_lt a1
  have c1 := nI_clamp (n := ns) (by omega)
  have c2 := nI_clamp (n := nd) (by omega)
  have c3 := nI_clamp (n := nn) (by omega)
  refine aw_copyl hM hd (shp_lt hs0 rfl) (HP_at hs0) (shp_lt hs1 rfl) (HP_at hs1) (nI_pos (by omega)) (nI_pos (by omega)) (nI_pos (by omega)) (by rw [c1, c3]; exact h4) (by rw [c2, c3]; exact h5) (Nat.le_of_ble_eq_true hdd) (by decide +kernel) hq ?_
  rw [c1, c2, c3, HP_wrL (v := va_cpy (L a0) (L a1) ns nd nn) (by rw [hs1]; show aL _ _ (wrL L a1 _ a1) = _; rw [wrL_s])]
  exact k Qh hQ

theorem wk_V0r {d' : Nat} {M' : MDt} {ix s k : Nat} {ty : FieldType} {rest : List Value} (hM : MLV M.1.cls ix M' 0) (hd : decode M.2.1 pc = .ok (.invokevirtual ix, 3)) (hs : shp k = s) (hb : Nat.ble s 19 = true) (hcl : (vwCl[s]?).map (fun r => r.1) = some M'.1.cls) (hr : M'.2.2.2 = some ty) (hdd : Nat.ble (d' + 1) d = true) (hrm : Nat.ble (rest.map fun v => v.category).sum 8 = true) (hq : pc + 3 = q) (kk : CK E d' M' (.ref (ev_z E + k) :: []) m L (fun v m' L' => WK E d M q lv (v :: rest) m' L' Q)) : WK E d M pc lv (.ref (ev_z E + k) :: rest) m L Q := by
  intro Qh hQ
  obtain ⟨r, hr1, hr2⟩ := Option.map_eq_some_iff.mp hcl
  exact aw_callV (As := []) (rest := rest) hM hd (shp_lt hs (by have := Nat.le_of_ble_eq_true hb; exact Nat.ble_eq_true_of_le (by omega))) (HP_obj hs hb) hr1 hr2 (Nat.le_of_ble_eq_true hdd) rfl rfl (Nat.le_of_ble_eq_true hrm) (Nat.le_refl _) (Nat.le_refl _) hq (kk _ (fun v m' L' hw => by rw [hr]; exact hw Qh hQ))
theorem wk_S0r {d' : Nat} {M' : MDt} {ix : Nat} {ty : FieldType} {rest : List Value} (hM : MLS M.1.cls ix M' 0) (hd : decode M.2.1 pc = .ok (.invokestatic ix, 3)) (hr : M'.2.2.2 = some ty) (hdd : Nat.ble (d' + 1) d = true) (hrm : Nat.ble (rest.map fun v => v.category).sum 8 = true) (hq : pc + 3 = q) (kk : CK E d' M' [] m L (fun v m' L' => WK E d M q lv (v :: rest) m' L' Q)) : WK E d M pc lv (rest) m L Q := by
  intro Qh hQ
  exact aw_callS (As := []) (rest := rest) hM hd (Nat.le_of_ble_eq_true hdd) rfl rfl (Nat.le_of_ble_eq_true hrm) (Nat.le_refl _) (Nat.le_refl _) hq (kk _ (fun v m' L' hw => by rw [hr]; exact hw Qh hQ))
theorem wk_T0r {d' : Nat} {M' : MDt} {ix : Nat} {ty : FieldType} {rest : List Value} (hM : MLN M.1.cls ix M' 0) (hd : decode M.2.1 pc = .ok (.invokestatic ix, 3)) (hr : M'.2.2.2 = some ty) (hdd : Nat.ble (d' + 1) d = true) (hrm : Nat.ble (rest.map fun v => v.category).sum 8 = true) (hq : pc + 3 = q) (kk : CK E d' M' [] m L (fun v m' L' => WK E d M q lv (v :: rest) m' L' Q)) : WK E d M pc lv (rest) m L Q := by
  intro Qh hQ
  exact aw_callSN (As := []) (rest := rest) hM hd (Nat.le_of_ble_eq_true hdd) rfl rfl (Nat.le_of_ble_eq_true hrm) (Nat.le_refl _) (Nat.le_refl _) hq (kk _ (fun v m' L' hw => by rw [hr]; exact hw Qh hQ))
theorem wk_O0r {d' : Nat} {M' : MDt} {ix s k : Nat} {r : vw_C} {owner : String} {x : MethodName} {ty : FieldType} {rest : List Value} (hM : MLO M.1.cls ix r.1 owner x M' 0) (hd : decode M.2.1 pc = .ok (.invokevirtual ix, 3)) (hs : shp k = s) (hb : Nat.ble s 19 = true) (hcl : vwCl[s]? = some r) (hr : M'.2.2.2 = some ty) (hdd : Nat.ble (d' + 1) d = true) (hrm : Nat.ble (rest.map fun v => v.category).sum 8 = true) (hq : pc + 3 = q) (kk : CK E d' M' (.ref (ev_z E + k) :: []) m L (fun v m' L' => WK E d M q lv (v :: rest) m' L' Q)) : WK E d M pc lv (.ref (ev_z E + k) :: rest) m L Q := by
  intro Qh hQ
  exact aw_callO (As := []) (rest := rest) hM hd (shp_lt hs (by have := Nat.le_of_ble_eq_true hb; exact Nat.ble_eq_true_of_le (by omega))) (HP_obj hs hb) hcl (Nat.le_of_ble_eq_true hdd) rfl rfl (Nat.le_of_ble_eq_true hrm) (Nat.le_refl _) (Nat.le_refl _) hq (kk _ (fun v m' L' hw => by rw [hr]; exact hw Qh hQ))
theorem wk_U0r {d' : Nat} {M' : MDt} {ix s k : Nat} {r : vw_C} {x : MethodName} {ty : FieldType} {rest : List Value} (hM : MLU M.1.cls ix x M' 0) (hd : decode M.2.1 pc = .ok (.invokespecial ix, 3)) (hs : shp k = s) (hb : Nat.ble s 19 = true) (hcl : vwCl[s]? = some r) (hr : M'.2.2.2 = some ty) (hdd : Nat.ble (d' + 1) d = true) (hrm : Nat.ble (rest.map fun v => v.category).sum 8 = true) (hq : pc + 3 = q) (kk : CK E d' M' (.ref (ev_z E + k) :: []) m L (fun v m' L' => WK E d M q lv (v :: rest) m' L' Q)) : WK E d M pc lv (.ref (ev_z E + k) :: rest) m L Q := by
  intro Qh hQ
  exact aw_callU (As := []) (rest := rest) hM hd (shp_lt hs (by have := Nat.le_of_ble_eq_true hb; exact Nat.ble_eq_true_of_le (by omega))) (HP_obj hs hb) hcl (Nat.le_of_ble_eq_true hdd) rfl rfl (Nat.le_of_ble_eq_true hrm) (Nat.le_refl _) (Nat.le_refl _) hq (kk _ (fun v m' L' hw => by rw [hr]; exact hw Qh hQ))
theorem wk_K0r {d' : Nat} {M' : MDt} {ix i : Nat} {ty : FieldType} {rest : List Value} (hM : MLV M.1.cls ix M' 0) (hcl : M'.1.cls = RJ0) (hd : decode M.2.1 pc = .ok (.invokevirtual ix, 3)) (hi : i < 13) (hr : M'.2.2.2 = some ty) (hdd : Nat.ble (d' + 1) d = true) (hrm : Nat.ble (rest.map fun v => v.category).sum 8 = true) (hq : pc + 3 = q) (kk : CK E d' M' (.ref (ev_K E i) :: []) m L (fun v m' L' => WK E d M q lv (v :: rest) m' L' Q)) : WK E d M pc lv (.ref (ev_K E i) :: rest) m L Q := by
  intro Qh hQ
  exact aw_callK (As := []) (rest := rest) hM hcl hd hi (Nat.le_of_ble_eq_true hdd) rfl rfl (Nat.le_of_ble_eq_true hrm) (Nat.le_refl _) (Nat.le_refl _) hq (kk _ (fun v m' L' hw => by rw [hr]; exact hw Qh hQ))
theorem wk_V0v {d' : Nat} {M' : MDt} {ix s k : Nat} {rest : List Value} (hM : MLV M.1.cls ix M' 0) (hd : decode M.2.1 pc = .ok (.invokevirtual ix, 3)) (hs : shp k = s) (hb : Nat.ble s 19 = true) (hcl : (vwCl[s]?).map (fun r => r.1) = some M'.1.cls) (hr : M'.2.2.2 = none) (hdd : Nat.ble (d' + 1) d = true) (hrm : Nat.ble (rest.map fun v => v.category).sum 8 = true) (hq : pc + 3 = q) (kk : CK E d' M' (.ref (ev_z E + k) :: []) m L (fun v m' L' => WK E d M q lv (rest) m' L' Q)) : WK E d M pc lv (.ref (ev_z E + k) :: rest) m L Q := by
  intro Qh hQ
  obtain ⟨r, hr1, hr2⟩ := Option.map_eq_some_iff.mp hcl
  exact aw_callV (As := []) (rest := rest) hM hd (shp_lt hs (by have := Nat.le_of_ble_eq_true hb; exact Nat.ble_eq_true_of_le (by omega))) (HP_obj hs hb) hr1 hr2 (Nat.le_of_ble_eq_true hdd) rfl rfl (Nat.le_of_ble_eq_true hrm) (Nat.le_refl _) (Nat.le_refl _) hq (kk _ (fun v m' L' hw => by rw [hr]; exact hw Qh hQ))
theorem wk_S0v {d' : Nat} {M' : MDt} {ix : Nat} {rest : List Value} (hM : MLS M.1.cls ix M' 0) (hd : decode M.2.1 pc = .ok (.invokestatic ix, 3)) (hr : M'.2.2.2 = none) (hdd : Nat.ble (d' + 1) d = true) (hrm : Nat.ble (rest.map fun v => v.category).sum 8 = true) (hq : pc + 3 = q) (kk : CK E d' M' [] m L (fun v m' L' => WK E d M q lv (rest) m' L' Q)) : WK E d M pc lv (rest) m L Q := by
  intro Qh hQ
  exact aw_callS (As := []) (rest := rest) hM hd (Nat.le_of_ble_eq_true hdd) rfl rfl (Nat.le_of_ble_eq_true hrm) (Nat.le_refl _) (Nat.le_refl _) hq (kk _ (fun v m' L' hw => by rw [hr]; exact hw Qh hQ))
theorem wk_T0v {d' : Nat} {M' : MDt} {ix : Nat} {rest : List Value} (hM : MLN M.1.cls ix M' 0) (hd : decode M.2.1 pc = .ok (.invokestatic ix, 3)) (hr : M'.2.2.2 = none) (hdd : Nat.ble (d' + 1) d = true) (hrm : Nat.ble (rest.map fun v => v.category).sum 8 = true) (hq : pc + 3 = q) (kk : CK E d' M' [] m L (fun v m' L' => WK E d M q lv (rest) m' L' Q)) : WK E d M pc lv (rest) m L Q := by
  intro Qh hQ
  exact aw_callSN (As := []) (rest := rest) hM hd (Nat.le_of_ble_eq_true hdd) rfl rfl (Nat.le_of_ble_eq_true hrm) (Nat.le_refl _) (Nat.le_refl _) hq (kk _ (fun v m' L' hw => by rw [hr]; exact hw Qh hQ))
theorem wk_V1r {d' : Nat} {M' : MDt} {ix s k : Nat} {ty : FieldType} {a1 : Value} {rest : List Value} (hM : MLV M.1.cls ix M' 1) (hd : decode M.2.1 pc = .ok (.invokevirtual ix, 3)) (hs : shp k = s) (hb : Nat.ble s 19 = true) (hcl : (vwCl[s]?).map (fun r => r.1) = some M'.1.cls) (hr : M'.2.2.2 = some ty) (hdd : Nat.ble (d' + 1) d = true) (hrm : Nat.ble (rest.map fun v => v.category).sum 8 = true) (hq : pc + 3 = q) (kk : CK E d' M' (.ref (ev_z E + k) :: [a1]) m L (fun v m' L' => WK E d M q lv (v :: rest) m' L' Q)) : WK E d M pc lv (a1 :: .ref (ev_z E + k) :: rest) m L Q := by
  intro Qh hQ
  obtain ⟨r, hr1, hr2⟩ := Option.map_eq_some_iff.mp hcl
  exact aw_callV (As := [a1]) (rest := rest) hM hd (shp_lt hs (by have := Nat.le_of_ble_eq_true hb; exact Nat.ble_eq_true_of_le (by omega))) (HP_obj hs hb) hr1 hr2 (Nat.le_of_ble_eq_true hdd) rfl rfl (Nat.le_of_ble_eq_true hrm) (Nat.le_refl _) (Nat.le_refl _) hq (kk _ (fun v m' L' hw => by rw [hr]; exact hw Qh hQ))
theorem wk_S1r {d' : Nat} {M' : MDt} {ix : Nat} {ty : FieldType} {a1 : Value} {rest : List Value} (hM : MLS M.1.cls ix M' 1) (hd : decode M.2.1 pc = .ok (.invokestatic ix, 3)) (hr : M'.2.2.2 = some ty) (hdd : Nat.ble (d' + 1) d = true) (hrm : Nat.ble (rest.map fun v => v.category).sum 8 = true) (hq : pc + 3 = q) (kk : CK E d' M' [a1] m L (fun v m' L' => WK E d M q lv (v :: rest) m' L' Q)) : WK E d M pc lv (a1 :: rest) m L Q := by
  intro Qh hQ
  exact aw_callS (As := [a1]) (rest := rest) hM hd (Nat.le_of_ble_eq_true hdd) rfl rfl (Nat.le_of_ble_eq_true hrm) (Nat.le_refl _) (Nat.le_refl _) hq (kk _ (fun v m' L' hw => by rw [hr]; exact hw Qh hQ))
theorem wk_T1r {d' : Nat} {M' : MDt} {ix : Nat} {ty : FieldType} {a1 : Value} {rest : List Value} (hM : MLN M.1.cls ix M' 1) (hd : decode M.2.1 pc = .ok (.invokestatic ix, 3)) (hr : M'.2.2.2 = some ty) (hdd : Nat.ble (d' + 1) d = true) (hrm : Nat.ble (rest.map fun v => v.category).sum 8 = true) (hq : pc + 3 = q) (kk : CK E d' M' [a1] m L (fun v m' L' => WK E d M q lv (v :: rest) m' L' Q)) : WK E d M pc lv (a1 :: rest) m L Q := by
  intro Qh hQ
  exact aw_callSN (As := [a1]) (rest := rest) hM hd (Nat.le_of_ble_eq_true hdd) rfl rfl (Nat.le_of_ble_eq_true hrm) (Nat.le_refl _) (Nat.le_refl _) hq (kk _ (fun v m' L' hw => by rw [hr]; exact hw Qh hQ))
theorem wk_O1r {d' : Nat} {M' : MDt} {ix s k : Nat} {r : vw_C} {owner : String} {x : MethodName} {ty : FieldType} {a1 : Value} {rest : List Value} (hM : MLO M.1.cls ix r.1 owner x M' 1) (hd : decode M.2.1 pc = .ok (.invokevirtual ix, 3)) (hs : shp k = s) (hb : Nat.ble s 19 = true) (hcl : vwCl[s]? = some r) (hr : M'.2.2.2 = some ty) (hdd : Nat.ble (d' + 1) d = true) (hrm : Nat.ble (rest.map fun v => v.category).sum 8 = true) (hq : pc + 3 = q) (kk : CK E d' M' (.ref (ev_z E + k) :: [a1]) m L (fun v m' L' => WK E d M q lv (v :: rest) m' L' Q)) : WK E d M pc lv (a1 :: .ref (ev_z E + k) :: rest) m L Q := by
  intro Qh hQ
  exact aw_callO (As := [a1]) (rest := rest) hM hd (shp_lt hs (by have := Nat.le_of_ble_eq_true hb; exact Nat.ble_eq_true_of_le (by omega))) (HP_obj hs hb) hcl (Nat.le_of_ble_eq_true hdd) rfl rfl (Nat.le_of_ble_eq_true hrm) (Nat.le_refl _) (Nat.le_refl _) hq (kk _ (fun v m' L' hw => by rw [hr]; exact hw Qh hQ))
theorem wk_U1r {d' : Nat} {M' : MDt} {ix s k : Nat} {r : vw_C} {x : MethodName} {ty : FieldType} {a1 : Value} {rest : List Value} (hM : MLU M.1.cls ix x M' 1) (hd : decode M.2.1 pc = .ok (.invokespecial ix, 3)) (hs : shp k = s) (hb : Nat.ble s 19 = true) (hcl : vwCl[s]? = some r) (hr : M'.2.2.2 = some ty) (hdd : Nat.ble (d' + 1) d = true) (hrm : Nat.ble (rest.map fun v => v.category).sum 8 = true) (hq : pc + 3 = q) (kk : CK E d' M' (.ref (ev_z E + k) :: [a1]) m L (fun v m' L' => WK E d M q lv (v :: rest) m' L' Q)) : WK E d M pc lv (a1 :: .ref (ev_z E + k) :: rest) m L Q := by
  intro Qh hQ
  exact aw_callU (As := [a1]) (rest := rest) hM hd (shp_lt hs (by have := Nat.le_of_ble_eq_true hb; exact Nat.ble_eq_true_of_le (by omega))) (HP_obj hs hb) hcl (Nat.le_of_ble_eq_true hdd) rfl rfl (Nat.le_of_ble_eq_true hrm) (Nat.le_refl _) (Nat.le_refl _) hq (kk _ (fun v m' L' hw => by rw [hr]; exact hw Qh hQ))
theorem wk_K1r {d' : Nat} {M' : MDt} {ix i : Nat} {ty : FieldType} {a1 : Value} {rest : List Value} (hM : MLV M.1.cls ix M' 1) (hcl : M'.1.cls = RJ0) (hd : decode M.2.1 pc = .ok (.invokevirtual ix, 3)) (hi : i < 13) (hr : M'.2.2.2 = some ty) (hdd : Nat.ble (d' + 1) d = true) (hrm : Nat.ble (rest.map fun v => v.category).sum 8 = true) (hq : pc + 3 = q) (kk : CK E d' M' (.ref (ev_K E i) :: [a1]) m L (fun v m' L' => WK E d M q lv (v :: rest) m' L' Q)) : WK E d M pc lv (a1 :: .ref (ev_K E i) :: rest) m L Q := by
  intro Qh hQ
  exact aw_callK (As := [a1]) (rest := rest) hM hcl hd hi (Nat.le_of_ble_eq_true hdd) rfl rfl (Nat.le_of_ble_eq_true hrm) (Nat.le_refl _) (Nat.le_refl _) hq (kk _ (fun v m' L' hw => by rw [hr]; exact hw Qh hQ))
theorem wk_V1v {d' : Nat} {M' : MDt} {ix s k : Nat} {a1 : Value} {rest : List Value} (hM : MLV M.1.cls ix M' 1) (hd : decode M.2.1 pc = .ok (.invokevirtual ix, 3)) (hs : shp k = s) (hb : Nat.ble s 19 = true) (hcl : (vwCl[s]?).map (fun r => r.1) = some M'.1.cls) (hr : M'.2.2.2 = none) (hdd : Nat.ble (d' + 1) d = true) (hrm : Nat.ble (rest.map fun v => v.category).sum 8 = true) (hq : pc + 3 = q) (kk : CK E d' M' (.ref (ev_z E + k) :: [a1]) m L (fun v m' L' => WK E d M q lv (rest) m' L' Q)) : WK E d M pc lv (a1 :: .ref (ev_z E + k) :: rest) m L Q := by
  intro Qh hQ
  obtain ⟨r, hr1, hr2⟩ := Option.map_eq_some_iff.mp hcl
  exact aw_callV (As := [a1]) (rest := rest) hM hd (shp_lt hs (by have := Nat.le_of_ble_eq_true hb; exact Nat.ble_eq_true_of_le (by omega))) (HP_obj hs hb) hr1 hr2 (Nat.le_of_ble_eq_true hdd) rfl rfl (Nat.le_of_ble_eq_true hrm) (Nat.le_refl _) (Nat.le_refl _) hq (kk _ (fun v m' L' hw => by rw [hr]; exact hw Qh hQ))
theorem wk_S1v {d' : Nat} {M' : MDt} {ix : Nat} {a1 : Value} {rest : List Value} (hM : MLS M.1.cls ix M' 1) (hd : decode M.2.1 pc = .ok (.invokestatic ix, 3)) (hr : M'.2.2.2 = none) (hdd : Nat.ble (d' + 1) d = true) (hrm : Nat.ble (rest.map fun v => v.category).sum 8 = true) (hq : pc + 3 = q) (kk : CK E d' M' [a1] m L (fun v m' L' => WK E d M q lv (rest) m' L' Q)) : WK E d M pc lv (a1 :: rest) m L Q := by
  intro Qh hQ
  exact aw_callS (As := [a1]) (rest := rest) hM hd (Nat.le_of_ble_eq_true hdd) rfl rfl (Nat.le_of_ble_eq_true hrm) (Nat.le_refl _) (Nat.le_refl _) hq (kk _ (fun v m' L' hw => by rw [hr]; exact hw Qh hQ))
theorem wk_T1v {d' : Nat} {M' : MDt} {ix : Nat} {a1 : Value} {rest : List Value} (hM : MLN M.1.cls ix M' 1) (hd : decode M.2.1 pc = .ok (.invokestatic ix, 3)) (hr : M'.2.2.2 = none) (hdd : Nat.ble (d' + 1) d = true) (hrm : Nat.ble (rest.map fun v => v.category).sum 8 = true) (hq : pc + 3 = q) (kk : CK E d' M' [a1] m L (fun v m' L' => WK E d M q lv (rest) m' L' Q)) : WK E d M pc lv (a1 :: rest) m L Q := by
  intro Qh hQ
  exact aw_callSN (As := [a1]) (rest := rest) hM hd (Nat.le_of_ble_eq_true hdd) rfl rfl (Nat.le_of_ble_eq_true hrm) (Nat.le_refl _) (Nat.le_refl _) hq (kk _ (fun v m' L' hw => by rw [hr]; exact hw Qh hQ))
theorem wk_V2r {d' : Nat} {M' : MDt} {ix s k : Nat} {ty : FieldType} {a1 a2 : Value} {rest : List Value} (hM : MLV M.1.cls ix M' 2) (hd : decode M.2.1 pc = .ok (.invokevirtual ix, 3)) (hs : shp k = s) (hb : Nat.ble s 19 = true) (hcl : (vwCl[s]?).map (fun r => r.1) = some M'.1.cls) (hr : M'.2.2.2 = some ty) (hdd : Nat.ble (d' + 1) d = true) (hrm : Nat.ble (rest.map fun v => v.category).sum 8 = true) (hq : pc + 3 = q) (kk : CK E d' M' (.ref (ev_z E + k) :: [a1, a2]) m L (fun v m' L' => WK E d M q lv (v :: rest) m' L' Q)) : WK E d M pc lv (a2 :: a1 :: .ref (ev_z E + k) :: rest) m L Q := by
  intro Qh hQ
  obtain ⟨r, hr1, hr2⟩ := Option.map_eq_some_iff.mp hcl
  exact aw_callV (As := [a1, a2]) (rest := rest) hM hd (shp_lt hs (by have := Nat.le_of_ble_eq_true hb; exact Nat.ble_eq_true_of_le (by omega))) (HP_obj hs hb) hr1 hr2 (Nat.le_of_ble_eq_true hdd) rfl rfl (Nat.le_of_ble_eq_true hrm) (Nat.le_refl _) (Nat.le_refl _) hq (kk _ (fun v m' L' hw => by rw [hr]; exact hw Qh hQ))
theorem wk_S2r {d' : Nat} {M' : MDt} {ix : Nat} {ty : FieldType} {a1 a2 : Value} {rest : List Value} (hM : MLS M.1.cls ix M' 2) (hd : decode M.2.1 pc = .ok (.invokestatic ix, 3)) (hr : M'.2.2.2 = some ty) (hdd : Nat.ble (d' + 1) d = true) (hrm : Nat.ble (rest.map fun v => v.category).sum 8 = true) (hq : pc + 3 = q) (kk : CK E d' M' [a1, a2] m L (fun v m' L' => WK E d M q lv (v :: rest) m' L' Q)) : WK E d M pc lv (a2 :: a1 :: rest) m L Q := by
  intro Qh hQ
  exact aw_callS (As := [a1, a2]) (rest := rest) hM hd (Nat.le_of_ble_eq_true hdd) rfl rfl (Nat.le_of_ble_eq_true hrm) (Nat.le_refl _) (Nat.le_refl _) hq (kk _ (fun v m' L' hw => by rw [hr]; exact hw Qh hQ))
theorem wk_T2r {d' : Nat} {M' : MDt} {ix : Nat} {ty : FieldType} {a1 a2 : Value} {rest : List Value} (hM : MLN M.1.cls ix M' 2) (hd : decode M.2.1 pc = .ok (.invokestatic ix, 3)) (hr : M'.2.2.2 = some ty) (hdd : Nat.ble (d' + 1) d = true) (hrm : Nat.ble (rest.map fun v => v.category).sum 8 = true) (hq : pc + 3 = q) (kk : CK E d' M' [a1, a2] m L (fun v m' L' => WK E d M q lv (v :: rest) m' L' Q)) : WK E d M pc lv (a2 :: a1 :: rest) m L Q := by
  intro Qh hQ
  exact aw_callSN (As := [a1, a2]) (rest := rest) hM hd (Nat.le_of_ble_eq_true hdd) rfl rfl (Nat.le_of_ble_eq_true hrm) (Nat.le_refl _) (Nat.le_refl _) hq (kk _ (fun v m' L' hw => by rw [hr]; exact hw Qh hQ))
theorem wk_O2r {d' : Nat} {M' : MDt} {ix s k : Nat} {r : vw_C} {owner : String} {x : MethodName} {ty : FieldType} {a1 a2 : Value} {rest : List Value} (hM : MLO M.1.cls ix r.1 owner x M' 2) (hd : decode M.2.1 pc = .ok (.invokevirtual ix, 3)) (hs : shp k = s) (hb : Nat.ble s 19 = true) (hcl : vwCl[s]? = some r) (hr : M'.2.2.2 = some ty) (hdd : Nat.ble (d' + 1) d = true) (hrm : Nat.ble (rest.map fun v => v.category).sum 8 = true) (hq : pc + 3 = q) (kk : CK E d' M' (.ref (ev_z E + k) :: [a1, a2]) m L (fun v m' L' => WK E d M q lv (v :: rest) m' L' Q)) : WK E d M pc lv (a2 :: a1 :: .ref (ev_z E + k) :: rest) m L Q := by
  intro Qh hQ
  exact aw_callO (As := [a1, a2]) (rest := rest) hM hd (shp_lt hs (by have := Nat.le_of_ble_eq_true hb; exact Nat.ble_eq_true_of_le (by omega))) (HP_obj hs hb) hcl (Nat.le_of_ble_eq_true hdd) rfl rfl (Nat.le_of_ble_eq_true hrm) (Nat.le_refl _) (Nat.le_refl _) hq (kk _ (fun v m' L' hw => by rw [hr]; exact hw Qh hQ))
theorem wk_U2r {d' : Nat} {M' : MDt} {ix s k : Nat} {r : vw_C} {x : MethodName} {ty : FieldType} {a1 a2 : Value} {rest : List Value} (hM : MLU M.1.cls ix x M' 2) (hd : decode M.2.1 pc = .ok (.invokespecial ix, 3)) (hs : shp k = s) (hb : Nat.ble s 19 = true) (hcl : vwCl[s]? = some r) (hr : M'.2.2.2 = some ty) (hdd : Nat.ble (d' + 1) d = true) (hrm : Nat.ble (rest.map fun v => v.category).sum 8 = true) (hq : pc + 3 = q) (kk : CK E d' M' (.ref (ev_z E + k) :: [a1, a2]) m L (fun v m' L' => WK E d M q lv (v :: rest) m' L' Q)) : WK E d M pc lv (a2 :: a1 :: .ref (ev_z E + k) :: rest) m L Q := by
  intro Qh hQ
  exact aw_callU (As := [a1, a2]) (rest := rest) hM hd (shp_lt hs (by have := Nat.le_of_ble_eq_true hb; exact Nat.ble_eq_true_of_le (by omega))) (HP_obj hs hb) hcl (Nat.le_of_ble_eq_true hdd) rfl rfl (Nat.le_of_ble_eq_true hrm) (Nat.le_refl _) (Nat.le_refl _) hq (kk _ (fun v m' L' hw => by rw [hr]; exact hw Qh hQ))
theorem wk_K2r {d' : Nat} {M' : MDt} {ix i : Nat} {ty : FieldType} {a1 a2 : Value} {rest : List Value} (hM : MLV M.1.cls ix M' 2) (hcl : M'.1.cls = RJ0) (hd : decode M.2.1 pc = .ok (.invokevirtual ix, 3)) (hi : i < 13) (hr : M'.2.2.2 = some ty) (hdd : Nat.ble (d' + 1) d = true) (hrm : Nat.ble (rest.map fun v => v.category).sum 8 = true) (hq : pc + 3 = q) (kk : CK E d' M' (.ref (ev_K E i) :: [a1, a2]) m L (fun v m' L' => WK E d M q lv (v :: rest) m' L' Q)) : WK E d M pc lv (a2 :: a1 :: .ref (ev_K E i) :: rest) m L Q := by
  intro Qh hQ
  exact aw_callK (As := [a1, a2]) (rest := rest) hM hcl hd hi (Nat.le_of_ble_eq_true hdd) rfl rfl (Nat.le_of_ble_eq_true hrm) (Nat.le_refl _) (Nat.le_refl _) hq (kk _ (fun v m' L' hw => by rw [hr]; exact hw Qh hQ))
theorem wk_V2v {d' : Nat} {M' : MDt} {ix s k : Nat} {a1 a2 : Value} {rest : List Value} (hM : MLV M.1.cls ix M' 2) (hd : decode M.2.1 pc = .ok (.invokevirtual ix, 3)) (hs : shp k = s) (hb : Nat.ble s 19 = true) (hcl : (vwCl[s]?).map (fun r => r.1) = some M'.1.cls) (hr : M'.2.2.2 = none) (hdd : Nat.ble (d' + 1) d = true) (hrm : Nat.ble (rest.map fun v => v.category).sum 8 = true) (hq : pc + 3 = q) (kk : CK E d' M' (.ref (ev_z E + k) :: [a1, a2]) m L (fun v m' L' => WK E d M q lv (rest) m' L' Q)) : WK E d M pc lv (a2 :: a1 :: .ref (ev_z E + k) :: rest) m L Q := by
  intro Qh hQ
  obtain ⟨r, hr1, hr2⟩ := Option.map_eq_some_iff.mp hcl
  exact aw_callV (As := [a1, a2]) (rest := rest) hM hd (shp_lt hs (by have := Nat.le_of_ble_eq_true hb; exact Nat.ble_eq_true_of_le (by omega))) (HP_obj hs hb) hr1 hr2 (Nat.le_of_ble_eq_true hdd) rfl rfl (Nat.le_of_ble_eq_true hrm) (Nat.le_refl _) (Nat.le_refl _) hq (kk _ (fun v m' L' hw => by rw [hr]; exact hw Qh hQ))
theorem wk_S2v {d' : Nat} {M' : MDt} {ix : Nat} {a1 a2 : Value} {rest : List Value} (hM : MLS M.1.cls ix M' 2) (hd : decode M.2.1 pc = .ok (.invokestatic ix, 3)) (hr : M'.2.2.2 = none) (hdd : Nat.ble (d' + 1) d = true) (hrm : Nat.ble (rest.map fun v => v.category).sum 8 = true) (hq : pc + 3 = q) (kk : CK E d' M' [a1, a2] m L (fun v m' L' => WK E d M q lv (rest) m' L' Q)) : WK E d M pc lv (a2 :: a1 :: rest) m L Q := by
  intro Qh hQ
  exact aw_callS (As := [a1, a2]) (rest := rest) hM hd (Nat.le_of_ble_eq_true hdd) rfl rfl (Nat.le_of_ble_eq_true hrm) (Nat.le_refl _) (Nat.le_refl _) hq (kk _ (fun v m' L' hw => by rw [hr]; exact hw Qh hQ))
theorem wk_T2v {d' : Nat} {M' : MDt} {ix : Nat} {a1 a2 : Value} {rest : List Value} (hM : MLN M.1.cls ix M' 2) (hd : decode M.2.1 pc = .ok (.invokestatic ix, 3)) (hr : M'.2.2.2 = none) (hdd : Nat.ble (d' + 1) d = true) (hrm : Nat.ble (rest.map fun v => v.category).sum 8 = true) (hq : pc + 3 = q) (kk : CK E d' M' [a1, a2] m L (fun v m' L' => WK E d M q lv (rest) m' L' Q)) : WK E d M pc lv (a2 :: a1 :: rest) m L Q := by
  intro Qh hQ
  exact aw_callSN (As := [a1, a2]) (rest := rest) hM hd (Nat.le_of_ble_eq_true hdd) rfl rfl (Nat.le_of_ble_eq_true hrm) (Nat.le_refl _) (Nat.le_refl _) hq (kk _ (fun v m' L' hw => by rw [hr]; exact hw Qh hQ))
theorem wk_V3r {d' : Nat} {M' : MDt} {ix s k : Nat} {ty : FieldType} {a1 a2 a3 : Value} {rest : List Value} (hM : MLV M.1.cls ix M' 3) (hd : decode M.2.1 pc = .ok (.invokevirtual ix, 3)) (hs : shp k = s) (hb : Nat.ble s 19 = true) (hcl : (vwCl[s]?).map (fun r => r.1) = some M'.1.cls) (hr : M'.2.2.2 = some ty) (hdd : Nat.ble (d' + 1) d = true) (hrm : Nat.ble (rest.map fun v => v.category).sum 8 = true) (hq : pc + 3 = q) (kk : CK E d' M' (.ref (ev_z E + k) :: [a1, a2, a3]) m L (fun v m' L' => WK E d M q lv (v :: rest) m' L' Q)) : WK E d M pc lv (a3 :: a2 :: a1 :: .ref (ev_z E + k) :: rest) m L Q := by
  intro Qh hQ
  obtain ⟨r, hr1, hr2⟩ := Option.map_eq_some_iff.mp hcl
  exact aw_callV (As := [a1, a2, a3]) (rest := rest) hM hd (shp_lt hs (by have := Nat.le_of_ble_eq_true hb; exact Nat.ble_eq_true_of_le (by omega))) (HP_obj hs hb) hr1 hr2 (Nat.le_of_ble_eq_true hdd) rfl rfl (Nat.le_of_ble_eq_true hrm) (Nat.le_refl _) (Nat.le_refl _) hq (kk _ (fun v m' L' hw => by rw [hr]; exact hw Qh hQ))
theorem wk_S3r {d' : Nat} {M' : MDt} {ix : Nat} {ty : FieldType} {a1 a2 a3 : Value} {rest : List Value} (hM : MLS M.1.cls ix M' 3) (hd : decode M.2.1 pc = .ok (.invokestatic ix, 3)) (hr : M'.2.2.2 = some ty) (hdd : Nat.ble (d' + 1) d = true) (hrm : Nat.ble (rest.map fun v => v.category).sum 8 = true) (hq : pc + 3 = q) (kk : CK E d' M' [a1, a2, a3] m L (fun v m' L' => WK E d M q lv (v :: rest) m' L' Q)) : WK E d M pc lv (a3 :: a2 :: a1 :: rest) m L Q := by
  intro Qh hQ
  exact aw_callS (As := [a1, a2, a3]) (rest := rest) hM hd (Nat.le_of_ble_eq_true hdd) rfl rfl (Nat.le_of_ble_eq_true hrm) (Nat.le_refl _) (Nat.le_refl _) hq (kk _ (fun v m' L' hw => by rw [hr]; exact hw Qh hQ))
theorem wk_T3r {d' : Nat} {M' : MDt} {ix : Nat} {ty : FieldType} {a1 a2 a3 : Value} {rest : List Value} (hM : MLN M.1.cls ix M' 3) (hd : decode M.2.1 pc = .ok (.invokestatic ix, 3)) (hr : M'.2.2.2 = some ty) (hdd : Nat.ble (d' + 1) d = true) (hrm : Nat.ble (rest.map fun v => v.category).sum 8 = true) (hq : pc + 3 = q) (kk : CK E d' M' [a1, a2, a3] m L (fun v m' L' => WK E d M q lv (v :: rest) m' L' Q)) : WK E d M pc lv (a3 :: a2 :: a1 :: rest) m L Q := by
  intro Qh hQ
  exact aw_callSN (As := [a1, a2, a3]) (rest := rest) hM hd (Nat.le_of_ble_eq_true hdd) rfl rfl (Nat.le_of_ble_eq_true hrm) (Nat.le_refl _) (Nat.le_refl _) hq (kk _ (fun v m' L' hw => by rw [hr]; exact hw Qh hQ))
theorem wk_V3v {d' : Nat} {M' : MDt} {ix s k : Nat} {a1 a2 a3 : Value} {rest : List Value} (hM : MLV M.1.cls ix M' 3) (hd : decode M.2.1 pc = .ok (.invokevirtual ix, 3)) (hs : shp k = s) (hb : Nat.ble s 19 = true) (hcl : (vwCl[s]?).map (fun r => r.1) = some M'.1.cls) (hr : M'.2.2.2 = none) (hdd : Nat.ble (d' + 1) d = true) (hrm : Nat.ble (rest.map fun v => v.category).sum 8 = true) (hq : pc + 3 = q) (kk : CK E d' M' (.ref (ev_z E + k) :: [a1, a2, a3]) m L (fun v m' L' => WK E d M q lv (rest) m' L' Q)) : WK E d M pc lv (a3 :: a2 :: a1 :: .ref (ev_z E + k) :: rest) m L Q := by
  intro Qh hQ
  obtain ⟨r, hr1, hr2⟩ := Option.map_eq_some_iff.mp hcl
  exact aw_callV (As := [a1, a2, a3]) (rest := rest) hM hd (shp_lt hs (by have := Nat.le_of_ble_eq_true hb; exact Nat.ble_eq_true_of_le (by omega))) (HP_obj hs hb) hr1 hr2 (Nat.le_of_ble_eq_true hdd) rfl rfl (Nat.le_of_ble_eq_true hrm) (Nat.le_refl _) (Nat.le_refl _) hq (kk _ (fun v m' L' hw => by rw [hr]; exact hw Qh hQ))
theorem wk_S3v {d' : Nat} {M' : MDt} {ix : Nat} {a1 a2 a3 : Value} {rest : List Value} (hM : MLS M.1.cls ix M' 3) (hd : decode M.2.1 pc = .ok (.invokestatic ix, 3)) (hr : M'.2.2.2 = none) (hdd : Nat.ble (d' + 1) d = true) (hrm : Nat.ble (rest.map fun v => v.category).sum 8 = true) (hq : pc + 3 = q) (kk : CK E d' M' [a1, a2, a3] m L (fun v m' L' => WK E d M q lv (rest) m' L' Q)) : WK E d M pc lv (a3 :: a2 :: a1 :: rest) m L Q := by
  intro Qh hQ
  exact aw_callS (As := [a1, a2, a3]) (rest := rest) hM hd (Nat.le_of_ble_eq_true hdd) rfl rfl (Nat.le_of_ble_eq_true hrm) (Nat.le_refl _) (Nat.le_refl _) hq (kk _ (fun v m' L' hw => by rw [hr]; exact hw Qh hQ))
theorem wk_T3v {d' : Nat} {M' : MDt} {ix : Nat} {a1 a2 a3 : Value} {rest : List Value} (hM : MLN M.1.cls ix M' 3) (hd : decode M.2.1 pc = .ok (.invokestatic ix, 3)) (hr : M'.2.2.2 = none) (hdd : Nat.ble (d' + 1) d = true) (hrm : Nat.ble (rest.map fun v => v.category).sum 8 = true) (hq : pc + 3 = q) (kk : CK E d' M' [a1, a2, a3] m L (fun v m' L' => WK E d M q lv (rest) m' L' Q)) : WK E d M pc lv (a3 :: a2 :: a1 :: rest) m L Q := by
  intro Qh hQ
  exact aw_callSN (As := [a1, a2, a3]) (rest := rest) hM hd (Nat.le_of_ble_eq_true hdd) rfl rfl (Nat.le_of_ble_eq_true hrm) (Nat.le_refl _) (Nat.le_refl _) hq (kk _ (fun v m' L' hw => by rw [hr]; exact hw Qh hQ))
theorem wk_V4r {d' : Nat} {M' : MDt} {ix s k : Nat} {ty : FieldType} {a1 a2 a3 a4 : Value} {rest : List Value} (hM : MLV M.1.cls ix M' 4) (hd : decode M.2.1 pc = .ok (.invokevirtual ix, 3)) (hs : shp k = s) (hb : Nat.ble s 19 = true) (hcl : (vwCl[s]?).map (fun r => r.1) = some M'.1.cls) (hr : M'.2.2.2 = some ty) (hdd : Nat.ble (d' + 1) d = true) (hrm : Nat.ble (rest.map fun v => v.category).sum 8 = true) (hq : pc + 3 = q) (kk : CK E d' M' (.ref (ev_z E + k) :: [a1, a2, a3, a4]) m L (fun v m' L' => WK E d M q lv (v :: rest) m' L' Q)) : WK E d M pc lv (a4 :: a3 :: a2 :: a1 :: .ref (ev_z E + k) :: rest) m L Q := by
  intro Qh hQ
  obtain ⟨r, hr1, hr2⟩ := Option.map_eq_some_iff.mp hcl
  exact aw_callV (As := [a1, a2, a3, a4]) (rest := rest) hM hd (shp_lt hs (by have := Nat.le_of_ble_eq_true hb; exact Nat.ble_eq_true_of_le (by omega))) (HP_obj hs hb) hr1 hr2 (Nat.le_of_ble_eq_true hdd) rfl rfl (Nat.le_of_ble_eq_true hrm) (Nat.le_refl _) (Nat.le_refl _) hq (kk _ (fun v m' L' hw => by rw [hr]; exact hw Qh hQ))
theorem wk_S4r {d' : Nat} {M' : MDt} {ix : Nat} {ty : FieldType} {a1 a2 a3 a4 : Value} {rest : List Value} (hM : MLS M.1.cls ix M' 4) (hd : decode M.2.1 pc = .ok (.invokestatic ix, 3)) (hr : M'.2.2.2 = some ty) (hdd : Nat.ble (d' + 1) d = true) (hrm : Nat.ble (rest.map fun v => v.category).sum 8 = true) (hq : pc + 3 = q) (kk : CK E d' M' [a1, a2, a3, a4] m L (fun v m' L' => WK E d M q lv (v :: rest) m' L' Q)) : WK E d M pc lv (a4 :: a3 :: a2 :: a1 :: rest) m L Q := by
  intro Qh hQ
  exact aw_callS (As := [a1, a2, a3, a4]) (rest := rest) hM hd (Nat.le_of_ble_eq_true hdd) rfl rfl (Nat.le_of_ble_eq_true hrm) (Nat.le_refl _) (Nat.le_refl _) hq (kk _ (fun v m' L' hw => by rw [hr]; exact hw Qh hQ))
theorem wk_T4r {d' : Nat} {M' : MDt} {ix : Nat} {ty : FieldType} {a1 a2 a3 a4 : Value} {rest : List Value} (hM : MLN M.1.cls ix M' 4) (hd : decode M.2.1 pc = .ok (.invokestatic ix, 3)) (hr : M'.2.2.2 = some ty) (hdd : Nat.ble (d' + 1) d = true) (hrm : Nat.ble (rest.map fun v => v.category).sum 8 = true) (hq : pc + 3 = q) (kk : CK E d' M' [a1, a2, a3, a4] m L (fun v m' L' => WK E d M q lv (v :: rest) m' L' Q)) : WK E d M pc lv (a4 :: a3 :: a2 :: a1 :: rest) m L Q := by
  intro Qh hQ
  exact aw_callSN (As := [a1, a2, a3, a4]) (rest := rest) hM hd (Nat.le_of_ble_eq_true hdd) rfl rfl (Nat.le_of_ble_eq_true hrm) (Nat.le_refl _) (Nat.le_refl _) hq (kk _ (fun v m' L' hw => by rw [hr]; exact hw Qh hQ))
theorem wk_V4v {d' : Nat} {M' : MDt} {ix s k : Nat} {a1 a2 a3 a4 : Value} {rest : List Value} (hM : MLV M.1.cls ix M' 4) (hd : decode M.2.1 pc = .ok (.invokevirtual ix, 3)) (hs : shp k = s) (hb : Nat.ble s 19 = true) (hcl : (vwCl[s]?).map (fun r => r.1) = some M'.1.cls) (hr : M'.2.2.2 = none) (hdd : Nat.ble (d' + 1) d = true) (hrm : Nat.ble (rest.map fun v => v.category).sum 8 = true) (hq : pc + 3 = q) (kk : CK E d' M' (.ref (ev_z E + k) :: [a1, a2, a3, a4]) m L (fun v m' L' => WK E d M q lv (rest) m' L' Q)) : WK E d M pc lv (a4 :: a3 :: a2 :: a1 :: .ref (ev_z E + k) :: rest) m L Q := by
  intro Qh hQ
  obtain ⟨r, hr1, hr2⟩ := Option.map_eq_some_iff.mp hcl
  exact aw_callV (As := [a1, a2, a3, a4]) (rest := rest) hM hd (shp_lt hs (by have := Nat.le_of_ble_eq_true hb; exact Nat.ble_eq_true_of_le (by omega))) (HP_obj hs hb) hr1 hr2 (Nat.le_of_ble_eq_true hdd) rfl rfl (Nat.le_of_ble_eq_true hrm) (Nat.le_refl _) (Nat.le_refl _) hq (kk _ (fun v m' L' hw => by rw [hr]; exact hw Qh hQ))
theorem wk_S4v {d' : Nat} {M' : MDt} {ix : Nat} {a1 a2 a3 a4 : Value} {rest : List Value} (hM : MLS M.1.cls ix M' 4) (hd : decode M.2.1 pc = .ok (.invokestatic ix, 3)) (hr : M'.2.2.2 = none) (hdd : Nat.ble (d' + 1) d = true) (hrm : Nat.ble (rest.map fun v => v.category).sum 8 = true) (hq : pc + 3 = q) (kk : CK E d' M' [a1, a2, a3, a4] m L (fun v m' L' => WK E d M q lv (rest) m' L' Q)) : WK E d M pc lv (a4 :: a3 :: a2 :: a1 :: rest) m L Q := by
  intro Qh hQ
  exact aw_callS (As := [a1, a2, a3, a4]) (rest := rest) hM hd (Nat.le_of_ble_eq_true hdd) rfl rfl (Nat.le_of_ble_eq_true hrm) (Nat.le_refl _) (Nat.le_refl _) hq (kk _ (fun v m' L' hw => by rw [hr]; exact hw Qh hQ))
theorem wk_T4v {d' : Nat} {M' : MDt} {ix : Nat} {a1 a2 a3 a4 : Value} {rest : List Value} (hM : MLN M.1.cls ix M' 4) (hd : decode M.2.1 pc = .ok (.invokestatic ix, 3)) (hr : M'.2.2.2 = none) (hdd : Nat.ble (d' + 1) d = true) (hrm : Nat.ble (rest.map fun v => v.category).sum 8 = true) (hq : pc + 3 = q) (kk : CK E d' M' [a1, a2, a3, a4] m L (fun v m' L' => WK E d M q lv (rest) m' L' Q)) : WK E d M pc lv (a4 :: a3 :: a2 :: a1 :: rest) m L Q := by
  intro Qh hQ
  exact aw_callSN (As := [a1, a2, a3, a4]) (rest := rest) hM hd (Nat.le_of_ble_eq_true hdd) rfl rfl (Nat.le_of_ble_eq_true hrm) (Nat.le_refl _) (Nat.le_refl _) hq (kk _ (fun v m' L' hw => by rw [hr]; exact hw Qh hQ))
theorem wk_V5r {d' : Nat} {M' : MDt} {ix s k : Nat} {ty : FieldType} {a1 a2 a3 a4 a5 : Value} {rest : List Value} (hM : MLV M.1.cls ix M' 5) (hd : decode M.2.1 pc = .ok (.invokevirtual ix, 3)) (hs : shp k = s) (hb : Nat.ble s 19 = true) (hcl : (vwCl[s]?).map (fun r => r.1) = some M'.1.cls) (hr : M'.2.2.2 = some ty) (hdd : Nat.ble (d' + 1) d = true) (hrm : Nat.ble (rest.map fun v => v.category).sum 8 = true) (hq : pc + 3 = q) (kk : CK E d' M' (.ref (ev_z E + k) :: [a1, a2, a3, a4, a5]) m L (fun v m' L' => WK E d M q lv (v :: rest) m' L' Q)) : WK E d M pc lv (a5 :: a4 :: a3 :: a2 :: a1 :: .ref (ev_z E + k) :: rest) m L Q := by
  intro Qh hQ
  obtain ⟨r, hr1, hr2⟩ := Option.map_eq_some_iff.mp hcl
  exact aw_callV (As := [a1, a2, a3, a4, a5]) (rest := rest) hM hd (shp_lt hs (by have := Nat.le_of_ble_eq_true hb; exact Nat.ble_eq_true_of_le (by omega))) (HP_obj hs hb) hr1 hr2 (Nat.le_of_ble_eq_true hdd) rfl rfl (Nat.le_of_ble_eq_true hrm) (Nat.le_refl _) (Nat.le_refl _) hq (kk _ (fun v m' L' hw => by rw [hr]; exact hw Qh hQ))
theorem wk_S5r {d' : Nat} {M' : MDt} {ix : Nat} {ty : FieldType} {a1 a2 a3 a4 a5 : Value} {rest : List Value} (hM : MLS M.1.cls ix M' 5) (hd : decode M.2.1 pc = .ok (.invokestatic ix, 3)) (hr : M'.2.2.2 = some ty) (hdd : Nat.ble (d' + 1) d = true) (hrm : Nat.ble (rest.map fun v => v.category).sum 8 = true) (hq : pc + 3 = q) (kk : CK E d' M' [a1, a2, a3, a4, a5] m L (fun v m' L' => WK E d M q lv (v :: rest) m' L' Q)) : WK E d M pc lv (a5 :: a4 :: a3 :: a2 :: a1 :: rest) m L Q := by
  intro Qh hQ
  exact aw_callS (As := [a1, a2, a3, a4, a5]) (rest := rest) hM hd (Nat.le_of_ble_eq_true hdd) rfl rfl (Nat.le_of_ble_eq_true hrm) (Nat.le_refl _) (Nat.le_refl _) hq (kk _ (fun v m' L' hw => by rw [hr]; exact hw Qh hQ))
theorem wk_T5r {d' : Nat} {M' : MDt} {ix : Nat} {ty : FieldType} {a1 a2 a3 a4 a5 : Value} {rest : List Value} (hM : MLN M.1.cls ix M' 5) (hd : decode M.2.1 pc = .ok (.invokestatic ix, 3)) (hr : M'.2.2.2 = some ty) (hdd : Nat.ble (d' + 1) d = true) (hrm : Nat.ble (rest.map fun v => v.category).sum 8 = true) (hq : pc + 3 = q) (kk : CK E d' M' [a1, a2, a3, a4, a5] m L (fun v m' L' => WK E d M q lv (v :: rest) m' L' Q)) : WK E d M pc lv (a5 :: a4 :: a3 :: a2 :: a1 :: rest) m L Q := by
  intro Qh hQ
  exact aw_callSN (As := [a1, a2, a3, a4, a5]) (rest := rest) hM hd (Nat.le_of_ble_eq_true hdd) rfl rfl (Nat.le_of_ble_eq_true hrm) (Nat.le_refl _) (Nat.le_refl _) hq (kk _ (fun v m' L' hw => by rw [hr]; exact hw Qh hQ))
theorem wk_V5v {d' : Nat} {M' : MDt} {ix s k : Nat} {a1 a2 a3 a4 a5 : Value} {rest : List Value} (hM : MLV M.1.cls ix M' 5) (hd : decode M.2.1 pc = .ok (.invokevirtual ix, 3)) (hs : shp k = s) (hb : Nat.ble s 19 = true) (hcl : (vwCl[s]?).map (fun r => r.1) = some M'.1.cls) (hr : M'.2.2.2 = none) (hdd : Nat.ble (d' + 1) d = true) (hrm : Nat.ble (rest.map fun v => v.category).sum 8 = true) (hq : pc + 3 = q) (kk : CK E d' M' (.ref (ev_z E + k) :: [a1, a2, a3, a4, a5]) m L (fun v m' L' => WK E d M q lv (rest) m' L' Q)) : WK E d M pc lv (a5 :: a4 :: a3 :: a2 :: a1 :: .ref (ev_z E + k) :: rest) m L Q := by
  intro Qh hQ
  obtain ⟨r, hr1, hr2⟩ := Option.map_eq_some_iff.mp hcl
  exact aw_callV (As := [a1, a2, a3, a4, a5]) (rest := rest) hM hd (shp_lt hs (by have := Nat.le_of_ble_eq_true hb; exact Nat.ble_eq_true_of_le (by omega))) (HP_obj hs hb) hr1 hr2 (Nat.le_of_ble_eq_true hdd) rfl rfl (Nat.le_of_ble_eq_true hrm) (Nat.le_refl _) (Nat.le_refl _) hq (kk _ (fun v m' L' hw => by rw [hr]; exact hw Qh hQ))
theorem wk_S5v {d' : Nat} {M' : MDt} {ix : Nat} {a1 a2 a3 a4 a5 : Value} {rest : List Value} (hM : MLS M.1.cls ix M' 5) (hd : decode M.2.1 pc = .ok (.invokestatic ix, 3)) (hr : M'.2.2.2 = none) (hdd : Nat.ble (d' + 1) d = true) (hrm : Nat.ble (rest.map fun v => v.category).sum 8 = true) (hq : pc + 3 = q) (kk : CK E d' M' [a1, a2, a3, a4, a5] m L (fun v m' L' => WK E d M q lv (rest) m' L' Q)) : WK E d M pc lv (a5 :: a4 :: a3 :: a2 :: a1 :: rest) m L Q := by
  intro Qh hQ
  exact aw_callS (As := [a1, a2, a3, a4, a5]) (rest := rest) hM hd (Nat.le_of_ble_eq_true hdd) rfl rfl (Nat.le_of_ble_eq_true hrm) (Nat.le_refl _) (Nat.le_refl _) hq (kk _ (fun v m' L' hw => by rw [hr]; exact hw Qh hQ))
theorem wk_T5v {d' : Nat} {M' : MDt} {ix : Nat} {a1 a2 a3 a4 a5 : Value} {rest : List Value} (hM : MLN M.1.cls ix M' 5) (hd : decode M.2.1 pc = .ok (.invokestatic ix, 3)) (hr : M'.2.2.2 = none) (hdd : Nat.ble (d' + 1) d = true) (hrm : Nat.ble (rest.map fun v => v.category).sum 8 = true) (hq : pc + 3 = q) (kk : CK E d' M' [a1, a2, a3, a4, a5] m L (fun v m' L' => WK E d M q lv (rest) m' L' Q)) : WK E d M pc lv (a5 :: a4 :: a3 :: a2 :: a1 :: rest) m L Q := by
  intro Qh hQ
  exact aw_callSN (As := [a1, a2, a3, a4, a5]) (rest := rest) hM hd (Nat.le_of_ble_eq_true hdd) rfl rfl (Nat.le_of_ble_eq_true hrm) (Nat.le_refl _) (Nat.le_refl _) hq (kk _ (fun v m' L' hw => by rw [hr]; exact hw Qh hQ))
end WKR
