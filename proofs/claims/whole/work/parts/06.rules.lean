section AWR
variable {E : EVt} {d : Nat} {M : MDt} {B : Nat × Nat × Nat} {cells slots pc q : Nat} {lv : List (Nat × Value)} {st : List Value} {h : AHt} {Q : Value → AHt → Prop}
theorem aw_iadd {x y : Int32} (hd : decode M.2.1 pc = .ok (.iadd, 1)) (hq : pc + 1 = q) (k : AW E d M B cells slots q lv (.int (x + y) :: st) h Q) : AW E d M B cells slots pc lv (.int y :: .int x :: st) h Q := by
  intro p e s m args below meth c H locs ls hC hK hP hz hS hl
  subst hq
  exact lv_iadd hC.1 hC.2.1 hd (k p e s m args below meth c H locs ls hC hK hP hz hS hl)
theorem aw_isub {x y : Int32} (hd : decode M.2.1 pc = .ok (.isub, 1)) (hq : pc + 1 = q) (k : AW E d M B cells slots q lv (.int (x - y) :: st) h Q) : AW E d M B cells slots pc lv (.int y :: .int x :: st) h Q := by
  intro p e s m args below meth c H locs ls hC hK hP hz hS hl
  subst hq
  exact lv_isub hC.1 hC.2.1 hd (k p e s m args below meth c H locs ls hC hK hP hz hS hl)
theorem aw_imul {x y : Int32} (hd : decode M.2.1 pc = .ok (.imul, 1)) (hq : pc + 1 = q) (k : AW E d M B cells slots q lv (.int (x * y) :: st) h Q) : AW E d M B cells slots pc lv (.int y :: .int x :: st) h Q := by
  intro p e s m args below meth c H locs ls hC hK hP hz hS hl
  subst hq
  exact lv_imul hC.1 hC.2.1 hd (k p e s m args below meth c H locs ls hC hK hP hz hS hl)
theorem aw_iand {x y : Int32} (hd : decode M.2.1 pc = .ok (.iand, 1)) (hq : pc + 1 = q) (k : AW E d M B cells slots q lv (.int (x &&& y) :: st) h Q) : AW E d M B cells slots pc lv (.int y :: .int x :: st) h Q := by
  intro p e s m args below meth c H locs ls hC hK hP hz hS hl
  subst hq
  exact lv_iand hC.1 hC.2.1 hd (k p e s m args below meth c H locs ls hC hK hP hz hS hl)
theorem aw_ior {x y : Int32} (hd : decode M.2.1 pc = .ok (.ior, 1)) (hq : pc + 1 = q) (k : AW E d M B cells slots q lv (.int (x ||| y) :: st) h Q) : AW E d M B cells slots pc lv (.int y :: .int x :: st) h Q := by
  intro p e s m args below meth c H locs ls hC hK hP hz hS hl
  subst hq
  exact lv_ior hC.1 hC.2.1 hd (k p e s m args below meth c H locs ls hC hK hP hz hS hl)
theorem aw_ixor {x y : Int32} (hd : decode M.2.1 pc = .ok (.ixor, 1)) (hq : pc + 1 = q) (k : AW E d M B cells slots q lv (.int (x ^^^ y) :: st) h Q) : AW E d M B cells slots pc lv (.int y :: .int x :: st) h Q := by
  intro p e s m args below meth c H locs ls hC hK hP hz hS hl
  subst hq
  exact lv_ixor hC.1 hC.2.1 hd (k p e s m args below meth c H locs ls hC hK hP hz hS hl)
theorem aw_ishl {x y : Int32} (hd : decode M.2.1 pc = .ok (.ishl, 1)) (hq : pc + 1 = q) (k : AW E d M B cells slots q lv (.int (x <<< (y &&& 31)) :: st) h Q) : AW E d M B cells slots pc lv (.int y :: .int x :: st) h Q := by
  intro p e s m args below meth c H locs ls hC hK hP hz hS hl
  subst hq
  exact lv_ishl hC.1 hC.2.1 hd (k p e s m args below meth c H locs ls hC hK hP hz hS hl)
theorem aw_ishr {x y : Int32} (hd : decode M.2.1 pc = .ok (.ishr, 1)) (hq : pc + 1 = q) (k : AW E d M B cells slots q lv (.int (x >>> (y &&& 31)) :: st) h Q) : AW E d M B cells slots pc lv (.int y :: .int x :: st) h Q := by
  intro p e s m args below meth c H locs ls hC hK hP hz hS hl
  subst hq
  exact lv_ishr hC.1 hC.2.1 hd (k p e s m args below meth c H locs ls hC hK hP hz hS hl)
theorem aw_iushr {x y : Int32} (hd : decode M.2.1 pc = .ok (.iushr, 1)) (hq : pc + 1 = q) (k : AW E d M B cells slots q lv (.int (x.toUInt32 >>> (y.toUInt32 &&& Int32.toUInt32 31)).toInt32 :: st) h Q) : AW E d M B cells slots pc lv (.int y :: .int x :: st) h Q := by
  intro p e s m args below meth c H locs ls hC hK hP hz hS hl
  subst hq
  exact lv_iushr hC.1 hC.2.1 hd rfl (k p e s m args below meth c H locs ls hC hK hP hz hS hl)
theorem aw_idiv {x y : Int32} (hd : decode M.2.1 pc = .ok (.idiv, 1)) (hne : ¬ y = 0) (hq : pc + 1 = q) (k : AW E d M B cells slots q lv (.int (x / y) :: st) h Q) : AW E d M B cells slots pc lv (.int y :: .int x :: st) h Q := by
  intro p e s m args below meth c H locs ls hC hK hP hz hS hl
  subst hq
  exact lv_idiv hC.1 hC.2.1 hd hne (k p e s m args below meth c H locs ls hC hK hP hz hS hl)
theorem aw_irem {x y : Int32} (hd : decode M.2.1 pc = .ok (.irem, 1)) (hne : ¬ y = 0) (hq : pc + 1 = q) (k : AW E d M B cells slots q lv (.int (x - x / y * y) :: st) h Q) : AW E d M B cells slots pc lv (.int y :: .int x :: st) h Q := by
  intro p e s m args below meth c H locs ls hC hK hP hz hS hl
  subst hq
  exact lv_irem hC.1 hC.2.1 hd hne (k p e s m args below meth c H locs ls hC hK hP hz hS hl)
theorem aw_ladd {x y : Int64} (hd : decode M.2.1 pc = .ok (.ladd, 1)) (hq : pc + 1 = q) (k : AW E d M B cells slots q lv (.long (x + y) :: st) h Q) : AW E d M B cells slots pc lv (.long y :: .long x :: st) h Q := by
  intro p e s m args below meth c H locs ls hC hK hP hz hS hl
  subst hq
  exact lv_ladd hC.1 hC.2.1 hd (k p e s m args below meth c H locs ls hC hK hP hz hS hl)
theorem aw_lsub {x y : Int64} (hd : decode M.2.1 pc = .ok (.lsub, 1)) (hq : pc + 1 = q) (k : AW E d M B cells slots q lv (.long (x - y) :: st) h Q) : AW E d M B cells slots pc lv (.long y :: .long x :: st) h Q := by
  intro p e s m args below meth c H locs ls hC hK hP hz hS hl
  subst hq
  exact lv_lsub hC.1 hC.2.1 hd (k p e s m args below meth c H locs ls hC hK hP hz hS hl)
theorem aw_lmul {x y : Int64} (hd : decode M.2.1 pc = .ok (.lmul, 1)) (hq : pc + 1 = q) (k : AW E d M B cells slots q lv (.long (x * y) :: st) h Q) : AW E d M B cells slots pc lv (.long y :: .long x :: st) h Q := by
  intro p e s m args below meth c H locs ls hC hK hP hz hS hl
  subst hq
  exact lv_lmul hC.1 hC.2.1 hd (k p e s m args below meth c H locs ls hC hK hP hz hS hl)
theorem aw_land {x y : Int64} (hd : decode M.2.1 pc = .ok (.land, 1)) (hq : pc + 1 = q) (k : AW E d M B cells slots q lv (.long (x &&& y) :: st) h Q) : AW E d M B cells slots pc lv (.long y :: .long x :: st) h Q := by
  intro p e s m args below meth c H locs ls hC hK hP hz hS hl
  subst hq
  exact lv_land hC.1 hC.2.1 hd (k p e s m args below meth c H locs ls hC hK hP hz hS hl)
theorem aw_lor {x y : Int64} (hd : decode M.2.1 pc = .ok (.lor, 1)) (hq : pc + 1 = q) (k : AW E d M B cells slots q lv (.long (x ||| y) :: st) h Q) : AW E d M B cells slots pc lv (.long y :: .long x :: st) h Q := by
  intro p e s m args below meth c H locs ls hC hK hP hz hS hl
  subst hq
  exact lv_lor hC.1 hC.2.1 hd (k p e s m args below meth c H locs ls hC hK hP hz hS hl)
theorem aw_lshl {x : Int64} {y : Int32} (hd : decode M.2.1 pc = .ok (.lshl, 1)) (hq : pc + 1 = q) (k : AW E d M B cells slots q lv (.long (x <<< (y.toInt64 &&& 63)) :: st) h Q) : AW E d M B cells slots pc lv (.int y :: .long x :: st) h Q := by
  intro p e s m args below meth c H locs ls hC hK hP hz hS hl
  subst hq
  exact lv_lshl hC.1 hC.2.1 hd rfl (k p e s m args below meth c H locs ls hC hK hP hz hS hl)
theorem aw_i2l {x : Int32} (hd : decode M.2.1 pc = .ok (.i2l, 1)) (hq : pc + 1 = q) (k : AW E d M B cells slots q lv (.long x.toInt64 :: st) h Q) : AW E d M B cells slots pc lv (.int x :: st) h Q := by
  intro p e s m args below meth c H locs ls hC hK hP hz hS hl
  subst hq
  exact lv_i2l hC.1 hC.2.1 hd rfl (k p e s m args below meth c H locs ls hC hK hP hz hS hl)
theorem aw_l2i {x : Int64} (hd : decode M.2.1 pc = .ok (.l2i, 1)) (hq : pc + 1 = q) (k : AW E d M B cells slots q lv (.int x.toInt32 :: st) h Q) : AW E d M B cells slots pc lv (.long x :: st) h Q := by
  intro p e s m args below meth c H locs ls hC hK hP hz hS hl
  subst hq
  exact lv_l2i hC.1 hC.2.1 hd rfl (k p e s m args below meth c H locs ls hC hK hP hz hS hl)
theorem aw_i2b {x : Int32} (hd : decode M.2.1 pc = .ok (.i2b, 1)) (hq : pc + 1 = q) (k : AW E d M B cells slots q lv (.int x.toInt8.toInt32 :: st) h Q) : AW E d M B cells slots pc lv (.int x :: st) h Q := by
  intro p e s m args below meth c H locs ls hC hK hP hz hS hl
  subst hq
  exact lv_i2b hC.1 hC.2.1 hd rfl (k p e s m args below meth c H locs ls hC hK hP hz hS hl)
theorem aw_i2s {x : Int32} (hd : decode M.2.1 pc = .ok (.i2s, 1)) (hq : pc + 1 = q) (k : AW E d M B cells slots q lv (.int x.toInt16.toInt32 :: st) h Q) : AW E d M B cells slots pc lv (.int x :: st) h Q := by
  intro p e s m args below meth c H locs ls hC hK hP hz hS hl
  subst hq
  exact lv_i2s hC.1 hC.2.1 hd rfl (k p e s m args below meth c H locs ls hC hK hP hz hS hl)
theorem aw_i2c {x : Int32} (hd : decode M.2.1 pc = .ok (.i2c, 1)) (hq : pc + 1 = q) (k : AW E d M B cells slots q lv (.int (x.toUInt32 % 65536).toInt32 :: st) h Q) : AW E d M B cells slots pc lv (.int x :: st) h Q := by
  intro p e s m args below meth c H locs ls hC hK hP hz hS hl
  subst hq
  exact lv_i2c hC.1 hC.2.1 hd rfl (k p e s m args below meth c H locs ls hC hK hP hz hS hl)
theorem aw_iconst {n : Int} {v : Int32} (hd : decode M.2.1 pc = .ok (.iconst n, 1)) (hv : Int32.ofInt n = v) (hq : pc + 1 = q) (k : AW E d M B cells slots q lv (.int v :: st) h Q) : AW E d M B cells slots pc lv st h Q := by
  intro p e s m args below meth c H locs ls hC hK hP hz hS hl
  subst hq
  exact lv_iconst hC.1 hC.2.1 hd hv (k p e s m args below meth c H locs ls hC hK hP hz hS hl)
theorem aw_bipush {n : Int} {v : Int32} (hd : decode M.2.1 pc = .ok (.bipush n, 2)) (hv : (Int8.ofInt n).toInt32 = v) (hq : pc + 2 = q) (k : AW E d M B cells slots q lv (.int v :: st) h Q) : AW E d M B cells slots pc lv st h Q := by
  intro p e s m args below meth c H locs ls hC hK hP hz hS hl
  subst hq
  exact lv_bipush hC.1 hC.2.1 hd hv (k p e s m args below meth c H locs ls hC hK hP hz hS hl)
theorem aw_sipush {n : Int} {v : Int32} (hd : decode M.2.1 pc = .ok (.sipush n, 3)) (hv : (Int16.ofInt n).toInt32 = v) (hq : pc + 3 = q) (k : AW E d M B cells slots q lv (.int v :: st) h Q) : AW E d M B cells slots pc lv st h Q := by
  intro p e s m args below meth c H locs ls hC hK hP hz hS hl
  subst hq
  exact lv_sipush hC.1 hC.2.1 hd hv (k p e s m args below meth c H locs ls hC hK hP hz hS hl)
theorem aw_lconst {n : Fin 2} {v : Int64} (hd : decode M.2.1 pc = .ok (.lconst n, 1)) (hv : Int64.ofNat (n : Nat) = v) (hq : pc + 1 = q) (k : AW E d M B cells slots q lv (.long v :: st) h Q) : AW E d M B cells slots pc lv st h Q := by
  intro p e s m args below meth c H locs ls hC hK hP hz hS hl
  subst hq
  exact lv_lconst hC.1 hC.2.1 hd hv (k p e s m args below meth c H locs ls hC hK hP hz hS hl)
theorem aw_dup {a : Value} (hd : decode M.2.1 pc = .ok (.dup, 1)) (ha : a.category = 1) (hq : pc + 1 = q) (k : AW E d M B cells slots q lv (a :: a :: st) h Q) : AW E d M B cells slots pc lv (a :: st) h Q := by
  intro p e s m args below meth c H locs ls hC hK hP hz hS hl
  subst hq
  exact lv_dup hC.1 hC.2.1 hd ha (k p e s m args below meth c H locs ls hC hK hP hz hS hl)
theorem aw_pop {a : Value} (hd : decode M.2.1 pc = .ok (.pop, 1)) (ha : a.category = 1) (hq : pc + 1 = q) (k : AW E d M B cells slots q lv st h Q) : AW E d M B cells slots pc lv (a :: st) h Q := by
  intro p e s m args below meth c H locs ls hC hK hP hz hS hl
  subst hq
  exact lv_pop hC.1 hC.2.1 hd ha (k p e s m args below meth c H locs ls hC hK hP hz hS hl)
theorem aw_dup2 {a b : Value} (hd : decode M.2.1 pc = .ok (.dup2, 1)) (ha : a.category = 1) (hb : b.category = 1) (hq : pc + 1 = q) (k : AW E d M B cells slots q lv (a :: b :: a :: b :: st) h Q) : AW E d M B cells slots pc lv (a :: b :: st) h Q := by
  intro p e s m args below meth c H locs ls hC hK hP hz hS hl
  subst hq
  exact lv_dup2_11 hC.1 hC.2.1 hd ha hb (k p e s m args below meth c H locs ls hC hK hP hz hS hl)
theorem aw_null (hd : decode M.2.1 pc = .ok (.aconst_null, 1)) (hq : pc + 1 = q) (k : AW E d M B cells slots q lv (.null :: st) h Q) : AW E d M B cells slots pc lv st h Q := by
  intro p e s m args below meth c H locs ls hC hK hP hz hS hl
  subst hq
  exact lv_null hC.1 hC.2.1 hd (k p e s m args below meth c H locs ls hC hK hP hz hS hl)
theorem aw_ldc {ix : Nat} {v : Int32} (hd : decode M.2.1 pc = .ok (.ldc ix, 2)) (hw : Cond.constant M.1.cls ix v ∈ gtbl) (hq : pc + 2 = q) (k : AW E d M B cells slots q lv (.int v :: st) h Q) : AW E d M B cells slots pc lv st h Q := by
  intro p e s m args below meth c H locs ls hC hK hP hz hS hl
  subst hq
  exact lv_ldc hC.1 hC.2.1 hC.2.2.2.1 (hC.2.2.2.2.1 _ hw) hd (k p e s m args below meth c H locs ls hC hK hP hz hS hl)
theorem aw_ldcw {ix : Nat} {v : Int32} (hd : decode M.2.1 pc = .ok (.ldc_w ix, 3)) (hw : Cond.constant M.1.cls ix v ∈ gtbl) (hq : pc + 3 = q) (k : AW E d M B cells slots q lv (.int v :: st) h Q) : AW E d M B cells slots pc lv st h Q := by
  intro p e s m args below meth c H locs ls hC hK hP hz hS hl
  subst hq
  exact lv_ldcw hC.1 hC.2.1 hC.2.2.2.1 (hC.2.2.2.2.1 _ hw) hd (k p e s m args below meth c H locs ls hC hK hP hz hS hl)
theorem aw_ldc2 {ix : Nat} {v : Int64} (hd : decode M.2.1 pc = .ok (.ldc2_w ix, 3)) (hw : Cond.constantLong M.1.cls ix v ∈ gtbl) (hq : pc + 3 = q) (k : AW E d M B cells slots q lv (.long v :: st) h Q) : AW E d M B cells slots pc lv st h Q := by
  intro p e s m args below meth c H locs ls hC hK hP hz hS hl
  subst hq
  exact lv_ldc2 hC.1 hC.2.1 hC.2.2.2.1 (hC.2.2.2.2.1 _ hw) hd (k p e s m args below meth c H locs ls hC hK hP hz hS hl)
end AWR
def lvg : List (Nat × Value) → Nat → Option Value
  | [], _ => none
  | (j, v) :: t, i => match Nat.beq j i with
    | true => some v
    | false => lvg t i
theorem lvg_at {ls : Array Slot} {nL : Nat} {l : List (Nat × Value)} (h : lv_has ls nL l) {i : Nat} {v : Value} (hk : lvg l i = some v) : ls[i]? = some (.val v) := by
  have hm : (i, v) ∈ l := by
    clear h
    induction l with
    | nil => simp [lvg] at hk
    | cons a t ih =>
      obtain ⟨j, w⟩ := a
      simp only [lvg] at hk
      split at hk
      · rename_i hb
        have := Nat.eq_of_beq_eq_true hb
        subst this
        cases hk
        exact List.mem_cons_self
      · exact List.mem_cons_of_mem _ (ih hk)
  exact h.2.2 (i, v) hm
section AWR2
variable {E : EVt} {d : Nat} {M : MDt} {B : Nat × Nat × Nat} {cells slots pc q : Nat} {lv : List (Nat × Value)} {st : List Value} {h : AHt} {Q : Value → AHt → Prop}
theorem aw_iload_n {x : Int32} {j : Fin 4} {i : Nat} (hd : decode M.2.1 pc = .ok (.iload_n j, 1)) (hi : (j : Nat) = i) (hv : lvg lv i = some (.int x)) (hq : pc + 1 = q) (k : AW E d M B cells slots q lv (.int x :: st) h Q) : AW E d M B cells slots pc lv st h Q := by
  intro p e s m args below meth c H locs ls hC hK hP hz hS hl
  subst hq
  exact lv_iload_n hC.1 hC.2.1 hd hi (lvg_at hl hv) (k p e s m args below meth c H locs ls hC hK hP hz hS hl)
theorem aw_iload {x : Int32} {i : Nat} (hd : decode M.2.1 pc = .ok (.iload i, 2)) (hv : lvg lv i = some (.int x)) (hq : pc + 2 = q) (k : AW E d M B cells slots q lv (.int x :: st) h Q) : AW E d M B cells slots pc lv st h Q := by
  intro p e s m args below meth c H locs ls hC hK hP hz hS hl
  subst hq
  exact lv_iload hC.1 hC.2.1 hd (lvg_at hl hv) (k p e s m args below meth c H locs ls hC hK hP hz hS hl)
theorem aw_lload_n {x : Int64} {j : Fin 4} {i : Nat} (hd : decode M.2.1 pc = .ok (.lload_n j, 1)) (hi : (j : Nat) = i) (hv : lvg lv i = some (.long x)) (hq : pc + 1 = q) (k : AW E d M B cells slots q lv (.long x :: st) h Q) : AW E d M B cells slots pc lv st h Q := by
  intro p e s m args below meth c H locs ls hC hK hP hz hS hl
  subst hq
  exact lv_lload_n hC.1 hC.2.1 hd hi (lvg_at hl hv) (k p e s m args below meth c H locs ls hC hK hP hz hS hl)
theorem aw_lload {x : Int64} {i : Nat} (hd : decode M.2.1 pc = .ok (.lload i, 2)) (hv : lvg lv i = some (.long x)) (hq : pc + 2 = q) (k : AW E d M B cells slots q lv (.long x :: st) h Q) : AW E d M B cells slots pc lv st h Q := by
  intro p e s m args below meth c H locs ls hC hK hP hz hS hl
  subst hq
  exact lv_lload hC.1 hC.2.1 hd (lvg_at hl hv) (k p e s m args below meth c H locs ls hC hK hP hz hS hl)
theorem aw_aload_n {x : Nat} {j : Fin 4} {i : Nat} (hd : decode M.2.1 pc = .ok (.aload_n j, 1)) (hi : (j : Nat) = i) (hv : lvg lv i = some (.ref x)) (hq : pc + 1 = q) (k : AW E d M B cells slots q lv (.ref x :: st) h Q) : AW E d M B cells slots pc lv st h Q := by
  intro p e s m args below meth c H locs ls hC hK hP hz hS hl
  subst hq
  exact lv_aload_n hC.1 hC.2.1 hd hi (lvg_at hl hv) (k p e s m args below meth c H locs ls hC hK hP hz hS hl)
theorem aw_aload {x : Nat} {i : Nat} (hd : decode M.2.1 pc = .ok (.aload i, 2)) (hv : lvg lv i = some (.ref x)) (hq : pc + 2 = q) (k : AW E d M B cells slots q lv (.ref x :: st) h Q) : AW E d M B cells slots pc lv st h Q := by
  intro p e s m args below meth c H locs ls hC hK hP hz hS hl
  subst hq
  exact lv_aload hC.1 hC.2.1 hd (lvg_at hl hv) (k p e s m args below meth c H locs ls hC hK hP hz hS hl)
theorem aw_aload_nN {j : Fin 4} {i : Nat} (hd : decode M.2.1 pc = .ok (.aload_n j, 1)) (hi : (j : Nat) = i) (hv : lvg lv i = some .null) (hq : pc + 1 = q) (k : AW E d M B cells slots q lv (.null :: st) h Q) : AW E d M B cells slots pc lv st h Q := by
  intro p e s m args below meth c H locs ls hC hK hP hz hS hl
  subst hq
  exact lv_aload_nN hC.1 hC.2.1 hd hi (lvg_at hl hv) (k p e s m args below meth c H locs ls hC hK hP hz hS hl)
theorem aw_aloadN {i : Nat} (hd : decode M.2.1 pc = .ok (.aload i, 2)) (hv : lvg lv i = some .null) (hq : pc + 2 = q) (k : AW E d M B cells slots q lv (.null :: st) h Q) : AW E d M B cells slots pc lv st h Q := by
  intro p e s m args below meth c H locs ls hC hK hP hz hS hl
  subst hq
  exact lv_aloadN hC.1 hC.2.1 hd (lvg_at hl hv) (k p e s m args below meth c H locs ls hC hK hP hz hS hl)
theorem aw_istore_n {x : Int32} {j : Fin 4} {i : Nat} {lv' : List (Nat × Value)} (hd : decode M.2.1 pc = .ok (.istore_n j, 1)) (hi : (j : Nat) = i) (hn : i < M.2.2.1) (hv : (i, Value.int x) :: lv.filter (fun q => !(q.1 == i) && !(q.1 + 1 == i && q.2.category == 2)) = lv') (hq : pc + 1 = q) (k : AW E d M B cells slots q lv' st h Q) : AW E d M B cells slots pc lv (.int x :: st) h Q := by
  intro p e s m args below meth c H locs ls hC hK hP hz hS hl
  subst hq
  exact lv_istore_n hC.1 hC.2.1 hd hi hl hn hv (fun ls' hl' => k p e s m args below meth c H locs ls' hC hK hP hz hS hl')
theorem aw_istore {x : Int32} {i : Nat} {lv' : List (Nat × Value)} (hd : decode M.2.1 pc = .ok (.istore i, 2)) (hn : i < M.2.2.1) (hv : (i, Value.int x) :: lv.filter (fun q => !(q.1 == i) && !(q.1 + 1 == i && q.2.category == 2)) = lv') (hq : pc + 2 = q) (k : AW E d M B cells slots q lv' st h Q) : AW E d M B cells slots pc lv (.int x :: st) h Q := by
  intro p e s m args below meth c H locs ls hC hK hP hz hS hl
  subst hq
  exact lv_istore hC.1 hC.2.1 hd hl hn hv (fun ls' hl' => k p e s m args below meth c H locs ls' hC hK hP hz hS hl')
theorem aw_lstore_n {x : Int64} {j : Fin 4} {i : Nat} {lv' : List (Nat × Value)} (hd : decode M.2.1 pc = .ok (.lstore_n j, 1)) (hi : (j : Nat) = i) (hn : i + 1 < M.2.2.1) (hv : (i, Value.long x) :: lv.filter (fun q => !(q.1 == i) && (!(q.1 == i + 1) && !(q.1 + 1 == i && q.2.category == 2))) = lv') (hq : pc + 1 = q) (k : AW E d M B cells slots q lv' st h Q) : AW E d M B cells slots pc lv (.long x :: st) h Q := by
  intro p e s m args below meth c H locs ls hC hK hP hz hS hl
  subst hq
  exact lv_lstore_n hC.1 hC.2.1 hd hi hl hn hv (fun ls' hl' => k p e s m args below meth c H locs ls' hC hK hP hz hS hl')
theorem aw_lstore {x : Int64} {i : Nat} {lv' : List (Nat × Value)} (hd : decode M.2.1 pc = .ok (.lstore i, 2)) (hn : i + 1 < M.2.2.1) (hv : (i, Value.long x) :: lv.filter (fun q => !(q.1 == i) && (!(q.1 == i + 1) && !(q.1 + 1 == i && q.2.category == 2))) = lv') (hq : pc + 2 = q) (k : AW E d M B cells slots q lv' st h Q) : AW E d M B cells slots pc lv (.long x :: st) h Q := by
  intro p e s m args below meth c H locs ls hC hK hP hz hS hl
  subst hq
  exact lv_lstore hC.1 hC.2.1 hd hl hn hv (fun ls' hl' => k p e s m args below meth c H locs ls' hC hK hP hz hS hl')
theorem aw_astore_n {x : Nat} {j : Fin 4} {i : Nat} {lv' : List (Nat × Value)} (hd : decode M.2.1 pc = .ok (.astore_n j, 1)) (hi : (j : Nat) = i) (hn : i < M.2.2.1) (hv : (i, Value.ref x) :: lv.filter (fun q => !(q.1 == i) && !(q.1 + 1 == i && q.2.category == 2)) = lv') (hq : pc + 1 = q) (k : AW E d M B cells slots q lv' st h Q) : AW E d M B cells slots pc lv (.ref x :: st) h Q := by
  intro p e s m args below meth c H locs ls hC hK hP hz hS hl
  subst hq
  exact lv_astore_n hC.1 hC.2.1 hd hi hl hn hv (fun ls' hl' => k p e s m args below meth c H locs ls' hC hK hP hz hS hl')
theorem aw_astore {x : Nat} {i : Nat} {lv' : List (Nat × Value)} (hd : decode M.2.1 pc = .ok (.astore i, 2)) (hn : i < M.2.2.1) (hv : (i, Value.ref x) :: lv.filter (fun q => !(q.1 == i) && !(q.1 + 1 == i && q.2.category == 2)) = lv') (hq : pc + 2 = q) (k : AW E d M B cells slots q lv' st h Q) : AW E d M B cells slots pc lv (.ref x :: st) h Q := by
  intro p e s m args below meth c H locs ls hC hK hP hz hS hl
  subst hq
  exact lv_astore hC.1 hC.2.1 hd hl hn hv (fun ls' hl' => k p e s m args below meth c H locs ls' hC hK hP hz hS hl')
theorem aw_astore_nN {j : Fin 4} {i : Nat} {lv' : List (Nat × Value)} (hd : decode M.2.1 pc = .ok (.astore_n j, 1)) (hi : (j : Nat) = i) (hn : i < M.2.2.1) (hv : (i, Value.null) :: lv.filter (fun q => !(q.1 == i) && !(q.1 + 1 == i && q.2.category == 2)) = lv') (hq : pc + 1 = q) (k : AW E d M B cells slots q lv' st h Q) : AW E d M B cells slots pc lv (.null :: st) h Q := by
  intro p e s m args below meth c H locs ls hC hK hP hz hS hl
  subst hq
  exact lv_astore_nN hC.1 hC.2.1 hd hi hl hn hv (fun ls' hl' => k p e s m args below meth c H locs ls' hC hK hP hz hS hl')
theorem aw_astoreN {i : Nat} {lv' : List (Nat × Value)} (hd : decode M.2.1 pc = .ok (.astore i, 2)) (hn : i < M.2.2.1) (hv : (i, Value.null) :: lv.filter (fun q => !(q.1 == i) && !(q.1 + 1 == i && q.2.category == 2)) = lv') (hq : pc + 2 = q) (k : AW E d M B cells slots q lv' st h Q) : AW E d M B cells slots pc lv (.null :: st) h Q := by
  intro p e s m args below meth c H locs ls hC hK hP hz hS hl
  subst hq
  exact lv_astoreN hC.1 hC.2.1 hd hl hn hv (fun ls' hl' => k p e s m args below meth c H locs ls' hC hK hP hz hS hl')
theorem lvg_mem : ∀ {l : List (Nat × Value)} {i : Nat} {v : Value}, lvg l i = some v → ∃ k : Nat, l[k]? = some (i, v)
  | [], i, v, h => by simp [lvg] at h
  | (j, w) :: t, i, v, h => by
    simp only [lvg] at h
    split at h
    · rename_i hb
      have := Nat.eq_of_beq_eq_true hb
      subst this
      cases h
      exact ⟨0, rfl⟩
    · obtain ⟨k, hk⟩ := lvg_mem h
      exact ⟨k + 1, hk⟩
theorem aw_iinc {x w : Int32} {i : Nat} {n : Int} {lv' : List (Nat × Value)} (hd : decode M.2.1 pc = .ok (.iinc i n, 3)) (hx : lvg lv i = some (.int x)) (hw : Int32.ofInt n = w) (hn : i < M.2.2.1) (hv : (i, Value.int (x + w)) :: lv.filter (fun q => !(q.1 == i) && !(q.1 + 1 == i && q.2.category == 2)) = lv') (hq : pc + 3 = q) (k : AW E d M B cells slots q lv' st h Q) : AW E d M B cells slots pc lv st h Q := by
  intro p e s m args below meth c H locs ls hC hK hP hz hS hl
  subst hq
  obtain ⟨k0, hk0⟩ := lvg_mem hx
  exact lv_iinc hC.1 hC.2.1 hd hl hk0 (by rw [hw]) hn hv (fun ls' hl' => k p e s m args below meth c H locs ls' hC hK hP hz hS hl')
theorem aw_if_eq {x : Int32} {off : Int} {t : Nat} (hd : decode M.2.1 pc = .ok (.ifCond .eq off, 3)) (ht : (pc : Int) + off = (t : Int)) (hq : pc + 3 = q) (kt : x = 0 → AW E d M B cells slots t lv st h Q) (kf : ¬ x = 0 → AW E d M B cells slots q lv st h Q) : AW E d M B cells slots pc lv (.int x :: st) h Q := by
  intro p e s m args below meth c H locs ls hC hK hP hz hS hl
  subst hq
  exact lv_if_eq hC.1 hC.2.1 hd ht (fun g => kt g p e s m args below meth c H locs ls hC hK hP hz hS hl) (fun g => kf g p e s m args below meth c H locs ls hC hK hP hz hS hl)
theorem aw_icmp_eq {x y : Int32} {off : Int} {t : Nat} (hd : decode M.2.1 pc = .ok (.if_icmp .eq off, 3)) (ht : (pc : Int) + off = (t : Int)) (hq : pc + 3 = q) (kt : x = y → AW E d M B cells slots t lv st h Q) (kf : ¬ x = y → AW E d M B cells slots q lv st h Q) : AW E d M B cells slots pc lv (.int y :: .int x :: st) h Q := by
  intro p e s m args below meth c H locs ls hC hK hP hz hS hl
  subst hq
  exact lv_icmp_eq hC.1 hC.2.1 hd ht (fun g => kt g p e s m args below meth c H locs ls hC hK hP hz hS hl) (fun g => kf g p e s m args below meth c H locs ls hC hK hP hz hS hl)
theorem aw_if_ne {x : Int32} {off : Int} {t : Nat} (hd : decode M.2.1 pc = .ok (.ifCond .ne off, 3)) (ht : (pc : Int) + off = (t : Int)) (hq : pc + 3 = q) (kt : ¬ x = 0 → AW E d M B cells slots t lv st h Q) (kf : x = 0 → AW E d M B cells slots q lv st h Q) : AW E d M B cells slots pc lv (.int x :: st) h Q := by
  intro p e s m args below meth c H locs ls hC hK hP hz hS hl
  subst hq
  exact lv_if_ne hC.1 hC.2.1 hd ht (fun g => kt g p e s m args below meth c H locs ls hC hK hP hz hS hl) (fun g => kf g p e s m args below meth c H locs ls hC hK hP hz hS hl)
theorem aw_icmp_ne {x y : Int32} {off : Int} {t : Nat} (hd : decode M.2.1 pc = .ok (.if_icmp .ne off, 3)) (ht : (pc : Int) + off = (t : Int)) (hq : pc + 3 = q) (kt : ¬ x = y → AW E d M B cells slots t lv st h Q) (kf : x = y → AW E d M B cells slots q lv st h Q) : AW E d M B cells slots pc lv (.int y :: .int x :: st) h Q := by
  intro p e s m args below meth c H locs ls hC hK hP hz hS hl
  subst hq
  exact lv_icmp_ne hC.1 hC.2.1 hd ht (fun g => kt g p e s m args below meth c H locs ls hC hK hP hz hS hl) (fun g => kf g p e s m args below meth c H locs ls hC hK hP hz hS hl)
theorem aw_if_lt {x : Int32} {off : Int} {t : Nat} (hd : decode M.2.1 pc = .ok (.ifCond .lt off, 3)) (ht : (pc : Int) + off = (t : Int)) (hq : pc + 3 = q) (kt : x < 0 → AW E d M B cells slots t lv st h Q) (kf : ¬ x < 0 → AW E d M B cells slots q lv st h Q) : AW E d M B cells slots pc lv (.int x :: st) h Q := by
  intro p e s m args below meth c H locs ls hC hK hP hz hS hl
  subst hq
  exact lv_if_lt hC.1 hC.2.1 hd ht (fun g => kt g p e s m args below meth c H locs ls hC hK hP hz hS hl) (fun g => kf g p e s m args below meth c H locs ls hC hK hP hz hS hl)
theorem aw_icmp_lt {x y : Int32} {off : Int} {t : Nat} (hd : decode M.2.1 pc = .ok (.if_icmp .lt off, 3)) (ht : (pc : Int) + off = (t : Int)) (hq : pc + 3 = q) (kt : x < y → AW E d M B cells slots t lv st h Q) (kf : ¬ x < y → AW E d M B cells slots q lv st h Q) : AW E d M B cells slots pc lv (.int y :: .int x :: st) h Q := by
  intro p e s m args below meth c H locs ls hC hK hP hz hS hl
  subst hq
  exact lv_icmp_lt hC.1 hC.2.1 hd ht (fun g => kt g p e s m args below meth c H locs ls hC hK hP hz hS hl) (fun g => kf g p e s m args below meth c H locs ls hC hK hP hz hS hl)
theorem aw_if_ge {x : Int32} {off : Int} {t : Nat} (hd : decode M.2.1 pc = .ok (.ifCond .ge off, 3)) (ht : (pc : Int) + off = (t : Int)) (hq : pc + 3 = q) (kt : 0 ≤ x → AW E d M B cells slots t lv st h Q) (kf : ¬ 0 ≤ x → AW E d M B cells slots q lv st h Q) : AW E d M B cells slots pc lv (.int x :: st) h Q := by
  intro p e s m args below meth c H locs ls hC hK hP hz hS hl
  subst hq
  exact lv_if_ge hC.1 hC.2.1 hd ht (fun g => kt g p e s m args below meth c H locs ls hC hK hP hz hS hl) (fun g => kf g p e s m args below meth c H locs ls hC hK hP hz hS hl)
theorem aw_icmp_ge {x y : Int32} {off : Int} {t : Nat} (hd : decode M.2.1 pc = .ok (.if_icmp .ge off, 3)) (ht : (pc : Int) + off = (t : Int)) (hq : pc + 3 = q) (kt : y ≤ x → AW E d M B cells slots t lv st h Q) (kf : ¬ y ≤ x → AW E d M B cells slots q lv st h Q) : AW E d M B cells slots pc lv (.int y :: .int x :: st) h Q := by
  intro p e s m args below meth c H locs ls hC hK hP hz hS hl
  subst hq
  exact lv_icmp_ge hC.1 hC.2.1 hd ht (fun g => kt g p e s m args below meth c H locs ls hC hK hP hz hS hl) (fun g => kf g p e s m args below meth c H locs ls hC hK hP hz hS hl)
theorem aw_if_gt {x : Int32} {off : Int} {t : Nat} (hd : decode M.2.1 pc = .ok (.ifCond .gt off, 3)) (ht : (pc : Int) + off = (t : Int)) (hq : pc + 3 = q) (kt : 0 < x → AW E d M B cells slots t lv st h Q) (kf : ¬ 0 < x → AW E d M B cells slots q lv st h Q) : AW E d M B cells slots pc lv (.int x :: st) h Q := by
  intro p e s m args below meth c H locs ls hC hK hP hz hS hl
  subst hq
  exact lv_if_gt hC.1 hC.2.1 hd ht (fun g => kt g p e s m args below meth c H locs ls hC hK hP hz hS hl) (fun g => kf g p e s m args below meth c H locs ls hC hK hP hz hS hl)
theorem aw_icmp_gt {x y : Int32} {off : Int} {t : Nat} (hd : decode M.2.1 pc = .ok (.if_icmp .gt off, 3)) (ht : (pc : Int) + off = (t : Int)) (hq : pc + 3 = q) (kt : y < x → AW E d M B cells slots t lv st h Q) (kf : ¬ y < x → AW E d M B cells slots q lv st h Q) : AW E d M B cells slots pc lv (.int y :: .int x :: st) h Q := by
  intro p e s m args below meth c H locs ls hC hK hP hz hS hl
  subst hq
  exact lv_icmp_gt hC.1 hC.2.1 hd ht (fun g => kt g p e s m args below meth c H locs ls hC hK hP hz hS hl) (fun g => kf g p e s m args below meth c H locs ls hC hK hP hz hS hl)
theorem aw_if_le {x : Int32} {off : Int} {t : Nat} (hd : decode M.2.1 pc = .ok (.ifCond .le off, 3)) (ht : (pc : Int) + off = (t : Int)) (hq : pc + 3 = q) (kt : x ≤ 0 → AW E d M B cells slots t lv st h Q) (kf : ¬ x ≤ 0 → AW E d M B cells slots q lv st h Q) : AW E d M B cells slots pc lv (.int x :: st) h Q := by
  intro p e s m args below meth c H locs ls hC hK hP hz hS hl
  subst hq
  exact lv_if_le hC.1 hC.2.1 hd ht (fun g => kt g p e s m args below meth c H locs ls hC hK hP hz hS hl) (fun g => kf g p e s m args below meth c H locs ls hC hK hP hz hS hl)
theorem aw_icmp_le {x y : Int32} {off : Int} {t : Nat} (hd : decode M.2.1 pc = .ok (.if_icmp .le off, 3)) (ht : (pc : Int) + off = (t : Int)) (hq : pc + 3 = q) (kt : x ≤ y → AW E d M B cells slots t lv st h Q) (kf : ¬ x ≤ y → AW E d M B cells slots q lv st h Q) : AW E d M B cells slots pc lv (.int y :: .int x :: st) h Q := by
  intro p e s m args below meth c H locs ls hC hK hP hz hS hl
  subst hq
  exact lv_icmp_le hC.1 hC.2.1 hd ht (fun g => kt g p e s m args below meth c H locs ls hC hK hP hz hS hl) (fun g => kf g p e s m args below meth c H locs ls hC hK hP hz hS hl)
theorem aw_goto {off : Int} {t : Nat} (hd : decode M.2.1 pc = .ok (.goto off, 3)) (ht : (pc : Int) + off = (t : Int)) (k : AW E d M B cells slots t lv st h Q) : AW E d M B cells slots pc lv st h Q := by
  intro p e s m args below meth c H locs ls hC hK hP hz hS hl
  exact lv_goto hC.1 hC.2.1 hd ht (k p e s m args below meth c H locs ls hC hK hP hz hS hl)
theorem aw_ifnull {x : Nat} {off : Int} (hd : decode M.2.1 pc = .ok (.ifnull off, 3)) (hq : pc + 3 = q) (k : AW E d M B cells slots q lv st h Q) : AW E d M B cells slots pc lv (.ref x :: st) h Q := by
  intro p e s m args below meth c H locs ls hC hK hP hz hS hl
  subst hq
  exact lv_ifnull hC.1 hC.2.1 hd (k p e s m args below meth c H locs ls hC hK hP hz hS hl)
theorem aw_ifnullN {off : Int} {t : Nat} (hd : decode M.2.1 pc = .ok (.ifnull off, 3)) (ht : (pc : Int) + off = (t : Int)) (k : AW E d M B cells slots t lv st h Q) : AW E d M B cells slots pc lv (.null :: st) h Q := by
  intro p e s m args below meth c H locs ls hC hK hP hz hS hl
  exact lv_ifnullN hC.1 hC.2.1 hd ht (k p e s m args below meth c H locs ls hC hK hP hz hS hl)
theorem aw_ifnonnull {x : Nat} {off : Int} {t : Nat} (hd : decode M.2.1 pc = .ok (.ifnonnull off, 3)) (ht : (pc : Int) + off = (t : Int)) (k : AW E d M B cells slots t lv st h Q) : AW E d M B cells slots pc lv (.ref x :: st) h Q := by
  intro p e s m args below meth c H locs ls hC hK hP hz hS hl
  exact lv_ifnonnull hC.1 hC.2.1 hd ht (k p e s m args below meth c H locs ls hC hK hP hz hS hl)
theorem aw_ifnonnullN {off : Int} (hd : decode M.2.1 pc = .ok (.ifnonnull off, 3)) (hq : pc + 3 = q) (k : AW E d M B cells slots q lv st h Q) : AW E d M B cells slots pc lv (.null :: st) h Q := by
  intro p e s m args below meth c H locs ls hC hK hP hz hS hl
  subst hq
  exact lv_ifnonnullN hC.1 hC.2.1 hd (k p e s m args below meth c H locs ls hC hK hP hz hS hl)
theorem aw_tableIn {dflt lo hi : Int} {offs : Array Int} {len t : Nat} {x : Int32} {off : Int} (hd : decode M.2.1 pc = .ok (.tableswitch dflt lo hi offs, len)) (h1 : ¬ x.toInt < lo) (h2 : ¬ hi < x.toInt) (ho : offs[(x.toInt - lo).toNat]? = some off) (ht : (pc : Int) + off = (t : Int)) (k : AW E d M B cells slots t lv st h Q) : AW E d M B cells slots pc lv (.int x :: st) h Q := by
  intro p e s m args below meth c H locs ls hC hK hP hz hS hl
  exact lv_tableIn hC.1 hC.2.1 hd h1 h2 ho ht (k p e s m args below meth c H locs ls hC hK hP hz hS hl)
theorem aw_tableOut {dflt lo hi : Int} {offs : Array Int} {len t : Nat} {x : Int32} (hd : decode M.2.1 pc = .ok (.tableswitch dflt lo hi offs, len)) (h1 : x.toInt < lo ∨ hi < x.toInt) (ht : (pc : Int) + dflt = (t : Int)) (k : AW E d M B cells slots t lv st h Q) : AW E d M B cells slots pc lv (.int x :: st) h Q := by
  intro p e s m args below meth c H locs ls hC hK hP hz hS hl
  exact lv_tableOut hC.1 hC.2.1 hd h1 ht (k p e s m args below meth c H locs ls hC hK hP hz hS hl)
theorem aw_lookup {dflt : Int} {ps : Array (Int × Int)} {len t : Nat} {x : Int32} {off : Int} (hd : decode M.2.1 pc = .ok (.lookupswitch dflt ps, len)) (hp : (ps.toList.zip (ps.toList.drop 1)).all (fun (a, next) => a.1 < next.1) = true) (ho : Op.lookupswitch.offset ps.toList dflt x.toInt = off) (ht : (pc : Int) + off = (t : Int)) (k : AW E d M B cells slots t lv st h Q) : AW E d M B cells slots pc lv (.int x :: st) h Q := by
  intro p e s m args below meth c H locs ls hC hK hP hz hS hl
  exact lv_lookup hC.1 hC.2.1 hd hp ho ht (k p e s m args below meth c H locs ls hC hK hP hz hS hl)
end AWR2
section AWR3
variable {E : EVt} {d : Nat} {M : MDt} {B : Nat × Nat × Nat} {cells slots pc q : Nat} {lv : List (Nat × Value)} {st : List Value} {h : AHt} {Q : Value → AHt → Prop}
theorem aw_lcmp {x y : Int64} (hd : decode M.2.1 pc = .ok (.lcmp, 1)) (hq : pc + 1 = q) (k : AW E d M B cells slots q lv (.int (lg_cmp x y) :: st) h Q) : AW E d M B cells slots pc lv (.long y :: .long x :: st) h Q := by
  intro p e s m args below meth c H locs ls hC hK hP hz hS hl
  subst hq
  exact W.lcmp hC.1 hC.2.1 hd (k p e s m args below meth c H locs ls hC hK hP hz hS hl)
/-- the ends -/
theorem aw_ireturn {v : Int32} {ty : FieldType} (hd : decode M.2.1 pc = .ok (.ireturn, 1)) (hr : M.2.2.2 = some ty) (hn : narrow ty (.int v) = .int v) (hc : cells ≤ B.2.1) (hs : slots ≤ B.2.2) (hcn : cells = B.2.1) (hq : Q (.int v) h) : AW E d M B cells slots pc lv [.int v] h Q := by
  intro p e s m args below meth c H locs ls hC hK hP hz hS hl
  subst hcn
  refine W.widen (Nat.le_refl _) hs ?_
  exact W.zret hC.1 hC.2.1 (hC.2.2.2.2.2.1.trans hr) hn (fun t ht hW => ⟨⟨.int v, h, hq, by rw [hr]; rfl, by rw [ht]; exact hP⟩, hS.F ht⟩) hS.2.2 hd hC.2.2.2.2.2.2.1
theorem aw_lreturn {v : Int64} (hd : decode M.2.1 pc = .ok (.lreturn, 1)) (hr : M.2.2.2 = some .long) (hs : slots ≤ B.2.2) (hcn : cells = B.2.1) (hq : Q (.long v) h) : AW E d M B cells slots pc lv [.long v] h Q := by
  intro p e s m args below meth c H locs ls hC hK hP hz hS hl
  subst hcn
  refine W.widen (Nat.le_refl _) hs ?_
  exact W.lret hC.1 hC.2.1 (hC.2.2.2.2.2.1.trans hr) (fun t ht hW => ⟨⟨.long v, h, hq, by rw [hr]; rfl, by rw [ht]; exact hP⟩, hS.F ht⟩) hS.2.2 hd hC.2.2.2.2.2.2.1
theorem aw_areturn {v : Value} {rt : FieldType} (hd : decode M.2.1 pc = .ok (.areturn, 1)) (hr : M.2.2.2 = some rt) (hrt : (∃ n, rt = .object n) ∨ ∃ t, rt = .array t) (hv : v = .null ∨ ∃ a, v = .ref a) (hs : slots ≤ B.2.2) (hcn : cells = B.2.1) (hq : Q v h) : AW E d M B cells slots pc lv [v] h Q := by
  intro p e s m args below meth c H locs ls hC hK hP hz hS hl
  subst hcn
  refine W.widen (Nat.le_refl _) hs ?_
  exact W.aret hC.1 hC.2.1 (hC.2.2.2.2.2.1.trans hr) hrt hv (fun t ht hW => ⟨⟨v, h, hq, by rw [hr]; rfl, by rw [ht]; exact hP⟩, hS.F ht⟩) hS.2.2 hd hC.2.2.2.2.2.2.1
theorem aw_return (hd : decode M.2.1 pc = .ok (.return_, 1)) (hr : M.2.2.2 = none) (hs : slots ≤ B.2.2) (hcn : cells = B.2.1) (hq : Q .null h) : AW E d M B cells slots pc lv [] h Q := by
  intro p e s m args below meth c H locs ls hC hK hP hz hS hl
  subst hcn
  refine W.widen (Nat.le_refl _) hs ?_
  exact W.vret hC.1 hC.2.1 (hC.2.2.2.2.2.1.trans hr) (fun t ht hW => ⟨⟨.null, h, hq, by rw [hr]; rfl, by rw [ht]; exact hP⟩, hS.F ht⟩) hS.2.2 hd hC.2.2.2.2.2.2.1
/-- fields: class ci's table, its place k, the link's word -/
def CKp (ci : Nat) (C : String) (T : u_T) (N : Nat) (ty : Nat → FieldType) : Prop := vwCl[ci]? = some (C, T, N) ∧ (∀ w ∈ u_ws C T N, w ∈ gtbl) ∧ (∀ k, k < N → parseFieldDescriptor (T k).2.2.1 = some (ty k)) ∧ (∀ a, a < N → ∀ b, b < N → a ≠ b → (T a).2.1 ≠ (T b).2.1)
def FG (own : String) (ix ci k : Nat) : Prop := ∃ (C : String) (T : u_T) (N : Nat) (ty : Nat → FieldType), CKp ci C T N ty ∧ k < N ∧ Cond.fieldLink own ix (T k).1 (T k).2.1 (T k).2.2.1 ∈ gtbl
def FP (own : String) (ix ci k : Nat) (ft : FieldType) : Prop := ∃ (C : String) (T : u_T) (N : Nat) (ty : Nat → FieldType), CKp ci C T N ty ∧ k < N ∧ Cond.fieldLink own ix (T k).1 (T k).2.1 (T k).2.2.1 ∈ gtbl ∧ (T k).2.2.2 = false ∧ ty k = ft
def FF (own : String) (ix ci k : Nat) (ft : FieldType) : Prop := ∃ (C : String) (T : u_T) (N : Nat) (ty : Nat → FieldType), CKp ci C T N ty ∧ k < N ∧ Cond.fieldLink own ix (T k).1 (T k).2.1 (T k).2.2.1 ∈ gtbl ∧ (T k).2.2.2 = true ∧ (T k).1 = own ∧ ty k = ft
theorem aw_getfield {ix ci k a : Nat} {fs : List Value} {v : Value} (hF : FG M.1.cls ix ci k) (hd : decode M.2.1 pc = .ok (.getfield ix, 3)) (ha : a < B.1 + cells) (hh : h a = .inr (ci, fs)) (hv : fs[k]? = some v) (hq : pc + 3 = q) (kk : AW E d M B cells slots q lv (v :: st) h Q) : AW E d M B cells slots pc lv (.ref (ev_z E + a) :: st) h Q := by
  intro p e s m args below meth c H locs ls hC hK hP hz hS hl
  subst hq
  obtain ⟨C, T, N, ty, ⟨c1, c2, c3, c4⟩, hk, hw⟩ := hF
  exact va_get (D := ev_D E) (cl := vwCl) hC.1 hC.2.1 hC.2.2.2.2.1 c2 hC.2.2.2.1 hK.1 hP a (wl_get' ha hh) c1 k hk (hC.2.2.2.2.1 _ hw) (fun _ h9 => h9) hv hd (kk p e s m args below meth c H locs ls hC hK hP hz hS hl)
theorem aw_putfield {ix ci k a : Nat} {ft : FieldType} {fs : List Value} {v : Value} (hF : FP M.1.cls ix ci k ft) (hd : decode M.2.1 pc = .ok (.putfield ix, 3)) (ha : a < B.1 + cells) (hh : h a = .inr (ci, fs)) (hk2 : k < fs.length) (hn : narrow ft v = v) (hf : fits ft v = true) (hq : pc + 3 = q) (kk : AW E d M B cells slots q lv st (va_up h a (.inr (ci, fs.set k v))) Q) : AW E d M B cells slots pc lv (v :: .ref (ev_z E + a) :: st) h Q := by
  intro p e s m args below meth c H locs ls hC hK hP hz hS hl
  subst hq
  obtain ⟨C, T, N, ty, ⟨c1, c2, c3, c4⟩, hk, hw, hfin, hty⟩ := hF
  refine va_put (D := ev_D E) (cl := vwCl) hC.1 hC.2.1 hC.2.2.2.2.1 c2 ty c3 c4 hC.2.2.2.1 hK.1 hP (wl_D _ _ _) hS a (wl_get' ha hh) c1 k hk (hC.2.2.2.2.1 _ hw) (fun _ h9 => h9) hfin (ty := ft) (by rw [c3 k hk, hty]) hn hf hk2 hd (fun H1 locs1 hP1 hD1 hS1 => ?_)
  rw [wl_set ha] at hP1
  exact kk p e s m args below meth c H1 locs1 ls hC hK hP1 hz hS1 hl
end AWR3
section AWR4
variable {E : EVt} {d : Nat} {M : MDt} {B : Nat × Nat × Nat} {cells slots pc q : Nat} {lv : List (Nat × Value)} {st : List Value} {h : AHt} {Q : Value → AHt → Prop}
theorem aw_putfieldF {ix ci k a : Nat} {ft : FieldType} {fs : List Value} {v : Value} (hF : FF M.1.cls ix ci k ft) (hin : M.1.name = "<init>") (hd : decode M.2.1 pc = .ok (.putfield ix, 3)) (ha : a < B.1 + cells) (hh : h a = .inr (ci, fs)) (hk2 : k < fs.length) (hn : narrow ft v = v) (hf : fits ft v = true) (hq : pc + 3 = q) (kk : AW E d M B cells slots q lv st (va_up h a (.inr (ci, fs.set k v))) Q) : AW E d M B cells slots pc lv (v :: .ref (ev_z E + a) :: st) h Q := by
  intro p e s m args below meth c H locs ls hC hK hP hz hS hl
  subst hq
  obtain ⟨C, T, N, ty, ⟨c1, c2, c3, c4⟩, hk, hw, hfin, hown, hty⟩ := hF
  refine va_putF (D := ev_D E) (cl := vwCl) hC.1 hC.2.1 hC.2.2.2.2.1 c2 ty c3 c4 hC.2.2.2.1 hK.1 hP (wl_D _ _ _) hS a (wl_get' ha hh) c1 k hk (hC.2.2.2.2.1 _ hw) (fun _ h9 => h9) hfin (hC.2.2.2.2.2.2.2.trans hin) hown (ty := ft) (by rw [c3 k hk, hty]) hn hf hk2 hd (fun H1 locs1 hP1 hD1 hS1 => ?_)
  rw [wl_set ha] at hP1
  exact kk p e s m args below meth c H1 locs1 ls hC hK hP1 hz hS1 hl
/-- arrays -/
abbrev aI (cA : ClassId) (n : Nat) (f : Nat → Int32) : va_E := .inl (cA, n, .inl f)
abbrev aL (cA : ClassId) (n : Nat) (f : Nat → Int64) : va_E := .inl (cA, n, .inr (.inl f))
abbrev aR (cA : ClassId) (n : Nat) (f : Nat → Option Nat) : va_E := .inl (cA, n, .inr (.inr (.inr (.inr f))))
theorem aw_iaload {a n : Nat} {f : Nat → Int32} {i v : Int32} (hd : decode M.2.1 pc = .ok (.iaload, 1)) (ha : a < B.1 + cells) (hh : h a = aI (ev_cy E 0) n f) (hi : vp_in i n) (hv : f i.toNatClampNeg = v) (hq : pc + 1 = q) (kk : AW E d M B cells slots q lv (.int v :: st) h Q) : AW E d M B cells slots pc lv (.int i :: .ref (ev_z E + a) :: st) h Q := by
  intro p e s m args below meth c H locs ls hC hK hP hz hS hl
  subst hq; subst hv
  exact va_iald (D := ev_D E) (cl := vwCl) hC.1 hC.2.1 hK.1 hP a 0 (wl_get' ha hh) rfl hi hd (kk p e s m args below meth c H locs ls hC hK hP hz hS hl)
theorem aw_baload {a n : Nat} {f : Nat → Int32} {i v : Int32} (hd : decode M.2.1 pc = .ok (.baload, 1)) (ha : a < B.1 + cells) (hh : h a = aI (ev_cy E 2) n f) (hi : vp_in i n) (hv : f i.toNatClampNeg = v) (hq : pc + 1 = q) (kk : AW E d M B cells slots q lv (.int v :: st) h Q) : AW E d M B cells slots pc lv (.int i :: .ref (ev_z E + a) :: st) h Q := by
  intro p e s m args below meth c H locs ls hC hK hP hz hS hl
  subst hq; subst hv
  exact va_bald (D := ev_D E) (cl := vwCl) hC.1 hC.2.1 hK.1 hP a 2 (wl_get' ha hh) rfl hi hd (kk p e s m args below meth c H locs ls hC hK hP hz hS hl)
theorem aw_laload {a n : Nat} {f : Nat → Int64} {i : Int32} {v : Int64} (hd : decode M.2.1 pc = .ok (.laload, 1)) (ha : a < B.1 + cells) (hh : h a = aL (ev_cy E 1) n f) (hi : vp_in i n) (hv : f i.toNatClampNeg = v) (hq : pc + 1 = q) (kk : AW E d M B cells slots q lv (.long v :: st) h Q) : AW E d M B cells slots pc lv (.int i :: .ref (ev_z E + a) :: st) h Q := by
  intro p e s m args below meth c H locs ls hC hK hP hz hS hl
  subst hq; subst hv
  exact va_lald (D := ev_D E) (cl := vwCl) hC.1 hC.2.1 hK.1 hP a 1 (wl_get' ha hh) rfl hi hd (kk p e s m args below meth c H locs ls hC hK hP hz hS hl)
theorem aw_aaload {a n t : Nat} {C : String} {cA : ClassId} {f : Nat → Option Nat} {i : Int32} {r : Nat} (ht : (tysOf (ev_cy E))[t]? = some (cA, .object C)) (hd : decode M.2.1 pc = .ok (.aaload, 1)) (ha : a < B.1 + cells) (hh : h a = aR cA n f) (hi : vp_in i n) (hv : f i.toNatClampNeg = some r) (hq : pc + 1 = q) (kk : AW E d M B cells slots q lv (.ref r :: st) h Q) : AW E d M B cells slots pc lv (.int i :: .ref (ev_z E + a) :: st) h Q := by
  intro p e s m args below meth c H locs ls hC hK hP hz hS hl
  subst hq
  refine va_aldq (D := ev_D E) (cl := vwCl) hC.1 hC.2.1 hK.1 hP a t (wl_get' ha hh) ht hi hd ?_
  rw [hv]
  exact kk p e s m args below meth c H locs ls hC hK hP hz hS hl
theorem aw_iastore {a n : Nat} {f : Nat → Int32} {i x : Int32} (hd : decode M.2.1 pc = .ok (.iastore, 1)) (ha : a < B.1 + cells) (hh : h a = aI (ev_cy E 0) n f) (hi : vp_in i n) (hq : pc + 1 = q) (kk : AW E d M B cells slots q lv st (va_up h a (aI (ev_cy E 0) n (upd f i.toNatClampNeg x))) Q) : AW E d M B cells slots pc lv (.int x :: .int i :: .ref (ev_z E + a) :: st) h Q := by
  intro p e s m args below meth c H locs ls hC hK hP hz hS hl
  subst hq
  refine va_iast (D := ev_D E) (cl := vwCl) hC.1 hC.2.1 hK.1 hP (wl_D _ _ _) hS a 0 (wl_get' ha hh) rfl hi hd (fun H1 locs1 hP1 hD1 hS1 => ?_)
  rw [wl_set ha] at hP1
  exact kk p e s m args below meth c H1 locs1 ls hC hK hP1 hz hS1 hl
theorem aw_lastore {a n : Nat} {f : Nat → Int64} {i : Int32} {x : Int64} (hd : decode M.2.1 pc = .ok (.lastore, 1)) (ha : a < B.1 + cells) (hh : h a = aL (ev_cy E 1) n f) (hi : vp_in i n) (hq : pc + 1 = q) (kk : AW E d M B cells slots q lv st (va_up h a (aL (ev_cy E 1) n (vp_updL f i.toNatClampNeg x))) Q) : AW E d M B cells slots pc lv (.long x :: .int i :: .ref (ev_z E + a) :: st) h Q := by
  intro p e s m args below meth c H locs ls hC hK hP hz hS hl
  subst hq
  refine va_last (D := ev_D E) (cl := vwCl) hC.1 hC.2.1 hK.1 hP (wl_D _ _ _) hS a 1 (wl_get' ha hh) rfl hi hd (fun H1 locs1 hP1 hD1 hS1 => ?_)
  rw [wl_set ha] at hP1
  exact kk p e s m args below meth c H1 locs1 ls hC hK hP1 hz hS1 hl
theorem aw_alen {a t : Nat} {cA : ClassId} {x : vp_A} {ty : FieldType} {v : Int32} (ht : (tysOf (ev_cy E))[t]? = some (cA, ty)) (hd : decode M.2.1 pc = .ok (.arraylength, 1)) (ha : a < B.1 + cells) (hh : h a = .inl (cA, x)) (hv : Int32.ofNat x.1 = v) (hq : pc + 1 = q) (kk : AW E d M B cells slots q lv (.int v :: st) h Q) : AW E d M B cells slots pc lv (.ref (ev_z E + a) :: st) h Q := by
  intro p e s m args below meth c H locs ls hC hK hP hz hS hl
  subst hq
  exact va_alen (D := ev_D E) (cl := vwCl) hC.1 hC.2.1 hK.1 hP a t (wl_get' ha hh) ht hv hd (kk p e s m args below meth c H locs ls hC hK hP hz hS hl)
/-- the script -/
theorem aw_sld {i v : Int32} (hd : decode M.2.1 pc = .ok (.iaload, 1)) (hi : vp_in i (ev_L E)) (hv : ev_x E i.toNatClampNeg = v) (hq : pc + 1 = q) (kk : AW E d M B cells slots q lv (.int v :: st) h Q) : AW E d M B cells slots pc lv (.int i :: .ref (ev_b E) :: st) h Q := by
  intro p e s m args below meth c H locs ls hC hK hP hz hS hl
  subst hq; subst hv
  obtain ⟨k1, k2, k3, k4, k5, k6, k7, k8, k9, k10⟩ := id hK
  exact va_sld hC.1 hC.2.1 k10 (Nat.lt_of_lt_of_le k5 k6) (fun z => absurd z (Nat.not_le.mpr k5)) hS hi hd (kk p e s m args below meth c H locs ls hC hK hP hz hS hl)
theorem aw_slen (hd : decode M.2.1 pc = .ok (.arraylength, 1)) (hq : pc + 1 = q) (kk : AW E d M B cells slots q lv (.int (Int32.ofNat (ev_L E)) :: st) h Q) : AW E d M B cells slots pc lv (.ref (ev_b E) :: st) h Q := by
  intro p e s m args below meth c H locs ls hC hK hP hz hS hl
  subst hq
  obtain ⟨k1, k2, k3, k4, k5, k6, k7, k8, k9, k10⟩ := id hK
  exact va_slen hC.1 hC.2.1 k10 (Nat.lt_of_lt_of_le k5 k6) (fun z => absurd z (Nat.not_le.mpr k5)) hS hd (kk p e s m args below meth c H locs ls hC hK hP hz hS hl)
end AWR4
