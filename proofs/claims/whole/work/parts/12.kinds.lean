/-! garment rows as seven numbers; the kinds -/
def rw7 (a0 a1 a2 a3 a4 a5 a6 : Int32) (r : Nat → Int32) : Nat → Int32 := fun f => match f with
  | 0 => a0
  | 1 => a1
  | 2 => a2
  | 3 => a3
  | 4 => a4
  | 5 => a5
  | 6 => a6
  | n + 7 => r (n + 7)
theorem rw7_self (v : Nat → Int32) : rw7 (v 0) (v 1) (v 2) (v 3) (v 4) (v 5) (v 6) v = v := by
  funext f
  unfold rw7
  split <;> rfl
theorem rw7_u0 (a0 a1 a2 a3 a4 a5 a6 x : Int32) (r : Nat → Int32) : upd (rw7 a0 a1 a2 a3 a4 a5 a6 r) 0 x = rw7 x a1 a2 a3 a4 a5 a6 r := by
  funext f
  unfold upd rw7
  split
  · rename_i h; subst h; rfl
  · split <;> simp_all
theorem rw7_u1 (a0 a1 a2 a3 a4 a5 a6 x : Int32) (r : Nat → Int32) : upd (rw7 a0 a1 a2 a3 a4 a5 a6 r) 1 x = rw7 a0 x a2 a3 a4 a5 a6 r := by
  funext f
  unfold upd rw7
  split
  · rename_i h; subst h; rfl
  · split <;> simp_all
theorem rw7_u2 (a0 a1 a2 a3 a4 a5 a6 x : Int32) (r : Nat → Int32) : upd (rw7 a0 a1 a2 a3 a4 a5 a6 r) 2 x = rw7 a0 a1 x a3 a4 a5 a6 r := by
  funext f
  unfold upd rw7
  split
  · rename_i h; subst h; rfl
  · split <;> simp_all
theorem rw7_u3 (a0 a1 a2 a3 a4 a5 a6 x : Int32) (r : Nat → Int32) : upd (rw7 a0 a1 a2 a3 a4 a5 a6 r) 3 x = rw7 a0 a1 a2 x a4 a5 a6 r := by
  funext f
  unfold upd rw7
  split
  · rename_i h; subst h; rfl
  · split <;> simp_all
theorem rw7_u4 (a0 a1 a2 a3 a4 a5 a6 x : Int32) (r : Nat → Int32) : upd (rw7 a0 a1 a2 a3 a4 a5 a6 r) 4 x = rw7 a0 a1 a2 a3 x a5 a6 r := by
  funext f
  unfold upd rw7
  split
  · rename_i h; subst h; rfl
  · split <;> simp_all
theorem rw7_u5 (a0 a1 a2 a3 a4 a5 a6 x : Int32) (r : Nat → Int32) : upd (rw7 a0 a1 a2 a3 a4 a5 a6 r) 5 x = rw7 a0 a1 a2 a3 a4 x a6 r := by
  funext f
  unfold upd rw7
  split
  · rename_i h; subst h; rfl
  · split <;> simp_all
theorem rw7_u6 (a0 a1 a2 a3 a4 a5 a6 x : Int32) (r : Nat → Int32) : upd (rw7 a0 a1 a2 a3 a4 a5 a6 r) 6 x = rw7 a0 a1 a2 a3 a4 a5 x r := by
  funext f
  unfold upd rw7
  split
  · rename_i h; subst h; rfl
  · split <;> simp_all
theorem wr_self (m : Mm) (k : Nat) : wr m k (m k) = m := by
  funext j
  unfold wr
  split
  · rename_i h; rw [h]
  · rfl
theorem wr_wr (m : Mm) (k : Nat) (v w : Nat → Int32) : wr (wr m k v) k w = wr m k w := by
  funext j
  unfold wr
  split <;> rfl
theorem wrL_wrL (m : Ml) (k : Nat) (v w : Nat → Int64) : wrL (wrL m k v) k w = wrL m k w := by
  funext j
  unfold wrL
  split <;> rfl
section GR
variable {E : EVt} {d : Nat} {M : MDt} {pc q : Nat} {lv : List (Nat × Value)} {st : List Value} {m : Mm} {L : Ml} {Q : Value → Mm → Ml → Prop}
theorem wk_row {k : Nat} (kk : WK E d M pc lv st (wr m k (rw7 (m k 0) (m k 1) (m k 2) (m k 3) (m k 4) (m k 5) (m k 6) (m k))) L Q) : WK E d M pc lv st m L Q := by
  rw [rw7_self, wr_self] at kk
  exact kk
theorem wk_gG0 {ix k : Nat} {a0 a1 a2 a3 a4 a5 a6 : Int32} {r : Nat → Int32} (hF : FG M.1.cls ix 2 0) (hd : decode M.2.1 pc = .ok (.getfield ix, 3)) (hs : shp k = 2) (hq : pc + 3 = q) (kk : WK E d M q lv (.ref (ev_z E + kref a0) :: st) (wr m k (rw7 a0 a1 a2 a3 a4 a5 a6 r)) L Q) : WK E d M pc lv (.ref (ev_z E + k) :: st) (wr m k (rw7 a0 a1 a2 a3 a4 a5 a6 r)) L Q :=
  wk_get hF hd hs rfl (by unfold hfs; rw [wr_s]; rfl) hq kk
theorem wk_pG0 {ix k : Nat} {ft : FieldType} {a0 a1 a2 a3 a4 a5 a6 x : Int32} {r : Nat → Int32} (hF : FP M.1.cls ix 2 0 ft) (hd : decode M.2.1 pc = .ok (.putfield ix, 3)) (hs : shp k = 2) (hn : narrow ft (.ref (ev_z E + kref x)) = .ref (ev_z E + kref x)) (hf : fits ft (.ref (ev_z E + kref x)) = true) (hq : pc + 3 = q) (kk : WK E d M q lv st (wr m k (rw7 x a1 a2 a3 a4 a5 a6 r)) L Q) : WK E d M pc lv (.ref (ev_z E + kref x) :: .ref (ev_z E + k) :: st) (wr m k (rw7 a0 a1 a2 a3 a4 a5 a6 r)) L Q := by
  refine wk_putSort hF hd hs hn hf hq ?_
  rw [wr_s, wr_wr, rw7_u0]
  exact kk
theorem wk_gG1 {ix k : Nat} {a0 a1 a2 a3 a4 a5 a6 : Int32} {r : Nat → Int32} (hF : FG M.1.cls ix 2 1) (hd : decode M.2.1 pc = .ok (.getfield ix, 3)) (hs : shp k = 2) (hq : pc + 3 = q) (kk : WK E d M q lv (.int a1 :: st) (wr m k (rw7 a0 a1 a2 a3 a4 a5 a6 r)) L Q) : WK E d M pc lv (.ref (ev_z E + k) :: st) (wr m k (rw7 a0 a1 a2 a3 a4 a5 a6 r)) L Q :=
  wk_get hF hd hs rfl (by unfold hfs; rw [wr_s]; rfl) hq kk
theorem wk_pG1 {ix k : Nat} {ft : FieldType} {a0 a1 a2 a3 a4 a5 a6 x : Int32} {r : Nat → Int32} (hF : FP M.1.cls ix 2 1 ft) (hd : decode M.2.1 pc = .ok (.putfield ix, 3)) (hs : shp k = 2) (hn : narrow ft (.int x) = .int x) (hf : fits ft (.int x) = true) (hq : pc + 3 = q) (kk : WK E d M q lv st (wr m k (rw7 a0 x a2 a3 a4 a5 a6 r)) L Q) : WK E d M pc lv (.int x :: .ref (ev_z E + k) :: st) (wr m k (rw7 a0 a1 a2 a3 a4 a5 a6 r)) L Q := by
  refine wk_put hF hd hs rfl rfl hn hf hq ?_
  rw [wr_s, wr_wr, rw7_u1]
  exact kk
theorem wk_gG2 {ix k : Nat} {a0 a1 a2 a3 a4 a5 a6 : Int32} {r : Nat → Int32} (hF : FG M.1.cls ix 2 2) (hd : decode M.2.1 pc = .ok (.getfield ix, 3)) (hs : shp k = 2) (hq : pc + 3 = q) (kk : WK E d M q lv (.int a2 :: st) (wr m k (rw7 a0 a1 a2 a3 a4 a5 a6 r)) L Q) : WK E d M pc lv (.ref (ev_z E + k) :: st) (wr m k (rw7 a0 a1 a2 a3 a4 a5 a6 r)) L Q :=
  wk_get hF hd hs rfl (by unfold hfs; rw [wr_s]; rfl) hq kk
theorem wk_pG2 {ix k : Nat} {ft : FieldType} {a0 a1 a2 a3 a4 a5 a6 x : Int32} {r : Nat → Int32} (hF : FP M.1.cls ix 2 2 ft) (hd : decode M.2.1 pc = .ok (.putfield ix, 3)) (hs : shp k = 2) (hn : narrow ft (.int x) = .int x) (hf : fits ft (.int x) = true) (hq : pc + 3 = q) (kk : WK E d M q lv st (wr m k (rw7 a0 a1 x a3 a4 a5 a6 r)) L Q) : WK E d M pc lv (.int x :: .ref (ev_z E + k) :: st) (wr m k (rw7 a0 a1 a2 a3 a4 a5 a6 r)) L Q := by
  refine wk_put hF hd hs rfl rfl hn hf hq ?_
  rw [wr_s, wr_wr, rw7_u2]
  exact kk
theorem wk_gG3 {ix k : Nat} {a0 a1 a2 a3 a4 a5 a6 : Int32} {r : Nat → Int32} (hF : FG M.1.cls ix 2 3) (hd : decode M.2.1 pc = .ok (.getfield ix, 3)) (hs : shp k = 2) (hq : pc + 3 = q) (kk : WK E d M q lv (.int a3 :: st) (wr m k (rw7 a0 a1 a2 a3 a4 a5 a6 r)) L Q) : WK E d M pc lv (.ref (ev_z E + k) :: st) (wr m k (rw7 a0 a1 a2 a3 a4 a5 a6 r)) L Q :=
  wk_get hF hd hs rfl (by unfold hfs; rw [wr_s]; rfl) hq kk
theorem wk_pG3 {ix k : Nat} {ft : FieldType} {a0 a1 a2 a3 a4 a5 a6 x : Int32} {r : Nat → Int32} (hF : FP M.1.cls ix 2 3 ft) (hd : decode M.2.1 pc = .ok (.putfield ix, 3)) (hs : shp k = 2) (hn : narrow ft (.int x) = .int x) (hf : fits ft (.int x) = true) (hq : pc + 3 = q) (kk : WK E d M q lv st (wr m k (rw7 a0 a1 a2 x a4 a5 a6 r)) L Q) : WK E d M pc lv (.int x :: .ref (ev_z E + k) :: st) (wr m k (rw7 a0 a1 a2 a3 a4 a5 a6 r)) L Q := by
  refine wk_put hF hd hs rfl rfl hn hf hq ?_
  rw [wr_s, wr_wr, rw7_u3]
  exact kk
theorem wk_gG4 {ix k : Nat} {a0 a1 a2 a3 a4 a5 a6 : Int32} {r : Nat → Int32} (hF : FG M.1.cls ix 2 4) (hd : decode M.2.1 pc = .ok (.getfield ix, 3)) (hs : shp k = 2) (hq : pc + 3 = q) (kk : WK E d M q lv (.int a4 :: st) (wr m k (rw7 a0 a1 a2 a3 a4 a5 a6 r)) L Q) : WK E d M pc lv (.ref (ev_z E + k) :: st) (wr m k (rw7 a0 a1 a2 a3 a4 a5 a6 r)) L Q :=
  wk_get hF hd hs rfl (by unfold hfs; rw [wr_s]; rfl) hq kk
theorem wk_pG4 {ix k : Nat} {ft : FieldType} {a0 a1 a2 a3 a4 a5 a6 x : Int32} {r : Nat → Int32} (hF : FP M.1.cls ix 2 4 ft) (hd : decode M.2.1 pc = .ok (.putfield ix, 3)) (hs : shp k = 2) (hn : narrow ft (.int x) = .int x) (hf : fits ft (.int x) = true) (hq : pc + 3 = q) (kk : WK E d M q lv st (wr m k (rw7 a0 a1 a2 a3 x a5 a6 r)) L Q) : WK E d M pc lv (.int x :: .ref (ev_z E + k) :: st) (wr m k (rw7 a0 a1 a2 a3 a4 a5 a6 r)) L Q := by
  refine wk_put hF hd hs rfl rfl hn hf hq ?_
  rw [wr_s, wr_wr, rw7_u4]
  exact kk
theorem wk_gG5 {ix k : Nat} {a0 a1 a2 a3 a4 a5 a6 : Int32} {r : Nat → Int32} (hF : FG M.1.cls ix 2 5) (hd : decode M.2.1 pc = .ok (.getfield ix, 3)) (hs : shp k = 2) (hq : pc + 3 = q) (kk : WK E d M q lv (.int a5 :: st) (wr m k (rw7 a0 a1 a2 a3 a4 a5 a6 r)) L Q) : WK E d M pc lv (.ref (ev_z E + k) :: st) (wr m k (rw7 a0 a1 a2 a3 a4 a5 a6 r)) L Q :=
  wk_get hF hd hs rfl (by unfold hfs; rw [wr_s]; rfl) hq kk
theorem wk_pG5 {ix k : Nat} {ft : FieldType} {a0 a1 a2 a3 a4 a5 a6 x : Int32} {r : Nat → Int32} (hF : FP M.1.cls ix 2 5 ft) (hd : decode M.2.1 pc = .ok (.putfield ix, 3)) (hs : shp k = 2) (hn : narrow ft (.int x) = .int x) (hf : fits ft (.int x) = true) (hq : pc + 3 = q) (kk : WK E d M q lv st (wr m k (rw7 a0 a1 a2 a3 a4 x a6 r)) L Q) : WK E d M pc lv (.int x :: .ref (ev_z E + k) :: st) (wr m k (rw7 a0 a1 a2 a3 a4 a5 a6 r)) L Q := by
  refine wk_put hF hd hs rfl rfl hn hf hq ?_
  rw [wr_s, wr_wr, rw7_u5]
  exact kk
theorem wk_gG6 {ix k : Nat} {a0 a1 a2 a3 a4 a5 a6 : Int32} {r : Nat → Int32} (hF : FG M.1.cls ix 2 6) (hd : decode M.2.1 pc = .ok (.getfield ix, 3)) (hs : shp k = 2) (hq : pc + 3 = q) (kk : WK E d M q lv (.int a6 :: st) (wr m k (rw7 a0 a1 a2 a3 a4 a5 a6 r)) L Q) : WK E d M pc lv (.ref (ev_z E + k) :: st) (wr m k (rw7 a0 a1 a2 a3 a4 a5 a6 r)) L Q :=
  wk_get hF hd hs rfl (by unfold hfs; rw [wr_s]; rfl) hq kk
theorem wk_pG6 {ix k : Nat} {ft : FieldType} {a0 a1 a2 a3 a4 a5 a6 x : Int32} {r : Nat → Int32} (hF : FP M.1.cls ix 2 6 ft) (hd : decode M.2.1 pc = .ok (.putfield ix, 3)) (hs : shp k = 2) (hn : narrow ft (.int x) = .int x) (hf : fits ft (.int x) = true) (hq : pc + 3 = q) (kk : WK E d M q lv st (wr m k (rw7 a0 a1 a2 a3 a4 a5 x r)) L Q) : WK E d M pc lv (.int x :: .ref (ev_z E + k) :: st) (wr m k (rw7 a0 a1 a2 a3 a4 a5 a6 r)) L Q := by
  refine wk_put hF hd hs rfl rfl hn hf hq ?_
  rw [wr_s, wr_wr, rw7_u6]
  exact kk
theorem hfs_wr {z : Nat} {m : Mm} {k j s : Nat} {w : Nat → Int32} (h : j ≠ k) : hfs z (wr m k w) s j = hfs z m s j := by
  unfold hfs
  rw [wr_n h]
/-- a field of another cell than the one that was set -/
theorem wk_getN {ix s f k j : Nat} {v : Value} {w : Nat → Int32} (hne : j ≠ k) (hF : FG M.1.cls ix s f) (hd : decode M.2.1 pc = .ok (.getfield ix, 3)) (hs : shp j = s) (hb : Nat.ble s 19 = true) (hv : (hfs (ev_z E) m s j)[f]? = some v) (hq : pc + 3 = q) (kk : WK E d M q lv (v :: st) (wr m k w) L Q) : WK E d M pc lv (.ref (ev_z E + j) :: st) (wr m k w) L Q :=
  wk_get hF hd hs hb (by rw [hfs_wr hne]; exact hv) hq kk
end GR
def heldF (v lo hi : Int32) : Int32 := if v < lo then lo else if hi < v then hi else v
def woolF (d : Int32) : Int32 := if 40 < d then (d - 40) / 2 else 0
def shrF (c d t : Int32) : Int32 := if c = 1 then woolF d else if c = 2 then d / 20 else if c = 3 then (if 60 < d then 50 else 0) else if c = 4 then (if t = 1 then 2 * woolF d else woolF d) else if c = 5 then (if 60 ≤ d then d / 20 + 1 else d / 20) else 0
def felF (c s : Int32) : Int32 := if c = 1 then s / 3 else if c = 4 then (if 0 < s then s / 3 + 1 else 0) else if c = 5 then 2 else 0
def beaF (c th ho : Int32) : Int32 := if c = 1 then 10 + th / 4 else if c = 2 then 5 else if c = 3 then 3 else if c = 4 then 2 * (10 + th / 4) else if c = 5 then 5 + ho else 10
def keeF (c : Int32) : Int32 := if c = 2 then 20 else if c = 5 then 20 else if c = 3 then 100 else if c = 4 then 40 else 50
theorem dbl_i (x : Int32) : x + x = 2 * x := by
  have h : (2 : Int32) = 1 + 1 := rfl
  rw [h, Int32.add_mul, Int32.one_mul]
section KD
variable {E : EVt} {m : Mm} {L : Ml} {Q : Value → Mm → Ml → Prop} {d t a : Int32} {k : Nat}
theorem ck_X4_shrinks (hQ : Q (.int 0) m L) : CK E 1 MX4_shrinks [.ref k, .int d, .int t] m L Q := by
  refine CK.of rfl rfl (lv := [(0, _), (1, _), (2, _)]) rfl ?_
  refine wk_iconst (v := 0) (q := 1) dX4_shrinks_0 rfl rfl ?_
  refine wk_ireturn dX4_shrinks_1 rfl rfl ?_
  exact hQ
theorem ck_X4_felts (hQ : Q (.int 0) m L) : CK E 1 MX4_felts [.ref k, .int d] m L Q := by
  refine CK.of rfl rfl (lv := [(0, _), (1, _)]) rfl ?_
  refine wk_iconst (v := 0) (q := 1) dX4_felts_0 rfl rfl ?_
  refine wk_ireturn dX4_felts_1 rfl rfl ?_
  exact hQ
theorem ck_X4_bears (hQ : Q (.int 10) m L) : CK E 1 MX4_bears [.ref k, .int d, .int t] m L Q := by
  refine CK.of rfl rfl (lv := [(0, _), (1, _), (2, _)]) rfl ?_
  refine wk_bipush (v := 10) (q := 2) dX4_bears_0 rfl rfl ?_
  refine wk_ireturn dX4_bears_2 rfl rfl ?_
  exact hQ
theorem ck_X4_keeps (hQ : Q (.int 50) m L) : CK E 1 MX4_keeps [.ref k] m L Q := by
  refine CK.of rfl rfl (lv := [(0, _)]) rfl ?_
  refine wk_bipush (v := 50) (q := 2) dX4_keeps_0 rfl rfl ?_
  refine wk_ireturn dX4_keeps_2 rfl rfl ?_
  exact hQ
theorem ck_X10_shrinks (hQ : Q (.int (woolF d)) m L) : CK E 1 MX10_shrinks [.ref k, .int d, .int t] m L Q := by
  refine CK.of rfl rfl (lv := [(0, _), (1, _), (2, _)]) rfl ?_
  unfold woolF at hQ
  refine wk_iload_n (i := 1) (q := 1) dX10_shrinks_0 rfl rfl rfl ?_
  refine wk_bipush (v := 40) (q := 3) dX10_shrinks_1 rfl rfl ?_
  refine wk_icmp_le (t := 15) (q := 6) dX10_shrinks_3 rfl rfl (fun c3 => ?_) (fun c3 => ?_)
  · skip
    rw [if_neg (by first | omega | (simp only [fa_le, fa_lt, fa_eq] at * <;> omega))] at hQ
    refine wk_iconst (v := 0) (q := 16) dX10_shrinks_15 rfl rfl ?_
    refine wk_ireturn dX10_shrinks_16 rfl rfl ?_
    exact hQ
  · skip
    rw [if_pos (by first | omega | (simp only [fa_le, fa_lt, fa_eq] at * <;> omega))] at hQ
    refine wk_iload_n (i := 1) (q := 7) dX10_shrinks_6 rfl rfl rfl ?_
    refine wk_bipush (v := 40) (q := 9) dX10_shrinks_7 rfl rfl ?_
    refine wk_isub (q := 10) dX10_shrinks_9 rfl ?_
    refine wk_iconst (v := 2) (q := 11) dX10_shrinks_10 rfl rfl ?_
    refine wk_idiv (q := 12) dX10_shrinks_11 (by decide) rfl ?_
    refine wk_goto (t := 16) dX10_shrinks_12 rfl ?_
    refine wk_ireturn dX10_shrinks_16 rfl rfl ?_
    exact hQ
theorem ck_X10_felts (hQ : Q (.int (d / 3)) m L) : CK E 1 MX10_felts [.ref k, .int d] m L Q := by
  refine CK.of rfl rfl (lv := [(0, _), (1, _)]) rfl ?_
  refine wk_iload_n (i := 1) (q := 1) dX10_felts_0 rfl rfl rfl ?_
  refine wk_iconst (v := 3) (q := 2) dX10_felts_1 rfl rfl ?_
  refine wk_idiv (q := 3) dX10_felts_2 (by decide) rfl ?_
  refine wk_ireturn dX10_felts_3 rfl rfl ?_
  exact hQ
theorem ck_X10_bears (hs : shp k = 10 ∨ shp k = 3) (hQ : Q (.int (10 + d / 4)) m L) : CK E 2 MX10_bears [.ref (ev_z E + k), .int d, .int t] m L Q := by
  refine CK.of rfl rfl (lv := [(0, _), (1, _), (2, _)]) rfl ?_
  rcases hs with hs | hs
  · skip
    refine wk_aload_n (i := 0) (q := 1) dX10_bears_0 rfl rfl rfl ?_
    refine wk_iload_n (i := 1) (q := 2) dX10_bears_1 rfl rfl rfl ?_
    refine wk_iload_n (i := 2) (q := 3) dX10_bears_2 rfl rfl rfl ?_
    refine wk_U2r (s := 10) (d' := 1) (q := 6) lkX10_7 dX10_bears_3 hs rfl rfl rfl rfl rfl rfl ?_
    refine ck_X4_bears ?_
    refine wk_iload_n (i := 1) (q := 7) dX10_bears_6 rfl rfl rfl ?_
    refine wk_iconst (v := 4) (q := 8) dX10_bears_7 rfl rfl ?_
    refine wk_idiv (q := 9) dX10_bears_8 (by decide) rfl ?_
    refine wk_iadd (q := 10) dX10_bears_9 rfl ?_
    refine wk_ireturn dX10_bears_10 rfl rfl ?_
    exact hQ
  · skip
    refine wk_aload_n (i := 0) (q := 1) dX10_bears_0 rfl rfl rfl ?_
    refine wk_iload_n (i := 1) (q := 2) dX10_bears_1 rfl rfl rfl ?_
    refine wk_iload_n (i := 2) (q := 3) dX10_bears_2 rfl rfl rfl ?_
    refine wk_U2r (s := 3) (d' := 1) (q := 6) lkX10_7 dX10_bears_3 hs rfl rfl rfl rfl rfl rfl ?_
    refine ck_X4_bears ?_
    refine wk_iload_n (i := 1) (q := 7) dX10_bears_6 rfl rfl rfl ?_
    refine wk_iconst (v := 4) (q := 8) dX10_bears_7 rfl rfl ?_
    refine wk_idiv (q := 9) dX10_bears_8 (by decide) rfl ?_
    refine wk_iadd (q := 10) dX10_bears_9 rfl ?_
    refine wk_ireturn dX10_bears_10 rfl rfl ?_
    exact hQ
theorem ck_X1_shrinks (hQ : Q (.int (d / 20)) m L) : CK E 1 MX1_shrinks [.ref k, .int d, .int t] m L Q := by
  refine CK.of rfl rfl (lv := [(0, _), (1, _), (2, _)]) rfl ?_
  refine wk_iload_n (i := 1) (q := 1) dX1_shrinks_0 rfl rfl rfl ?_
  refine wk_bipush (v := 20) (q := 3) dX1_shrinks_1 rfl rfl ?_
  refine wk_idiv (q := 4) dX1_shrinks_3 (by decide) rfl ?_
  refine wk_ireturn dX1_shrinks_4 rfl rfl ?_
  exact hQ
theorem ck_X1_bears (hQ : Q (.int 5) m L) : CK E 1 MX1_bears [.ref k, .int d, .int t] m L Q := by
  refine CK.of rfl rfl (lv := [(0, _), (1, _), (2, _)]) rfl ?_
  refine wk_iconst (v := 5) (q := 1) dX1_bears_0 rfl rfl ?_
  refine wk_ireturn dX1_bears_1 rfl rfl ?_
  exact hQ
theorem ck_X1_keeps (hQ : Q (.int 20) m L) : CK E 1 MX1_keeps [.ref k] m L Q := by
  refine CK.of rfl rfl (lv := [(0, _)]) rfl ?_
  refine wk_bipush (v := 20) (q := 2) dX1_keeps_0 rfl rfl ?_
  refine wk_ireturn dX1_keeps_2 rfl rfl ?_
  exact hQ
theorem ck_X7_shrinks (hQ : Q (.int (if 60 < d then 50 else 0)) m L) : CK E 1 MX7_shrinks [.ref k, .int d, .int t] m L Q := by
  refine CK.of rfl rfl (lv := [(0, _), (1, _), (2, _)]) rfl ?_
  refine wk_iload_n (i := 1) (q := 1) dX7_shrinks_0 rfl rfl rfl ?_
  refine wk_bipush (v := 60) (q := 3) dX7_shrinks_1 rfl rfl ?_
  refine wk_icmp_le (t := 11) (q := 6) dX7_shrinks_3 rfl rfl (fun c3 => ?_) (fun c3 => ?_)
  · skip
    rw [if_neg (by first | omega | (simp only [fa_le, fa_lt, fa_eq] at * <;> omega))] at hQ
    refine wk_iconst (v := 0) (q := 12) dX7_shrinks_11 rfl rfl ?_
    refine wk_ireturn dX7_shrinks_12 rfl rfl ?_
    exact hQ
  · skip
    rw [if_pos (by first | omega | (simp only [fa_le, fa_lt, fa_eq] at * <;> omega))] at hQ
    refine wk_bipush (v := 50) (q := 8) dX7_shrinks_6 rfl rfl ?_
    refine wk_goto (t := 12) dX7_shrinks_8 rfl ?_
    refine wk_ireturn dX7_shrinks_12 rfl rfl ?_
    exact hQ
theorem ck_X7_bears (hQ : Q (.int 3) m L) : CK E 2 MX7_bears [.ref (ev_z E + 4), .int d, .int t] m L Q := by
  refine CK.of rfl rfl (lv := [(0, _), (1, _), (2, _)]) rfl ?_
  refine wk_aload_n (i := 0) (q := 1) dX7_bears_0 rfl rfl rfl ?_
  refine wk_iload_n (i := 1) (q := 2) dX7_bears_1 rfl rfl rfl ?_
  refine wk_iload_n (i := 2) (q := 3) dX7_bears_2 rfl rfl rfl ?_
  refine wk_U2r (s := 7) (d' := 1) (q := 6) lkX7_7 dX7_bears_3 rfl rfl rfl rfl rfl rfl rfl ?_
  refine ck_X4_bears ?_
  refine wk_bipush (v := 7) (q := 8) dX7_bears_6 rfl rfl ?_
  refine wk_isub (q := 9) dX7_bears_8 rfl ?_
  refine wk_ireturn dX7_bears_9 rfl rfl ?_
  exact hQ
theorem ck_X7_keeps (hQ : Q (.int 100) m L) : CK E 2 MX7_keeps [.ref (ev_z E + 4)] m L Q := by
  refine CK.of rfl rfl (lv := [(0, _)]) rfl ?_
  refine wk_aload_n (i := 0) (q := 1) dX7_keeps_0 rfl rfl rfl ?_
  refine wk_U0r (s := 7) (d' := 1) (q := 4) lkX7_11 dX7_keeps_1 rfl rfl rfl rfl rfl rfl rfl ?_
  refine ck_X4_keeps ?_
  refine wk_bipush (v := 50) (q := 6) dX7_keeps_4 rfl rfl ?_
  refine wk_iadd (q := 7) dX7_keeps_6 rfl ?_
  refine wk_ireturn dX7_keeps_7 rfl rfl ?_
  exact hQ
theorem ck_X3_shrinks (hQ : Q (.int (if t = 1 then 2 * woolF d else woolF d)) m L) : CK E 2 MX3_shrinks [.ref (ev_z E + 6), .int d, .int t] m L Q := by
  refine CK.of rfl rfl (lv := [(0, _), (1, _), (2, _)]) rfl ?_
  refine wk_aload_n (i := 0) (q := 1) dX3_shrinks_0 rfl rfl rfl ?_
  refine wk_iload_n (i := 1) (q := 2) dX3_shrinks_1 rfl rfl rfl ?_
  refine wk_iload_n (i := 2) (q := 3) dX3_shrinks_2 rfl rfl rfl ?_
  refine wk_U2r (s := 3) (d' := 1) (q := 6) lkX3_7 dX3_shrinks_3 rfl rfl rfl rfl rfl rfl rfl ?_
  refine ck_X10_shrinks ?_
  refine wk_istore_n (i := 3) (q := 7) (lv' := [_, _, _, _]) dX3_shrinks_6 rfl rfl rfl rfl ?_
  refine wk_iload_n (i := 2) (q := 8) dX3_shrinks_7 rfl rfl rfl ?_
  refine wk_iconst (v := 1) (q := 9) dX3_shrinks_8 rfl rfl ?_
  refine wk_icmp_ne (t := 18) (q := 12) dX3_shrinks_9 rfl rfl (fun c9 => ?_) (fun c9 => ?_)
  · skip
    rw [if_neg c9] at hQ
    refine wk_iload_n (i := 3) (q := 19) dX3_shrinks_18 rfl rfl rfl ?_
    refine wk_ireturn dX3_shrinks_19 rfl rfl ?_
    first | exact hQ | (rw [dbl_i]; exact hQ)
  · skip
    rw [if_pos c9] at hQ
    refine wk_iload_n (i := 3) (q := 13) dX3_shrinks_12 rfl rfl rfl ?_
    refine wk_iload_n (i := 3) (q := 14) dX3_shrinks_13 rfl rfl rfl ?_
    refine wk_iadd (q := 15) dX3_shrinks_14 rfl ?_
    refine wk_goto (t := 19) dX3_shrinks_15 rfl ?_
    refine wk_ireturn dX3_shrinks_19 rfl rfl ?_
    first | exact hQ | (rw [dbl_i]; exact hQ)
theorem ck_X3_felts (hQ : Q (.int (if 0 < d then d / 3 + 1 else 0)) m L) (h0 : 0 ≤ d) : CK E 2 MX3_felts [.ref (ev_z E + 6), .int d] m L Q := by
  refine CK.of rfl rfl (lv := [(0, _), (1, _)]) rfl ?_
  refine wk_aload_n (i := 0) (q := 1) dX3_felts_0 rfl rfl rfl ?_
  refine wk_iload_n (i := 1) (q := 2) dX3_felts_1 rfl rfl rfl ?_
  refine wk_U1r (s := 3) (d' := 1) (q := 5) lkX3_11 dX3_felts_2 rfl rfl rfl rfl rfl rfl rfl ?_
  refine ck_X10_felts ?_
  refine wk_iload_n (i := 1) (q := 6) dX3_felts_5 rfl rfl rfl ?_
  refine wk_if_le (t := 13) (q := 9) dX3_felts_6 rfl rfl (fun c6 => ?_) (fun c6 => ?_)
  · skip
    rw [if_neg (by first | omega | (simp only [fa_le, fa_lt, fa_eq] at * <;> omega))] at hQ
    have e0 : d = 0 := (by first | omega | (simp only [fa_le, fa_lt, fa_eq] at * <;> omega))
    subst e0
    refine wk_iconst (v := 0) (q := 14) dX3_felts_13 rfl rfl ?_
    refine wk_iadd (q := 15) dX3_felts_14 rfl ?_
    refine wk_ireturn dX3_felts_15 rfl rfl ?_
    exact hQ
  · skip
    rw [if_pos (by first | omega | (simp only [fa_le, fa_lt, fa_eq] at * <;> omega))] at hQ
    refine wk_iconst (v := 1) (q := 10) dX3_felts_9 rfl rfl ?_
    refine wk_goto (t := 14) dX3_felts_10 rfl ?_
    refine wk_iadd (q := 15) dX3_felts_14 rfl ?_
    refine wk_ireturn dX3_felts_15 rfl rfl ?_
    exact hQ
theorem ck_X3_bears (hQ : Q (.int (2 * (10 + d / 4))) m L) : CK E 3 MX3_bears [.ref (ev_z E + 6), .int d, .int t] m L Q := by
  refine CK.of rfl rfl (lv := [(0, _), (1, _), (2, _)]) rfl ?_
  refine wk_iconst (v := 2) (q := 1) dX3_bears_0 rfl rfl ?_
  refine wk_aload_n (i := 0) (q := 2) dX3_bears_1 rfl rfl rfl ?_
  refine wk_iload_n (i := 1) (q := 3) dX3_bears_2 rfl rfl rfl ?_
  refine wk_iload_n (i := 2) (q := 4) dX3_bears_3 rfl rfl rfl ?_
  refine wk_U2r (s := 3) (d' := 2) (q := 7) lkX3_15 dX3_bears_4 rfl rfl rfl rfl rfl rfl rfl ?_
  refine ck_X10_bears (Or.inr rfl) ?_
  refine wk_imul (q := 8) dX3_bears_7 rfl ?_
  refine wk_ireturn dX3_bears_8 rfl rfl ?_
  exact hQ
theorem ck_X3_keeps (hQ : Q (.int 40) m L) : CK E 2 MX3_keeps [.ref (ev_z E + 6)] m L Q := by
  refine CK.of rfl rfl (lv := [(0, _)]) rfl ?_
  refine wk_aload_n (i := 0) (q := 1) dX3_keeps_0 rfl rfl rfl ?_
  refine wk_U0r (s := 3) (d' := 1) (q := 4) lkX3_18 dX3_keeps_1 rfl rfl rfl rfl rfl rfl rfl ?_
  refine ck_X4_keeps ?_
  refine wk_bipush (v := 10) (q := 6) dX3_keeps_4 rfl rfl ?_
  refine wk_isub (q := 7) dX3_keeps_6 rfl ?_
  refine wk_ireturn dX3_keeps_7 rfl rfl ?_
  exact hQ
theorem ck_X8_shrinks (hQ : Q (.int (if 60 ≤ d then d / 20 + 1 else d / 20)) m L) : CK E 2 MX8_shrinks [.ref (ev_z E + 7), .int d, .int t] m L Q := by
  refine CK.of rfl rfl (lv := [(0, _), (1, _), (2, _)]) rfl ?_
  refine wk_aload_n (i := 0) (q := 1) dX8_shrinks_0 rfl rfl rfl ?_
  refine wk_iload_n (i := 1) (q := 2) dX8_shrinks_1 rfl rfl rfl ?_
  refine wk_iload_n (i := 2) (q := 3) dX8_shrinks_2 rfl rfl rfl ?_
  refine wk_U2r (s := 8) (d' := 1) (q := 6) lkX8_7 dX8_shrinks_3 rfl rfl rfl rfl rfl rfl rfl ?_
  refine ck_X1_shrinks ?_
  refine wk_iload_n (i := 1) (q := 7) dX8_shrinks_6 rfl rfl rfl ?_
  refine wk_bipush (v := 60) (q := 9) dX8_shrinks_7 rfl rfl ?_
  refine wk_icmp_lt (t := 16) (q := 12) dX8_shrinks_9 rfl rfl (fun c9 => ?_) (fun c9 => ?_)
  · skip
    rw [if_neg (by first | omega | (simp only [fa_le, fa_lt, fa_eq] at * <;> omega))] at hQ
    refine wk_iconst (v := 0) (q := 17) dX8_shrinks_16 rfl rfl ?_
    refine wk_iadd (q := 18) dX8_shrinks_17 rfl ?_
    refine wk_ireturn dX8_shrinks_18 rfl rfl ?_
    first | exact hQ | (rw [Int32.add_zero]; exact hQ)
  · skip
    rw [if_pos (by first | omega | (simp only [fa_le, fa_lt, fa_eq] at * <;> omega))] at hQ
    refine wk_iconst (v := 1) (q := 13) dX8_shrinks_12 rfl rfl ?_
    refine wk_goto (t := 17) dX8_shrinks_13 rfl ?_
    refine wk_iadd (q := 18) dX8_shrinks_17 rfl ?_
    refine wk_ireturn dX8_shrinks_18 rfl rfl ?_
    first | exact hQ | (rw [Int32.add_zero]; exact hQ)
theorem ck_X8_felts (hQ : Q (.int 2) m L) : CK E 2 MX8_felts [.ref (ev_z E + 7), .int d] m L Q := by
  refine CK.of rfl rfl (lv := [(0, _), (1, _)]) rfl ?_
  refine wk_aload_n (i := 0) (q := 1) dX8_felts_0 rfl rfl rfl ?_
  refine wk_iload_n (i := 1) (q := 2) dX8_felts_1 rfl rfl rfl ?_
  refine wk_U1r (s := 8) (d' := 1) (q := 5) lkX8_11 dX8_felts_2 rfl rfl rfl rfl rfl rfl rfl ?_
  refine ck_X4_felts ?_
  refine wk_iconst (v := 2) (q := 6) dX8_felts_5 rfl rfl ?_
  refine wk_iadd (q := 7) dX8_felts_6 rfl ?_
  refine wk_ireturn dX8_felts_7 rfl rfl ?_
  exact hQ
theorem ck_X8_bears (hQ : Q (.int (5 + t)) m L) : CK E 2 MX8_bears [.ref (ev_z E + 7), .int d, .int t] m L Q := by
  refine CK.of rfl rfl (lv := [(0, _), (1, _), (2, _)]) rfl ?_
  refine wk_aload_n (i := 0) (q := 1) dX8_bears_0 rfl rfl rfl ?_
  refine wk_iload_n (i := 1) (q := 2) dX8_bears_1 rfl rfl rfl ?_
  refine wk_iload_n (i := 2) (q := 3) dX8_bears_2 rfl rfl rfl ?_
  refine wk_U2r (s := 8) (d' := 1) (q := 6) lkX8_15 dX8_bears_3 rfl rfl rfl rfl rfl rfl rfl ?_
  refine ck_X1_bears ?_
  refine wk_iload_n (i := 2) (q := 7) dX8_bears_6 rfl rfl rfl ?_
  refine wk_iadd (q := 8) dX8_bears_7 rfl ?_
  refine wk_ireturn dX8_bears_8 rfl rfl ?_
  exact hQ
end KD
