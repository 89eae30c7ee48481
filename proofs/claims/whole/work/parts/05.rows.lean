section SVA
variable {G : sm_G} {M : sm_M} {R : Room} {Z : sm_Z} {Q : sm_Q} {mc ms : Nat} {cells slots pc : Nat} {lv lv' : List (Nat × Value)} {st rest : List Value} {h : sm_H}
/-- a local's value -/
def sm_lk : List (Nat × Value) → Nat → Option Value
  | [], _ => none
  | (j, v) :: l, i => bif Nat.beq j i then some v else sm_lk l i
theorem sm_lk_mem {v : Value} {i : Nat} : ∀ {l : List (Nat × Value)}, sm_lk l i = some v → (i, v) ∈ l
  | (j, w) :: l, e => by
    unfold sm_lk at e
    cases hj : Nat.beq j i with
    | true => rw [hj] at e; cases e; rw [Nat.eq_of_beq_eq_true hj]; exact List.mem_cons_self
    | false => rw [hj] at e; exact List.mem_cons_of_mem _ (sm_lk_mem e)
theorem sm_lk_at {ls : Array Slot} {n i : Nat} {v : Value} (hl : lv_has ls n lv) (e : sm_lk lv i = some v) : ls[i]? = some (.val v) := hl.2.2 _ (sm_lk_mem e)
def sm_s1 (lv : List (Nat × Value)) (i : Nat) (v : Value) : List (Nat × Value) := (i, v) :: lv.filter (fun q => !(q.1 == i) && !(q.1 + 1 == i && q.2.category == 2))
def sm_s2 (lv : List (Nat × Value)) (i : Nat) (v : Value) : List (Nat × Value) := (i, v) :: lv.filter (fun q => !(q.1 == i) && (!(q.1 == i + 1) && !(q.1 + 1 == i && q.2.category == 2)))
theorem sv_sub (ks : List Nat) (hk : lv_pick lv ks = lv') (k : sm_V G M R Z cells slots pc lv' st h) : sm_V G M R Z cells slots pc lv st h := by
  intro p e s m args below meth c H locs ls E hS hR hl
  exact k p e s m args below meth c H locs ls E hS hR (lv_sub hl ks hk)
theorem sv_heap {h' : sm_H} (e : h = h') (k : sm_V G M R Z cells slots pc lv st h') : sm_V G M R Z cells slots pc lv st h := e ▸ k
theorem sv_wide {c2 s2 : Nat} (h1 : cells ≤ c2) (h2 : slots ≤ s2) (k : sm_V G M R Z c2 s2 pc lv st h) : sm_V G M R Z cells slots pc lv st h := by
  intro p e s m args below meth c H locs ls E hS hR hl
  exact W.widen h1 h2 (k p e s m args below meth c H locs ls E hS hR hl)
theorem sv_iconst {n : Int} (v : Int32) (hd : decode M.2.1 pc = .ok (.iconst n, 1)) (hv : Int32.ofInt n = v) (k : sm_V G M R Z cells slots (pc + 1) lv (.int v :: st) h) : sm_V G M R Z cells slots pc lv (st) h := by
  intro p e s m args below meth c H locs ls E hS hR hl
  exact lv_iconst E.1 E.2.1 hd hv (k p e s m args below meth c H locs ls E hS hR hl)
theorem sv_bipush {n : Int} (v : Int32) (hd : decode M.2.1 pc = .ok (.bipush n, 2)) (hv : (Int8.ofInt n).toInt32 = v) (k : sm_V G M R Z cells slots (pc + 2) lv (.int v :: st) h) : sm_V G M R Z cells slots pc lv (st) h := by
  intro p e s m args below meth c H locs ls E hS hR hl
  exact lv_bipush E.1 E.2.1 hd hv (k p e s m args below meth c H locs ls E hS hR hl)
theorem sv_sipush {n : Int} (v : Int32) (hd : decode M.2.1 pc = .ok (.sipush n, 3)) (hv : (Int16.ofInt n).toInt32 = v) (k : sm_V G M R Z cells slots (pc + 3) lv (.int v :: st) h) : sm_V G M R Z cells slots pc lv (st) h := by
  intro p e s m args below meth c H locs ls E hS hR hl
  exact lv_sipush E.1 E.2.1 hd hv (k p e s m args below meth c H locs ls E hS hR hl)
theorem sv_lconst {n : Fin 2} (v : Int64) (hd : decode M.2.1 pc = .ok (.lconst n, 1)) (hv : Int64.ofNat (n : Nat) = v) (k : sm_V G M R Z cells slots (pc + 1) lv (.long v :: st) h) : sm_V G M R Z cells slots pc lv (st) h := by
  intro p e s m args below meth c H locs ls E hS hR hl
  exact lv_lconst E.1 E.2.1 hd hv (k p e s m args below meth c H locs ls E hS hR hl)
theorem sv_iload_n {k9 : Fin 4} {x : Int32} (hd : decode M.2.1 pc = .ok (.iload_n k9, 1)) (hx : sm_lk lv (k9 : Nat) = some (.int x)) (k : sm_V G M R Z cells slots (pc + 1) lv (.int x :: st) h) : sm_V G M R Z cells slots pc lv (st) h := by
  intro p e s m args below meth c H locs ls E hS hR hl
  exact lv_iload_n E.1 E.2.1 hd rfl (sm_lk_at hl hx) (k p e s m args below meth c H locs ls E hS hR hl)
theorem sv_iload {i : Nat} {x : Int32} (hd : decode M.2.1 pc = .ok (.iload i, 2)) (hx : sm_lk lv i = some (.int x)) (k : sm_V G M R Z cells slots (pc + 2) lv (.int x :: st) h) : sm_V G M R Z cells slots pc lv (st) h := by
  intro p e s m args below meth c H locs ls E hS hR hl
  exact lv_iload E.1 E.2.1 hd (sm_lk_at hl hx) (k p e s m args below meth c H locs ls E hS hR hl)
theorem sv_lload_n {k9 : Fin 4} {x : Int64} (hd : decode M.2.1 pc = .ok (.lload_n k9, 1)) (hx : sm_lk lv (k9 : Nat) = some (.long x)) (k : sm_V G M R Z cells slots (pc + 1) lv (.long x :: st) h) : sm_V G M R Z cells slots pc lv (st) h := by
  intro p e s m args below meth c H locs ls E hS hR hl
  exact lv_lload_n E.1 E.2.1 hd rfl (sm_lk_at hl hx) (k p e s m args below meth c H locs ls E hS hR hl)
theorem sv_lload {i : Nat} {x : Int64} (hd : decode M.2.1 pc = .ok (.lload i, 2)) (hx : sm_lk lv i = some (.long x)) (k : sm_V G M R Z cells slots (pc + 2) lv (.long x :: st) h) : sm_V G M R Z cells slots pc lv (st) h := by
  intro p e s m args below meth c H locs ls E hS hR hl
  exact lv_lload E.1 E.2.1 hd (sm_lk_at hl hx) (k p e s m args below meth c H locs ls E hS hR hl)
theorem sv_aload_n {k9 : Fin 4} {x : Nat} (hd : decode M.2.1 pc = .ok (.aload_n k9, 1)) (hx : sm_lk lv (k9 : Nat) = some (.ref x)) (k : sm_V G M R Z cells slots (pc + 1) lv (.ref x :: st) h) : sm_V G M R Z cells slots pc lv (st) h := by
  intro p e s m args below meth c H locs ls E hS hR hl
  exact lv_aload_n E.1 E.2.1 hd rfl (sm_lk_at hl hx) (k p e s m args below meth c H locs ls E hS hR hl)
theorem sv_aload {i : Nat} {x : Nat} (hd : decode M.2.1 pc = .ok (.aload i, 2)) (hx : sm_lk lv i = some (.ref x)) (k : sm_V G M R Z cells slots (pc + 2) lv (.ref x :: st) h) : sm_V G M R Z cells slots pc lv (st) h := by
  intro p e s m args below meth c H locs ls E hS hR hl
  exact lv_aload E.1 E.2.1 hd (sm_lk_at hl hx) (k p e s m args below meth c H locs ls E hS hR hl)
theorem sv_istore_n {k9 : Fin 4} {x : Int32} (hd : decode M.2.1 pc = .ok (.istore_n k9, 1)) (hn : (k9 : Nat) < M.2.2.1) (hs : sm_s1 lv (k9 : Nat) (.int x) = lv') (k : sm_V G M R Z cells slots (pc + 1) lv' st h) : sm_V G M R Z cells slots pc lv (.int x :: st) h := by
  intro p e s m args below meth c H locs ls E hS hR hl
  exact lv_istore_n E.1 E.2.1 hd rfl hl hn hs (fun ls1 hl1 => k p e s m args below meth c H locs ls1 E hS hR hl1)
theorem sv_istore {i : Nat} {x : Int32} (hd : decode M.2.1 pc = .ok (.istore i, 2)) (hn : i < M.2.2.1) (hs : sm_s1 lv i (.int x) = lv') (k : sm_V G M R Z cells slots (pc + 2) lv' st h) : sm_V G M R Z cells slots pc lv (.int x :: st) h := by
  intro p e s m args below meth c H locs ls E hS hR hl
  exact lv_istore E.1 E.2.1 hd hl hn hs (fun ls1 hl1 => k p e s m args below meth c H locs ls1 E hS hR hl1)
theorem sv_lstore_n {k9 : Fin 4} {x : Int64} (hd : decode M.2.1 pc = .ok (.lstore_n k9, 1)) (hn : (k9 : Nat) + 1 < M.2.2.1) (hs : sm_s2 lv (k9 : Nat) (.long x) = lv') (k : sm_V G M R Z cells slots (pc + 1) lv' st h) : sm_V G M R Z cells slots pc lv (.long x :: st) h := by
  intro p e s m args below meth c H locs ls E hS hR hl
  exact lv_lstore_n E.1 E.2.1 hd rfl hl hn hs (fun ls1 hl1 => k p e s m args below meth c H locs ls1 E hS hR hl1)
theorem sv_lstore {i : Nat} {x : Int64} (hd : decode M.2.1 pc = .ok (.lstore i, 2)) (hn : i + 1 < M.2.2.1) (hs : sm_s2 lv i (.long x) = lv') (k : sm_V G M R Z cells slots (pc + 2) lv' st h) : sm_V G M R Z cells slots pc lv (.long x :: st) h := by
  intro p e s m args below meth c H locs ls E hS hR hl
  exact lv_lstore E.1 E.2.1 hd hl hn hs (fun ls1 hl1 => k p e s m args below meth c H locs ls1 E hS hR hl1)
theorem sv_astore_n {k9 : Fin 4} {x : Nat} (hd : decode M.2.1 pc = .ok (.astore_n k9, 1)) (hn : (k9 : Nat) < M.2.2.1) (hs : sm_s1 lv (k9 : Nat) (.ref x) = lv') (k : sm_V G M R Z cells slots (pc + 1) lv' st h) : sm_V G M R Z cells slots pc lv (.ref x :: st) h := by
  intro p e s m args below meth c H locs ls E hS hR hl
  exact lv_astore_n E.1 E.2.1 hd rfl hl hn hs (fun ls1 hl1 => k p e s m args below meth c H locs ls1 E hS hR hl1)
theorem sv_astore {i : Nat} {x : Nat} (hd : decode M.2.1 pc = .ok (.astore i, 2)) (hn : i < M.2.2.1) (hs : sm_s1 lv i (.ref x) = lv') (k : sm_V G M R Z cells slots (pc + 2) lv' st h) : sm_V G M R Z cells slots pc lv (.ref x :: st) h := by
  intro p e s m args below meth c H locs ls E hS hR hl
  exact lv_astore E.1 E.2.1 hd hl hn hs (fun ls1 hl1 => k p e s m args below meth c H locs ls1 E hS hR hl1)
theorem sv_iinc {i : Nat} {n : Int} {x : Int32} (v : Int32) (hd : decode M.2.1 pc = .ok (.iinc i n, 3)) (hx : sm_lk lv i = some (.int x)) (hv : x + Int32.ofInt n = v) (hn : i < M.2.2.1) (hs : sm_s1 lv i (.int v) = lv') (k : sm_V G M R Z cells slots (pc + 3) lv' st h) : sm_V G M R Z cells slots pc lv st h := by
  intro p e s m args below meth c H locs ls E hS hR hl
  obtain ⟨k9, hk9⟩ := List.getElem?_of_mem (sm_lk_mem hx)
  exact lv_iinc E.1 E.2.1 hd hl hk9 hv hn hs (fun ls1 hl1 => k p e s m args below meth c H locs ls1 E hS hR hl1)
theorem sv_iadd {x y : Int32} (hd : decode M.2.1 pc = .ok (.iadd, 1))  (k : sm_V G M R Z cells slots (pc + 1) lv (.int (x + y) :: st) h) : sm_V G M R Z cells slots pc lv (.int y :: .int x :: st) h := by
  intro p e s m args below meth c H locs ls E hS hR hl
  exact lv_iadd E.1 E.2.1 hd (k p e s m args below meth c H locs ls E hS hR hl)
theorem sv_isub {x y : Int32} (hd : decode M.2.1 pc = .ok (.isub, 1))  (k : sm_V G M R Z cells slots (pc + 1) lv (.int (x - y) :: st) h) : sm_V G M R Z cells slots pc lv (.int y :: .int x :: st) h := by
  intro p e s m args below meth c H locs ls E hS hR hl
  exact lv_isub E.1 E.2.1 hd (k p e s m args below meth c H locs ls E hS hR hl)
theorem sv_imul {x y : Int32} (hd : decode M.2.1 pc = .ok (.imul, 1))  (k : sm_V G M R Z cells slots (pc + 1) lv (.int (x * y) :: st) h) : sm_V G M R Z cells slots pc lv (.int y :: .int x :: st) h := by
  intro p e s m args below meth c H locs ls E hS hR hl
  exact lv_imul E.1 E.2.1 hd (k p e s m args below meth c H locs ls E hS hR hl)
theorem sv_iand {x y : Int32} (hd : decode M.2.1 pc = .ok (.iand, 1))  (k : sm_V G M R Z cells slots (pc + 1) lv (.int (x &&& y) :: st) h) : sm_V G M R Z cells slots pc lv (.int y :: .int x :: st) h := by
  intro p e s m args below meth c H locs ls E hS hR hl
  exact lv_iand E.1 E.2.1 hd (k p e s m args below meth c H locs ls E hS hR hl)
theorem sv_idiv {x y : Int32} (hd : decode M.2.1 pc = .ok (.idiv, 1)) (hne : ¬ y = 0) (k : sm_V G M R Z cells slots (pc + 1) lv (.int (x / y) :: st) h) : sm_V G M R Z cells slots pc lv (.int y :: .int x :: st) h := by
  intro p e s m args below meth c H locs ls E hS hR hl
  exact lv_idiv E.1 E.2.1 hd hne (k p e s m args below meth c H locs ls E hS hR hl)
theorem sv_irem {x y : Int32} (hd : decode M.2.1 pc = .ok (.irem, 1)) (hne : ¬ y = 0) (k : sm_V G M R Z cells slots (pc + 1) lv (.int (x - x / y * y) :: st) h) : sm_V G M R Z cells slots pc lv (.int y :: .int x :: st) h := by
  intro p e s m args below meth c H locs ls E hS hR hl
  exact lv_irem E.1 E.2.1 hd hne (k p e s m args below meth c H locs ls E hS hR hl)
theorem sv_ineg {x : Int32} (hd : decode M.2.1 pc = .ok (.ineg, 1))  (k : sm_V G M R Z cells slots (pc + 1) lv (.int (-x) :: st) h) : sm_V G M R Z cells slots pc lv (.int x :: st) h := by
  intro p e s m args below meth c H locs ls E hS hR hl
  exact lv_ineg E.1 E.2.1 hd (k p e s m args below meth c H locs ls E hS hR hl)
theorem sv_ladd {x y : Int64} (hd : decode M.2.1 pc = .ok (.ladd, 1))  (k : sm_V G M R Z cells slots (pc + 1) lv (.long (x + y) :: st) h) : sm_V G M R Z cells slots pc lv (.long y :: .long x :: st) h := by
  intro p e s m args below meth c H locs ls E hS hR hl
  exact lv_ladd E.1 E.2.1 hd (k p e s m args below meth c H locs ls E hS hR hl)
theorem sv_lmul {x y : Int64} (hd : decode M.2.1 pc = .ok (.lmul, 1))  (k : sm_V G M R Z cells slots (pc + 1) lv (.long (x * y) :: st) h) : sm_V G M R Z cells slots pc lv (.long y :: .long x :: st) h := by
  intro p e s m args below meth c H locs ls E hS hR hl
  exact lv_lmul E.1 E.2.1 hd (k p e s m args below meth c H locs ls E hS hR hl)
theorem sv_lor {x y : Int64} (hd : decode M.2.1 pc = .ok (.lor, 1))  (k : sm_V G M R Z cells slots (pc + 1) lv (.long (x ||| y) :: st) h) : sm_V G M R Z cells slots pc lv (.long y :: .long x :: st) h := by
  intro p e s m args below meth c H locs ls E hS hR hl
  exact lv_lor E.1 E.2.1 hd (k p e s m args below meth c H locs ls E hS hR hl)
theorem sv_land {x y : Int64} (hd : decode M.2.1 pc = .ok (.land, 1))  (k : sm_V G M R Z cells slots (pc + 1) lv (.long (x &&& y) :: st) h) : sm_V G M R Z cells slots pc lv (.long y :: .long x :: st) h := by
  intro p e s m args below meth c H locs ls E hS hR hl
  exact lv_land E.1 E.2.1 hd (k p e s m args below meth c H locs ls E hS hR hl)
theorem sv_ldiv {x y : Int64} (hd : decode M.2.1 pc = .ok (.ldiv, 1)) (hne : ¬ y = 0) (k : sm_V G M R Z cells slots (pc + 1) lv (.long (x / y) :: st) h) : sm_V G M R Z cells slots pc lv (.long y :: .long x :: st) h := by
  intro p e s m args below meth c H locs ls E hS hR hl
  exact lv_ldiv E.1 E.2.1 hd hne (k p e s m args below meth c H locs ls E hS hR hl)
theorem sv_lrem {x y : Int64} (hd : decode M.2.1 pc = .ok (.lrem, 1)) (hne : ¬ y = 0) (k : sm_V G M R Z cells slots (pc + 1) lv (.long (x - x / y * y) :: st) h) : sm_V G M R Z cells slots pc lv (.long y :: .long x :: st) h := by
  intro p e s m args below meth c H locs ls E hS hR hl
  exact lv_lrem E.1 E.2.1 hd hne (k p e s m args below meth c H locs ls E hS hR hl)
theorem sv_i2l {x : Int32} (hd : decode M.2.1 pc = .ok (.i2l, 1))  (k : sm_V G M R Z cells slots (pc + 1) lv (.long x.toInt64 :: st) h) : sm_V G M R Z cells slots pc lv (.int x :: st) h := by
  intro p e s m args below meth c H locs ls E hS hR hl
  exact lv_i2l E.1 E.2.1 hd rfl (k p e s m args below meth c H locs ls E hS hR hl)
theorem sv_l2i {x : Int64} (hd : decode M.2.1 pc = .ok (.l2i, 1))  (k : sm_V G M R Z cells slots (pc + 1) lv (.int x.toInt32 :: st) h) : sm_V G M R Z cells slots pc lv (.long x :: st) h := by
  intro p e s m args below meth c H locs ls E hS hR hl
  exact lv_l2i E.1 E.2.1 hd rfl (k p e s m args below meth c H locs ls E hS hR hl)
theorem sv_i2c {x : Int32} (hd : decode M.2.1 pc = .ok (.i2c, 1))  (k : sm_V G M R Z cells slots (pc + 1) lv (.int (x.toUInt32 % 65536).toInt32 :: st) h) : sm_V G M R Z cells slots pc lv (.int x :: st) h := by
  intro p e s m args below meth c H locs ls E hS hR hl
  exact lv_i2c E.1 E.2.1 hd rfl (k p e s m args below meth c H locs ls E hS hR hl)
theorem sv_lshl {x : Int64} {y : Int32} (hd : decode M.2.1 pc = .ok (.lshl, 1))  (k : sm_V G M R Z cells slots (pc + 1) lv (.long (x <<< (y.toInt64 &&& 63)) :: st) h) : sm_V G M R Z cells slots pc lv (.int y :: .long x :: st) h := by
  intro p e s m args below meth c H locs ls E hS hR hl
  exact lv_lshl E.1 E.2.1 hd rfl (k p e s m args below meth c H locs ls E hS hR hl)
theorem sv_lushr {x : Int64} {y : Int32} (hd : decode M.2.1 pc = .ok (.lushr, 1))  (k : sm_V G M R Z cells slots (pc + 1) lv (.long (x.toUInt64 >>> (y.toInt64.toUInt64 &&& Int64.toUInt64 63)).toInt64 :: st) h) : sm_V G M R Z cells slots pc lv (.int y :: .long x :: st) h := by
  intro p e s m args below meth c H locs ls E hS hR hl
  exact lv_lushr E.1 E.2.1 hd rfl (k p e s m args below meth c H locs ls E hS hR hl)
theorem sv_lcmp {x y : Int64} (hd : decode M.2.1 pc = .ok (.lcmp, 1))  (k : sm_V G M R Z cells slots (pc + 1) lv (.int (lg_cmp x y) :: st) h) : sm_V G M R Z cells slots pc lv (.long y :: .long x :: st) h := by
  intro p e s m args below meth c H locs ls E hS hR hl
  exact W.lcmp E.1 E.2.1 hd (k p e s m args below meth c H locs ls E hS hR hl)
theorem sv_dup {v : Value} (hd : decode M.2.1 pc = .ok (.dup, 1)) (hc : v.category = 1) (k : sm_V G M R Z cells slots (pc + 1) lv (v :: v :: st) h) : sm_V G M R Z cells slots pc lv (v :: st) h := by
  intro p e s m args below meth c H locs ls E hS hR hl
  exact lv_dup E.1 E.2.1 hd hc (k p e s m args below meth c H locs ls E hS hR hl)
theorem sv_dup2 {v w : Value} (hd : decode M.2.1 pc = .ok (.dup2, 1)) (hc : v.category = 1) (hc2 : w.category = 1) (k : sm_V G M R Z cells slots (pc + 1) lv (v :: w :: v :: w :: st) h) : sm_V G M R Z cells slots pc lv (v :: w :: st) h := by
  intro p e s m args below meth c H locs ls E hS hR hl
  exact lv_dup2_11 E.1 E.2.1 hd hc hc2 (k p e s m args below meth c H locs ls E hS hR hl)
theorem sv_pop {v : Value} (hd : decode M.2.1 pc = .ok (.pop, 1)) (hc : v.category = 1) (k : sm_V G M R Z cells slots (pc + 1) lv (st) h) : sm_V G M R Z cells slots pc lv (v :: st) h := by
  intro p e s m args below meth c H locs ls E hS hR hl
  exact lv_pop E.1 E.2.1 hd hc (k p e s m args below meth c H locs ls E hS hR hl)
theorem sv_top {x : Int32} (y : Int32) (e : x = y) (k : sm_V G M R Z cells slots pc lv (.int y :: st) h) : sm_V G M R Z cells slots pc lv (.int x :: st) h := by subst e; exact k
theorem sv_topl {x : Int64} (y : Int64) (e : x = y) (k : sm_V G M R Z cells slots pc lv (.long y :: st) h) : sm_V G M R Z cells slots pc lv (.long x :: st) h := by subst e; exact k
theorem sv_goto {off : Int} (tgt : Nat) (hd : decode M.2.1 pc = .ok (.goto off, 3)) (ht : (pc : Int) + off = (tgt : Int)) (k : sm_V G M R Z cells slots tgt lv st h) : sm_V G M R Z cells slots pc lv st h := by
  intro p e s m args below meth c H locs ls E hS hR hl
  exact lv_goto E.1 E.2.1 hd ht (k p e s m args below meth c H locs ls E hS hR hl)
theorem sv_if_eq {x : Int32} {off : Int} (tgt : Nat) (hd : decode M.2.1 pc = .ok (.ifCond .eq off, 3)) (ht : (pc : Int) + off = (tgt : Int)) (kt : x = 0 → sm_V G M R Z cells slots tgt lv st h) (kf : ¬ (x = 0) → sm_V G M R Z cells slots (pc + 3) lv st h) : sm_V G M R Z cells slots pc lv (.int x :: st) h := by
  intro p e s m args below meth c H locs ls E hS hR hl
  exact lv_if_eq E.1 E.2.1 hd ht (fun q => kt q p e s m args below meth c H locs ls E hS hR hl) (fun q => kf q p e s m args below meth c H locs ls E hS hR hl)
theorem sv_icmp_eq {x y : Int32} {off : Int} (tgt : Nat) (hd : decode M.2.1 pc = .ok (.if_icmp .eq off, 3)) (ht : (pc : Int) + off = (tgt : Int)) (kt : x = y → sm_V G M R Z cells slots tgt lv st h) (kf : ¬ (x = y) → sm_V G M R Z cells slots (pc + 3) lv st h) : sm_V G M R Z cells slots pc lv (.int y :: .int x :: st) h := by
  intro p e s m args below meth c H locs ls E hS hR hl
  exact lv_icmp_eq E.1 E.2.1 hd ht (fun q => kt q p e s m args below meth c H locs ls E hS hR hl) (fun q => kf q p e s m args below meth c H locs ls E hS hR hl)
theorem sv_if_ne {x : Int32} {off : Int} (tgt : Nat) (hd : decode M.2.1 pc = .ok (.ifCond .ne off, 3)) (ht : (pc : Int) + off = (tgt : Int)) (kt : x ≠ 0 → sm_V G M R Z cells slots tgt lv st h) (kf : x = 0 → sm_V G M R Z cells slots (pc + 3) lv st h) : sm_V G M R Z cells slots pc lv (.int x :: st) h := by
  intro p e s m args below meth c H locs ls E hS hR hl
  exact lv_if_ne E.1 E.2.1 hd ht (fun q => kt q p e s m args below meth c H locs ls E hS hR hl) (fun q => kf q p e s m args below meth c H locs ls E hS hR hl)
theorem sv_icmp_ne {x y : Int32} {off : Int} (tgt : Nat) (hd : decode M.2.1 pc = .ok (.if_icmp .ne off, 3)) (ht : (pc : Int) + off = (tgt : Int)) (kt : x ≠ y → sm_V G M R Z cells slots tgt lv st h) (kf : x = y → sm_V G M R Z cells slots (pc + 3) lv st h) : sm_V G M R Z cells slots pc lv (.int y :: .int x :: st) h := by
  intro p e s m args below meth c H locs ls E hS hR hl
  exact lv_icmp_ne E.1 E.2.1 hd ht (fun q => kt q p e s m args below meth c H locs ls E hS hR hl) (fun q => kf q p e s m args below meth c H locs ls E hS hR hl)
theorem sv_if_lt {x : Int32} {off : Int} (tgt : Nat) (hd : decode M.2.1 pc = .ok (.ifCond .lt off, 3)) (ht : (pc : Int) + off = (tgt : Int)) (kt : x < 0 → sm_V G M R Z cells slots tgt lv st h) (kf : ¬ (x < 0) → sm_V G M R Z cells slots (pc + 3) lv st h) : sm_V G M R Z cells slots pc lv (.int x :: st) h := by
  intro p e s m args below meth c H locs ls E hS hR hl
  exact lv_if_lt E.1 E.2.1 hd ht (fun q => kt q p e s m args below meth c H locs ls E hS hR hl) (fun q => kf q p e s m args below meth c H locs ls E hS hR hl)
theorem sv_icmp_lt {x y : Int32} {off : Int} (tgt : Nat) (hd : decode M.2.1 pc = .ok (.if_icmp .lt off, 3)) (ht : (pc : Int) + off = (tgt : Int)) (kt : x < y → sm_V G M R Z cells slots tgt lv st h) (kf : ¬ (x < y) → sm_V G M R Z cells slots (pc + 3) lv st h) : sm_V G M R Z cells slots pc lv (.int y :: .int x :: st) h := by
  intro p e s m args below meth c H locs ls E hS hR hl
  exact lv_icmp_lt E.1 E.2.1 hd ht (fun q => kt q p e s m args below meth c H locs ls E hS hR hl) (fun q => kf q p e s m args below meth c H locs ls E hS hR hl)
theorem sv_if_ge {x : Int32} {off : Int} (tgt : Nat) (hd : decode M.2.1 pc = .ok (.ifCond .ge off, 3)) (ht : (pc : Int) + off = (tgt : Int)) (kt : 0 ≤ x → sm_V G M R Z cells slots tgt lv st h) (kf : ¬ (0 ≤ x) → sm_V G M R Z cells slots (pc + 3) lv st h) : sm_V G M R Z cells slots pc lv (.int x :: st) h := by
  intro p e s m args below meth c H locs ls E hS hR hl
  exact lv_if_ge E.1 E.2.1 hd ht (fun q => kt q p e s m args below meth c H locs ls E hS hR hl) (fun q => kf q p e s m args below meth c H locs ls E hS hR hl)
theorem sv_icmp_ge {x y : Int32} {off : Int} (tgt : Nat) (hd : decode M.2.1 pc = .ok (.if_icmp .ge off, 3)) (ht : (pc : Int) + off = (tgt : Int)) (kt : y ≤ x → sm_V G M R Z cells slots tgt lv st h) (kf : ¬ (y ≤ x) → sm_V G M R Z cells slots (pc + 3) lv st h) : sm_V G M R Z cells slots pc lv (.int y :: .int x :: st) h := by
  intro p e s m args below meth c H locs ls E hS hR hl
  exact lv_icmp_ge E.1 E.2.1 hd ht (fun q => kt q p e s m args below meth c H locs ls E hS hR hl) (fun q => kf q p e s m args below meth c H locs ls E hS hR hl)
theorem sv_if_gt {x : Int32} {off : Int} (tgt : Nat) (hd : decode M.2.1 pc = .ok (.ifCond .gt off, 3)) (ht : (pc : Int) + off = (tgt : Int)) (kt : 0 < x → sm_V G M R Z cells slots tgt lv st h) (kf : ¬ (0 < x) → sm_V G M R Z cells slots (pc + 3) lv st h) : sm_V G M R Z cells slots pc lv (.int x :: st) h := by
  intro p e s m args below meth c H locs ls E hS hR hl
  exact lv_if_gt E.1 E.2.1 hd ht (fun q => kt q p e s m args below meth c H locs ls E hS hR hl) (fun q => kf q p e s m args below meth c H locs ls E hS hR hl)
theorem sv_icmp_gt {x y : Int32} {off : Int} (tgt : Nat) (hd : decode M.2.1 pc = .ok (.if_icmp .gt off, 3)) (ht : (pc : Int) + off = (tgt : Int)) (kt : y < x → sm_V G M R Z cells slots tgt lv st h) (kf : ¬ (y < x) → sm_V G M R Z cells slots (pc + 3) lv st h) : sm_V G M R Z cells slots pc lv (.int y :: .int x :: st) h := by
  intro p e s m args below meth c H locs ls E hS hR hl
  exact lv_icmp_gt E.1 E.2.1 hd ht (fun q => kt q p e s m args below meth c H locs ls E hS hR hl) (fun q => kf q p e s m args below meth c H locs ls E hS hR hl)
theorem sv_if_le {x : Int32} {off : Int} (tgt : Nat) (hd : decode M.2.1 pc = .ok (.ifCond .le off, 3)) (ht : (pc : Int) + off = (tgt : Int)) (kt : x ≤ 0 → sm_V G M R Z cells slots tgt lv st h) (kf : ¬ (x ≤ 0) → sm_V G M R Z cells slots (pc + 3) lv st h) : sm_V G M R Z cells slots pc lv (.int x :: st) h := by
  intro p e s m args below meth c H locs ls E hS hR hl
  exact lv_if_le E.1 E.2.1 hd ht (fun q => kt q p e s m args below meth c H locs ls E hS hR hl) (fun q => kf q p e s m args below meth c H locs ls E hS hR hl)
theorem sv_icmp_le {x y : Int32} {off : Int} (tgt : Nat) (hd : decode M.2.1 pc = .ok (.if_icmp .le off, 3)) (ht : (pc : Int) + off = (tgt : Int)) (kt : x ≤ y → sm_V G M R Z cells slots tgt lv st h) (kf : ¬ (x ≤ y) → sm_V G M R Z cells slots (pc + 3) lv st h) : sm_V G M R Z cells slots pc lv (.int y :: .int x :: st) h := by
  intro p e s m args below meth c H locs ls E hS hR hl
  exact lv_icmp_le E.1 E.2.1 hd ht (fun q => kt q p e s m args below meth c H locs ls E hS hR hl) (fun q => kf q p e s m args below meth c H locs ls E hS hR hl)
theorem sm_n0 {a : Nat} (ha : a < 2 ^ 31) : nI a = 0 ↔ a = 0 := by rw [← nI_0]; exact nI_eq ha (by omega)
theorem sm_n1 {a : Nat} (ha : a < 2 ^ 31) : 0 < nI a ↔ a ≠ 0 := by rw [← nI_0, nI_ltI (by omega) ha]; omega
theorem sm_n2 {a : Nat} (ha : a < 2 ^ 31) : nI a ≤ 0 ↔ a = 0 := by rw [← nI_0, nI_leI ha (by omega)]; omega
theorem sv_ifN_eq {a : Nat} {off : Int} (tgt : Nat) (hd : decode M.2.1 pc = .ok (.ifCond .eq off, 3)) (ht : (pc : Int) + off = (tgt : Int)) (ha : a < 2 ^ 31) (kt : a = 0 → sm_V G M R Z cells slots tgt lv st h) (kf : a ≠ 0 → sm_V G M R Z cells slots (pc + 3) lv st h) : sm_V G M R Z cells slots pc lv (.int (nI a) :: st) h :=
  sv_if_eq tgt hd ht (fun q => kt ((sm_n0 ha).mp q)) (fun q => kf (by have z : ¬ (a = 0) := fun w => q ((sm_n0 ha).mpr w); omega))
theorem sv_icmpN_eq {a b : Nat} {off : Int} (tgt : Nat) (hd : decode M.2.1 pc = .ok (.if_icmp .eq off, 3)) (ht : (pc : Int) + off = (tgt : Int)) (ha : a < 2 ^ 31) (hb : b < 2 ^ 31) (kt : a = b → sm_V G M R Z cells slots tgt lv st h) (kf : a ≠ b → sm_V G M R Z cells slots (pc + 3) lv st h) : sm_V G M R Z cells slots pc lv (.int (nI b) :: .int (nI a) :: st) h :=
  sv_icmp_eq tgt hd ht (fun q => kt ((nI_eq ha hb).mp q)) (fun q => kf (by have z : ¬ (a = b) := fun w => q ((nI_eq ha hb).mpr w); omega))
theorem sv_ifN_ne {a : Nat} {off : Int} (tgt : Nat) (hd : decode M.2.1 pc = .ok (.ifCond .ne off, 3)) (ht : (pc : Int) + off = (tgt : Int)) (ha : a < 2 ^ 31) (kt : a ≠ 0 → sm_V G M R Z cells slots tgt lv st h) (kf : a = 0 → sm_V G M R Z cells slots (pc + 3) lv st h) : sm_V G M R Z cells slots pc lv (.int (nI a) :: st) h :=
  sv_if_ne tgt hd ht (fun q => kt (fun w => q ((sm_n0 ha).mpr w))) (fun q => kf ((sm_n0 ha).mp q))
theorem sv_icmpN_ne {a b : Nat} {off : Int} (tgt : Nat) (hd : decode M.2.1 pc = .ok (.if_icmp .ne off, 3)) (ht : (pc : Int) + off = (tgt : Int)) (ha : a < 2 ^ 31) (hb : b < 2 ^ 31) (kt : a ≠ b → sm_V G M R Z cells slots tgt lv st h) (kf : a = b → sm_V G M R Z cells slots (pc + 3) lv st h) : sm_V G M R Z cells slots pc lv (.int (nI b) :: .int (nI a) :: st) h :=
  sv_icmp_ne tgt hd ht (fun q => kt (fun w => q ((nI_eq ha hb).mpr w))) (fun q => kf ((nI_eq ha hb).mp q))
theorem sv_icmpN_lt {a b : Nat} {off : Int} (tgt : Nat) (hd : decode M.2.1 pc = .ok (.if_icmp .lt off, 3)) (ht : (pc : Int) + off = (tgt : Int)) (ha : a < 2 ^ 31) (hb : b < 2 ^ 31) (kt : a < b → sm_V G M R Z cells slots tgt lv st h) (kf : b ≤ a → sm_V G M R Z cells slots (pc + 3) lv st h) : sm_V G M R Z cells slots pc lv (.int (nI b) :: .int (nI a) :: st) h :=
  sv_icmp_lt tgt hd ht (fun q => kt ((nI_ltI ha hb).mp q)) (fun q => kf (by have z : ¬ (a < b) := fun w => q ((nI_ltI ha hb).mpr w); omega))
theorem sv_icmpN_ge {a b : Nat} {off : Int} (tgt : Nat) (hd : decode M.2.1 pc = .ok (.if_icmp .ge off, 3)) (ht : (pc : Int) + off = (tgt : Int)) (ha : a < 2 ^ 31) (hb : b < 2 ^ 31) (kt : b ≤ a → sm_V G M R Z cells slots tgt lv st h) (kf : a < b → sm_V G M R Z cells slots (pc + 3) lv st h) : sm_V G M R Z cells slots pc lv (.int (nI b) :: .int (nI a) :: st) h :=
  sv_icmp_ge tgt hd ht (fun q => kt ((nI_leI hb ha).mp q)) (fun q => kf (by have z : ¬ (b ≤ a) := fun w => q ((nI_leI hb ha).mpr w); omega))
theorem sv_ifN_gt {a : Nat} {off : Int} (tgt : Nat) (hd : decode M.2.1 pc = .ok (.ifCond .gt off, 3)) (ht : (pc : Int) + off = (tgt : Int)) (ha : a < 2 ^ 31) (kt : a ≠ 0 → sm_V G M R Z cells slots tgt lv st h) (kf : a = 0 → sm_V G M R Z cells slots (pc + 3) lv st h) : sm_V G M R Z cells slots pc lv (.int (nI a) :: st) h :=
  sv_if_gt tgt hd ht (fun q => kt ((sm_n1 ha).mp q)) (fun q => kf (by have z : ¬ (a ≠ 0) := fun w => q ((sm_n1 ha).mpr w); omega))
theorem sv_icmpN_gt {a b : Nat} {off : Int} (tgt : Nat) (hd : decode M.2.1 pc = .ok (.if_icmp .gt off, 3)) (ht : (pc : Int) + off = (tgt : Int)) (ha : a < 2 ^ 31) (hb : b < 2 ^ 31) (kt : b < a → sm_V G M R Z cells slots tgt lv st h) (kf : a ≤ b → sm_V G M R Z cells slots (pc + 3) lv st h) : sm_V G M R Z cells slots pc lv (.int (nI b) :: .int (nI a) :: st) h :=
  sv_icmp_gt tgt hd ht (fun q => kt ((nI_ltI hb ha).mp q)) (fun q => kf (by have z : ¬ (b < a) := fun w => q ((nI_ltI hb ha).mpr w); omega))
theorem sv_ifN_le {a : Nat} {off : Int} (tgt : Nat) (hd : decode M.2.1 pc = .ok (.ifCond .le off, 3)) (ht : (pc : Int) + off = (tgt : Int)) (ha : a < 2 ^ 31) (kt : a = 0 → sm_V G M R Z cells slots tgt lv st h) (kf : a ≠ 0 → sm_V G M R Z cells slots (pc + 3) lv st h) : sm_V G M R Z cells slots pc lv (.int (nI a) :: st) h :=
  sv_if_le tgt hd ht (fun q => kt ((sm_n2 ha).mp q)) (fun q => kf (by have z : ¬ (a = 0) := fun w => q ((sm_n2 ha).mpr w); omega))
theorem sv_icmpN_le {a b : Nat} {off : Int} (tgt : Nat) (hd : decode M.2.1 pc = .ok (.if_icmp .le off, 3)) (ht : (pc : Int) + off = (tgt : Int)) (ha : a < 2 ^ 31) (hb : b < 2 ^ 31) (kt : a ≤ b → sm_V G M R Z cells slots tgt lv st h) (kf : b < a → sm_V G M R Z cells slots (pc + 3) lv st h) : sm_V G M R Z cells slots pc lv (.int (nI b) :: .int (nI a) :: st) h :=
  sv_icmp_le tgt hd ht (fun q => kt ((nI_leI ha hb).mp q)) (fun q => kf (by have z : ¬ (a ≤ b) := fun w => q ((nI_leI ha hb).mpr w); omega))
theorem sv_iaddN {a b : Nat} (hd : decode M.2.1 pc = .ok (.iadd, 1))  (k : sm_V G M R Z cells slots (pc + 1) lv (.int (nI (a + b)) :: st) h) : sm_V G M R Z cells slots pc lv (.int (nI b) :: .int (nI a) :: st) h := sv_iadd hd (sv_top _ (nI_add a b) k)
theorem sv_isubN {a b : Nat} (hd : decode M.2.1 pc = .ok (.isub, 1)) (hb : b ≤ a) (k : sm_V G M R Z cells slots (pc + 1) lv (.int (nI (a - b)) :: st) h) : sm_V G M R Z cells slots pc lv (.int (nI b) :: .int (nI a) :: st) h := sv_isub hd (sv_top _ (pk_sub hb) k)
theorem sv_imulN {a b : Nat} (hd : decode M.2.1 pc = .ok (.imul, 1))  (k : sm_V G M R Z cells slots (pc + 1) lv (.int (nI (a * b)) :: st) h) : sm_V G M R Z cells slots pc lv (.int (nI b) :: .int (nI a) :: st) h := sv_imul hd (sv_top _ (pk_mul a b) k)
theorem sv_idivN {a b : Nat} (hd : decode M.2.1 pc = .ok (.idiv, 1)) (ha : a < 2 ^ 31) (h0 : 0 < b) (hb : b < 2 ^ 31) (k : sm_V G M R Z cells slots (pc + 1) lv (.int (nI (a / b)) :: st) h) : sm_V G M R Z cells slots pc lv (.int (nI b) :: .int (nI a) :: st) h := sv_idiv hd (nI_ne0 h0 hb) (sv_top _ (pk_div ha h0 hb) k)
theorem sv_iremN {a b : Nat} (hd : decode M.2.1 pc = .ok (.irem, 1)) (ha : a < 2 ^ 31) (h0 : 0 < b) (hb : b < 2 ^ 31) (k : sm_V G M R Z cells slots (pc + 1) lv (.int (nI (a % b)) :: st) h) : sm_V G M R Z cells slots pc lv (.int (nI b) :: .int (nI a) :: st) h := sv_irem hd (nI_ne0 h0 hb) (sv_top _ (pk_rem ha h0 hb) k)
theorem sv_lookup {dflt : Int} {ps : Array (Int × Int)} {len : Nat} {x : Int32} {off : Int} (tgt : Nat) (hd : decode M.2.1 pc = .ok (.lookupswitch dflt ps, len)) (hp : (ps.toList.zip (ps.toList.drop 1)).all (fun (a, next) => a.1 < next.1) = true) (ho : Op.lookupswitch.offset ps.toList dflt x.toInt = off) (ht : (pc : Int) + off = (tgt : Int)) (k : sm_V G M R Z cells slots tgt lv st h) : sm_V G M R Z cells slots pc lv (.int x :: st) h := by
  intro p e s m args below meth c H locs ls E hS hR hl
  exact lv_lookup E.1 E.2.1 hd hp ho ht (k p e s m args below meth c H locs ls E hS hR hl)
theorem sv_tableIn {dflt lo hi : Int} {offs : Array Int} {len : Nat} {x : Int32} {off : Int} (tgt : Nat) (hd : decode M.2.1 pc = .ok (.tableswitch dflt lo hi offs, len)) (h1 : ¬ x.toInt < lo) (h2 : ¬ hi < x.toInt) (ho : offs[(x.toInt - lo).toNat]? = some off) (ht : (pc : Int) + off = (tgt : Int)) (k : sm_V G M R Z cells slots tgt lv st h) : sm_V G M R Z cells slots pc lv (.int x :: st) h := by
  intro p e s m args below meth c H locs ls E hS hR hl
  exact lv_tableIn E.1 E.2.1 hd h1 h2 ho ht (k p e s m args below meth c H locs ls E hS hR hl)
theorem sv_tableOut {dflt lo hi : Int} {offs : Array Int} {len : Nat} {x : Int32} (tgt : Nat) (hd : decode M.2.1 pc = .ok (.tableswitch dflt lo hi offs, len)) (h1 : x.toInt < lo ∨ hi < x.toInt) (ht : (pc : Int) + dflt = (tgt : Int)) (k : sm_V G M R Z cells slots tgt lv st h) : sm_V G M R Z cells slots pc lv (.int x :: st) h := by
  intro p e s m args below meth c H locs ls E hS hR hl
  exact lv_tableOut E.1 E.2.1 hd h1 ht (k p e s m args below meth c H locs ls E hS hR hl)
theorem sv_ldc {index : Nat} {v : Int32} (hd : decode M.2.1 pc = .ok (.ldc index, 2)) (hw : Jvm.Cond.constant M.1.cls index v ∈ sm_tbl) (k : sm_V G M R Z cells slots (pc + 2) lv (.int v :: st) h) : sm_V G M R Z cells slots pc lv st h := by
  intro p e s m args below meth c H locs ls E hS hR hl
  exact lv_ldc E.1 E.2.1 E.2.2.2.2.1 (E.2.2.2.2.2.1 _ hw) hd (k p e s m args below meth c H locs ls E hS hR hl)
theorem sv_ldc2 {index : Nat} {v : Int64} (hd : decode M.2.1 pc = .ok (.ldc2_w index, 3)) (hw : Jvm.Cond.constantLong M.1.cls index v ∈ sm_tbl) (k : sm_V G M R Z cells slots (pc + 3) lv (.long v :: st) h) : sm_V G M R Z cells slots pc lv st h := by
  intro p e s m args below meth c H locs ls E hS hR hl
  exact lv_ldc2 E.1 E.2.1 E.2.2.2.2.1 (E.2.2.2.2.2.1 _ hw) hd (k p e s m args below meth c H locs ls E hS hR hl)
theorem sv_iret {v : Int32} {ty : FieldType} (hd : decode M.2.1 pc = .ok (.ireturn, 1)) (hr : M.2.2.2.1 = some ty) (hn : narrow ty (.int v) = .int v) (hc : cells ≤ mc) (hs : slots ≤ ms) (hq : Q (.inl (some (.int v))) h) : sm_V G M R (sm_Zm G Q mc ms) cells slots pc lv [.int v] h := by
  intro p e s m args below meth c H locs ls E hS hR hl
  exact vx_ret (W.widen hc hs (W.zret E.1 E.2.1 (E.2.2.1.trans hr) hn (fun t ht hW => ⟨⟨some (.int v), h, rfl, hq, by rw [ht]; exact hR⟩, hS.F ht⟩) (fun q hq => hS.2.2 q hq) hd E.2.2.2.2.2.2.1))
theorem sv_lret {v : Int64} (hd : decode M.2.1 pc = .ok (.lreturn, 1)) (hr : M.2.2.2.1 = some .long) (hc : cells ≤ mc) (hs : slots ≤ ms) (hq : Q (.inl (some (.long v))) h) : sm_V G M R (sm_Zm G Q mc ms) cells slots pc lv [.long v] h := by
  intro p e s m args below meth c H locs ls E hS hR hl
  exact vx_ret (W.widen hc hs (W.lret E.1 E.2.1 (E.2.2.1.trans hr) (fun t ht hW => ⟨⟨some (.long v), h, rfl, hq, by rw [ht]; exact hR⟩, hS.F ht⟩) (fun q hq => hS.2.2 q hq) hd E.2.2.2.2.2.2.1))
theorem sv_vret (hd : decode M.2.1 pc = .ok (.return_, 1)) (hr : M.2.2.2.1 = none) (hc : cells ≤ mc) (hs : slots ≤ ms) (hq : Q (.inl none) h) : sm_V G M R (sm_Zm G Q mc ms) cells slots pc lv [] h := by
  intro p e s m args below meth c H locs ls E hS hR hl
  exact vx_ret (W.widen hc hs (W.vret E.1 E.2.1 (E.2.2.1.trans hr) (fun t ht hW => ⟨⟨none, h, rfl, hq, by rw [ht]; exact hR⟩, hS.F ht⟩) (fun q hq => hS.2.2 q hq) hd E.2.2.2.2.2.2.1))
theorem sm_P1 {G : sm_G} {H : Heap} {a : Nat} {e : va_E} (hat : va_at G.2.1 vwCl (a, e) H) : va_P G.2.1 vwCl [(a, e)] H := by
  intro k q hk
  cases k with
  | zero => cases hk; exact hat
  | succ k => simp at hk
theorem sv_get {ci k index a : Nat} {C : String} {T : u_T} {N : Nat} {ty : Nat → FieldType} {fs : List Value} {v : Value} (hC : sm_cl ci C T N ty) (hd : decode M.2.1 pc = .ok (.getfield index, 3)) (hk : k < N) (hw : Cond.fieldLink M.1.cls index (T k).1 (T k).2.1 (T k).2.2.1 ∈ sm_tbl) (he : h a = some (.inr (ci, fs))) (hv : fs[k]? = some v) (kk : sm_V G M R Z cells slots (pc + 3) lv (v :: st) h) : sm_V G M R Z cells slots pc lv (.ref a :: st) h := by
  intro p e s m args below meth c H locs ls E hS hR hl
  obtain ⟨-, hat⟩ := sm_R_at hR he (sm_R_ne hR he hv)
  exact va_get (ws := [(a, .inr (ci, fs))]) E.1 E.2.1 E.2.2.2.2.2.1 hC.2.1 E.2.2.2.2.1 E.2.2.2.2.2.2.2.2.1.1 (sm_P1 hat) 0 rfl hC.1 k hk (E.2.2.2.2.2.1 _ hw) (fun _ q => q) hv hd (kk p e s m args below meth c H locs ls E hS hR hl)
theorem sv_put {ci k index a : Nat} {C : String} {T : u_T} {N : Nat} {ty : Nat → FieldType} {fs : List Value} {v : Value} (hC : sm_cl ci C T N ty) (hd : decode M.2.1 pc = .ok (.putfield index, 3)) (hk : k < N) (hw : Cond.fieldLink M.1.cls index (T k).1 (T k).2.1 (T k).2.2.1 ∈ sm_tbl) (hfin : (T k).2.2.2 = false) (he : h a = some (.inr (ci, fs))) (hl0 : k < fs.length) (hn : narrow (ty k) v = v) (hfit : fits (ty k) v = true) (kk : sm_V G M R Z cells slots (pc + 3) lv st (sm_up h a (.inr (ci, fs.set k v)))) : sm_V G M R Z cells slots pc lv (v :: .ref a :: st) h := by
  intro p e s m args below meth c H locs ls E hS hR hl
  have h0 : a ≠ 0 := sm_R_ne hR he (List.getElem?_eq_getElem hl0)
  obtain ⟨hB, hat⟩ := sm_R_at hR he h0
  have hts := E.2.2.2.2.2.1
  have hap := va_apart (own := C) hts hC.2.1 ty hC.2.2.1 hC.2.2.2 E.2.2.2.2.2.2.2.2.1.1 hC.1
  obtain ⟨r, h1, cell, q1, q2, q3, q4⟩ := hat
  have hr : r = (C, T, N) := Option.some.inj (h1.symm.trans hC.1)
  subst hr
  obtain ⟨hSl, hfc, kC, hkC, hkind⟩ := E.2.2.2.2.2.2.2.2.1.1.1 ci _ hC.1
  obtain ⟨cf, kf, fi, f, hi, hsl⟩ := hSl k hk
  have hlay := hts _ (hC.2.1 _ (u_in_lay hk))
  unfold u_lay at hlay
  rw [if_neg (by rw [hfin]; decide)] at hlay
  have hst := (u_facts hfc hkC (u_lays hts hC.2.1 hk) hi).1
  have h6 := u_store hfc hkC hkind hlay hi (hC.2.2.1 k hk) hn hfit
  refine W.putK E.1 E.2.1 (f := f) ⟨E.2.2.2.2.1, hts _ hw, ⟨_, _, _, hi⟩, hst⟩ (by rw [q2]; exact h6) q1 q3 (by rw [hsl]; exact k2_hasslot (q4 k hk)) rfl rfl hd fun H' e1 e2 e3 => ?_
  rw [hsl] at e1 ⊢
  exact kk p e s m args below meth c H' _ ls E (hS.put e2 e3 hB) (sm_R_set hR h0 hB ⟨_, hC.1, t_OB.to (V := updV (vp_V fs) k v) ⟨_, e1, q2, q3, t_set q4 hap hk v⟩ (fun j _ => vp_updV_set hl0 v j)⟩ e2 e3) hl
theorem sv_putF {ci k index a : Nat} {C : String} {T : u_T} {N : Nat} {ty : Nat → FieldType} {fs : List Value} {v : Value} (hC : sm_cl ci C T N ty) (hd : decode M.2.1 pc = .ok (.putfield index, 3)) (hk : k < N) (hw : Cond.fieldLink M.1.cls index (T k).1 (T k).2.1 (T k).2.2.1 ∈ sm_tbl) (hfin : (T k).2.2.2 = true) (hin2 : M.1.name = "<init>") (hdecl : (T k).1 = M.1.cls) (he : h a = some (.inr (ci, fs))) (hl0 : k < fs.length) (hn : narrow (ty k) v = v) (hfit : fits (ty k) v = true) (kk : sm_V G M R Z cells slots (pc + 3) lv st (sm_up h a (.inr (ci, fs.set k v)))) : sm_V G M R Z cells slots pc lv (v :: .ref a :: st) h := by
  intro p e s m args below meth c H locs ls E hS hR hl
  have h0 : a ≠ 0 := sm_R_ne hR he (List.getElem?_eq_getElem hl0)
  obtain ⟨hB, hat⟩ := sm_R_at hR he h0
  have hts := E.2.2.2.2.2.1
  have hap := va_apart (own := C) hts hC.2.1 ty hC.2.2.1 hC.2.2.2 E.2.2.2.2.2.2.2.2.1.1 hC.1
  obtain ⟨r, h1, cell, q1, q2, q3, q4⟩ := hat
  have hr : r = (C, T, N) := Option.some.inj (h1.symm.trans hC.1)
  subst hr
  obtain ⟨hSl, hfc, kC, hkC, hkind⟩ := E.2.2.2.2.2.2.2.2.1.1.1 ci _ hC.1
  obtain ⟨cf, kf, fi, f, hi, hsl⟩ := hSl k hk
  have hlay := hts _ (hC.2.1 _ (u_in_lay hk))
  unfold u_lay at hlay
  rw [if_pos hfin] at hlay
  have hst := (u_facts hfc hkC (u_lays hts hC.2.1 hk) hi).1
  have hcf : m.cls = cf := by
    obtain ⟨_, _, c', _, _, _, -, -, hf', -, -, -, hown2, -⟩ := Cond.laysFinal_spec hlay
    have e1 : c' = cf := by have := hi.symm.trans hf'; simp at this; exact this.1.symm
    rw [hdecl] at hown2
    rw [← e1]; exact Option.some.inj (E.2.2.2.2.1.symm.trans hown2)
  have h6 := u_fits hfc hkC hkind (Or.inr hlay) hi (hC.2.2.1 k hk) hn hfit
  refine W.putFinK E.1 E.2.1 E.2.2.2.2.1 (hts _ hw) hi hst hcf (E.2.2.2.2.2.2.2.2.2.2.trans hin2) (by rw [q2]; exact h6) q1 q3 (by rw [hsl]; exact k2_hasslot (q4 k hk)) rfl rfl hd fun H' e1 e2 e3 => ?_
  rw [hsl] at e1 ⊢
  exact kk p e s m args below meth c H' _ ls E (hS.put e2 e3 hB) (sm_R_set hR h0 hB ⟨_, hC.1, t_OB.to (V := updV (vp_V fs) k v) ⟨_, e1, q2, q3, t_set q4 hap hk v⟩ (fun j _ => vp_updV_set hl0 v j)⟩ e2 e3) hl
theorem sv_iaload {a n : Nat} {f : Nat → Int32} {i : Int32} (hd : decode M.2.1 pc = .ok (.iaload, 1)) (he : h a = some (sm_ai G n f)) (hin : vp_in i n) (kk : sm_V G M R Z cells slots (pc + 1) lv (.int (f i.toNatClampNeg) :: st) h) : sm_V G M R Z cells slots pc lv (.int i :: .ref a :: st) h := by
  intro p e s m args below meth c H locs ls E hS hR hl
  obtain ⟨-, hat⟩ := sm_R_at hR he (sm_R_na hR he)
  exact va_iald (ws := [(a, _)]) E.1 E.2.1 E.2.2.2.2.2.2.2.2.1.1 (sm_P1 hat) 0 0 rfl rfl hin hd (kk p e s m args below meth c H locs ls E hS hR hl)
theorem sv_laload {a n : Nat} {f : Nat → Int64} {i : Int32} (hd : decode M.2.1 pc = .ok (.laload, 1)) (he : h a = some (sm_aj G n f)) (hin : vp_in i n) (kk : sm_V G M R Z cells slots (pc + 1) lv (.long (f i.toNatClampNeg) :: st) h) : sm_V G M R Z cells slots pc lv (.int i :: .ref a :: st) h := by
  intro p e s m args below meth c H locs ls E hS hR hl
  obtain ⟨-, hat⟩ := sm_R_at hR he (sm_R_na hR he)
  exact va_lald (ws := [(a, _)]) E.1 E.2.1 E.2.2.2.2.2.2.2.2.1.1 (sm_P1 hat) 0 1 rfl rfl hin hd (kk p e s m args below meth c H locs ls E hS hR hl)
theorem sv_baload {a n : Nat} {f : Nat → Int32} {i : Int32} (hd : decode M.2.1 pc = .ok (.baload, 1)) (he : h a = some (sm_az G n f)) (hin : vp_in i n) (kk : sm_V G M R Z cells slots (pc + 1) lv (.int (f i.toNatClampNeg) :: st) h) : sm_V G M R Z cells slots pc lv (.int i :: .ref a :: st) h := by
  intro p e s m args below meth c H locs ls E hS hR hl
  obtain ⟨-, hat⟩ := sm_R_at hR he (sm_R_na hR he)
  exact va_zald (ws := [(a, _)]) E.1 E.2.1 E.2.2.2.2.2.2.2.2.1.1 (sm_P1 hat) 0 2 rfl rfl hin hd (kk p e s m args below meth c H locs ls E hS hR hl)
theorem sv_caload {a n : Nat} {f : Nat → Int32} {i : Int32} (hd : decode M.2.1 pc = .ok (.caload, 1)) (he : h a = some (sm_ac G n f)) (hin : vp_in i n) (kk : sm_V G M R Z cells slots (pc + 1) lv (.int (f i.toNatClampNeg) :: st) h) : sm_V G M R Z cells slots pc lv (.int i :: .ref a :: st) h := by
  intro p e s m args below meth c H locs ls E hS hR hl
  obtain ⟨-, hat⟩ := sm_R_at hR he (sm_R_na hR he)
  exact va_cald (ws := [(a, _)]) E.1 E.2.1 E.2.2.2.2.2.2.2.2.1.1 (sm_P1 hat) 0 3 rfl rfl hin hd (kk p e s m args below meth c H locs ls E hS hR hl)
theorem sv_aaload4 {a n : Nat} {f : Nat → Option Nat} {i : Int32} (hd : decode M.2.1 pc = .ok (.aaload, 1)) (he : h a = some (sm_ar G 4 n f)) (hin : vp_in i n) (kk : sm_V G M R Z cells slots (pc + 1) lv (va_rf (f i.toNatClampNeg) :: st) h) : sm_V G M R Z cells slots pc lv (.int i :: .ref a :: st) h := by
  intro p e s m args below meth c H locs ls E hS hR hl
  obtain ⟨-, hat⟩ := sm_R_at hR he (sm_R_na hR he)
  exact va_aldq (ws := [(a, _)]) E.1 E.2.1 E.2.2.2.2.2.2.2.2.1.1 (sm_P1 hat) 0 4 rfl rfl hin hd (kk p e s m args below meth c H locs ls E hS hR hl)
theorem sv_aaload5 {a n : Nat} {f : Nat → Option Nat} {i : Int32} (hd : decode M.2.1 pc = .ok (.aaload, 1)) (he : h a = some (sm_ar G 5 n f)) (hin : vp_in i n) (kk : sm_V G M R Z cells slots (pc + 1) lv (va_rf (f i.toNatClampNeg) :: st) h) : sm_V G M R Z cells slots pc lv (.int i :: .ref a :: st) h := by
  intro p e s m args below meth c H locs ls E hS hR hl
  obtain ⟨-, hat⟩ := sm_R_at hR he (sm_R_na hR he)
  exact va_aldq (ws := [(a, _)]) E.1 E.2.1 E.2.2.2.2.2.2.2.2.1.1 (sm_P1 hat) 0 5 rfl rfl hin hd (kk p e s m args below meth c H locs ls E hS hR hl)
theorem sv_aaload6 {a n : Nat} {f : Nat → Option Nat} {i : Int32} (hd : decode M.2.1 pc = .ok (.aaload, 1)) (he : h a = some (sm_ar G 6 n f)) (hin : vp_in i n) (kk : sm_V G M R Z cells slots (pc + 1) lv (va_rf (f i.toNatClampNeg) :: st) h) : sm_V G M R Z cells slots pc lv (.int i :: .ref a :: st) h := by
  intro p e s m args below meth c H locs ls E hS hR hl
  obtain ⟨-, hat⟩ := sm_R_at hR he (sm_R_na hR he)
  exact va_aldq (ws := [(a, _)]) E.1 E.2.1 E.2.2.2.2.2.2.2.2.1.1 (sm_P1 hat) 0 6 rfl rfl hin hd (kk p e s m args below meth c H locs ls E hS hR hl)
theorem sv_iastore {a n : Nat} {f : Nat → Int32} {i : Int32} {x : Int32} (hd : decode M.2.1 pc = .ok (.iastore, 1)) (he : h a = some (sm_ai G n f)) (hin : vp_in i n) (kk : sm_V G M R Z cells slots (pc + 1) lv st (sm_up h a (sm_ai G n (upd f i.toNatClampNeg x)))) : sm_V G M R Z cells slots pc lv (.int x :: .int i :: .ref a :: st) h := by
  intro p e s m args below meth c H locs ls E hS hR hl
  have h0 := sm_R_na hR he
  obtain ⟨hB, hat⟩ := sm_R_at hR he h0
  refine W.iast E.1 E.2.1 hat ((E.2.2.2.2.2.2.2.2.1.1.2 0 _ rfl).1 n (fun j => .int (f j))) (fun q => by cases q) (by show ¬ (i < 0 ∨ (arrV _ _ _).slots.size ≤ _); rw [arrV_size]; exact hin) rfl rfl hd fun H1 e9 z oq => ?_
  refine kk p e s m args below meth c H1 _ ls E (hS.put z oq hB) (sm_R_set hR h0 hB ?_ z oq) hl
  show H1[a]? = some (vp_cell _ _)
  rw [e9]
  rw [vp_cell_i, vp_cell_i, arrV_store]
  congr 2
  funext q
  by_cases hq : q = i.toNatClampNeg
  · subst hq
    simp [updV, upd, vp_updL]
    try rfl
  · simp [updV, upd, vp_updL, hq]
theorem sv_lastore {a n : Nat} {f : Nat → Int64} {i : Int32} {x : Int64} (hd : decode M.2.1 pc = .ok (.lastore, 1)) (he : h a = some (sm_aj G n f)) (hin : vp_in i n) (kk : sm_V G M R Z cells slots (pc + 1) lv st (sm_up h a (sm_aj G n (vp_updL f i.toNatClampNeg x)))) : sm_V G M R Z cells slots pc lv (.long x :: .int i :: .ref a :: st) h := by
  intro p e s m args below meth c H locs ls E hS hR hl
  have h0 := sm_R_na hR he
  obtain ⟨hB, hat⟩ := sm_R_at hR he h0
  refine W.last E.1 E.2.1 hat ((E.2.2.2.2.2.2.2.2.1.1.2 1 _ rfl).1 n (fun j => .long (f j))) (fun q => by cases q) (by show ¬ (i < 0 ∨ (arrV _ _ _).slots.size ≤ _); rw [arrV_size]; exact hin) rfl rfl hd fun H1 e9 z oq => ?_
  refine kk p e s m args below meth c H1 _ ls E (hS.put z oq hB) (sm_R_set hR h0 hB ?_ z oq) hl
  show H1[a]? = some (vp_cell _ _)
  rw [e9]
  rw [vp_cell_l, vp_cell_l, arrV_store]
  congr 2
  funext q
  by_cases hq : q = i.toNatClampNeg
  · subst hq
    simp [updV, upd, vp_updL]
    try rfl
  · simp [updV, upd, vp_updL, hq]
theorem sv_bastore {a n : Nat} {f : Nat → Int32} {i : Int32} {x : Int32} (hd : decode M.2.1 pc = .ok (.bastore, 1)) (he : h a = some (sm_az G n f)) (hin : vp_in i n) (kk : sm_V G M R Z cells slots (pc + 1) lv st (sm_up h a (sm_az G n (upd f i.toNatClampNeg (vp_nar .boolean x))))) : sm_V G M R Z cells slots pc lv (.int x :: .int i :: .ref a :: st) h := by
  intro p e s m args below meth c H locs ls E hS hR hl
  have h0 := sm_R_na hR he
  obtain ⟨hB, hat⟩ := sm_R_at hR he h0
  refine W.zast E.1 E.2.1 hat ((E.2.2.2.2.2.2.2.2.1.1.2 2 _ rfl).1 n (fun j => .int (f j))) (fun q => by cases q) (by show ¬ (i < 0 ∨ (arrV _ _ _).slots.size ≤ _); rw [arrV_size]; exact hin) rfl rfl hd fun H1 e9 z oq => ?_
  refine kk p e s m args below meth c H1 _ ls E (hS.put z oq hB) (sm_R_set hR h0 hB ?_ z oq) hl
  show H1[a]? = some (vp_cell _ _)
  rw [e9]
  rw [vp_cell_i, vp_cell_i, arrV_store]
  congr 2
  funext q
  by_cases hq : q = i.toNatClampNeg
  · subst hq
    simp [updV, upd, vp_updL, vp_nar]
    try rfl
  · simp [updV, upd, vp_updL, hq]
theorem sv_castore {a n : Nat} {f : Nat → Int32} {i : Int32} {x : Int32} (hd : decode M.2.1 pc = .ok (.castore, 1)) (he : h a = some (sm_ac G n f)) (hin : vp_in i n) (kk : sm_V G M R Z cells slots (pc + 1) lv st (sm_up h a (sm_ac G n (upd f i.toNatClampNeg (vp_nar .char x))))) : sm_V G M R Z cells slots pc lv (.int x :: .int i :: .ref a :: st) h := by
  intro p e s m args below meth c H locs ls E hS hR hl
  have h0 := sm_R_na hR he
  obtain ⟨hB, hat⟩ := sm_R_at hR he h0
  refine W.cast E.1 E.2.1 hat ((E.2.2.2.2.2.2.2.2.1.1.2 3 _ rfl).1 n (fun j => .int (f j))) (fun q => by cases q) (by show ¬ (i < 0 ∨ (arrV _ _ _).slots.size ≤ _); rw [arrV_size]; exact hin) rfl rfl hd fun H1 e9 z oq => ?_
  refine kk p e s m args below meth c H1 _ ls E (hS.put z oq hB) (sm_R_set hR h0 hB ?_ z oq) hl
  show H1[a]? = some (vp_cell _ _)
  rw [e9]
  rw [vp_cell_i, vp_cell_i, arrV_store]
  congr 2
  funext q
  by_cases hq : q = i.toNatClampNeg
  · subst hq
    simp [updV, upd, vp_updL, vp_nar]
    try rfl
  · simp [updV, upd, vp_updL, hq]
theorem sv_aastore4 {a n v : Nat} {vs : List Value} {f : Nat → Option Nat} {i : Int32} (hd : decode M.2.1 pc = .ok (.aastore, 1)) (he : h a = some (sm_ar G 4 n f)) (hv : h v = some (.inr (3, vs))) (hv0 : vs ≠ []) (hin : vp_in i n) (kk : sm_V G M R Z cells slots (pc + 1) lv st (sm_up h a (sm_ar G 4 n (va_up f i.toNatClampNeg (some v))))) : sm_V G M R Z cells slots pc lv (.ref v :: .int i :: .ref a :: st) h := by
  intro p e s m args below meth c H locs ls E hS hR hl
  have h0 := sm_R_na hR he
  obtain ⟨hB, hat⟩ := sm_R_at hR he h0
  obtain ⟨v0, vr, rfl⟩ : ∃ v0 vr, vs = v0 :: vr := by cases vs with | nil => exact absurd rfl hv0 | cons x y => exact ⟨x, y, rfl⟩
  obtain ⟨-, hatv⟩ := sm_R_at hR hv (sm_R_ne (k := 0) hR hv rfl)
  have hlt : i.toNatClampNeg < n := Nat.not_le.mp fun q => hin (Or.inr q)
  have hi0 : ¬ i < 0 := fun q => hin (Or.inl q)
  have hK := E.2.2.2.2.2.2.2.2.1.1
  obtain ⟨r', hr', cellV, g1, g2, g3, -⟩ := hatv
  have hcls := (hK.1 3 _ rfl).2
  obtain ⟨kA, comp, k1, k2, k3, -⟩ := (hK.2 4 _ rfl).2
  have hcomp : comp = G.2.1.1 3 := Option.some.inj (k3.symm.trans hcls.1)
  subst hcomp
  obtain ⟨kC, hkC, -⟩ := hcls.2
  refine W.aast E.1 E.2.1 hat (fun q h => by cases h) (fun h => by cases h) k1 k2 rfl hkC ⟨hi0, by show _ < (arrV _ _ _).slots.size; rw [arrV_size]; exact hlt⟩ g1 (fun q h => by rw [g3] at h; cases h) (by rw [g2]; exact hkC) (by rw [g2]; exact va_assign hcls) rfl rfl hd fun H1 e9 z oq => ?_
  refine kk p e s m args below meth c H1 _ ls E (hS.put z oq hB) (sm_R_set hR h0 hB ?_ z oq) hl
  show H1[a]? = some (vp_cell _ _)
  rw [e9]
  rw [vp_cell_q, vp_cell_q, arrV_store]
  congr 2
  funext q
  by_cases hq : q = i.toNatClampNeg
  · subst hq
    simp [updV, va_up, va_rf]
  · simp [updV, va_up, hq]
theorem sv_aastore5 {a n v : Nat} {vs : List Value} {f : Nat → Option Nat} {i : Int32} (hd : decode M.2.1 pc = .ok (.aastore, 1)) (he : h a = some (sm_ar G 5 n f)) (hv : h v = some (.inr (2, vs))) (hv0 : vs ≠ []) (hin : vp_in i n) (kk : sm_V G M R Z cells slots (pc + 1) lv st (sm_up h a (sm_ar G 5 n (va_up f i.toNatClampNeg (some v))))) : sm_V G M R Z cells slots pc lv (.ref v :: .int i :: .ref a :: st) h := by
  intro p e s m args below meth c H locs ls E hS hR hl
  have h0 := sm_R_na hR he
  obtain ⟨hB, hat⟩ := sm_R_at hR he h0
  obtain ⟨v0, vr, rfl⟩ : ∃ v0 vr, vs = v0 :: vr := by cases vs with | nil => exact absurd rfl hv0 | cons x y => exact ⟨x, y, rfl⟩
  obtain ⟨-, hatv⟩ := sm_R_at hR hv (sm_R_ne (k := 0) hR hv rfl)
  have hlt : i.toNatClampNeg < n := Nat.not_le.mp fun q => hin (Or.inr q)
  have hi0 : ¬ i < 0 := fun q => hin (Or.inl q)
  have hK := E.2.2.2.2.2.2.2.2.1.1
  obtain ⟨r', hr', cellV, g1, g2, g3, -⟩ := hatv
  have hcls := (hK.1 2 _ rfl).2
  obtain ⟨kA, comp, k1, k2, k3, -⟩ := (hK.2 5 _ rfl).2
  have hcomp : comp = G.2.1.1 2 := Option.some.inj (k3.symm.trans hcls.1)
  subst hcomp
  obtain ⟨kC, hkC, -⟩ := hcls.2
  refine W.aast E.1 E.2.1 hat (fun q h => by cases h) (fun h => by cases h) k1 k2 rfl hkC ⟨hi0, by show _ < (arrV _ _ _).slots.size; rw [arrV_size]; exact hlt⟩ g1 (fun q h => by rw [g3] at h; cases h) (by rw [g2]; exact hkC) (by rw [g2]; exact va_assign hcls) rfl rfl hd fun H1 e9 z oq => ?_
  refine kk p e s m args below meth c H1 _ ls E (hS.put z oq hB) (sm_R_set hR h0 hB ?_ z oq) hl
  show H1[a]? = some (vp_cell _ _)
  rw [e9]
  rw [vp_cell_q, vp_cell_q, arrV_store]
  congr 2
  funext q
  by_cases hq : q = i.toNatClampNeg
  · subst hq
    simp [updV, va_up, va_rf]
  · simp [updV, va_up, hq]
theorem sv_aastore6 {a n v : Nat} {vs : List Value} {f : Nat → Option Nat} {i : Int32} (hd : decode M.2.1 pc = .ok (.aastore, 1)) (he : h a = some (sm_ar G 6 n f)) (hv : h v = some (.inr (0, vs))) (hv0 : vs ≠ []) (hin : vp_in i n) (kk : sm_V G M R Z cells slots (pc + 1) lv st (sm_up h a (sm_ar G 6 n (va_up f i.toNatClampNeg (some v))))) : sm_V G M R Z cells slots pc lv (.ref v :: .int i :: .ref a :: st) h := by
  intro p e s m args below meth c H locs ls E hS hR hl
  have h0 := sm_R_na hR he
  obtain ⟨hB, hat⟩ := sm_R_at hR he h0
  obtain ⟨v0, vr, rfl⟩ : ∃ v0 vr, vs = v0 :: vr := by cases vs with | nil => exact absurd rfl hv0 | cons x y => exact ⟨x, y, rfl⟩
  obtain ⟨-, hatv⟩ := sm_R_at hR hv (sm_R_ne (k := 0) hR hv rfl)
  have hlt : i.toNatClampNeg < n := Nat.not_le.mp fun q => hin (Or.inr q)
  have hi0 : ¬ i < 0 := fun q => hin (Or.inl q)
  have hK := E.2.2.2.2.2.2.2.2.1.1
  obtain ⟨r', hr', cellV, g1, g2, g3, -⟩ := hatv
  have hcls := (hK.1 0 _ rfl).2
  obtain ⟨kA, comp, k1, k2, k3, -⟩ := (hK.2 6 _ rfl).2
  have hcomp : comp = G.2.1.1 0 := Option.some.inj (k3.symm.trans hcls.1)
  subst hcomp
  obtain ⟨kC, hkC, -⟩ := hcls.2
  refine W.aast E.1 E.2.1 hat (fun q h => by cases h) (fun h => by cases h) k1 k2 rfl hkC ⟨hi0, by show _ < (arrV _ _ _).slots.size; rw [arrV_size]; exact hlt⟩ g1 (fun q h => by rw [g3] at h; cases h) (by rw [g2]; exact hkC) (by rw [g2]; exact va_assign hcls) rfl rfl hd fun H1 e9 z oq => ?_
  refine kk p e s m args below meth c H1 _ ls E (hS.put z oq hB) (sm_R_set hR h0 hB ?_ z oq) hl
  show H1[a]? = some (vp_cell _ _)
  rw [e9]
  rw [vp_cell_q, vp_cell_q, arrV_store]
  congr 2
  funext q
  by_cases hq : q = i.toNatClampNeg
  · subst hq
    simp [updV, va_up, va_rf]
  · simp [updV, va_up, hq]
theorem sv_new {ci index n : Nat} {C : String} {T : u_T} {N : Nat} {ty : Nat → FieldType} (fs : List Value) (hC : sm_cl ci C T N ty) (hd : decode M.2.1 pc = .ok (.new index, 3)) (w1 : Cond.classLink M.1.cls index C ∈ sm_tbl) (w2 : Cond.instantiable C N ∈ sm_tbl) (w3 : Cond.initialized C ∈ sm_tbl) (hfs : ∀ j, j < N → defaultValue (ty j) = vp_V fs j) (hc : cells + 1 ≤ R.cells) (hs : slots + N ≤ R.slots) (hn : h 0 = some (.inr (n, []))) (kk : sm_V G M R Z (cells + 1) (slots + N) (pc + 3) lv (.ref n :: st) (sm_nw h n (.inr (ci, fs)))) : sm_V G M R Z cells slots pc lv st h := by
  intro p e s m args below meth c H locs ls E hS hR hl
  have hts := E.2.2.2.2.2.1
  have hK := E.2.2.2.2.2.2.2.2.1
  have hKn := hK.1.1 ci _ hC.1
  have hz := sm_R_size hR hn
  have hB : sm_B G ≤ n := by rw [← hz]; exact Nat.le_trans E.2.2.2.2.2.2.2.2.2.1 hS.1
  have hB0 : 0 < sm_B G := hK.2.2.2.2.2.2.2.2.2
  refine W.newcK E.1 E.2.1 E.2.2.2.2.1 (hts _ w1) (hts _ w2) (hts _ w3) rfl hd hc hs hKn.2.1 hz fun H1 kC hkC e1 z1 o1 => ?_
  refine kk p e s m args below meth c H1 locs ls E ⟨Nat.le_trans hS.1 (by omega), fun x h1 h2 => (o1 x (by have := hS.1; omega)).trans (hS.2.1 x h1 h2), hS.2.2⟩ (sm_R_new hR hn (by omega) hB ⟨_, hC.1, (u_born ty hts hC.2.1 hKn hkC e1 hC.2.2.1).to hfs⟩ z1 (fun q hq => o1 q (by omega))) hl
theorem sv_newa {at9 : ArrayType} {n N : Nat} {x : Int32} (ty : FieldType) (k9 : Nat) (e0 : va_E) (hd : decode M.2.1 pc = .ok (.newarray at9, 2)) (hty : newarray.typeOf at9 = ty) (hk9 : (sm_tys G)[k9]? = some (sm_c G k9, ty)) (w1 : Cond.arrayClass (newarray.typeOf at9) ∈ sm_tbl) (hx : ¬ x < 0) (hN : x.toNatClampNeg = N) (hb : N * componentBytes ty ≤ 536870912) (he0 : ∀ H : Heap, H[n]? = some (arrV (sm_c G k9) N (fun _ => defaultValue ty)) → va_at G.2.1 vwCl (n, e0) H) (hc : cells + 1 ≤ R.cells) (hs : slots + N ≤ R.slots) (hn : h 0 = some (.inr (n, []))) (hfind : ∀ U : State, ∀ cA : ClassId, va_RA U cA ty → U.vm.findClass ("[" ++ ty.toString) = some cA) (kk : sm_V G M R Z (cells + 1) (slots + N) (pc + 2) lv (.ref n :: st) (sm_nw h n e0)) : sm_V G M R Z cells slots pc lv (.int x :: st) h := by
  subst hty
  intro p e s m args below meth c H locs ls E hS hR hl
  have hts := E.2.2.2.2.2.1
  have hK := E.2.2.2.2.2.2.2.2.1
  have hz := sm_R_size hR hn
  have hB : sm_B G ≤ n := by rw [← hz]; exact Nat.le_trans E.2.2.2.2.2.2.2.2.2.1 hS.1
  have hB0 : 0 < sm_B G := hK.2.2.2.2.2.2.2.2.2
  refine va_newaK E.1 E.2.1 (hts _ w1) rfl hd rfl hx hN hb hc hs hz fun H1 cA e1 z1 o1 hAr hNm => ?_
  have hcA : cA = sm_c G k9 := Option.some.inj (hNm.symm.trans (hfind _ _ (hK.1.2 k9 _ hk9).2))
  subst hcA
  refine kk p e s m args below meth c H1 locs ls E ⟨Nat.le_trans hS.1 (by omega), fun x h1 h2 => (o1 x (by have := hS.1; omega)).trans (hS.2.1 x h1 h2), hS.2.2⟩ (sm_R_new hR hn (by omega) hB (he0 H1 e1) z1 (fun q hq => o1 q (by omega))) hl
theorem sv_newq {index n N : Nat} {x : Int32} (C : String) (k9 : Nat) (hd : decode M.2.1 pc = .ok (.anewarray index, 3)) (w1 : Cond.classLink M.1.cls index C ∈ sm_tbl) (hAO : C ∈ [RX3, RX2, RX0]) (hk9 : (sm_tys G)[k9]? = some (sm_c G k9, .object C)) (hx : ¬ x < 0) (hN : x.toNatClampNeg = N) (hb : N * 4 ≤ 536870912) (hc : cells + 1 ≤ R.cells) (hs : slots + N ≤ R.slots) (hn : h 0 = some (.inr (n, []))) (kk : sm_V G M R Z (cells + 1) (slots + N) (pc + 3) lv (.ref n :: st) (sm_nw h n (sm_ar G k9 N (fun _ => none)))) : sm_V G M R Z cells slots pc lv (.int x :: st) h := by
  subst hN
  intro p e s m args below meth c H locs ls E hS hR hl
  have hts := E.2.2.2.2.2.1
  have hK := E.2.2.2.2.2.2.2.2.1
  have hz := sm_R_size hR hn
  have hB : sm_B G ≤ n := by rw [← hz]; exact Nat.le_trans E.2.2.2.2.2.2.2.2.2.1 hS.1
  have hB0 : 0 < sm_B G := hK.2.2.2.2.2.2.2.2.2
  refine W.anew E.1 E.2.1 E.2.2.2.2.1 (hts _ w1) (va_AO.use (hK.2.2.2.2.2.2.2.1 C hAO)) rfl hd rfl hx hb hc hs fun cA kA comp f1 f2 f3 f4 => ?_
  generalize hH1 : H.push ({ cls := cA, slots := Array.replicate x.toNatClampNeg .null, vm := .none } : Cell) = H1
  have z1 : H1.size = H.size + 1 := by rw [← hH1, Array.size_push]
  have e1 : H1[H.size]? = some (arrV cA x.toNatClampNeg (fun _ => .null)) := by rw [← hH1, Array.getElem?_push_size, ← arrV_new]
  have o1 : ∀ q : Nat, q < H.size → H1[q]? = H[q]? := fun q hq => by rw [← hH1, Array.getElem?_push, if_neg (Nat.ne_of_lt hq)]
  obtain ⟨kA', comp', j1, j2, j3, j4⟩ := (hK.1.2 k9 _ hk9).2
  have hcA : cA = sm_c G k9 := Option.some.inj (f1.symm.trans j4)
  subst hcA
  rw [hz] at e1 z1 ⊢
  refine kk p e s m args below meth c H1 locs ls E ⟨Nat.le_trans hS.1 (by omega), fun x h1 h2 => (o1 x (by have := hS.1; omega)).trans (hS.2.1 x h1 h2), hS.2.2⟩ (sm_R_new hR hn (by omega) hB e1 (by omega) (fun q hq => o1 q hq)) hl
theorem sv_objInit {idx a : Nat} (hd : decode M.2.1 pc = .ok (.invokespecial idx, 3)) (w1 : Cond.methodLink M.1.cls idx Lib.objectInit ∈ sm_tbl) (w2 : Cond.instanceMethod Lib.objectInit ∈ sm_tbl) (w3 : Cond.code Lib.objectInit ⟨#[0xb1]⟩ 1 none ∈ sm_tbl) (hf : 1 ≤ R.frames) (hlo : (st.map fun v => v.category).sum + 12 ≤ R.locals) (k : sm_V G M R Z cells slots (pc + 3) lv st h) : sm_V G M R Z cells slots pc lv (.ref a :: st) h := by
  intro p e s m args below meth c H locs ls E hS hR hl
  have hts := E.2.2.2.2.2.1
  exact W.objInit E.1 E.2.1 E.2.2.2.2.1 (hts _ w1) (hts _ w2) (hts _ w3) rfl (hl.1.trans E.2.2.2.1.symm) rfl hd hf (by show 2 * 0 + _ + 12 ≤ R.locals; omega) (k p e s m args below meth c H locs ls E hS hR hl)
theorem sv_gets {index : Nat} (i : Nat) {q : String × List Int32} (hi : sm_sts[i]? = some q) (hd : decode M.2.1 pc = .ok (.getstatic index, 3)) (w1 : Cond.fieldLink M.1.cls index RX5 q.1 "[I" ∈ sm_tbl) (k : sm_V G M R Z cells slots (pc + 3) lv (.ref (sm_sa G i) :: st) h) : sm_V G M R Z cells slots pc lv st h := by
  intro p e s m args below meth c H locs ls E hS hR hl
  exact va_gets E.1 E.2.1 (E.2.2.2.2.2.2.2.2.1.2.2.2.1 i q hi).1 hS E.2.2.2.2.1 (E.2.2.2.2.2.1 _ w1) (fun _ z => z) hd (k p e s m args below meth c H locs ls E hS hR hl)
theorem sv_getsN {index : Nat} (i : Nat) {q : String × List Int32} (hi : sm_sts[i]? = some q) (hd : decode M.2.1 pc = .ok (.getstatic index, 3)) (w1 : Cond.fieldLinkNest M.1.cls index RX5 q.1 "[I" RX5 ∈ sm_nest) (k : sm_V G M R Z cells slots (pc + 3) lv (.ref (sm_sa G i) :: st) h) : sm_V G M R Z cells slots pc lv st h := by
  intro p e s m args below meth c H locs ls E hS hR hl
  exact va_getsN E.1 E.2.1 (E.2.2.2.2.2.2.2.2.1.2.2.2.1 i q hi).1 hS E.2.2.2.2.1 (va_Nw.use rfl (E.2.2.2.2.2.2.2.2.1.2.1 _ w1)) (fun _ z => z) hd (k p e s m args below meth c H locs ls E hS hR hl)
theorem sv_sald (i : Nat) {q : String × List Int32} (hi : sm_sts[i]? = some q) {x v : Int32} (hd : decode M.2.1 pc = .ok (.iaload, 1)) (hin : vp_in x q.2.length) (hv : q.2.getD x.toNatClampNeg 0 = v) (k : sm_V G M R Z cells slots (pc + 1) lv (.int v :: st) h) : sm_V G M R Z cells slots pc lv (.int x :: .ref (sm_sa G i) :: st) h := by
  intro p e s m args below meth c H locs ls E hS hR hl
  exact va_ti E.1 E.2.1 (E.2.2.2.2.2.2.2.2.1.2.2.2.1 i q hi).2 hS hin (by rw [hv]) hd (k p e s m args below meth c H locs ls E hS hR hl)
theorem sv_slen (i : Nat) {q : String × List Int32} (hi : sm_sts[i]? = some q) {v : Int32} (hd : decode M.2.1 pc = .ok (.arraylength, 1)) (hv : Int32.ofNat q.2.length = v) (k : sm_V G M R Z cells slots (pc + 1) lv (.int v :: st) h) : sm_V G M R Z cells slots pc lv (.ref (sm_sa G i) :: st) h := by
  intro p e s m args below meth c H locs ls E hS hR hl
  exact va_tlen E.1 E.2.1 (E.2.2.2.2.2.2.2.2.1.2.2.2.1 i q hi).2 hS hv hd (k p e s m args below meth c H locs ls E hS hR hl)
end SVA
