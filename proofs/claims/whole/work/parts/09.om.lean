section SOM
variable {G : sm_G} {M : sm_M} {R : Room} {Z : sm_Z} {cells slots pc : Nat} {lv : List (Nat × Value)} {st : List Value} {h : sm_H} {m : Nat} {F : Nat → Int32} {X : Nat → Int64} {A : Nat → Nat → Int32} {L : Nat → Nat → Int64}
/-- the reference at m: its ints, its longs, its rows of ints, its rows of longs, by the numbers of its fields -/
def sm_om (G : sm_G) (h : sm_H) (m : Nat) (F : Nat → Int32) (X : Nat → Int64) (A : Nat → Nat → Int32) (L : Nat → Nat → Int64) : sm_H := fun a => if a = m then some (.inr (6, [.int (F 0), .ref (m + 1), .long (X 2), .ref (m + 2), .ref (m + 3), .int (F 5), .ref (m + 4), .ref (m + 5), .ref (m + 6), .ref (m + 7), .int (F 10), .ref (m + 8), .long (X 12), .ref (m + 9), .long (X 14), .int (F 15), .int (F 16), .int (F 17), .int (F 18), .int (F 19), .int (F 20), .int (F 21), .ref (m + 10), .int (F 23)])) else if a = m + 1 then some (sm_ai G 69 (A 1)) else if a = m + 2 then some (sm_ai G 966 (A 3)) else if a = m + 3 then some (sm_aj G 14 (L 4)) else if a = m + 4 then some (sm_ai G 138 (A 6)) else if a = m + 5 then some (sm_aj G 2 (L 7)) else if a = m + 6 then some (sm_az G 2 (A 8)) else if a = m + 7 then some (sm_ai G 120 (A 9)) else if a = m + 8 then some (sm_ai G 69 (A 11)) else if a = m + 9 then some (sm_ai G 69 (A 13)) else if a = m + 10 then some (sm_ai G 240 (A 22)) else h a
theorem om_0 : sm_om G h m F X A L m = some (.inr (6, [.int (F 0), .ref (m + 1), .long (X 2), .ref (m + 2), .ref (m + 3), .int (F 5), .ref (m + 4), .ref (m + 5), .ref (m + 6), .ref (m + 7), .int (F 10), .ref (m + 8), .long (X 12), .ref (m + 9), .long (X 14), .int (F 15), .int (F 16), .int (F 17), .int (F 18), .int (F 19), .int (F 20), .int (F 21), .ref (m + 10), .int (F 23)])) := by simp only [sm_om, if_true]
theorem om_1 : sm_om G h m F X A L (m + 1) = some (sm_ai G 69 (A 1)) := by simp [sm_om]
theorem om_3 : sm_om G h m F X A L (m + 2) = some (sm_ai G 966 (A 3)) := by simp [sm_om]
theorem om_4 : sm_om G h m F X A L (m + 3) = some (sm_aj G 14 (L 4)) := by simp [sm_om]
theorem om_6 : sm_om G h m F X A L (m + 4) = some (sm_ai G 138 (A 6)) := by simp [sm_om]
theorem om_7 : sm_om G h m F X A L (m + 5) = some (sm_aj G 2 (L 7)) := by simp [sm_om]
theorem om_8 : sm_om G h m F X A L (m + 6) = some (sm_az G 2 (A 8)) := by simp [sm_om]
theorem om_9 : sm_om G h m F X A L (m + 7) = some (sm_ai G 120 (A 9)) := by simp [sm_om]
theorem om_11 : sm_om G h m F X A L (m + 8) = some (sm_ai G 69 (A 11)) := by simp [sm_om]
theorem om_13 : sm_om G h m F X A L (m + 9) = some (sm_ai G 69 (A 13)) := by simp [sm_om]
theorem om_22 : sm_om G h m F X A L (m + 10) = some (sm_ai G 240 (A 22)) := by simp [sm_om]
theorem rm_get0 (hM : M.1.cls = RX6) (hd : decode M.2.1 pc = .ok (.getfield 42, 3)) (k : sm_V G M R Z cells slots (pc + 3) lv (.int (F 0) :: st) (sm_om G h m F X A L)) : sm_V G M R Z cells slots pc lv (.ref m :: st) (sm_om G h m F X A L) := sv_get sm_cl6 hd (k := 0) (by decide) (hM ▸ sf_X6_42) om_0 rfl k
theorem om_put0 (v : Int32) : sm_up (sm_om G h m F X A L) m (.inr (6, ([.int (F 0), .ref (m + 1), .long (X 2), .ref (m + 2), .ref (m + 3), .int (F 5), .ref (m + 4), .ref (m + 5), .ref (m + 6), .ref (m + 7), .int (F 10), .ref (m + 8), .long (X 12), .ref (m + 9), .long (X 14), .int (F 15), .int (F 16), .int (F 17), .int (F 18), .int (F 19), .int (F 20), .int (F 21), .ref (m + 10), .int (F 23)] : List Value).set 0 (.int v))) = (sm_om G h m (va_up F 0 v) X A L) := by
  funext a; by_cases e : a = m
  · subst e; simp [sm_up, sm_om, va_up]
  · simp [sm_up, sm_om, e]
theorem rm_put0 {v : Int32} (hM : M.1.cls = RX6) (hd : decode M.2.1 pc = .ok (.putfield 42, 3)) (k : sm_V G M R Z cells slots (pc + 3) lv st (sm_om G h m (va_up F 0 v) X A L)) : sm_V G M R Z cells slots pc lv (.int v :: .ref m :: st) (sm_om G h m F X A L) := sv_put sm_cl6 hd (k := 0) (by decide) (hM ▸ sf_X6_42) rfl om_0 (Nat.le_of_ble_eq_true rfl) rfl rfl (sv_heap (om_put0 v) k)
theorem rm_get1 (hM : M.1.cls = RX6) (hd : decode M.2.1 pc = .ok (.getfield 7, 3)) (k : sm_V G M R Z cells slots (pc + 3) lv (.ref (m + 1) :: st) (sm_om G h m F X A L)) : sm_V G M R Z cells slots pc lv (.ref m :: st) (sm_om G h m F X A L) := sv_get sm_cl6 hd (k := 1) (by decide) (hM ▸ sf_X6_7) om_0 rfl k
theorem rm_ld1 {i : Nat} (hd : decode M.2.1 pc = .ok (.iaload, 1)) (hi : i < 69) (k : sm_V G M R Z cells slots (pc + 1) lv (.int (A 1 i) :: st) (sm_om G h m F X A L)) : sm_V G M R Z cells slots pc lv (.int (nI i) :: .ref (m + 1) :: st) (sm_om G h m F X A L) := sv_iaload hd om_1 (vp_in_nI hi (by omega)) (by rw [nI_clamp (by omega)]; exact k)
theorem om_st1 (i : Nat) (v : Int32) : sm_up (sm_om G h m F X A L) (m + 1) (sm_ai G 69 (upd (A 1) i v)) = (sm_om G h m F X (va_up A 1 (va_up (A 1) i v)) L) := by
  funext a; by_cases e : a = m + 1
  · subst e; simp [sm_up, sm_om, va_up]; rfl
  · simp [sm_up, sm_om, va_up, e]
theorem rm_st1 {i : Nat} {v : Int32} (hd : decode M.2.1 pc = .ok (.iastore, 1)) (hi : i < 69) (k : sm_V G M R Z cells slots (pc + 1) lv st (sm_om G h m F X (va_up A 1 (va_up (A 1) i v)) L)) : sm_V G M R Z cells slots pc lv (.int v :: .int (nI i) :: .ref (m + 1) :: st) (sm_om G h m F X A L) := sv_iastore hd om_1 (vp_in_nI hi (by omega)) (by rw [nI_clamp (by omega)]; exact sv_heap (om_st1 i v) k)
theorem rm_get2 (hM : M.1.cls = RX6) (hd : decode M.2.1 pc = .ok (.getfield 49, 3)) (k : sm_V G M R Z cells slots (pc + 3) lv (.long (X 2) :: st) (sm_om G h m F X A L)) : sm_V G M R Z cells slots pc lv (.ref m :: st) (sm_om G h m F X A L) := sv_get sm_cl6 hd (k := 2) (by decide) (hM ▸ sf_X6_49) om_0 rfl k
theorem om_put2 (v : Int64) : sm_up (sm_om G h m F X A L) m (.inr (6, ([.int (F 0), .ref (m + 1), .long (X 2), .ref (m + 2), .ref (m + 3), .int (F 5), .ref (m + 4), .ref (m + 5), .ref (m + 6), .ref (m + 7), .int (F 10), .ref (m + 8), .long (X 12), .ref (m + 9), .long (X 14), .int (F 15), .int (F 16), .int (F 17), .int (F 18), .int (F 19), .int (F 20), .int (F 21), .ref (m + 10), .int (F 23)] : List Value).set 2 (.long v))) = (sm_om G h m F (va_up X 2 v) A L) := by
  funext a; by_cases e : a = m
  · subst e; simp [sm_up, sm_om, va_up]
  · simp [sm_up, sm_om, e]
theorem rm_put2 {v : Int64} (hM : M.1.cls = RX6) (hd : decode M.2.1 pc = .ok (.putfield 49, 3)) (k : sm_V G M R Z cells slots (pc + 3) lv st (sm_om G h m F (va_up X 2 v) A L)) : sm_V G M R Z cells slots pc lv (.long v :: .ref m :: st) (sm_om G h m F X A L) := sv_put sm_cl6 hd (k := 2) (by decide) (hM ▸ sf_X6_49) rfl om_0 (Nat.le_of_ble_eq_true rfl) rfl rfl (sv_heap (om_put2 v) k)
theorem rm_get3 (hM : M.1.cls = RX6) (hd : decode M.2.1 pc = .ok (.getfield 13, 3)) (k : sm_V G M R Z cells slots (pc + 3) lv (.ref (m + 2) :: st) (sm_om G h m F X A L)) : sm_V G M R Z cells slots pc lv (.ref m :: st) (sm_om G h m F X A L) := sv_get sm_cl6 hd (k := 3) (by decide) (hM ▸ sf_X6_13) om_0 rfl k
theorem rm_ld3 {i : Nat} (hd : decode M.2.1 pc = .ok (.iaload, 1)) (hi : i < 966) (k : sm_V G M R Z cells slots (pc + 1) lv (.int (A 3 i) :: st) (sm_om G h m F X A L)) : sm_V G M R Z cells slots pc lv (.int (nI i) :: .ref (m + 2) :: st) (sm_om G h m F X A L) := sv_iaload hd om_3 (vp_in_nI hi (by omega)) (by rw [nI_clamp (by omega)]; exact k)
theorem om_st3 (i : Nat) (v : Int32) : sm_up (sm_om G h m F X A L) (m + 2) (sm_ai G 966 (upd (A 3) i v)) = (sm_om G h m F X (va_up A 3 (va_up (A 3) i v)) L) := by
  funext a; by_cases e : a = m + 2
  · subst e; simp [sm_up, sm_om, va_up]; rfl
  · simp [sm_up, sm_om, va_up, e]
theorem rm_st3 {i : Nat} {v : Int32} (hd : decode M.2.1 pc = .ok (.iastore, 1)) (hi : i < 966) (k : sm_V G M R Z cells slots (pc + 1) lv st (sm_om G h m F X (va_up A 3 (va_up (A 3) i v)) L)) : sm_V G M R Z cells slots pc lv (.int v :: .int (nI i) :: .ref (m + 2) :: st) (sm_om G h m F X A L) := sv_iastore hd om_3 (vp_in_nI hi (by omega)) (by rw [nI_clamp (by omega)]; exact sv_heap (om_st3 i v) k)
theorem rm_get4 (hM : M.1.cls = RX6) (hd : decode M.2.1 pc = .ok (.getfield 16, 3)) (k : sm_V G M R Z cells slots (pc + 3) lv (.ref (m + 3) :: st) (sm_om G h m F X A L)) : sm_V G M R Z cells slots pc lv (.ref m :: st) (sm_om G h m F X A L) := sv_get sm_cl6 hd (k := 4) (by decide) (hM ▸ sf_X6_16) om_0 rfl k
theorem rm_ld4 {i : Nat} (hd : decode M.2.1 pc = .ok (.laload, 1)) (hi : i < 14) (k : sm_V G M R Z cells slots (pc + 1) lv (.long (L 4 i) :: st) (sm_om G h m F X A L)) : sm_V G M R Z cells slots pc lv (.int (nI i) :: .ref (m + 3) :: st) (sm_om G h m F X A L) := sv_laload hd om_4 (vp_in_nI hi (by omega)) (by rw [nI_clamp (by omega)]; exact k)
theorem om_st4 (i : Nat) (v : Int64) : sm_up (sm_om G h m F X A L) (m + 3) (sm_aj G 14 (vp_updL (L 4) i v)) = (sm_om G h m F X A (va_up L 4 (va_up (L 4) i v))) := by
  funext a; by_cases e : a = m + 3
  · subst e; simp [sm_up, sm_om, va_up]; rfl
  · simp [sm_up, sm_om, va_up, e]
theorem rm_st4 {i : Nat} {v : Int64} (hd : decode M.2.1 pc = .ok (.lastore, 1)) (hi : i < 14) (k : sm_V G M R Z cells slots (pc + 1) lv st (sm_om G h m F X A (va_up L 4 (va_up (L 4) i v)))) : sm_V G M R Z cells slots pc lv (.long v :: .int (nI i) :: .ref (m + 3) :: st) (sm_om G h m F X A L) := sv_lastore hd om_4 (vp_in_nI hi (by omega)) (by rw [nI_clamp (by omega)]; exact sv_heap (om_st4 i v) k)
theorem rm_get5 (hM : M.1.cls = RX6) (hd : decode M.2.1 pc = .ok (.getfield 57, 3)) (k : sm_V G M R Z cells slots (pc + 3) lv (.int (F 5) :: st) (sm_om G h m F X A L)) : sm_V G M R Z cells slots pc lv (.ref m :: st) (sm_om G h m F X A L) := sv_get sm_cl6 hd (k := 5) (by decide) (hM ▸ sf_X6_57) om_0 rfl k
theorem om_put5 (v : Int32) : sm_up (sm_om G h m F X A L) m (.inr (6, ([.int (F 0), .ref (m + 1), .long (X 2), .ref (m + 2), .ref (m + 3), .int (F 5), .ref (m + 4), .ref (m + 5), .ref (m + 6), .ref (m + 7), .int (F 10), .ref (m + 8), .long (X 12), .ref (m + 9), .long (X 14), .int (F 15), .int (F 16), .int (F 17), .int (F 18), .int (F 19), .int (F 20), .int (F 21), .ref (m + 10), .int (F 23)] : List Value).set 5 (.int v))) = (sm_om G h m (va_up F 5 v) X A L) := by
  funext a; by_cases e : a = m
  · subst e; simp [sm_up, sm_om, va_up]
  · simp [sm_up, sm_om, e]
theorem rm_put5 {v : Int32} (hM : M.1.cls = RX6) (hd : decode M.2.1 pc = .ok (.putfield 57, 3)) (k : sm_V G M R Z cells slots (pc + 3) lv st (sm_om G h m (va_up F 5 v) X A L)) : sm_V G M R Z cells slots pc lv (.int v :: .ref m :: st) (sm_om G h m F X A L) := sv_put sm_cl6 hd (k := 5) (by decide) (hM ▸ sf_X6_57) rfl om_0 (Nat.le_of_ble_eq_true rfl) rfl rfl (sv_heap (om_put5 v) k)
theorem rm_get6 (hM : M.1.cls = RX6) (hd : decode M.2.1 pc = .ok (.getfield 20, 3)) (k : sm_V G M R Z cells slots (pc + 3) lv (.ref (m + 4) :: st) (sm_om G h m F X A L)) : sm_V G M R Z cells slots pc lv (.ref m :: st) (sm_om G h m F X A L) := sv_get sm_cl6 hd (k := 6) (by decide) (hM ▸ sf_X6_20) om_0 rfl k
theorem rm_ld6 {i : Nat} (hd : decode M.2.1 pc = .ok (.iaload, 1)) (hi : i < 138) (k : sm_V G M R Z cells slots (pc + 1) lv (.int (A 6 i) :: st) (sm_om G h m F X A L)) : sm_V G M R Z cells slots pc lv (.int (nI i) :: .ref (m + 4) :: st) (sm_om G h m F X A L) := sv_iaload hd om_6 (vp_in_nI hi (by omega)) (by rw [nI_clamp (by omega)]; exact k)
theorem om_st6 (i : Nat) (v : Int32) : sm_up (sm_om G h m F X A L) (m + 4) (sm_ai G 138 (upd (A 6) i v)) = (sm_om G h m F X (va_up A 6 (va_up (A 6) i v)) L) := by
  funext a; by_cases e : a = m + 4
  · subst e; simp [sm_up, sm_om, va_up]; rfl
  · simp [sm_up, sm_om, va_up, e]
theorem rm_st6 {i : Nat} {v : Int32} (hd : decode M.2.1 pc = .ok (.iastore, 1)) (hi : i < 138) (k : sm_V G M R Z cells slots (pc + 1) lv st (sm_om G h m F X (va_up A 6 (va_up (A 6) i v)) L)) : sm_V G M R Z cells slots pc lv (.int v :: .int (nI i) :: .ref (m + 4) :: st) (sm_om G h m F X A L) := sv_iastore hd om_6 (vp_in_nI hi (by omega)) (by rw [nI_clamp (by omega)]; exact sv_heap (om_st6 i v) k)
theorem rm_get7 (hM : M.1.cls = RX6) (hd : decode M.2.1 pc = .ok (.getfield 23, 3)) (k : sm_V G M R Z cells slots (pc + 3) lv (.ref (m + 5) :: st) (sm_om G h m F X A L)) : sm_V G M R Z cells slots pc lv (.ref m :: st) (sm_om G h m F X A L) := sv_get sm_cl6 hd (k := 7) (by decide) (hM ▸ sf_X6_23) om_0 rfl k
theorem rm_ld7 {i : Nat} (hd : decode M.2.1 pc = .ok (.laload, 1)) (hi : i < 2) (k : sm_V G M R Z cells slots (pc + 1) lv (.long (L 7 i) :: st) (sm_om G h m F X A L)) : sm_V G M R Z cells slots pc lv (.int (nI i) :: .ref (m + 5) :: st) (sm_om G h m F X A L) := sv_laload hd om_7 (vp_in_nI hi (by omega)) (by rw [nI_clamp (by omega)]; exact k)
theorem om_st7 (i : Nat) (v : Int64) : sm_up (sm_om G h m F X A L) (m + 5) (sm_aj G 2 (vp_updL (L 7) i v)) = (sm_om G h m F X A (va_up L 7 (va_up (L 7) i v))) := by
  funext a; by_cases e : a = m + 5
  · subst e; simp [sm_up, sm_om, va_up]; rfl
  · simp [sm_up, sm_om, va_up, e]
theorem rm_st7 {i : Nat} {v : Int64} (hd : decode M.2.1 pc = .ok (.lastore, 1)) (hi : i < 2) (k : sm_V G M R Z cells slots (pc + 1) lv st (sm_om G h m F X A (va_up L 7 (va_up (L 7) i v)))) : sm_V G M R Z cells slots pc lv (.long v :: .int (nI i) :: .ref (m + 5) :: st) (sm_om G h m F X A L) := sv_lastore hd om_7 (vp_in_nI hi (by omega)) (by rw [nI_clamp (by omega)]; exact sv_heap (om_st7 i v) k)
theorem rm_get8 (hM : M.1.cls = RX6) (hd : decode M.2.1 pc = .ok (.getfield 26, 3)) (k : sm_V G M R Z cells slots (pc + 3) lv (.ref (m + 6) :: st) (sm_om G h m F X A L)) : sm_V G M R Z cells slots pc lv (.ref m :: st) (sm_om G h m F X A L) := sv_get sm_cl6 hd (k := 8) (by decide) (hM ▸ sf_X6_26) om_0 rfl k
theorem rm_ld8 {i : Nat} (hd : decode M.2.1 pc = .ok (.baload, 1)) (hi : i < 2) (k : sm_V G M R Z cells slots (pc + 1) lv (.int (A 8 i) :: st) (sm_om G h m F X A L)) : sm_V G M R Z cells slots pc lv (.int (nI i) :: .ref (m + 6) :: st) (sm_om G h m F X A L) := sv_baload hd om_8 (vp_in_nI hi (by omega)) (by rw [nI_clamp (by omega)]; exact k)
theorem om_st8 (i : Nat) (v : Int32) : sm_up (sm_om G h m F X A L) (m + 6) (sm_az G 2 (upd (A 8) i (vp_nar .boolean v))) = (sm_om G h m F X (va_up A 8 (va_up (A 8) i (vp_nar .boolean v))) L) := by
  funext a; by_cases e : a = m + 6
  · subst e; simp [sm_up, sm_om, va_up]; rfl
  · simp [sm_up, sm_om, va_up, e]
theorem rm_st8 {i : Nat} {v : Int32} (hd : decode M.2.1 pc = .ok (.bastore, 1)) (hi : i < 2) (k : sm_V G M R Z cells slots (pc + 1) lv st (sm_om G h m F X (va_up A 8 (va_up (A 8) i (vp_nar .boolean v))) L)) : sm_V G M R Z cells slots pc lv (.int v :: .int (nI i) :: .ref (m + 6) :: st) (sm_om G h m F X A L) := sv_bastore hd om_8 (vp_in_nI hi (by omega)) (by rw [nI_clamp (by omega)]; exact sv_heap (om_st8 i v) k)
theorem rm_get9 (hM : M.1.cls = RX6) (hd : decode M.2.1 pc = .ok (.getfield 30, 3)) (k : sm_V G M R Z cells slots (pc + 3) lv (.ref (m + 7) :: st) (sm_om G h m F X A L)) : sm_V G M R Z cells slots pc lv (.ref m :: st) (sm_om G h m F X A L) := sv_get sm_cl6 hd (k := 9) (by decide) (hM ▸ sf_X6_30) om_0 rfl k
theorem rm_ld9 {i : Nat} (hd : decode M.2.1 pc = .ok (.iaload, 1)) (hi : i < 120) (k : sm_V G M R Z cells slots (pc + 1) lv (.int (A 9 i) :: st) (sm_om G h m F X A L)) : sm_V G M R Z cells slots pc lv (.int (nI i) :: .ref (m + 7) :: st) (sm_om G h m F X A L) := sv_iaload hd om_9 (vp_in_nI hi (by omega)) (by rw [nI_clamp (by omega)]; exact k)
theorem om_st9 (i : Nat) (v : Int32) : sm_up (sm_om G h m F X A L) (m + 7) (sm_ai G 120 (upd (A 9) i v)) = (sm_om G h m F X (va_up A 9 (va_up (A 9) i v)) L) := by
  funext a; by_cases e : a = m + 7
  · subst e; simp [sm_up, sm_om, va_up]; rfl
  · simp [sm_up, sm_om, va_up, e]
theorem rm_st9 {i : Nat} {v : Int32} (hd : decode M.2.1 pc = .ok (.iastore, 1)) (hi : i < 120) (k : sm_V G M R Z cells slots (pc + 1) lv st (sm_om G h m F X (va_up A 9 (va_up (A 9) i v)) L)) : sm_V G M R Z cells slots pc lv (.int v :: .int (nI i) :: .ref (m + 7) :: st) (sm_om G h m F X A L) := sv_iastore hd om_9 (vp_in_nI hi (by omega)) (by rw [nI_clamp (by omega)]; exact sv_heap (om_st9 i v) k)
theorem rm_get10 (hM : M.1.cls = RX6) (hd : decode M.2.1 pc = .ok (.getfield 170, 3)) (k : sm_V G M R Z cells slots (pc + 3) lv (.int (F 10) :: st) (sm_om G h m F X A L)) : sm_V G M R Z cells slots pc lv (.ref m :: st) (sm_om G h m F X A L) := sv_get sm_cl6 hd (k := 10) (by decide) (hM ▸ sf_X6_170) om_0 rfl k
theorem om_put10 (v : Int32) : sm_up (sm_om G h m F X A L) m (.inr (6, ([.int (F 0), .ref (m + 1), .long (X 2), .ref (m + 2), .ref (m + 3), .int (F 5), .ref (m + 4), .ref (m + 5), .ref (m + 6), .ref (m + 7), .int (F 10), .ref (m + 8), .long (X 12), .ref (m + 9), .long (X 14), .int (F 15), .int (F 16), .int (F 17), .int (F 18), .int (F 19), .int (F 20), .int (F 21), .ref (m + 10), .int (F 23)] : List Value).set 10 (.int v))) = (sm_om G h m (va_up F 10 v) X A L) := by
  funext a; by_cases e : a = m
  · subst e; simp [sm_up, sm_om, va_up]
  · simp [sm_up, sm_om, e]
theorem rm_put10 {v : Int32} (hM : M.1.cls = RX6) (hd : decode M.2.1 pc = .ok (.putfield 170, 3)) (k : sm_V G M R Z cells slots (pc + 3) lv st (sm_om G h m (va_up F 10 v) X A L)) : sm_V G M R Z cells slots pc lv (.int v :: .ref m :: st) (sm_om G h m F X A L) := sv_put sm_cl6 hd (k := 10) (by decide) (hM ▸ sf_X6_170) rfl om_0 (Nat.le_of_ble_eq_true rfl) rfl rfl (sv_heap (om_put10 v) k)
theorem rm_get11 (hM : M.1.cls = RX6) (hd : decode M.2.1 pc = .ok (.getfield 33, 3)) (k : sm_V G M R Z cells slots (pc + 3) lv (.ref (m + 8) :: st) (sm_om G h m F X A L)) : sm_V G M R Z cells slots pc lv (.ref m :: st) (sm_om G h m F X A L) := sv_get sm_cl6 hd (k := 11) (by decide) (hM ▸ sf_X6_33) om_0 rfl k
theorem rm_ld11 {i : Nat} (hd : decode M.2.1 pc = .ok (.iaload, 1)) (hi : i < 69) (k : sm_V G M R Z cells slots (pc + 1) lv (.int (A 11 i) :: st) (sm_om G h m F X A L)) : sm_V G M R Z cells slots pc lv (.int (nI i) :: .ref (m + 8) :: st) (sm_om G h m F X A L) := sv_iaload hd om_11 (vp_in_nI hi (by omega)) (by rw [nI_clamp (by omega)]; exact k)
theorem om_st11 (i : Nat) (v : Int32) : sm_up (sm_om G h m F X A L) (m + 8) (sm_ai G 69 (upd (A 11) i v)) = (sm_om G h m F X (va_up A 11 (va_up (A 11) i v)) L) := by
  funext a; by_cases e : a = m + 8
  · subst e; simp [sm_up, sm_om, va_up]; rfl
  · simp [sm_up, sm_om, va_up, e]
theorem rm_st11 {i : Nat} {v : Int32} (hd : decode M.2.1 pc = .ok (.iastore, 1)) (hi : i < 69) (k : sm_V G M R Z cells slots (pc + 1) lv st (sm_om G h m F X (va_up A 11 (va_up (A 11) i v)) L)) : sm_V G M R Z cells slots pc lv (.int v :: .int (nI i) :: .ref (m + 8) :: st) (sm_om G h m F X A L) := sv_iastore hd om_11 (vp_in_nI hi (by omega)) (by rw [nI_clamp (by omega)]; exact sv_heap (om_st11 i v) k)
theorem rm_get12 (hM : M.1.cls = RX6) (hd : decode M.2.1 pc = .ok (.getfield 60, 3)) (k : sm_V G M R Z cells slots (pc + 3) lv (.long (X 12) :: st) (sm_om G h m F X A L)) : sm_V G M R Z cells slots pc lv (.ref m :: st) (sm_om G h m F X A L) := sv_get sm_cl6 hd (k := 12) (by decide) (hM ▸ sf_X6_60) om_0 rfl k
theorem om_put12 (v : Int64) : sm_up (sm_om G h m F X A L) m (.inr (6, ([.int (F 0), .ref (m + 1), .long (X 2), .ref (m + 2), .ref (m + 3), .int (F 5), .ref (m + 4), .ref (m + 5), .ref (m + 6), .ref (m + 7), .int (F 10), .ref (m + 8), .long (X 12), .ref (m + 9), .long (X 14), .int (F 15), .int (F 16), .int (F 17), .int (F 18), .int (F 19), .int (F 20), .int (F 21), .ref (m + 10), .int (F 23)] : List Value).set 12 (.long v))) = (sm_om G h m F (va_up X 12 v) A L) := by
  funext a; by_cases e : a = m
  · subst e; simp [sm_up, sm_om, va_up]
  · simp [sm_up, sm_om, e]
theorem rm_put12 {v : Int64} (hM : M.1.cls = RX6) (hd : decode M.2.1 pc = .ok (.putfield 60, 3)) (k : sm_V G M R Z cells slots (pc + 3) lv st (sm_om G h m F (va_up X 12 v) A L)) : sm_V G M R Z cells slots pc lv (.long v :: .ref m :: st) (sm_om G h m F X A L) := sv_put sm_cl6 hd (k := 12) (by decide) (hM ▸ sf_X6_60) rfl om_0 (Nat.le_of_ble_eq_true rfl) rfl rfl (sv_heap (om_put12 v) k)
theorem rm_get13 (hM : M.1.cls = RX6) (hd : decode M.2.1 pc = .ok (.getfield 36, 3)) (k : sm_V G M R Z cells slots (pc + 3) lv (.ref (m + 9) :: st) (sm_om G h m F X A L)) : sm_V G M R Z cells slots pc lv (.ref m :: st) (sm_om G h m F X A L) := sv_get sm_cl6 hd (k := 13) (by decide) (hM ▸ sf_X6_36) om_0 rfl k
theorem rm_ld13 {i : Nat} (hd : decode M.2.1 pc = .ok (.iaload, 1)) (hi : i < 69) (k : sm_V G M R Z cells slots (pc + 1) lv (.int (A 13 i) :: st) (sm_om G h m F X A L)) : sm_V G M R Z cells slots pc lv (.int (nI i) :: .ref (m + 9) :: st) (sm_om G h m F X A L) := sv_iaload hd om_13 (vp_in_nI hi (by omega)) (by rw [nI_clamp (by omega)]; exact k)
theorem om_st13 (i : Nat) (v : Int32) : sm_up (sm_om G h m F X A L) (m + 9) (sm_ai G 69 (upd (A 13) i v)) = (sm_om G h m F X (va_up A 13 (va_up (A 13) i v)) L) := by
  funext a; by_cases e : a = m + 9
  · subst e; simp [sm_up, sm_om, va_up]; rfl
  · simp [sm_up, sm_om, va_up, e]
theorem rm_st13 {i : Nat} {v : Int32} (hd : decode M.2.1 pc = .ok (.iastore, 1)) (hi : i < 69) (k : sm_V G M R Z cells slots (pc + 1) lv st (sm_om G h m F X (va_up A 13 (va_up (A 13) i v)) L)) : sm_V G M R Z cells slots pc lv (.int v :: .int (nI i) :: .ref (m + 9) :: st) (sm_om G h m F X A L) := sv_iastore hd om_13 (vp_in_nI hi (by omega)) (by rw [nI_clamp (by omega)]; exact sv_heap (om_st13 i v) k)
theorem rm_get14 (hM : M.1.cls = RX6) (hd : decode M.2.1 pc = .ok (.getfield 63, 3)) (k : sm_V G M R Z cells slots (pc + 3) lv (.long (X 14) :: st) (sm_om G h m F X A L)) : sm_V G M R Z cells slots pc lv (.ref m :: st) (sm_om G h m F X A L) := sv_get sm_cl6 hd (k := 14) (by decide) (hM ▸ sf_X6_63) om_0 rfl k
theorem om_put14 (v : Int64) : sm_up (sm_om G h m F X A L) m (.inr (6, ([.int (F 0), .ref (m + 1), .long (X 2), .ref (m + 2), .ref (m + 3), .int (F 5), .ref (m + 4), .ref (m + 5), .ref (m + 6), .ref (m + 7), .int (F 10), .ref (m + 8), .long (X 12), .ref (m + 9), .long (X 14), .int (F 15), .int (F 16), .int (F 17), .int (F 18), .int (F 19), .int (F 20), .int (F 21), .ref (m + 10), .int (F 23)] : List Value).set 14 (.long v))) = (sm_om G h m F (va_up X 14 v) A L) := by
  funext a; by_cases e : a = m
  · subst e; simp [sm_up, sm_om, va_up]
  · simp [sm_up, sm_om, e]
theorem rm_put14 {v : Int64} (hM : M.1.cls = RX6) (hd : decode M.2.1 pc = .ok (.putfield 63, 3)) (k : sm_V G M R Z cells slots (pc + 3) lv st (sm_om G h m F (va_up X 14 v) A L)) : sm_V G M R Z cells slots pc lv (.long v :: .ref m :: st) (sm_om G h m F X A L) := sv_put sm_cl6 hd (k := 14) (by decide) (hM ▸ sf_X6_63) rfl om_0 (Nat.le_of_ble_eq_true rfl) rfl rfl (sv_heap (om_put14 v) k)
theorem rm_get15 (hM : M.1.cls = RX6) (hd : decode M.2.1 pc = .ok (.getfield 143, 3)) (k : sm_V G M R Z cells slots (pc + 3) lv (.int (F 15) :: st) (sm_om G h m F X A L)) : sm_V G M R Z cells slots pc lv (.ref m :: st) (sm_om G h m F X A L) := sv_get sm_cl6 hd (k := 15) (by decide) (hM ▸ sf_X6_143) om_0 rfl k
theorem om_put15 (v : Int32) : sm_up (sm_om G h m F X A L) m (.inr (6, ([.int (F 0), .ref (m + 1), .long (X 2), .ref (m + 2), .ref (m + 3), .int (F 5), .ref (m + 4), .ref (m + 5), .ref (m + 6), .ref (m + 7), .int (F 10), .ref (m + 8), .long (X 12), .ref (m + 9), .long (X 14), .int (F 15), .int (F 16), .int (F 17), .int (F 18), .int (F 19), .int (F 20), .int (F 21), .ref (m + 10), .int (F 23)] : List Value).set 15 (.int v))) = (sm_om G h m (va_up F 15 v) X A L) := by
  funext a; by_cases e : a = m
  · subst e; simp [sm_up, sm_om, va_up]
  · simp [sm_up, sm_om, e]
theorem rm_put15 {v : Int32} (hM : M.1.cls = RX6) (hd : decode M.2.1 pc = .ok (.putfield 143, 3)) (k : sm_V G M R Z cells slots (pc + 3) lv st (sm_om G h m (va_up F 15 v) X A L)) : sm_V G M R Z cells slots pc lv (.int v :: .ref m :: st) (sm_om G h m F X A L) := sv_put sm_cl6 hd (k := 15) (by decide) (hM ▸ sf_X6_143) rfl om_0 (Nat.le_of_ble_eq_true rfl) rfl rfl (sv_heap (om_put15 v) k)
theorem rm_get16 (hM : M.1.cls = RX6) (hd : decode M.2.1 pc = .ok (.getfield 146, 3)) (k : sm_V G M R Z cells slots (pc + 3) lv (.int (F 16) :: st) (sm_om G h m F X A L)) : sm_V G M R Z cells slots pc lv (.ref m :: st) (sm_om G h m F X A L) := sv_get sm_cl6 hd (k := 16) (by decide) (hM ▸ sf_X6_146) om_0 rfl k
theorem om_put16 (v : Int32) : sm_up (sm_om G h m F X A L) m (.inr (6, ([.int (F 0), .ref (m + 1), .long (X 2), .ref (m + 2), .ref (m + 3), .int (F 5), .ref (m + 4), .ref (m + 5), .ref (m + 6), .ref (m + 7), .int (F 10), .ref (m + 8), .long (X 12), .ref (m + 9), .long (X 14), .int (F 15), .int (F 16), .int (F 17), .int (F 18), .int (F 19), .int (F 20), .int (F 21), .ref (m + 10), .int (F 23)] : List Value).set 16 (.int v))) = (sm_om G h m (va_up F 16 v) X A L) := by
  funext a; by_cases e : a = m
  · subst e; simp [sm_up, sm_om, va_up]
  · simp [sm_up, sm_om, e]
theorem rm_put16 {v : Int32} (hM : M.1.cls = RX6) (hd : decode M.2.1 pc = .ok (.putfield 146, 3)) (k : sm_V G M R Z cells slots (pc + 3) lv st (sm_om G h m (va_up F 16 v) X A L)) : sm_V G M R Z cells slots pc lv (.int v :: .ref m :: st) (sm_om G h m F X A L) := sv_put sm_cl6 hd (k := 16) (by decide) (hM ▸ sf_X6_146) rfl om_0 (Nat.le_of_ble_eq_true rfl) rfl rfl (sv_heap (om_put16 v) k)
theorem rm_get17 (hM : M.1.cls = RX6) (hd : decode M.2.1 pc = .ok (.getfield 149, 3)) (k : sm_V G M R Z cells slots (pc + 3) lv (.int (F 17) :: st) (sm_om G h m F X A L)) : sm_V G M R Z cells slots pc lv (.ref m :: st) (sm_om G h m F X A L) := sv_get sm_cl6 hd (k := 17) (by decide) (hM ▸ sf_X6_149) om_0 rfl k
theorem om_put17 (v : Int32) : sm_up (sm_om G h m F X A L) m (.inr (6, ([.int (F 0), .ref (m + 1), .long (X 2), .ref (m + 2), .ref (m + 3), .int (F 5), .ref (m + 4), .ref (m + 5), .ref (m + 6), .ref (m + 7), .int (F 10), .ref (m + 8), .long (X 12), .ref (m + 9), .long (X 14), .int (F 15), .int (F 16), .int (F 17), .int (F 18), .int (F 19), .int (F 20), .int (F 21), .ref (m + 10), .int (F 23)] : List Value).set 17 (.int v))) = (sm_om G h m (va_up F 17 v) X A L) := by
  funext a; by_cases e : a = m
  · subst e; simp [sm_up, sm_om, va_up]
  · simp [sm_up, sm_om, e]
theorem rm_put17 {v : Int32} (hM : M.1.cls = RX6) (hd : decode M.2.1 pc = .ok (.putfield 149, 3)) (k : sm_V G M R Z cells slots (pc + 3) lv st (sm_om G h m (va_up F 17 v) X A L)) : sm_V G M R Z cells slots pc lv (.int v :: .ref m :: st) (sm_om G h m F X A L) := sv_put sm_cl6 hd (k := 17) (by decide) (hM ▸ sf_X6_149) rfl om_0 (Nat.le_of_ble_eq_true rfl) rfl rfl (sv_heap (om_put17 v) k)
theorem rm_get18 (hM : M.1.cls = RX6) (hd : decode M.2.1 pc = .ok (.getfield 173, 3)) (k : sm_V G M R Z cells slots (pc + 3) lv (.int (F 18) :: st) (sm_om G h m F X A L)) : sm_V G M R Z cells slots pc lv (.ref m :: st) (sm_om G h m F X A L) := sv_get sm_cl6 hd (k := 18) (by decide) (hM ▸ sf_X6_173) om_0 rfl k
theorem om_put18 (v : Int32) : sm_up (sm_om G h m F X A L) m (.inr (6, ([.int (F 0), .ref (m + 1), .long (X 2), .ref (m + 2), .ref (m + 3), .int (F 5), .ref (m + 4), .ref (m + 5), .ref (m + 6), .ref (m + 7), .int (F 10), .ref (m + 8), .long (X 12), .ref (m + 9), .long (X 14), .int (F 15), .int (F 16), .int (F 17), .int (F 18), .int (F 19), .int (F 20), .int (F 21), .ref (m + 10), .int (F 23)] : List Value).set 18 (.int v))) = (sm_om G h m (va_up F 18 v) X A L) := by
  funext a; by_cases e : a = m
  · subst e; simp [sm_up, sm_om, va_up]
  · simp [sm_up, sm_om, e]
theorem rm_put18 {v : Int32} (hM : M.1.cls = RX6) (hd : decode M.2.1 pc = .ok (.putfield 173, 3)) (k : sm_V G M R Z cells slots (pc + 3) lv st (sm_om G h m (va_up F 18 v) X A L)) : sm_V G M R Z cells slots pc lv (.int v :: .ref m :: st) (sm_om G h m F X A L) := sv_put sm_cl6 hd (k := 18) (by decide) (hM ▸ sf_X6_173) rfl om_0 (Nat.le_of_ble_eq_true rfl) rfl rfl (sv_heap (om_put18 v) k)
theorem rm_get19 (hM : M.1.cls = RX6) (hd : decode M.2.1 pc = .ok (.getfield 176, 3)) (k : sm_V G M R Z cells slots (pc + 3) lv (.int (F 19) :: st) (sm_om G h m F X A L)) : sm_V G M R Z cells slots pc lv (.ref m :: st) (sm_om G h m F X A L) := sv_get sm_cl6 hd (k := 19) (by decide) (hM ▸ sf_X6_176) om_0 rfl k
theorem om_put19 (v : Int32) : sm_up (sm_om G h m F X A L) m (.inr (6, ([.int (F 0), .ref (m + 1), .long (X 2), .ref (m + 2), .ref (m + 3), .int (F 5), .ref (m + 4), .ref (m + 5), .ref (m + 6), .ref (m + 7), .int (F 10), .ref (m + 8), .long (X 12), .ref (m + 9), .long (X 14), .int (F 15), .int (F 16), .int (F 17), .int (F 18), .int (F 19), .int (F 20), .int (F 21), .ref (m + 10), .int (F 23)] : List Value).set 19 (.int v))) = (sm_om G h m (va_up F 19 v) X A L) := by
  funext a; by_cases e : a = m
  · subst e; simp [sm_up, sm_om, va_up]
  · simp [sm_up, sm_om, e]
theorem rm_put19 {v : Int32} (hM : M.1.cls = RX6) (hd : decode M.2.1 pc = .ok (.putfield 176, 3)) (hv : narrow .boolean (.int v) = .int v) (hf : fits .boolean (.int v) = true) (k : sm_V G M R Z cells slots (pc + 3) lv st (sm_om G h m (va_up F 19 v) X A L)) : sm_V G M R Z cells slots pc lv (.int v :: .ref m :: st) (sm_om G h m F X A L) := sv_put sm_cl6 hd (k := 19) (by decide) (hM ▸ sf_X6_176) rfl om_0 (Nat.le_of_ble_eq_true rfl) hv hf (sv_heap (om_put19 v) k)
theorem rm_get20 (hM : M.1.cls = RX6) (hd : decode M.2.1 pc = .ok (.getfield 193, 3)) (k : sm_V G M R Z cells slots (pc + 3) lv (.int (F 20) :: st) (sm_om G h m F X A L)) : sm_V G M R Z cells slots pc lv (.ref m :: st) (sm_om G h m F X A L) := sv_get sm_cl6 hd (k := 20) (by decide) (hM ▸ sf_X6_193) om_0 rfl k
theorem om_put20 (v : Int32) : sm_up (sm_om G h m F X A L) m (.inr (6, ([.int (F 0), .ref (m + 1), .long (X 2), .ref (m + 2), .ref (m + 3), .int (F 5), .ref (m + 4), .ref (m + 5), .ref (m + 6), .ref (m + 7), .int (F 10), .ref (m + 8), .long (X 12), .ref (m + 9), .long (X 14), .int (F 15), .int (F 16), .int (F 17), .int (F 18), .int (F 19), .int (F 20), .int (F 21), .ref (m + 10), .int (F 23)] : List Value).set 20 (.int v))) = (sm_om G h m (va_up F 20 v) X A L) := by
  funext a; by_cases e : a = m
  · subst e; simp [sm_up, sm_om, va_up]
  · simp [sm_up, sm_om, e]
theorem rm_put20 {v : Int32} (hM : M.1.cls = RX6) (hd : decode M.2.1 pc = .ok (.putfield 193, 3)) (k : sm_V G M R Z cells slots (pc + 3) lv st (sm_om G h m (va_up F 20 v) X A L)) : sm_V G M R Z cells slots pc lv (.int v :: .ref m :: st) (sm_om G h m F X A L) := sv_put sm_cl6 hd (k := 20) (by decide) (hM ▸ sf_X6_193) rfl om_0 (Nat.le_of_ble_eq_true rfl) rfl rfl (sv_heap (om_put20 v) k)
theorem rm_get21 (hM : M.1.cls = RX6) (hd : decode M.2.1 pc = .ok (.getfield 196, 3)) (k : sm_V G M R Z cells slots (pc + 3) lv (.int (F 21) :: st) (sm_om G h m F X A L)) : sm_V G M R Z cells slots pc lv (.ref m :: st) (sm_om G h m F X A L) := sv_get sm_cl6 hd (k := 21) (by decide) (hM ▸ sf_X6_196) om_0 rfl k
theorem om_put21 (v : Int32) : sm_up (sm_om G h m F X A L) m (.inr (6, ([.int (F 0), .ref (m + 1), .long (X 2), .ref (m + 2), .ref (m + 3), .int (F 5), .ref (m + 4), .ref (m + 5), .ref (m + 6), .ref (m + 7), .int (F 10), .ref (m + 8), .long (X 12), .ref (m + 9), .long (X 14), .int (F 15), .int (F 16), .int (F 17), .int (F 18), .int (F 19), .int (F 20), .int (F 21), .ref (m + 10), .int (F 23)] : List Value).set 21 (.int v))) = (sm_om G h m (va_up F 21 v) X A L) := by
  funext a; by_cases e : a = m
  · subst e; simp [sm_up, sm_om, va_up]
  · simp [sm_up, sm_om, e]
theorem rm_put21 {v : Int32} (hM : M.1.cls = RX6) (hd : decode M.2.1 pc = .ok (.putfield 196, 3)) (k : sm_V G M R Z cells slots (pc + 3) lv st (sm_om G h m (va_up F 21 v) X A L)) : sm_V G M R Z cells slots pc lv (.int v :: .ref m :: st) (sm_om G h m F X A L) := sv_put sm_cl6 hd (k := 21) (by decide) (hM ▸ sf_X6_196) rfl om_0 (Nat.le_of_ble_eq_true rfl) rfl rfl (sv_heap (om_put21 v) k)
theorem rm_get22 (hM : M.1.cls = RX6) (hd : decode M.2.1 pc = .ok (.getfield 39, 3)) (k : sm_V G M R Z cells slots (pc + 3) lv (.ref (m + 10) :: st) (sm_om G h m F X A L)) : sm_V G M R Z cells slots pc lv (.ref m :: st) (sm_om G h m F X A L) := sv_get sm_cl6 hd (k := 22) (by decide) (hM ▸ sf_X6_39) om_0 rfl k
theorem rm_ld22 {i : Nat} (hd : decode M.2.1 pc = .ok (.iaload, 1)) (hi : i < 240) (k : sm_V G M R Z cells slots (pc + 1) lv (.int (A 22 i) :: st) (sm_om G h m F X A L)) : sm_V G M R Z cells slots pc lv (.int (nI i) :: .ref (m + 10) :: st) (sm_om G h m F X A L) := sv_iaload hd om_22 (vp_in_nI hi (by omega)) (by rw [nI_clamp (by omega)]; exact k)
theorem om_st22 (i : Nat) (v : Int32) : sm_up (sm_om G h m F X A L) (m + 10) (sm_ai G 240 (upd (A 22) i v)) = (sm_om G h m F X (va_up A 22 (va_up (A 22) i v)) L) := by
  funext a; by_cases e : a = m + 10
  · subst e; simp [sm_up, sm_om, va_up]; rfl
  · simp [sm_up, sm_om, va_up, e]
theorem rm_st22 {i : Nat} {v : Int32} (hd : decode M.2.1 pc = .ok (.iastore, 1)) (hi : i < 240) (k : sm_V G M R Z cells slots (pc + 1) lv st (sm_om G h m F X (va_up A 22 (va_up (A 22) i v)) L)) : sm_V G M R Z cells slots pc lv (.int v :: .int (nI i) :: .ref (m + 10) :: st) (sm_om G h m F X A L) := sv_iastore hd om_22 (vp_in_nI hi (by omega)) (by rw [nI_clamp (by omega)]; exact sv_heap (om_st22 i v) k)
theorem rm_get23 (hM : M.1.cls = RX6) (hd : decode M.2.1 pc = .ok (.getfield 190, 3)) (k : sm_V G M R Z cells slots (pc + 3) lv (.int (F 23) :: st) (sm_om G h m F X A L)) : sm_V G M R Z cells slots pc lv (.ref m :: st) (sm_om G h m F X A L) := sv_get sm_cl6 hd (k := 23) (by decide) (hM ▸ sf_X6_190) om_0 rfl k
theorem om_put23 (v : Int32) : sm_up (sm_om G h m F X A L) m (.inr (6, ([.int (F 0), .ref (m + 1), .long (X 2), .ref (m + 2), .ref (m + 3), .int (F 5), .ref (m + 4), .ref (m + 5), .ref (m + 6), .ref (m + 7), .int (F 10), .ref (m + 8), .long (X 12), .ref (m + 9), .long (X 14), .int (F 15), .int (F 16), .int (F 17), .int (F 18), .int (F 19), .int (F 20), .int (F 21), .ref (m + 10), .int (F 23)] : List Value).set 23 (.int v))) = (sm_om G h m (va_up F 23 v) X A L) := by
  funext a; by_cases e : a = m
  · subst e; simp [sm_up, sm_om, va_up]
  · simp [sm_up, sm_om, e]
theorem rm_put23 {v : Int32} (hM : M.1.cls = RX6) (hd : decode M.2.1 pc = .ok (.putfield 190, 3)) (k : sm_V G M R Z cells slots (pc + 3) lv st (sm_om G h m (va_up F 23 v) X A L)) : sm_V G M R Z cells slots pc lv (.int v :: .ref m :: st) (sm_om G h m F X A L) := sv_put sm_cl6 hd (k := 23) (by decide) (hM ▸ sf_X6_190) rfl om_0 (Nat.le_of_ble_eq_true rfl) rfl rfl (sv_heap (om_put23 v) k)
/-- the state's row, in natural numbers -/
def sm_as (A : Nat → Nat → Int32) (S : Nat → Nat) : Nat → Nat → Int32 := va_up A 1 (fun j => nI (S j))
theorem as_up (A : Nat → Nat → Int32) (S : Nat → Nat) (i v : Nat) : va_up (sm_as A S) 1 (va_up (sm_as A S 1) i (nI v)) = sm_as A (va_up S i v) := by
  funext a j
  by_cases e : a = 1
  · subst e
    by_cases e2 : j = i
    · subst e2; simp [sm_as, va_up]
    · simp [sm_as, va_up, e2]
  · simp [sm_as, va_up, e]
theorem rm_ld1N {S : Nat → Nat} {i : Nat} (hd : decode M.2.1 pc = .ok (.iaload, 1)) (hi : i < 69) (k : sm_V G M R Z cells slots (pc + 1) lv (.int (nI (S i)) :: st) (sm_om G h m F X (sm_as A S) L)) : sm_V G M R Z cells slots pc lv (.int (nI i) :: .ref (m + 1) :: st) (sm_om G h m F X (sm_as A S) L) := rm_ld1 hd hi (by rw [show sm_as A S 1 i = nI (S i) by simp [sm_as, va_up]]; exact k)
theorem rm_st1N {S : Nat → Nat} {i v : Nat} (hd : decode M.2.1 pc = .ok (.iastore, 1)) (hi : i < 69) (k : sm_V G M R Z cells slots (pc + 1) lv st (sm_om G h m F X (sm_as A (va_up S i v)) L)) : sm_V G M R Z cells slots pc lv (.int (nI v) :: .int (nI i) :: .ref (m + 1) :: st) (sm_om G h m F X (sm_as A S) L) := rm_st1 hd hi (by rw [as_up]; exact k)
end SOM
