section CCO
variable {G : sm_G} {M : sm_M} {R : Room} {Z : sm_Z} {cells slots pc index : Nat} {lv : List (Nat × Value)} {st : List Value} {h : sm_H} {a g n p q v w : Nat} {P P2 : Nat → Nat} {O : Nat → Nat} {c : Nat} {S S2 : gm_S} {x x2 : Int64} {B B2 : Nat → Int32}
def cl_pf (a : Nat) (P : Nat → Nat) : List Value := [.ref (a + 1), .int (nI (P 0)), .int (nI (P 4)), .int (nI (P 5)), .int (nI (P 6)), .int (nI (b2n (decide (P 7 ≠ 0))))]
def cl_pg (P : Nat → Nat) : Nat → Int32 := fun j => if j < 3 then nI (P (1 + j)) else 0
/-- a player at a: coins 0, goods 1 to 3, room 4, workers 5, at hand 6, passed 7 -/
def cl_p (G : sm_G) (h : sm_H) (a : Nat) (P : Nat → Nat) : sm_H := fun b => if b = a then some (.inr (3, cl_pf a P)) else if b = a + 1 then some (sm_ai G 3 (cl_pg P)) else h b
def cl_hp (G : sm_G) (h : sm_H) (a : Nat) (P : Nat → Nat) : Prop := h a = some (.inr (3, cl_pf a P)) ∧ h (a + 1) = some (sm_ai G 3 (cl_pg P))
theorem pl_h : cl_hp G (cl_p G h a P) a P := by
  refine ⟨?_, ?_⟩
  · unfold cl_p; rw [if_pos rfl]
  · unfold cl_p; rw [if_neg (by omega), if_pos rfl]
theorem pl_self (hp : cl_hp G h a P) : h = cl_p G h a P := by
  funext b; unfold cl_p
  split
  · rename_i e; subst e; exact hp.1
  split
  · rename_i e; subst e; exact hp.2
  rfl
theorem pl_pl : cl_p G (cl_p G h a P) a P2 = cl_p G h a P2 := by
  funext b; unfold cl_p; split
  · rfl
  split <;> rfl
theorem pf_eq (e : ∀ w, w < 7 → P w = P2 w) (e7 : P 7 = 0 ↔ P2 7 = 0) : cl_pf a P = cl_pf a P2 := by
  unfold cl_pf; rw [e 0 (by omega), e 4 (by omega), e 5 (by omega), e 6 (by omega), show (decide (P 7 ≠ 0)) = decide (P2 7 ≠ 0) by simp [e7]]
theorem pg_eq (e : ∀ w, w < 7 → P w = P2 w) : cl_pg P = cl_pg P2 := by
  funext j; unfold cl_pg; split
  · rw [e _ (by omega)]
  · rfl
theorem pl_eq7 (e : ∀ w, w < 7 → P w = P2 w) (e7 : P 7 = 0 ↔ P2 7 = 0) : cl_p G h a P = cl_p G h a P2 := by
  unfold cl_p; rw [pf_eq e e7, pg_eq e]
theorem pl_eq (e : ∀ w, w < 8 → P w = P2 w) : cl_p G h a P = cl_p G h a P2 := pl_eq7 (fun w hw => e w (by omega)) (by rw [e 7 (by omega)])
theorem pg_at2 (hj : w = 0 ∨ 4 ≤ w) : cl_pg (va_up P w v) = cl_pg P := by
  funext j; unfold cl_pg; split
  · rw [up_ne (by omega)]
  · rfl
theorem pg_at (hg : g < 3) : cl_pg P g = nI (P (1 + g)) := if_pos hg
theorem kp_g0 (hp : cl_hp G h a P) (hd : decode M.2.1 pc = .ok (.getfield index, 3)) (hw : sm_fl M.1.cls index 0 TX3) (k : sm_V G M R Z cells slots (pc + 3) lv (.ref (a + 1) :: st) h) : sm_V G M R Z cells slots pc lv (.ref a :: st) h := sv_get sm_cl3 hd (k := 0) (by decide) hw hp.1 rfl k
theorem kp_g1 (hp : cl_hp G h a P) (hd : decode M.2.1 pc = .ok (.getfield index, 3)) (hw : sm_fl M.1.cls index 1 TX3) (k : sm_V G M R Z cells slots (pc + 3) lv (.int (nI (P 0)) :: st) h) : sm_V G M R Z cells slots pc lv (.ref a :: st) h := sv_get sm_cl3 hd (k := 1) (by decide) hw hp.1 rfl k
theorem kp_g2 (hp : cl_hp G h a P) (hd : decode M.2.1 pc = .ok (.getfield index, 3)) (hw : sm_fl M.1.cls index 2 TX3) (k : sm_V G M R Z cells slots (pc + 3) lv (.int (nI (P 4)) :: st) h) : sm_V G M R Z cells slots pc lv (.ref a :: st) h := sv_get sm_cl3 hd (k := 2) (by decide) hw hp.1 rfl k
theorem kp_g3 (hp : cl_hp G h a P) (hd : decode M.2.1 pc = .ok (.getfield index, 3)) (hw : sm_fl M.1.cls index 3 TX3) (k : sm_V G M R Z cells slots (pc + 3) lv (.int (nI (P 5)) :: st) h) : sm_V G M R Z cells slots pc lv (.ref a :: st) h := sv_get sm_cl3 hd (k := 3) (by decide) hw hp.1 rfl k
theorem kp_g4 (hp : cl_hp G h a P) (hd : decode M.2.1 pc = .ok (.getfield index, 3)) (hw : sm_fl M.1.cls index 4 TX3) (k : sm_V G M R Z cells slots (pc + 3) lv (.int (nI (P 6)) :: st) h) : sm_V G M R Z cells slots pc lv (.ref a :: st) h := sv_get sm_cl3 hd (k := 4) (by decide) hw hp.1 rfl k
theorem kp_g5 (hp : cl_hp G h a P) (hd : decode M.2.1 pc = .ok (.getfield index, 3)) (hw : sm_fl M.1.cls index 5 TX3) (k : sm_V G M R Z cells slots (pc + 3) lv (.int (nI (b2n (decide (P 7 ≠ 0)))) :: st) h) : sm_V G M R Z cells slots pc lv (.ref a :: st) h := sv_get sm_cl3 hd (k := 5) (by decide) hw hp.1 rfl k
theorem kp_ld (hp : cl_hp G h a P) (hd : decode M.2.1 pc = .ok (.iaload, 1)) (hg : g < 3) (k : sm_V G M R Z cells slots (pc + 1) lv (.int (nI (P (1 + g))) :: st) h) : sm_V G M R Z cells slots pc lv (.int (nI g) :: .ref (a + 1) :: st) h := sv_iaload hd hp.2 (vp_in_nI hg (by omega)) (by rw [nI_clamp (by omega), pg_at hg]; exact k)
theorem kp_ld0 (hp : cl_hp G h a P) (hd : decode M.2.1 pc = .ok (.iaload, 1)) (k : sm_V G M R Z cells slots (pc + 1) lv (.int (nI (P 1)) :: st) h) : sm_V G M R Z cells slots pc lv (.int (nI 0) :: .ref (a + 1) :: st) h := kp_ld (g := 0) hp hd (by omega) k
theorem kp_ld1 (hp : cl_hp G h a P) (hd : decode M.2.1 pc = .ok (.iaload, 1)) (k : sm_V G M R Z cells slots (pc + 1) lv (.int (nI (P 2)) :: st) h) : sm_V G M R Z cells slots pc lv (.int (nI 1) :: .ref (a + 1) :: st) h := kp_ld (g := 1) hp hd (by omega) k
theorem kp_ld2 (hp : cl_hp G h a P) (hd : decode M.2.1 pc = .ok (.iaload, 1)) (k : sm_V G M R Z cells slots (pc + 1) lv (.int (nI (P 3)) :: st) h) : sm_V G M R Z cells slots pc lv (.int (nI 2) :: .ref (a + 1) :: st) h := kp_ld (g := 2) hp hd (by omega) k
theorem pl_p1 : sm_up (cl_p G h a P) a (.inr (3, (cl_pf a P).set 1 (.int (nI v)))) = cl_p G h a (va_up P 0 v) := by
  have e : (cl_pf a P).set 1 (.int (nI v)) = cl_pf a (va_up P 0 v) := by unfold cl_pf; simp [va_up]
  have e2 : cl_pg (va_up P 0 v) = cl_pg P := pg_at2 (by omega)
  rw [e]; funext b; unfold sm_up cl_p; rw [e2]; split <;> rfl
theorem kp_p1 (hd : decode M.2.1 pc = .ok (.putfield index, 3)) (hw : sm_fl M.1.cls index 1 TX3) (k : sm_V G M R Z cells slots (pc + 3) lv st (cl_p G h a (va_up P 0 v))) : sm_V G M R Z cells slots pc lv (.int (nI v) :: .ref a :: st) (cl_p G h a P) := sv_put sm_cl3 hd (k := 1) (by decide) hw rfl pl_h.1 (Nat.le_of_ble_eq_true rfl) rfl rfl (sv_heap pl_p1 k)
theorem pl_p2 : sm_up (cl_p G h a P) a (.inr (3, (cl_pf a P).set 2 (.int (nI v)))) = cl_p G h a (va_up P 4 v) := by
  have e : (cl_pf a P).set 2 (.int (nI v)) = cl_pf a (va_up P 4 v) := by unfold cl_pf; simp [va_up]
  have e2 : cl_pg (va_up P 4 v) = cl_pg P := pg_at2 (by omega)
  rw [e]; funext b; unfold sm_up cl_p; rw [e2]; split <;> rfl
theorem kp_p2 (hd : decode M.2.1 pc = .ok (.putfield index, 3)) (hw : sm_fl M.1.cls index 2 TX3) (k : sm_V G M R Z cells slots (pc + 3) lv st (cl_p G h a (va_up P 4 v))) : sm_V G M R Z cells slots pc lv (.int (nI v) :: .ref a :: st) (cl_p G h a P) := sv_put sm_cl3 hd (k := 2) (by decide) hw rfl pl_h.1 (Nat.le_of_ble_eq_true rfl) rfl rfl (sv_heap pl_p2 k)
theorem pl_p3 : sm_up (cl_p G h a P) a (.inr (3, (cl_pf a P).set 3 (.int (nI v)))) = cl_p G h a (va_up P 5 v) := by
  have e : (cl_pf a P).set 3 (.int (nI v)) = cl_pf a (va_up P 5 v) := by unfold cl_pf; simp [va_up]
  have e2 : cl_pg (va_up P 5 v) = cl_pg P := pg_at2 (by omega)
  rw [e]; funext b; unfold sm_up cl_p; rw [e2]; split <;> rfl
theorem kp_p3 (hd : decode M.2.1 pc = .ok (.putfield index, 3)) (hw : sm_fl M.1.cls index 3 TX3) (k : sm_V G M R Z cells slots (pc + 3) lv st (cl_p G h a (va_up P 5 v))) : sm_V G M R Z cells slots pc lv (.int (nI v) :: .ref a :: st) (cl_p G h a P) := sv_put sm_cl3 hd (k := 3) (by decide) hw rfl pl_h.1 (Nat.le_of_ble_eq_true rfl) rfl rfl (sv_heap pl_p3 k)
theorem pl_p4 : sm_up (cl_p G h a P) a (.inr (3, (cl_pf a P).set 4 (.int (nI v)))) = cl_p G h a (va_up P 6 v) := by
  have e : (cl_pf a P).set 4 (.int (nI v)) = cl_pf a (va_up P 6 v) := by unfold cl_pf; simp [va_up]
  have e2 : cl_pg (va_up P 6 v) = cl_pg P := pg_at2 (by omega)
  rw [e]; funext b; unfold sm_up cl_p; rw [e2]; split <;> rfl
theorem kp_p4 (hd : decode M.2.1 pc = .ok (.putfield index, 3)) (hw : sm_fl M.1.cls index 4 TX3) (k : sm_V G M R Z cells slots (pc + 3) lv st (cl_p G h a (va_up P 6 v))) : sm_V G M R Z cells slots pc lv (.int (nI v) :: .ref a :: st) (cl_p G h a P) := sv_put sm_cl3 hd (k := 4) (by decide) hw rfl pl_h.1 (Nat.le_of_ble_eq_true rfl) rfl rfl (sv_heap pl_p4 k)
theorem b2n_ne {v : Nat} (hv : v < 2) : b2n (decide (v ≠ 0)) = v := by
  rcases (show v = 0 ∨ v = 1 by omega) with rfl | rfl <;> rfl
theorem pl_p5 (hv : v < 2) : sm_up (cl_p G h a P) a (.inr (3, (cl_pf a P).set 5 (.int (nI v)))) = cl_p G h a (va_up P 7 v) := by
  have e : (cl_pf a P).set 5 (.int (nI v)) = cl_pf a (va_up P 7 v) := by
    unfold cl_pf; rw [up_eq, b2n_ne hv]; simp [va_up]
  have e2 : cl_pg (va_up P 7 v) = cl_pg P := by
    funext j; unfold cl_pg; split
    · rw [up_ne (by omega)]
    · rfl
  rw [e]; funext b; unfold sm_up cl_p; rw [e2]; split <;> rfl
theorem kp_p5 (hv : v < 2) (hd : decode M.2.1 pc = .ok (.putfield index, 3)) (hw : sm_fl M.1.cls index 5 TX3) (k : sm_V G M R Z cells slots (pc + 3) lv st (cl_p G h a (va_up P 7 v))) : sm_V G M R Z cells slots pc lv (.int (nI v) :: .ref a :: st) (cl_p G h a P) := sv_put sm_cl3 hd (k := 5) (by decide) hw rfl pl_h.1 (Nat.le_of_ble_eq_true rfl) (nar_b hv) (fit_b hv) (sv_heap (pl_p5 hv) k)
theorem pl_s (hg : g < 3) : sm_up (cl_p G h a P) (a + 1) (sm_ai G 3 (upd (cl_pg P) g (nI v))) = cl_p G h a (va_up P (1 + g) v) := by
  have e : upd (cl_pg P) g (nI v) = cl_pg (va_up P (1 + g) v) := by
    funext j; unfold upd cl_pg va_up
    by_cases e : j = g
    · subst e; simp [hg]
    · rw [if_neg e]; split
      · rw [if_neg (by omega)]
      · rfl
  have e2 : cl_pf a (va_up P (1 + g) v) = cl_pf a P := by
    unfold cl_pf; rw [up_ne (by omega), up_ne (by omega), up_ne (by omega), up_ne (by omega), up_ne (by omega)]
  rw [e]; funext b; unfold sm_up cl_p; rw [e2]
  by_cases e : b = a
  · subst e; rw [if_neg (by omega), if_pos rfl, if_pos rfl]
  · rw [if_neg e, if_neg e]
    by_cases e3 : b = a + 1
    · rw [if_pos e3, if_pos e3]
    · rw [if_neg e3, if_neg e3, if_neg e3]
theorem kp_st (hd : decode M.2.1 pc = .ok (.iastore, 1)) (hg : g < 3) (k : sm_V G M R Z cells slots (pc + 1) lv st (cl_p G h a (va_up P (1 + g) v))) : sm_V G M R Z cells slots pc lv (.int (nI v) :: .int (nI g) :: .ref (a + 1) :: st) (cl_p G h a P) := sv_iastore hd pl_h.2 (vp_in_nI hg (by omega)) (by rw [nI_clamp (by omega)]; exact sv_heap (pl_s hg) k)
theorem kp_st0 (hd : decode M.2.1 pc = .ok (.iastore, 1)) (k : sm_V G M R Z cells slots (pc + 1) lv st (cl_p G h a (va_up P 1 v))) : sm_V G M R Z cells slots pc lv (.int (nI v) :: .int (nI 0) :: .ref (a + 1) :: st) (cl_p G h a P) := kp_st (g := 0) hd (by omega) k
theorem kp_st1 (hd : decode M.2.1 pc = .ok (.iastore, 1)) (k : sm_V G M R Z cells slots (pc + 1) lv st (cl_p G h a (va_up P 2 v))) : sm_V G M R Z cells slots pc lv (.int (nI v) :: .int (nI 1) :: .ref (a + 1) :: st) (cl_p G h a P) := kp_st (g := 1) hd (by omega) k
theorem kp_st2 (hd : decode M.2.1 pc = .ok (.iastore, 1)) (k : sm_V G M R Z cells slots (pc + 1) lv st (cl_p G h a (va_up P 3 v))) : sm_V G M R Z cells slots pc lv (.int (nI v) :: .int (nI 2) :: .ref (a + 1) :: st) (cl_p G h a P) := kp_st (g := 2) hd (by omega) k
/-! a place at a: how many workers, their owners -/
def cl_qf (a c : Nat) : List Value := [.ref (a + 1), .int (nI c)]
def cl_qg (O : Nat → Nat) : Nat → Int32 := fun j => if j < 3 then nI (O j) else 0
def cl_q (G : sm_G) (h : sm_H) (a c : Nat) (O : Nat → Nat) : sm_H := fun b => if b = a then some (.inr (2, cl_qf a c)) else if b = a + 1 then some (sm_ai G 3 (cl_qg O)) else h b
def cl_hq (G : sm_G) (h : sm_H) (a c : Nat) (O : Nat → Nat) : Prop := h a = some (.inr (2, cl_qf a c)) ∧ h (a + 1) = some (sm_ai G 3 (cl_qg O))
theorem ql_h : cl_hq G (cl_q G h a c O) a c O := by
  refine ⟨?_, ?_⟩
  · unfold cl_q; rw [if_pos rfl]
  · unfold cl_q; rw [if_neg (by omega), if_pos rfl]
theorem ql_self (hp : cl_hq G h a c O) : h = cl_q G h a c O := by
  funext b; unfold cl_q
  split
  · rename_i e; subst e; exact hp.1
  split
  · rename_i e; subst e; exact hp.2
  rfl
theorem ql_ql {c2 : Nat} {O2 : Nat → Nat} : cl_q G (cl_q G h a c O) a c2 O2 = cl_q G h a c2 O2 := by
  funext b; unfold cl_q; split
  · rfl
  split <;> rfl
theorem qg_eq {O2 : Nat → Nat} (e : ∀ w, w < 3 → O w = O2 w) : cl_qg O = cl_qg O2 := by
  funext j; unfold cl_qg; split
  · rename_i hj; rw [e _ hj]
  · rfl
theorem ql_eq {O2 : Nat → Nat} (e : ∀ w, w < 3 → O w = O2 w) : cl_q G h a c O = cl_q G h a c O2 := by unfold cl_q; rw [qg_eq e]
theorem kq_g0 (hp : cl_hq G h a c O) (hd : decode M.2.1 pc = .ok (.getfield index, 3)) (hw : sm_fl M.1.cls index 0 TX2) (k : sm_V G M R Z cells slots (pc + 3) lv (.ref (a + 1) :: st) h) : sm_V G M R Z cells slots pc lv (.ref a :: st) h := sv_get sm_cl2 hd (k := 0) (by decide) hw hp.1 rfl k
theorem kq_g1 (hp : cl_hq G h a c O) (hd : decode M.2.1 pc = .ok (.getfield index, 3)) (hw : sm_fl M.1.cls index 1 TX2) (k : sm_V G M R Z cells slots (pc + 3) lv (.int (nI c) :: st) h) : sm_V G M R Z cells slots pc lv (.ref a :: st) h := sv_get sm_cl2 hd (k := 1) (by decide) hw hp.1 rfl k
theorem kq_ld (hp : cl_hq G h a c O) (hd : decode M.2.1 pc = .ok (.iaload, 1)) (hg : g < 3) (k : sm_V G M R Z cells slots (pc + 1) lv (.int (nI (O g)) :: st) h) : sm_V G M R Z cells slots pc lv (.int (nI g) :: .ref (a + 1) :: st) h := sv_iaload hd hp.2 (vp_in_nI hg (by omega)) (by rw [nI_clamp (by omega), show cl_qg O g = nI (O g) from if_pos hg]; exact k)
theorem ql_p1 : sm_up (cl_q G h a c O) a (.inr (2, (cl_qf a c).set 1 (.int (nI v)))) = cl_q G h a v O := by
  funext b; unfold sm_up cl_q; split <;> rfl
theorem kq_p1 (hd : decode M.2.1 pc = .ok (.putfield index, 3)) (hw : sm_fl M.1.cls index 1 TX2) (k : sm_V G M R Z cells slots (pc + 3) lv st (cl_q G h a v O)) : sm_V G M R Z cells slots pc lv (.int (nI v) :: .ref a :: st) (cl_q G h a c O) := sv_put sm_cl2 hd (k := 1) (by decide) hw rfl ql_h.1 (Nat.le_of_ble_eq_true rfl) rfl rfl (sv_heap ql_p1 k)
theorem ql_s (hg : g < 3) : sm_up (cl_q G h a c O) (a + 1) (sm_ai G 3 (upd (cl_qg O) g (nI v))) = cl_q G h a c (va_up O g v) := by
  have e : upd (cl_qg O) g (nI v) = cl_qg (va_up O g v) := by
    funext j; unfold upd cl_qg va_up
    by_cases e : j = g
    · subst e; simp [hg]
    · rw [if_neg e, if_neg e]
  rw [e]; funext b; unfold sm_up cl_q
  by_cases e : b = a
  · subst e; rw [if_neg (by omega), if_pos rfl, if_pos rfl]
  · rw [if_neg e, if_neg e]
    by_cases e3 : b = a + 1
    · rw [if_pos e3, if_pos e3]
    · rw [if_neg e3, if_neg e3, if_neg e3]
theorem kq_st (hd : decode M.2.1 pc = .ok (.iastore, 1)) (hg : g < 3) (k : sm_V G M R Z cells slots (pc + 1) lv st (cl_q G h a c (va_up O g v))) : sm_V G M R Z cells slots pc lv (.int (nI v) :: .int (nI g) :: .ref (a + 1) :: st) (cl_q G h a c O) := sv_iastore hd ql_h.2 (vp_in_nI hg (by omega)) (by rw [nI_clamp (by omega)]; exact sv_heap (ql_s hg) k)
/-! a game at g: 27 cells in a row -/
def cl_gf (g : Nat) (S : gm_S) (x : Int64) (B : Nat → Int32) : List Value := [.ref (g + 1), .ref (g + 2), .ref (g + 3), .ref (g + 4), .int (nI (S 3)), .int (nI (S 4)), .int (nI (S 10)), .int (nI (S 5)), .int (nI (S 6)), .int (nI (S 11)), .int (nI (S 12)), .long x, .ref (g + 5), .int (B 0), .int (B 1), .int (B 2)]
def cl_ra (n a : Nat) : Nat → Option Nat := fun i => if i < n then some (a + 2 * i) else none
def cl_ca (S : gm_S) : Nat → Int32 := fun j => if j < 3 then nI (S (7 + j)) else 0
def cl_cs (S : gm_S) : Nat → Int32 := fun j => if j < 3 then nI (S j) else 0
def cl_r (S : gm_S) (p : Nat) : Nat → Nat := fun w => S (13 + 8 * p + w)
def cl_o (S : gm_S) (q : Nat) : Nat → Nat := fun k => S (45 + 4 * q + 1 + k)
def cl_gc (G : sm_G) (g : Nat) (S : gm_S) (x : Int64) (P : Nat → Nat) (B : Nat → Int32) (o : Nat) : va_E :=
  if o = 0 then .inr (0, cl_gf g S x B) else if o = 1 then sm_ar G 4 4 (cl_ra 4 (g + 7)) else if o = 2 then sm_ar G 5 6 (cl_ra 6 (g + 15)) else if o = 3 then sm_ai G 3 (cl_ca S) else if o = 4 then sm_ai G 3 (cl_cs S) else if o = 5 then .inr (3, cl_pf (g + 5) P) else if o = 6 then sm_ai G 3 (cl_pg P)
  else if o < 15 then (if o % 2 = 1 then .inr (3, cl_pf (g + o) (cl_r S ((o - 7) / 2))) else sm_ai G 3 (cl_pg (cl_r S ((o - 7) / 2))))
  else (if o % 2 = 1 then .inr (2, cl_qf (g + o) (S (45 + 4 * ((o - 15) / 2)))) else sm_ai G 3 (cl_qg (cl_o S ((o - 15) / 2))))
def cl_g (G : sm_G) (h : sm_H) (g : Nat) (S : gm_S) (x : Int64) (P : Nat → Nat) (B : Nat → Int32) : sm_H := fun b => if b < g ∨ g + 27 ≤ b then h b else some (cl_gc G g S x P B (b - g))
theorem gl_at {o : Nat} (ho : o < 27) : cl_g G h g S x P B (g + o) = some (cl_gc G g S x P B o) := by
  unfold cl_g; rw [if_neg (by omega), Nat.add_sub_cancel_left]
theorem gl_out {b : Nat} (hb : b < g ∨ g + 27 ≤ b) : cl_g G h g S x P B b = h b := if_pos hb
theorem gl_0 : cl_g G h g S x P B g = some (.inr (0, cl_gf g S x B)) := gl_at (o := 0) (by omega)
theorem gl_1 : cl_g G h g S x P B (g + 1) = some (sm_ar G 4 4 (cl_ra 4 (g + 7))) := gl_at (o := 1) (by omega)
theorem gl_2 : cl_g G h g S x P B (g + 2) = some (sm_ar G 5 6 (cl_ra 6 (g + 15))) := gl_at (o := 2) (by omega)
theorem gl_3 : cl_g G h g S x P B (g + 3) = some (sm_ai G 3 (cl_ca S)) := gl_at (o := 3) (by omega)
theorem gl_4 : cl_g G h g S x P B (g + 4) = some (sm_ai G 3 (cl_cs S)) := gl_at (o := 4) (by omega)
theorem gc_p (hp : p < 4) : cl_gc G g S x P B (7 + 2 * p) = .inr (3, cl_pf (g + (7 + 2 * p)) (cl_r S p)) := by
  unfold cl_gc; rw [if_neg (by omega), if_neg (by omega), if_neg (by omega), if_neg (by omega), if_neg (by omega), if_neg (by omega), if_neg (by omega), if_pos (by omega), if_pos (by omega), show (7 + 2 * p - 7) / 2 = p by omega]
theorem gc_pg (hp : p < 4) : cl_gc G g S x P B (8 + 2 * p) = sm_ai G 3 (cl_pg (cl_r S p)) := by
  unfold cl_gc; rw [if_neg (by omega), if_neg (by omega), if_neg (by omega), if_neg (by omega), if_neg (by omega), if_neg (by omega), if_neg (by omega), if_pos (by omega), if_neg (by omega), show (8 + 2 * p - 7) / 2 = p by omega]
theorem gc_q (hq : q < 6) : cl_gc G g S x P B (15 + 2 * q) = .inr (2, cl_qf (g + (15 + 2 * q)) (S (45 + 4 * q))) := by
  unfold cl_gc; rw [if_neg (by omega), if_neg (by omega), if_neg (by omega), if_neg (by omega), if_neg (by omega), if_neg (by omega), if_neg (by omega), if_neg (by omega), if_pos (by omega), show (15 + 2 * q - 15) / 2 = q by omega]
theorem gc_qg (hq : q < 6) : cl_gc G g S x P B (16 + 2 * q) = sm_ai G 3 (cl_qg (cl_o S q)) := by
  unfold cl_gc; rw [if_neg (by omega), if_neg (by omega), if_neg (by omega), if_neg (by omega), if_neg (by omega), if_neg (by omega), if_neg (by omega), if_neg (by omega), if_neg (by omega), show (16 + 2 * q - 15) / 2 = q by omega]
theorem gl_pl (hp : p < 4) : cl_hp G (cl_g G h g S x P B) (g + 7 + 2 * p) (cl_r S p) := by
  refine ⟨?_, ?_⟩
  · rw [Nat.add_assoc g 7, gl_at (by omega), gc_p hp]
  · rw [show g + 7 + 2 * p + 1 = g + (8 + 2 * p) by omega, gl_at (by omega), gc_pg hp]
theorem gl_pq (hq : q < 6) : cl_hq G (cl_g G h g S x P B) (g + 15 + 2 * q) (S (45 + 4 * q)) (cl_o S q) := by
  refine ⟨?_, ?_⟩
  · rw [Nat.add_assoc g 15, gl_at (by omega), gc_q hq]
  · rw [show g + 15 + 2 * q + 1 = g + (16 + 2 * q) by omega, gl_at (by omega), gc_qg hq]
theorem gl_af : cl_hp G (cl_g G h g S x P B) (g + 5) P := ⟨gl_at (o := 5) (by omega), gl_at (o := 6) (by omega)⟩
theorem gc_eq {o : Nat} (h0 : o = 0 → (S 3 = S2 3 ∧ S 4 = S2 4 ∧ S 10 = S2 10 ∧ S 5 = S2 5 ∧ S 6 = S2 6 ∧ S 11 = S2 11 ∧ S 12 = S2 12) ∧ x = x2 ∧ B 0 = B2 0 ∧ B 1 = B2 1 ∧ B 2 = B2 2) (h3 : o = 3 → ∀ j, j < 3 → S (7 + j) = S2 (7 + j)) (h4 : o = 4 → ∀ j, j < 3 → S j = S2 j) (h5 : o = 5 ∨ o = 6 → ∀ w, w < 8 → P w = P2 w)
    (hp : ∀ p, p < 4 → o = 7 + 2 * p ∨ o = 8 + 2 * p → ∀ w, w < 8 → S (13 + 8 * p + w) = S2 (13 + 8 * p + w)) (hq : ∀ q, q < 6 → o = 15 + 2 * q ∨ o = 16 + 2 * q → ∀ w, w < 4 → S (45 + 4 * q + w) = S2 (45 + 4 * q + w)) (ho : o < 27) : cl_gc G g S x P B o = cl_gc G g S2 x2 P2 B2 o := by
  by_cases e0 : o = 0
  · obtain ⟨⟨a1, a2, a3, a4, a5, a6, a7⟩, b, c1, c2, c3⟩ := h0 e0
    subst e0; show (.inr (0, cl_gf g S x B) : va_E) = .inr (0, cl_gf g S2 x2 B2)
    unfold cl_gf; rw [a1, a2, a3, a4, a5, a6, a7, b, c1, c2, c3]
  by_cases e1 : o = 1
  · subst e1; rfl
  by_cases e2 : o = 2
  · subst e2; rfl
  by_cases e3 : o = 3
  · have q := h3 e3
    subst e3; show sm_ai G 3 (cl_ca S) = sm_ai G 3 (cl_ca S2)
    have : cl_ca S = cl_ca S2 := by
      funext j; unfold cl_ca; split
      · rename_i hj; rw [q j hj]
      · rfl
    rw [this]
  by_cases e4 : o = 4
  · have q := h4 e4
    subst e4; show sm_ai G 3 (cl_cs S) = sm_ai G 3 (cl_cs S2)
    have : cl_cs S = cl_cs S2 := by
      funext j; unfold cl_cs; split
      · rename_i hj; rw [q j hj]
      · rfl
    rw [this]
  by_cases e5 : o = 5
  · have q := h5 (.inl e5)
    subst e5; show (.inr (3, cl_pf (g + 5) P) : va_E) = .inr (3, cl_pf (g + 5) P2)
    rw [pf_eq (P2 := P2) (fun w hw => q w (by omega)) (by rw [q 7 (by omega)])]
  by_cases e6 : o = 6
  · have q := h5 (.inr e6)
    subst e6; show sm_ai G 3 (cl_pg P) = sm_ai G 3 (cl_pg P2)
    rw [pg_eq (P2 := P2) (fun w hw => q w (by omega))]
  by_cases e7 : o < 15
  · by_cases e8 : o % 2 = 1
    · obtain ⟨p, rfl⟩ : ∃ p, o = 7 + 2 * p := ⟨(o - 7) / 2, by omega⟩
      have q := hp p (by omega) (.inl rfl)
      rw [gc_p (by omega), gc_p (by omega), pf_eq (P := cl_r S p) (P2 := cl_r S2 p) (fun w hw => q w (by omega)) (by show S (13 + 8 * p + 7) = 0 ↔ S2 (13 + 8 * p + 7) = 0; rw [q 7 (by omega)])]
    · obtain ⟨p, rfl⟩ : ∃ p, o = 8 + 2 * p := ⟨(o - 8) / 2, by omega⟩
      have q := hp p (by omega) (.inr rfl)
      rw [gc_pg (by omega), gc_pg (by omega), pg_eq (P := cl_r S p) (P2 := cl_r S2 p) (fun w hw => q w (by omega))]
  · by_cases e8 : o % 2 = 1
    · obtain ⟨r, rfl⟩ : ∃ r, o = 15 + 2 * r := ⟨(o - 15) / 2, by omega⟩
      have q := hq r (by omega) (.inl rfl)
      rw [gc_q (by omega), gc_q (by omega), show S (45 + 4 * r) = S2 (45 + 4 * r) from q 0 (by omega)]
    · obtain ⟨r, rfl⟩ : ∃ r, o = 16 + 2 * r := ⟨(o - 16) / 2, by omega⟩
      have q := hq r (by omega) (.inr rfl)
      rw [gc_qg (by omega), gc_qg (by omega), qg_eq (O := cl_o S r) (O2 := cl_o S2 r) (fun w hw => by have := q (1 + w) (by omega); rwa [← Nat.add_assoc] at this)]
theorem gl_eq (hS : ∀ i, i < 69 → S i = S2 i) (hP : ∀ w, w < 8 → P w = P2 w) (hB : B 0 = B2 0 ∧ B 1 = B2 1 ∧ B 2 = B2 2) : cl_g G h g S x P B = cl_g G h g S2 x P2 B2 := by
  funext b; unfold cl_g; split
  · rfl
  · rename_i hb
    rw [gc_eq (fun _ => ⟨⟨hS _ (by omega), hS _ (by omega), hS _ (by omega), hS _ (by omega), hS _ (by omega), hS _ (by omega), hS _ (by omega)⟩, rfl, hB⟩) (fun _ j hj => hS _ (by omega)) (fun _ j hj => hS _ (by omega)) (fun _ => hP) (fun p hp _ w hw => hS _ (by omega)) (fun q hq _ w hw => hS _ (by omega)) (by omega)]
theorem gl_eqS (hS : ∀ i, i < 69 → S i = S2 i) : cl_g G h g S x P B = cl_g G h g S2 x P B := gl_eq hS (fun _ _ => rfl) ⟨rfl, rfl, rfl⟩
theorem gl_up {o : Nat} {e : va_E} (ho : o < 27) (he : e = cl_gc G g S2 x2 P2 B2 o) (hn : ∀ b, b < 27 → b ≠ o → cl_gc G g S x P B b = cl_gc G g S2 x2 P2 B2 b) : sm_up (cl_g G h g S x P B) (g + o) e = cl_g G h g S2 x2 P2 B2 := by
  funext b; unfold sm_up
  by_cases e1 : b = g + o
  · subst e1; rw [if_pos rfl, gl_at ho, he]
  · rw [if_neg e1]; unfold cl_g; split
    · rfl
    · rw [hn _ (by omega) (by omega)]
theorem gl_self (hb : ∀ o, o < 27 → h (g + o) = some (cl_gc G g S x P B o)) : h = cl_g G h g S x P B := by
  funext b; unfold cl_g; split
  · rfl
  · have := hb (b - g) (by omega); rwa [show g + (b - g) = b by omega] at this
theorem gl_gl : cl_g G (cl_g G h g S x P B) g S2 x2 P2 B2 = cl_g G h g S2 x2 P2 B2 := by
  funext b; unfold cl_g; split <;> rfl
/-- what a player's row becomes -/
def cl_w (S : gm_S) (p : Nat) (P : Nat → Nat) : gm_S := fun i => if 13 + 8 * p ≤ i ∧ i < 13 + 8 * p + 8 then P (i - (13 + 8 * p)) else S i
theorem cl_w_in (hw : w < 8) : cl_w S p P (13 + 8 * p + w) = P w := by unfold cl_w; rw [if_pos (by omega), Nat.add_sub_cancel_left]
theorem cl_w_out {i : Nat} (hi : i < 13 + 8 * p ∨ 13 + 8 * p + 8 ≤ i) : cl_w S p P i = S i := if_neg (by omega)
theorem cl_w_up (hw : w < 8) : cl_w S p (va_up (cl_r S p) w v) = va_up S (13 + 8 * p + w) v := by
  funext i; unfold cl_w
  split
  · unfold va_up cl_r
    by_cases e : i = 13 + 8 * p + w
    · rw [if_pos (by omega), if_pos e]
    · rw [if_neg (by omega), if_neg e, show 13 + 8 * p + (i - (13 + 8 * p)) = i by omega]
  · rw [up_ne (by omega)]
def cl_v (S : gm_S) (q c : Nat) (O : Nat → Nat) : gm_S := fun i => if i = 45 + 4 * q then c else if 45 + 4 * q + 1 ≤ i ∧ i < 45 + 4 * q + 4 then O (i - (45 + 4 * q + 1)) else S i
theorem cl_v_out {i : Nat} (hi : i < 45 + 4 * q ∨ 45 + 4 * q + 4 ≤ i) : cl_v S q c O i = S i := by unfold cl_v; rw [if_neg (by omega), if_neg (by omega)]
theorem cl_v_0 : cl_v S q c O (45 + 4 * q) = c := if_pos rfl
theorem cl_v_k (hw : w < 3) : cl_v S q c O (45 + 4 * q + 1 + w) = O w := by unfold cl_v; rw [if_neg (by omega), if_pos (by omega), Nat.add_sub_cancel_left]
theorem cl_v_c : cl_v S q v (cl_o S q) = va_up S (45 + 4 * q) v := by
  funext i; unfold cl_v va_up
  split
  · rfl
  split
  · unfold cl_o; rw [show 45 + 4 * q + 1 + (i - (45 + 4 * q + 1)) = i by omega]
  · rfl
theorem gl_wp (hp : p < 4) : cl_p G (cl_g G h g S x P B) (g + 7 + 2 * p) P2 = cl_g G h g (cl_w S p P2) x P B := by
  funext b; unfold cl_p
  by_cases e1 : b = g + 7 + 2 * p
  · rw [if_pos e1, e1, (gl_pl (S := cl_w S p P2) hp).1, pf_eq (P := P2) (P2 := cl_r (cl_w S p P2) p) (fun w hw => (cl_w_in (by omega)).symm) (by show _ ↔ cl_w S p P2 (13 + 8 * p + 7) = 0; rw [cl_w_in (by omega)])]
  · rw [if_neg e1]
    by_cases e2 : b = g + 7 + 2 * p + 1
    · rw [if_pos e2, e2, (gl_pl (S := cl_w S p P2) hp).2, pg_eq (P := P2) (P2 := cl_r (cl_w S p P2) p) (fun w hw => (cl_w_in (by omega)).symm)]
    · rw [if_neg e2]; unfold cl_g; split
      · rfl
      · have o : ∀ i, i < 13 + 8 * p ∨ 13 + 8 * p + 8 ≤ i → S i = cl_w S p P2 i := fun i hi => (cl_w_out hi).symm
        rw [gc_eq (S2 := cl_w S p P2) (fun _ => ⟨⟨o _ (by omega), o _ (by omega), o _ (by omega), o _ (by omega), o _ (by omega), o _ (by omega), o _ (by omega)⟩, rfl, rfl, rfl, rfl⟩) (fun _ j hj => o _ (by omega)) (fun _ j hj => o _ (by omega)) (fun _ _ _ => rfl) (fun p hp _ w hw => o _ (by omega)) (fun q hq _ w hw => o _ (by omega)) (by omega)]
theorem gl_wq (hq : q < 6) : cl_q G (cl_g G h g S x P B) (g + 15 + 2 * q) c O = cl_g G h g (cl_v S q c O) x P B := by
  funext b; unfold cl_q
  by_cases e1 : b = g + 15 + 2 * q
  · rw [if_pos e1, e1, (gl_pq (S := cl_v S q c O) hq).1, cl_v_0]
  · rw [if_neg e1]
    by_cases e2 : b = g + 15 + 2 * q + 1
    · rw [if_pos e2, e2, (gl_pq (S := cl_v S q c O) hq).2, qg_eq (O := O) (O2 := cl_o (cl_v S q c O) q) (fun w hw => (cl_v_k hw).symm)]
    · rw [if_neg e2]; unfold cl_g; split
      · rfl
      · have o : ∀ i, i < 45 + 4 * q ∨ 45 + 4 * q + 4 ≤ i → S i = cl_v S q c O i := fun i hi => (cl_v_out hi).symm
        rw [gc_eq (S2 := cl_v S q c O) (fun _ => ⟨⟨o _ (by omega), o _ (by omega), o _ (by omega), o _ (by omega), o _ (by omega), o _ (by omega), o _ (by omega)⟩, rfl, rfl, rfl, rfl⟩) (fun _ j hj => o _ (by omega)) (fun _ j hj => o _ (by omega)) (fun _ _ _ => rfl) (fun p hp _ w hw => o _ (by omega)) (fun q hq _ w hw => o _ (by omega)) (by omega)]
theorem gl_wa : cl_p G (cl_g G h g S x P B) (g + 5) P2 = cl_g G h g S x P2 B := by
  funext b; unfold cl_p
  by_cases e1 : b = g + 5
  · rw [if_pos e1, e1, gl_af.1]
  · rw [if_neg e1]
    by_cases e2 : b = g + 5 + 1
    · rw [if_pos e2, e2, gl_af.2]
    · rw [if_neg e2]; unfold cl_g; split
      · rfl
      · rw [gc_eq (P2 := P2) (fun _ => ⟨⟨rfl, rfl, rfl, rfl, rfl, rfl, rfl⟩, rfl, rfl, rfl, rfl⟩) (fun _ _ _ => rfl) (fun _ _ _ => rfl) (fun h5 => by omega) (fun _ _ _ _ _ => rfl) (fun _ _ _ _ _ => rfl) (by omega)]
theorem kg_g0 (he : h g = some (.inr (0, cl_gf g S x B))) (hd : decode M.2.1 pc = .ok (.getfield index, 3)) (hw : sm_fl M.1.cls index 0 TX0) (k : sm_V G M R Z cells slots (pc + 3) lv (.ref (g + 1) :: st) h) : sm_V G M R Z cells slots pc lv (.ref g :: st) h := sv_get sm_cl0 hd (k := 0) (by decide) hw he rfl k
theorem kg_g1 (he : h g = some (.inr (0, cl_gf g S x B))) (hd : decode M.2.1 pc = .ok (.getfield index, 3)) (hw : sm_fl M.1.cls index 1 TX0) (k : sm_V G M R Z cells slots (pc + 3) lv (.ref (g + 2) :: st) h) : sm_V G M R Z cells slots pc lv (.ref g :: st) h := sv_get sm_cl0 hd (k := 1) (by decide) hw he rfl k
theorem kg_g2 (he : h g = some (.inr (0, cl_gf g S x B))) (hd : decode M.2.1 pc = .ok (.getfield index, 3)) (hw : sm_fl M.1.cls index 2 TX0) (k : sm_V G M R Z cells slots (pc + 3) lv (.ref (g + 3) :: st) h) : sm_V G M R Z cells slots pc lv (.ref g :: st) h := sv_get sm_cl0 hd (k := 2) (by decide) hw he rfl k
theorem kg_g3 (he : h g = some (.inr (0, cl_gf g S x B))) (hd : decode M.2.1 pc = .ok (.getfield index, 3)) (hw : sm_fl M.1.cls index 3 TX0) (k : sm_V G M R Z cells slots (pc + 3) lv (.ref (g + 4) :: st) h) : sm_V G M R Z cells slots pc lv (.ref g :: st) h := sv_get sm_cl0 hd (k := 3) (by decide) hw he rfl k
theorem kg_g4 (he : h g = some (.inr (0, cl_gf g S x B))) (hd : decode M.2.1 pc = .ok (.getfield index, 3)) (hw : sm_fl M.1.cls index 4 TX0) (k : sm_V G M R Z cells slots (pc + 3) lv (.int (nI (S 3)) :: st) h) : sm_V G M R Z cells slots pc lv (.ref g :: st) h := sv_get sm_cl0 hd (k := 4) (by decide) hw he rfl k
theorem kg_g5 (he : h g = some (.inr (0, cl_gf g S x B))) (hd : decode M.2.1 pc = .ok (.getfield index, 3)) (hw : sm_fl M.1.cls index 5 TX0) (k : sm_V G M R Z cells slots (pc + 3) lv (.int (nI (S 4)) :: st) h) : sm_V G M R Z cells slots pc lv (.ref g :: st) h := sv_get sm_cl0 hd (k := 5) (by decide) hw he rfl k
theorem kg_g6 (he : h g = some (.inr (0, cl_gf g S x B))) (hd : decode M.2.1 pc = .ok (.getfield index, 3)) (hw : sm_fl M.1.cls index 6 TX0) (k : sm_V G M R Z cells slots (pc + 3) lv (.int (nI (S 10)) :: st) h) : sm_V G M R Z cells slots pc lv (.ref g :: st) h := sv_get sm_cl0 hd (k := 6) (by decide) hw he rfl k
theorem kg_g7 (he : h g = some (.inr (0, cl_gf g S x B))) (hd : decode M.2.1 pc = .ok (.getfield index, 3)) (hw : sm_fl M.1.cls index 7 TX0) (k : sm_V G M R Z cells slots (pc + 3) lv (.int (nI (S 5)) :: st) h) : sm_V G M R Z cells slots pc lv (.ref g :: st) h := sv_get sm_cl0 hd (k := 7) (by decide) hw he rfl k
theorem kg_g8 (he : h g = some (.inr (0, cl_gf g S x B))) (hd : decode M.2.1 pc = .ok (.getfield index, 3)) (hw : sm_fl M.1.cls index 8 TX0) (k : sm_V G M R Z cells slots (pc + 3) lv (.int (nI (S 6)) :: st) h) : sm_V G M R Z cells slots pc lv (.ref g :: st) h := sv_get sm_cl0 hd (k := 8) (by decide) hw he rfl k
theorem kg_g9 (he : h g = some (.inr (0, cl_gf g S x B))) (hd : decode M.2.1 pc = .ok (.getfield index, 3)) (hw : sm_fl M.1.cls index 9 TX0) (k : sm_V G M R Z cells slots (pc + 3) lv (.int (nI (S 11)) :: st) h) : sm_V G M R Z cells slots pc lv (.ref g :: st) h := sv_get sm_cl0 hd (k := 9) (by decide) hw he rfl k
theorem kg_g10 (he : h g = some (.inr (0, cl_gf g S x B))) (hd : decode M.2.1 pc = .ok (.getfield index, 3)) (hw : sm_fl M.1.cls index 10 TX0) (k : sm_V G M R Z cells slots (pc + 3) lv (.int (nI (S 12)) :: st) h) : sm_V G M R Z cells slots pc lv (.ref g :: st) h := sv_get sm_cl0 hd (k := 10) (by decide) hw he rfl k
theorem kg_g11 (he : h g = some (.inr (0, cl_gf g S x B))) (hd : decode M.2.1 pc = .ok (.getfield index, 3)) (hw : sm_fl M.1.cls index 11 TX0) (k : sm_V G M R Z cells slots (pc + 3) lv (.long x :: st) h) : sm_V G M R Z cells slots pc lv (.ref g :: st) h := sv_get sm_cl0 hd (k := 11) (by decide) hw he rfl k
theorem kg_g12 (he : h g = some (.inr (0, cl_gf g S x B))) (hd : decode M.2.1 pc = .ok (.getfield index, 3)) (hw : sm_fl M.1.cls index 12 TX0) (k : sm_V G M R Z cells slots (pc + 3) lv (.ref (g + 5) :: st) h) : sm_V G M R Z cells slots pc lv (.ref g :: st) h := sv_get sm_cl0 hd (k := 12) (by decide) hw he rfl k
theorem kg_g13 (he : h g = some (.inr (0, cl_gf g S x B))) (hd : decode M.2.1 pc = .ok (.getfield index, 3)) (hw : sm_fl M.1.cls index 13 TX0) (k : sm_V G M R Z cells slots (pc + 3) lv (.int (B 0) :: st) h) : sm_V G M R Z cells slots pc lv (.ref g :: st) h := sv_get sm_cl0 hd (k := 13) (by decide) hw he rfl k
theorem kg_g14 (he : h g = some (.inr (0, cl_gf g S x B))) (hd : decode M.2.1 pc = .ok (.getfield index, 3)) (hw : sm_fl M.1.cls index 14 TX0) (k : sm_V G M R Z cells slots (pc + 3) lv (.int (B 1) :: st) h) : sm_V G M R Z cells slots pc lv (.ref g :: st) h := sv_get sm_cl0 hd (k := 14) (by decide) hw he rfl k
theorem kg_g15 (he : h g = some (.inr (0, cl_gf g S x B))) (hd : decode M.2.1 pc = .ok (.getfield index, 3)) (hw : sm_fl M.1.cls index 15 TX0) (k : sm_V G M R Z cells slots (pc + 3) lv (.int (B 2) :: st) h) : sm_V G M R Z cells slots pc lv (.ref g :: st) h := sv_get sm_cl0 hd (k := 15) (by decide) hw he rfl k
theorem gl_p4 : sm_up (cl_g G h g S x P B) g (.inr (0, (cl_gf g S x B).set 4 (.int (nI v)))) = cl_g G h g (va_up S 3 v) x P B := gl_up (o := 0) (by omega) (by show (.inr (0, (cl_gf g S x B).set 4 (.int (nI v))) : va_E) = .inr (0, cl_gf g (va_up S 3 v) x B); unfold cl_gf; simp [va_up]) (fun b hb hn => gc_eq (fun e => absurd e hn) (fun _ j hj => (up_ne (by omega)).symm) (fun _ j hj => (up_ne (by omega)).symm) (fun _ _ _ => rfl) (fun p hp _ w hw => (up_ne (by omega)).symm) (fun q hq _ w hw => (up_ne (by omega)).symm) hb)
theorem kg_p4 (hd : decode M.2.1 pc = .ok (.putfield index, 3)) (hw : sm_fl M.1.cls index 4 TX0) (k : sm_V G M R Z cells slots (pc + 3) lv st (cl_g G h g (va_up S 3 v) x P B)) : sm_V G M R Z cells slots pc lv (.int (nI v) :: .ref g :: st) (cl_g G h g S x P B) := sv_put sm_cl0 hd (k := 4) (by decide) hw rfl gl_0 (Nat.le_of_ble_eq_true rfl) rfl rfl (sv_heap gl_p4 k)
theorem gl_p5 : sm_up (cl_g G h g S x P B) g (.inr (0, (cl_gf g S x B).set 5 (.int (nI v)))) = cl_g G h g (va_up S 4 v) x P B := gl_up (o := 0) (by omega) (by show (.inr (0, (cl_gf g S x B).set 5 (.int (nI v))) : va_E) = .inr (0, cl_gf g (va_up S 4 v) x B); unfold cl_gf; simp [va_up]) (fun b hb hn => gc_eq (fun e => absurd e hn) (fun _ j hj => (up_ne (by omega)).symm) (fun _ j hj => (up_ne (by omega)).symm) (fun _ _ _ => rfl) (fun p hp _ w hw => (up_ne (by omega)).symm) (fun q hq _ w hw => (up_ne (by omega)).symm) hb)
theorem kg_p5 (hd : decode M.2.1 pc = .ok (.putfield index, 3)) (hw : sm_fl M.1.cls index 5 TX0) (k : sm_V G M R Z cells slots (pc + 3) lv st (cl_g G h g (va_up S 4 v) x P B)) : sm_V G M R Z cells slots pc lv (.int (nI v) :: .ref g :: st) (cl_g G h g S x P B) := sv_put sm_cl0 hd (k := 5) (by decide) hw rfl gl_0 (Nat.le_of_ble_eq_true rfl) rfl rfl (sv_heap gl_p5 k)
theorem gl_p6 : sm_up (cl_g G h g S x P B) g (.inr (0, (cl_gf g S x B).set 6 (.int (nI v)))) = cl_g G h g (va_up S 10 v) x P B := gl_up (o := 0) (by omega) (by show (.inr (0, (cl_gf g S x B).set 6 (.int (nI v))) : va_E) = .inr (0, cl_gf g (va_up S 10 v) x B); unfold cl_gf; simp [va_up]) (fun b hb hn => gc_eq (fun e => absurd e hn) (fun _ j hj => (up_ne (by omega)).symm) (fun _ j hj => (up_ne (by omega)).symm) (fun _ _ _ => rfl) (fun p hp _ w hw => (up_ne (by omega)).symm) (fun q hq _ w hw => (up_ne (by omega)).symm) hb)
theorem kg_p6 (hd : decode M.2.1 pc = .ok (.putfield index, 3)) (hw : sm_fl M.1.cls index 6 TX0) (k : sm_V G M R Z cells slots (pc + 3) lv st (cl_g G h g (va_up S 10 v) x P B)) : sm_V G M R Z cells slots pc lv (.int (nI v) :: .ref g :: st) (cl_g G h g S x P B) := sv_put sm_cl0 hd (k := 6) (by decide) hw rfl gl_0 (Nat.le_of_ble_eq_true rfl) rfl rfl (sv_heap gl_p6 k)
theorem gl_p7 : sm_up (cl_g G h g S x P B) g (.inr (0, (cl_gf g S x B).set 7 (.int (nI v)))) = cl_g G h g (va_up S 5 v) x P B := gl_up (o := 0) (by omega) (by show (.inr (0, (cl_gf g S x B).set 7 (.int (nI v))) : va_E) = .inr (0, cl_gf g (va_up S 5 v) x B); unfold cl_gf; simp [va_up]) (fun b hb hn => gc_eq (fun e => absurd e hn) (fun _ j hj => (up_ne (by omega)).symm) (fun _ j hj => (up_ne (by omega)).symm) (fun _ _ _ => rfl) (fun p hp _ w hw => (up_ne (by omega)).symm) (fun q hq _ w hw => (up_ne (by omega)).symm) hb)
theorem kg_p7 (hd : decode M.2.1 pc = .ok (.putfield index, 3)) (hw : sm_fl M.1.cls index 7 TX0) (k : sm_V G M R Z cells slots (pc + 3) lv st (cl_g G h g (va_up S 5 v) x P B)) : sm_V G M R Z cells slots pc lv (.int (nI v) :: .ref g :: st) (cl_g G h g S x P B) := sv_put sm_cl0 hd (k := 7) (by decide) hw rfl gl_0 (Nat.le_of_ble_eq_true rfl) rfl rfl (sv_heap gl_p7 k)
theorem gl_p8 : sm_up (cl_g G h g S x P B) g (.inr (0, (cl_gf g S x B).set 8 (.int (nI v)))) = cl_g G h g (va_up S 6 v) x P B := gl_up (o := 0) (by omega) (by show (.inr (0, (cl_gf g S x B).set 8 (.int (nI v))) : va_E) = .inr (0, cl_gf g (va_up S 6 v) x B); unfold cl_gf; simp [va_up]) (fun b hb hn => gc_eq (fun e => absurd e hn) (fun _ j hj => (up_ne (by omega)).symm) (fun _ j hj => (up_ne (by omega)).symm) (fun _ _ _ => rfl) (fun p hp _ w hw => (up_ne (by omega)).symm) (fun q hq _ w hw => (up_ne (by omega)).symm) hb)
theorem kg_p8 (hd : decode M.2.1 pc = .ok (.putfield index, 3)) (hw : sm_fl M.1.cls index 8 TX0) (k : sm_V G M R Z cells slots (pc + 3) lv st (cl_g G h g (va_up S 6 v) x P B)) : sm_V G M R Z cells slots pc lv (.int (nI v) :: .ref g :: st) (cl_g G h g S x P B) := sv_put sm_cl0 hd (k := 8) (by decide) hw rfl gl_0 (Nat.le_of_ble_eq_true rfl) rfl rfl (sv_heap gl_p8 k)
theorem gl_p9 : sm_up (cl_g G h g S x P B) g (.inr (0, (cl_gf g S x B).set 9 (.int (nI v)))) = cl_g G h g (va_up S 11 v) x P B := gl_up (o := 0) (by omega) (by show (.inr (0, (cl_gf g S x B).set 9 (.int (nI v))) : va_E) = .inr (0, cl_gf g (va_up S 11 v) x B); unfold cl_gf; simp [va_up]) (fun b hb hn => gc_eq (fun e => absurd e hn) (fun _ j hj => (up_ne (by omega)).symm) (fun _ j hj => (up_ne (by omega)).symm) (fun _ _ _ => rfl) (fun p hp _ w hw => (up_ne (by omega)).symm) (fun q hq _ w hw => (up_ne (by omega)).symm) hb)
theorem kg_p9 (hd : decode M.2.1 pc = .ok (.putfield index, 3)) (hw : sm_fl M.1.cls index 9 TX0) (k : sm_V G M R Z cells slots (pc + 3) lv st (cl_g G h g (va_up S 11 v) x P B)) : sm_V G M R Z cells slots pc lv (.int (nI v) :: .ref g :: st) (cl_g G h g S x P B) := sv_put sm_cl0 hd (k := 9) (by decide) hw rfl gl_0 (Nat.le_of_ble_eq_true rfl) rfl rfl (sv_heap gl_p9 k)
theorem gl_p10 : sm_up (cl_g G h g S x P B) g (.inr (0, (cl_gf g S x B).set 10 (.int (nI v)))) = cl_g G h g (va_up S 12 v) x P B := gl_up (o := 0) (by omega) (by show (.inr (0, (cl_gf g S x B).set 10 (.int (nI v))) : va_E) = .inr (0, cl_gf g (va_up S 12 v) x B); unfold cl_gf; simp [va_up]) (fun b hb hn => gc_eq (fun e => absurd e hn) (fun _ j hj => (up_ne (by omega)).symm) (fun _ j hj => (up_ne (by omega)).symm) (fun _ _ _ => rfl) (fun p hp _ w hw => (up_ne (by omega)).symm) (fun q hq _ w hw => (up_ne (by omega)).symm) hb)
theorem kg_p10 (hd : decode M.2.1 pc = .ok (.putfield index, 3)) (hw : sm_fl M.1.cls index 10 TX0) (k : sm_V G M R Z cells slots (pc + 3) lv st (cl_g G h g (va_up S 12 v) x P B)) : sm_V G M R Z cells slots pc lv (.int (nI v) :: .ref g :: st) (cl_g G h g S x P B) := sv_put sm_cl0 hd (k := 10) (by decide) hw rfl gl_0 (Nat.le_of_ble_eq_true rfl) rfl rfl (sv_heap gl_p10 k)
theorem gl_p11 {y : Int64} : sm_up (cl_g G h g S x P B) g (.inr (0, (cl_gf g S x B).set 11 (.long y))) = cl_g G h g S y P B := gl_up (o := 0) (by omega) rfl (fun b hb hn => gc_eq (fun e => absurd e hn) (fun _ _ _ => rfl) (fun _ _ _ => rfl) (fun _ _ _ => rfl) (fun _ _ _ _ _ => rfl) (fun _ _ _ _ _ => rfl) hb)
theorem kg_p11 {y : Int64} (hd : decode M.2.1 pc = .ok (.putfield index, 3)) (hw : sm_fl M.1.cls index 11 TX0) (k : sm_V G M R Z cells slots (pc + 3) lv st (cl_g G h g S y P B)) : sm_V G M R Z cells slots pc lv (.long y :: .ref g :: st) (cl_g G h g S x P B) := sv_put sm_cl0 hd (k := 11) (by decide) hw rfl gl_0 (Nat.le_of_ble_eq_true rfl) rfl rfl (sv_heap gl_p11 k)
theorem gl_p13 {y : Int32} : sm_up (cl_g G h g S x P B) g (.inr (0, (cl_gf g S x B).set 13 (.int y))) = cl_g G h g S x P (va_up B 0 y) := gl_up (o := 0) (by omega) (by show (.inr (0, (cl_gf g S x B).set 13 (.int y)) : va_E) = .inr (0, cl_gf g S x (va_up B 0 y)); unfold cl_gf; simp [va_up]) (fun b hb hn => gc_eq (fun e => absurd e hn) (fun _ _ _ => rfl) (fun _ _ _ => rfl) (fun _ _ _ => rfl) (fun _ _ _ _ _ => rfl) (fun _ _ _ _ _ => rfl) hb)
theorem kg_p13 {y : Int32} (hd : decode M.2.1 pc = .ok (.putfield index, 3)) (hw : sm_fl M.1.cls index 13 TX0) (k : sm_V G M R Z cells slots (pc + 3) lv st (cl_g G h g S x P (va_up B 0 y))) : sm_V G M R Z cells slots pc lv (.int y :: .ref g :: st) (cl_g G h g S x P B) := sv_put sm_cl0 hd (k := 13) (by decide) hw rfl gl_0 (Nat.le_of_ble_eq_true rfl) rfl rfl (sv_heap gl_p13 k)
theorem gl_p14 {y : Int32} : sm_up (cl_g G h g S x P B) g (.inr (0, (cl_gf g S x B).set 14 (.int y))) = cl_g G h g S x P (va_up B 1 y) := gl_up (o := 0) (by omega) (by show (.inr (0, (cl_gf g S x B).set 14 (.int y)) : va_E) = .inr (0, cl_gf g S x (va_up B 1 y)); unfold cl_gf; simp [va_up]) (fun b hb hn => gc_eq (fun e => absurd e hn) (fun _ _ _ => rfl) (fun _ _ _ => rfl) (fun _ _ _ => rfl) (fun _ _ _ _ _ => rfl) (fun _ _ _ _ _ => rfl) hb)
theorem kg_p14 {y : Int32} (hd : decode M.2.1 pc = .ok (.putfield index, 3)) (hw : sm_fl M.1.cls index 14 TX0) (k : sm_V G M R Z cells slots (pc + 3) lv st (cl_g G h g S x P (va_up B 1 y))) : sm_V G M R Z cells slots pc lv (.int y :: .ref g :: st) (cl_g G h g S x P B) := sv_put sm_cl0 hd (k := 14) (by decide) hw rfl gl_0 (Nat.le_of_ble_eq_true rfl) rfl rfl (sv_heap gl_p14 k)
theorem gl_p15 {y : Int32} : sm_up (cl_g G h g S x P B) g (.inr (0, (cl_gf g S x B).set 15 (.int y))) = cl_g G h g S x P (va_up B 2 y) := gl_up (o := 0) (by omega) (by show (.inr (0, (cl_gf g S x B).set 15 (.int y)) : va_E) = .inr (0, cl_gf g S x (va_up B 2 y)); unfold cl_gf; simp [va_up]) (fun b hb hn => gc_eq (fun e => absurd e hn) (fun _ _ _ => rfl) (fun _ _ _ => rfl) (fun _ _ _ => rfl) (fun _ _ _ _ _ => rfl) (fun _ _ _ _ _ => rfl) hb)
theorem kg_p15 {y : Int32} (hd : decode M.2.1 pc = .ok (.putfield index, 3)) (hw : sm_fl M.1.cls index 15 TX0) (k : sm_V G M R Z cells slots (pc + 3) lv st (cl_g G h g S x P (va_up B 2 y))) : sm_V G M R Z cells slots pc lv (.int y :: .ref g :: st) (cl_g G h g S x P B) := sv_put sm_cl0 hd (k := 15) (by decide) hw rfl gl_0 (Nat.le_of_ble_eq_true rfl) rfl rfl (sv_heap gl_p15 k)
theorem ca_at (hg : v < 3) : cl_ca S v = nI (S (7 + v)) := if_pos hg
theorem cs_at (hg : v < 3) : cl_cs S v = nI (S v) := if_pos hg
theorem ra_at {b : Nat} (hp : p < n) : va_rf (cl_ra n b p) = .ref (b + 2 * p) := by unfold cl_ra; rw [if_pos hp]; rfl
theorem kg_ldp (he : h (g + 1) = some (sm_ar G 4 4 (cl_ra 4 (g + 7)))) (hd : decode M.2.1 pc = .ok (.aaload, 1)) (hp : p < 4) (k : sm_V G M R Z cells slots (pc + 1) lv (.ref (g + 7 + 2 * p) :: st) h) : sm_V G M R Z cells slots pc lv (.int (nI p) :: .ref (g + 1) :: st) h := sv_aaload4 hd he (vp_in_nI hp (by omega)) (by rw [nI_clamp (by omega), ra_at hp]; exact k)
theorem kg_ldq (he : h (g + 2) = some (sm_ar G 5 6 (cl_ra 6 (g + 15)))) (hd : decode M.2.1 pc = .ok (.aaload, 1)) (hp : p < 6) (k : sm_V G M R Z cells slots (pc + 1) lv (.ref (g + 15 + 2 * p) :: st) h) : sm_V G M R Z cells slots pc lv (.int (nI p) :: .ref (g + 2) :: st) h := sv_aaload5 hd he (vp_in_nI hp (by omega)) (by rw [nI_clamp (by omega), ra_at hp]; exact k)
theorem kg_ldr (he : h (g + 3) = some (sm_ai G 3 (cl_ca S))) (hd : decode M.2.1 pc = .ok (.iaload, 1)) (hp : p < 3) (k : sm_V G M R Z cells slots (pc + 1) lv (.int (nI (S (7 + p))) :: st) h) : sm_V G M R Z cells slots pc lv (.int (nI p) :: .ref (g + 3) :: st) h := sv_iaload hd he (vp_in_nI hp (by omega)) (by rw [nI_clamp (by omega), ca_at hp]; exact k)
theorem kg_lds (he : h (g + 4) = some (sm_ai G 3 (cl_cs S))) (hd : decode M.2.1 pc = .ok (.iaload, 1)) (hp : p < 3) (k : sm_V G M R Z cells slots (pc + 1) lv (.int (nI (S p)) :: st) h) : sm_V G M R Z cells slots pc lv (.int (nI p) :: .ref (g + 4) :: st) h := sv_iaload hd he (vp_in_nI hp (by omega)) (by rw [nI_clamp (by omega), cs_at hp]; exact k)
theorem gl_str (hp : p < 3) : sm_up (cl_g G h g S x P B) (g + 3) (sm_ai G 3 (upd (cl_ca S) p (nI v))) = cl_g G h g (va_up S (7 + p) v) x P B := by
  refine gl_up (o := 3) (by omega) ?_ (fun b hb hn => gc_eq (fun _ => ⟨⟨(up_ne (by omega)).symm, (up_ne (by omega)).symm, (up_ne (by omega)).symm, (up_ne (by omega)).symm, (up_ne (by omega)).symm, (up_ne (by omega)).symm, (up_ne (by omega)).symm⟩, rfl, rfl, rfl, rfl⟩) (fun e => absurd e hn) (fun _ j hj => (up_ne (by omega)).symm) (fun _ _ _ => rfl) (fun p hp _ w hw => (up_ne (by omega)).symm) (fun q hq _ w hw => (up_ne (by omega)).symm) hb)
  show sm_ai G 3 (upd (cl_ca S) p (nI v)) = sm_ai G 3 (cl_ca (va_up S (7 + p) v))
  have : upd (cl_ca S) p (nI v) = cl_ca (va_up S (7 + p) v) := by
    funext j; unfold upd cl_ca va_up
    by_cases e : j = p
    · subst e; rw [if_pos rfl, if_pos hp, if_pos rfl]
    · rw [if_neg e]; split
      · rw [if_neg (by omega)]
      · rfl
  rw [this]
theorem gl_sts (hp : p < 3) : sm_up (cl_g G h g S x P B) (g + 4) (sm_ai G 3 (upd (cl_cs S) p (nI v))) = cl_g G h g (va_up S p v) x P B := by
  refine gl_up (o := 4) (by omega) ?_ (fun b hb hn => gc_eq (fun _ => ⟨⟨(up_ne (by omega)).symm, (up_ne (by omega)).symm, (up_ne (by omega)).symm, (up_ne (by omega)).symm, (up_ne (by omega)).symm, (up_ne (by omega)).symm, (up_ne (by omega)).symm⟩, rfl, rfl, rfl, rfl⟩) (fun _ j hj => (up_ne (by omega)).symm) (fun e => absurd e hn) (fun _ _ _ => rfl) (fun p hp _ w hw => (up_ne (by omega)).symm) (fun q hq _ w hw => (up_ne (by omega)).symm) hb)
  show sm_ai G 3 (upd (cl_cs S) p (nI v)) = sm_ai G 3 (cl_cs (va_up S p v))
  have : upd (cl_cs S) p (nI v) = cl_cs (va_up S p v) := by
    funext j; unfold upd cl_cs va_up
    by_cases e : j = p
    · subst e; rw [if_pos rfl, if_pos hp, if_pos rfl]
    · rw [if_neg e, if_neg e]
  rw [this]
theorem kg_str (hd : decode M.2.1 pc = .ok (.iastore, 1)) (hp : p < 3) (k : sm_V G M R Z cells slots (pc + 1) lv st (cl_g G h g (va_up S (7 + p) v) x P B)) : sm_V G M R Z cells slots pc lv (.int (nI v) :: .int (nI p) :: .ref (g + 3) :: st) (cl_g G h g S x P B) := sv_iastore hd gl_3 (vp_in_nI hp (by omega)) (by rw [nI_clamp (by omega)]; exact sv_heap (gl_str hp) k)
theorem kg_sts (hd : decode M.2.1 pc = .ok (.iastore, 1)) (hp : p < 3) (k : sm_V G M R Z cells slots (pc + 1) lv st (cl_g G h g (va_up S p v) x P B)) : sm_V G M R Z cells slots pc lv (.int (nI v) :: .int (nI p) :: .ref (g + 4) :: st) (cl_g G h g S x P B) := sv_iastore hd gl_4 (vp_in_nI hp (by omega)) (by rw [nI_clamp (by omega)]; exact sv_heap (gl_sts hp) k)
theorem kgp_p1 (hp : p < 4) (hd : decode M.2.1 pc = .ok (.putfield index, 3)) (hw : sm_fl M.1.cls index 1 TX3) (k : sm_V G M R Z cells slots (pc + 3) lv st (cl_g G h g (va_up S (13 + 8 * p) v) x P B)) : sm_V G M R Z cells slots pc lv (.int (nI v) :: .ref (g + 7 + 2 * p) :: st) (cl_g G h g S x P B) := sv_heap (pl_self (gl_pl hp)) (kp_p1 hd hw (sv_heap ((gl_wp hp).trans (gl_eqS (fun i _ => congrFun (cl_w_up (w := 0) (by omega)) i))) k))
theorem kga_p1 (hd : decode M.2.1 pc = .ok (.putfield index, 3)) (hw : sm_fl M.1.cls index 1 TX3) (k : sm_V G M R Z cells slots (pc + 3) lv st (cl_g G h g S x (va_up P 0 v) B)) : sm_V G M R Z cells slots pc lv (.int (nI v) :: .ref (g + 5) :: st) (cl_g G h g S x P B) := sv_heap (pl_self gl_af) (kp_p1 hd hw (sv_heap gl_wa k))
theorem kgp_p2 (hp : p < 4) (hd : decode M.2.1 pc = .ok (.putfield index, 3)) (hw : sm_fl M.1.cls index 2 TX3) (k : sm_V G M R Z cells slots (pc + 3) lv st (cl_g G h g (va_up S (13 + 8 * p + 4) v) x P B)) : sm_V G M R Z cells slots pc lv (.int (nI v) :: .ref (g + 7 + 2 * p) :: st) (cl_g G h g S x P B) := sv_heap (pl_self (gl_pl hp)) (kp_p2 hd hw (sv_heap ((gl_wp hp).trans (gl_eqS (fun i _ => congrFun (cl_w_up (w := 4) (by omega)) i))) k))
theorem kga_p2 (hd : decode M.2.1 pc = .ok (.putfield index, 3)) (hw : sm_fl M.1.cls index 2 TX3) (k : sm_V G M R Z cells slots (pc + 3) lv st (cl_g G h g S x (va_up P 4 v) B)) : sm_V G M R Z cells slots pc lv (.int (nI v) :: .ref (g + 5) :: st) (cl_g G h g S x P B) := sv_heap (pl_self gl_af) (kp_p2 hd hw (sv_heap gl_wa k))
theorem kgp_p3 (hp : p < 4) (hd : decode M.2.1 pc = .ok (.putfield index, 3)) (hw : sm_fl M.1.cls index 3 TX3) (k : sm_V G M R Z cells slots (pc + 3) lv st (cl_g G h g (va_up S (13 + 8 * p + 5) v) x P B)) : sm_V G M R Z cells slots pc lv (.int (nI v) :: .ref (g + 7 + 2 * p) :: st) (cl_g G h g S x P B) := sv_heap (pl_self (gl_pl hp)) (kp_p3 hd hw (sv_heap ((gl_wp hp).trans (gl_eqS (fun i _ => congrFun (cl_w_up (w := 5) (by omega)) i))) k))
theorem kga_p3 (hd : decode M.2.1 pc = .ok (.putfield index, 3)) (hw : sm_fl M.1.cls index 3 TX3) (k : sm_V G M R Z cells slots (pc + 3) lv st (cl_g G h g S x (va_up P 5 v) B)) : sm_V G M R Z cells slots pc lv (.int (nI v) :: .ref (g + 5) :: st) (cl_g G h g S x P B) := sv_heap (pl_self gl_af) (kp_p3 hd hw (sv_heap gl_wa k))
theorem kgp_p4 (hp : p < 4) (hd : decode M.2.1 pc = .ok (.putfield index, 3)) (hw : sm_fl M.1.cls index 4 TX3) (k : sm_V G M R Z cells slots (pc + 3) lv st (cl_g G h g (va_up S (13 + 8 * p + 6) v) x P B)) : sm_V G M R Z cells slots pc lv (.int (nI v) :: .ref (g + 7 + 2 * p) :: st) (cl_g G h g S x P B) := sv_heap (pl_self (gl_pl hp)) (kp_p4 hd hw (sv_heap ((gl_wp hp).trans (gl_eqS (fun i _ => congrFun (cl_w_up (w := 6) (by omega)) i))) k))
theorem kga_p4 (hd : decode M.2.1 pc = .ok (.putfield index, 3)) (hw : sm_fl M.1.cls index 4 TX3) (k : sm_V G M R Z cells slots (pc + 3) lv st (cl_g G h g S x (va_up P 6 v) B)) : sm_V G M R Z cells slots pc lv (.int (nI v) :: .ref (g + 5) :: st) (cl_g G h g S x P B) := sv_heap (pl_self gl_af) (kp_p4 hd hw (sv_heap gl_wa k))
theorem kgp_p5 (hv : v < 2) (hp : p < 4) (hd : decode M.2.1 pc = .ok (.putfield index, 3)) (hw : sm_fl M.1.cls index 5 TX3) (k : sm_V G M R Z cells slots (pc + 3) lv st (cl_g G h g (va_up S (13 + 8 * p + 7) v) x P B)) : sm_V G M R Z cells slots pc lv (.int (nI v) :: .ref (g + 7 + 2 * p) :: st) (cl_g G h g S x P B) := sv_heap (pl_self (gl_pl hp)) (kp_p5 hv hd hw (sv_heap ((gl_wp hp).trans (gl_eqS (fun i _ => congrFun (cl_w_up (w := 7) (by omega)) i))) k))
theorem kga_p5 (hv : v < 2) (hd : decode M.2.1 pc = .ok (.putfield index, 3)) (hw : sm_fl M.1.cls index 5 TX3) (k : sm_V G M R Z cells slots (pc + 3) lv st (cl_g G h g S x (va_up P 7 v) B)) : sm_V G M R Z cells slots pc lv (.int (nI v) :: .ref (g + 5) :: st) (cl_g G h g S x P B) := sv_heap (pl_self gl_af) (kp_p5 hv hd hw (sv_heap gl_wa k))
theorem kgq_p1 (hq : q < 6) (hd : decode M.2.1 pc = .ok (.putfield index, 3)) (hw : sm_fl M.1.cls index 1 TX2) (k : sm_V G M R Z cells slots (pc + 3) lv st (cl_g G h g (va_up S (45 + 4 * q) v) x P B)) : sm_V G M R Z cells slots pc lv (.int (nI v) :: .ref (g + 15 + 2 * q) :: st) (cl_g G h g S x P B) := sv_heap (ql_self (gl_pq hq)) (kq_p1 hd hw (sv_heap ((gl_wq hq).trans (gl_eqS (fun i _ => congrFun cl_v_c i))) k))
theorem sv_mmax {x y : Int32} (w1 : Cond.methodLink M.1.cls index Lib.Math.max.name ∈ sm_tbl) (hd : decode M.2.1 pc = .ok (.invokestatic index, 3)) (hf : 1 ≤ R.frames) (hlo : (st.map fun v => v.category).sum + 13 ≤ R.locals) (hc : cells ≤ R.cells) (hs : slots ≤ R.slots) (k : sm_V G M R Z cells slots (pc + 3) lv (.int (if x < y then y else x) :: st) h) : sm_V G M R Z cells slots pc lv (.int y :: .int x :: st) h := by
  intro p e s m args below meth c H locs ls E hS hR hl
  have hts := E.2.2.2.2.2.1
  exact va_mmax E.1 E.2.1 (hl.1.trans E.2.2.2.1.symm).symm E.2.2.2.2.1 (hts _ w1) (hts _ (sm_tc ck_2_7_in 17 rfl rfl)) (hts _ (sm_tc ck_1_0_in 13 rfl rfl)) (hts _ (sm_tc ck_2_7_in 18 rfl rfl)) hf hlo hc hs hd (k p e s m args below meth c H locs ls E hS hR hl)
theorem sv_mmin {x y : Int32} (w1 : Cond.methodLink M.1.cls index Lib.Math.min.name ∈ sm_tbl) (hd : decode M.2.1 pc = .ok (.invokestatic index, 3)) (hf : 1 ≤ R.frames) (hlo : (st.map fun v => v.category).sum + 13 ≤ R.locals) (hc : cells ≤ R.cells) (hs : slots ≤ R.slots) (k : sm_V G M R Z cells slots (pc + 3) lv (.int (if y < x then y else x) :: st) h) : sm_V G M R Z cells slots pc lv (.int y :: .int x :: st) h := by
  intro p e s m args below meth c H locs ls E hS hR hl
  have hts := E.2.2.2.2.2.1
  exact va_mmin E.1 E.2.1 (hl.1.trans E.2.2.2.1.symm).symm E.2.2.2.2.1 (hts _ w1) (hts _ (sm_tc ck_2_5_in 24 rfl rfl)) (hts _ (sm_tc ck_1_0_in 13 rfl rfl)) (hts _ (sm_tc ck_2_5_in 25 rfl rfl)) hf hlo hc hs hd (k p e s m args below meth c H locs ls E hS hR hl)
theorem sj_X0_211 : Cond.methodLink RX0 211 Lib.Math.min.name ∈ sm_tbl := sm_tc ck_2_5_in 23 rfl rfl
theorem sj_X3_51 : Cond.methodLink RX3 51 Lib.Math.max.name ∈ sm_tbl := sm_tc ck_2_7_in 16 rfl rfl
theorem sj_X0_158 : Cond.methodLink RX0 158 Lib.Math.max.name ∈ sm_tbl := sm_tc ck_3_0_in 5 rfl rfl
theorem pk_max {a b : Nat} (ha : a < 2 ^ 31) (hb : b < 2 ^ 31) : (if nI a < nI b then nI b else nI a) = nI (max a b) := by
  split
  · rename_i e; rw [nI_ltI ha hb] at e; rw [Nat.max_eq_right (by omega)]
  · rename_i e; rw [nI_ltI ha hb] at e; rw [Nat.max_eq_left (by omega)]
theorem pk_min {a b : Nat} (ha : a < 2 ^ 31) (hb : b < 2 ^ 31) : (if nI b < nI a then nI b else nI a) = nI (min a b) := by
  split
  · rename_i e; rw [nI_ltI hb ha] at e; rw [Nat.min_eq_right (by omega)]
  · rename_i e; rw [nI_ltI hb ha] at e; rw [Nat.min_eq_left (by omega)]
/-- at least 1 -/
theorem pk_max1 {a b : Nat} (ha : a < 2 ^ 20) (hb : b < 2 ^ 20) : (if nI 1 < nI a - nI b then nI a - nI b else nI 1) = nI (max 1 (a - b)) := by
  rcases Nat.lt_or_ge a b with e | e
  · have e1 : nI a - nI b < 0 := pk_sneg (by omega) e
    rw [if_neg (fun q => absurd (Int32.lt_trans (Int32.lt_trans (by decide : (0 : Int32) < nI 1) q) e1) (Int32.lt_irrefl)), show a - b = 0 by omega]; rfl
  · rw [pk_sub e]; exact pk_max (by omega) (by omega)
/-- a contract with what nobody asks for: the row of what a player would be, the three answers of the looking -/
def cl_Q (v : Option Value) (F : (Nat → Nat) → (Nat → Int32) → sm_H) (φ : (Nat → Nat) → (Nat → Int32) → Prop) : sm_Q := fun r1 h1 => r1 = .inl v ∧ ∃ P B, h1 = F P B ∧ φ P B
theorem sv_callQ {y2 : MethodName} {cc2 : ByteArray} {nL2 : Nat} {ret2 : Option FieldType} {d2 idx b : Nat} {As : List Value} {rest : List Value} {vv : Option Value} {F : (Nat → Nat) → (Nat → Int32) → sm_H} {φ : (Nat → Nat) → (Nat → Int32) → Prop} {ci : Nat} {fs : List Value} {T : u_T} {N : Nat} (hs : sm_sV M.1.cls idx (y2, cc2, nL2, ret2, []) n) (hc : sm_C G (y2, cc2, nL2, ret2, []) d2 0 0 (.ref b :: As) h (cl_Q vv F φ)) (hst : st = As.reverse ++ .ref b :: rest) (hn : As.length = n) (hlen : (lg_sl (.ref b :: As)).length ≤ nL2) (hd : decode M.2.1 pc = .ok (.invokevirtual idx, 3)) (hRm : d2 + 1 ≤ R.frames ∧ 8 + (nL2 + 11) + 30 * d2 ≤ R.locals) (hcs : cells ≤ R.cells ∧ slots ≤ R.slots) (hcat : (rest.map fun v => v.category).sum ≤ 8)
    (hb : h b = some (.inr (ci, fs))) (hf : fs ≠ []) (hci : vwCl[ci]? = some (y2.cls, T, N)) (kk : ∀ P B, φ P B → sm_V G M R Z cells slots (pc + 3) lv (vv.toList ++ rest) (F P B)) : sm_V G M R Z cells slots pc lv st h :=
  sv_invV hs hc hst hn hlen hd hRm hcs hcat hb hf hci (fun v1 h1 q => by obtain ⟨q1, P, B, rfl, q2⟩ := q; cases q1; exact kk P B q2) (fun E h1 q => by obtain ⟨q1, -⟩ := q; cases q1)
end CCO
