section CNW
variable {G : sm_G} {M : sm_M} {R : Room} {Z : sm_Z} {cells slots pc index : Nat} {lv : List (Nat × Value)} {st : List Value} {h : sm_H} {m k n N : Nat} {f f2 : Nat → va_E}
/-- k cells in a row from m on are the last that were made -/
def sm_cs (h : sm_H) (m k : Nat) (f : Nat → va_E) : sm_H := fun b => if b = 0 then some (.inr (m + k, [])) else if m ≤ b ∧ b < m + k then some (f (b - m)) else h b
theorem cs_0 : sm_cs h m k f 0 = some (.inr (m + k, [])) := if_pos rfl
theorem cz_at {o : Nat} (hm : 0 < m) (ho : o < k) : sm_cs h m k f (m + o) = some (f o) := by unfold sm_cs; rw [if_neg (by omega), if_pos (by omega), Nat.add_sub_cancel_left]
theorem cz_at0 (hm : 0 < m) (ho : 0 < k) : sm_cs h m k f m = some (f 0) := cz_at (o := 0) hm ho
theorem cs_eq (e : ∀ o, o < k → f o = f2 o) : sm_cs h m k f = sm_cs h m k f2 := by
  funext b; unfold sm_cs; split
  · rfl
  split
  · rw [e _ (by omega)]
  · rfl
theorem cs_nw {e : va_E} (hm : 0 < m) : sm_nw (sm_cs h m k f) (m + k) e = sm_cs h m (k + 1) (va_up f k e) := by
  funext b; unfold sm_nw sm_cs va_up
  by_cases e0 : b = 0
  · rw [if_pos e0, if_pos e0]; rfl
  simp only [if_neg e0]
  by_cases e1 : b = m + k
  · rw [if_pos e1, if_pos (by omega), if_pos (by omega)]
  · rw [if_neg e1]
    by_cases e2 : m ≤ b ∧ b < m + k
    · rw [if_pos e2, if_pos (by omega), if_neg (by omega)]
    · rw [if_neg e2, if_neg (by omega)]
theorem cs_nw1 {e : va_E} {a : Nat} (ha : 0 < a) : sm_nw h a e = sm_cs h a 1 (fun _ => e) := by
  funext b; unfold sm_nw sm_cs
  by_cases e0 : b = 0
  · rw [if_pos e0, if_pos e0]
  simp only [if_neg e0]
  by_cases e1 : b = a
  · rw [if_pos e1, if_pos (by omega)]
  · rw [if_neg e1, if_neg (by omega)]
theorem cs_up {o : Nat} {e : va_E} (hm : 0 < m) (ho : o < k) : sm_up (sm_cs h m k f) (m + o) e = sm_cs h m k (va_up f o e) := by
  funext b; unfold sm_up sm_cs va_up
  by_cases e1 : b = m + o
  · rw [if_pos e1, if_neg (by omega), if_pos (by omega), if_pos (by omega)]
  · rw [if_neg e1]
    by_cases e0 : b = 0
    · rw [if_pos e0, if_pos e0]
    simp only [if_neg e0]
    by_cases e2 : m ≤ b ∧ b < m + k
    · rw [if_pos e2, if_pos e2, if_neg (by omega)]
    · rw [if_neg e2, if_neg e2]
theorem cs_up0 {e : va_E} (hm : 0 < m) (ho : 0 < k) : sm_up (sm_cs h m k f) m e = sm_cs h m k (va_up f 0 e) := cs_up (o := 0) hm ho
/-- a row behind a row -/
theorem cs_cs {n : Nat} (hm : 0 < m) : sm_cs (sm_cs h m k f) (m + k) n f2 = sm_cs h m (k + n) (fun o => if o < k then f o else f2 (o - k)) := by
  funext b; unfold sm_cs
  by_cases e0 : b = 0
  · rw [if_pos e0, if_pos e0, Nat.add_assoc]
  simp only [if_neg e0]
  by_cases e1 : m + k ≤ b ∧ b < m + k + n
  · rw [if_pos e1, if_pos (by omega), if_neg (by omega), show b - (m + k) = b - m - k by omega]
  · rw [if_neg e1]
    by_cases e2 : m ≤ b ∧ b < m + k
    · rw [if_pos e2, if_pos (by omega), if_pos (by omega)]
    · rw [if_neg e2, if_neg (by omega)]
theorem cs_w {n : Nat} {f3 : Nat → va_E} (hm : 0 < m) (e1 : ∀ o, o < k → f o = f3 o) (e2 : ∀ o, o < n → f2 o = f3 (k + o)) : sm_cs (sm_cs h m k f) (m + k) n f2 = sm_cs h m (k + n) f3 := by
  rw [cs_cs hm]
  refine cs_eq (fun o ho => ?_)
  split
  · exact e1 o (by assumption)
  · rw [e2 _ (by omega)]; congr 1; omega
theorem sv_loopC {lv : Nat → List (Nat × Value)} {hp : Nat → sm_H} {cf sf : Nat → Nat} {N : Nat} (he : sm_V G M R Z (cf N) (sf N) pc (lv N) [] (hp N)) (hs : ∀ n, n < N → (sm_V G M R Z (cf (n + 1)) (sf (n + 1)) pc (lv (n + 1)) [] (hp (n + 1))) → sm_V G M R Z (cf n) (sf n) pc (lv n) [] (hp n)) : sm_V G M R Z (cf 0) (sf 0) pc (lv 0) [] (hp 0) := by
  have key : ∀ k n, n + k = N → sm_V G M R Z (cf n) (sf n) pc (lv n) [] (hp n) := by
    intro k
    induction k with
    | zero => intro n hn; have e : n = N := by omega
              subst e; exact he
    | succ k ih => intro n hn; exact hs n (by omega) (ih (n + 1) (by omega))
  exact key N 0 (by omega)
theorem kc_nai (hd : decode M.2.1 pc = .ok (.newarray .int, 2)) (hN : N < 2 ^ 20) (hc : cells + 1 ≤ R.cells) (hs : slots + N ≤ R.slots) (hm : 0 < m) (kk : sm_V G M R Z (cells + 1) (slots + N) (pc + 2) lv (.ref (m + k) :: st) (sm_cs h m (k + 1) (va_up f k (sm_ai G N (fun _ => 0))))) : sm_V G M R Z cells slots pc lv (.int (nI N) :: st) (sm_cs h m k f) := by
  refine sv_newa (N := N) (n := m + k) .int 0 (sm_ai G N (fun _ => 0)) hd rfl rfl (sm_tc ck_1_2_in 17 rfl rfl) (by rw [← nI_0, nI_ltI (by omega) (by omega)]; omega) (nI_clamp (by omega)) (by show N * 4 ≤ _; omega) (fun H e => e) hc hs cs_0 (fun U cA e => e) ?_
  rw [cs_nw hm]; exact kk
theorem kc_naj (hd : decode M.2.1 pc = .ok (.newarray .long, 2)) (hN : N < 2 ^ 20) (hc : cells + 1 ≤ R.cells) (hs : slots + N ≤ R.slots) (hm : 0 < m) (kk : sm_V G M R Z (cells + 1) (slots + N) (pc + 2) lv (.ref (m + k) :: st) (sm_cs h m (k + 1) (va_up f k (sm_aj G N (fun _ => 0))))) : sm_V G M R Z cells slots pc lv (.int (nI N) :: st) (sm_cs h m k f) := by
  refine sv_newa (N := N) (n := m + k) .long 1 (sm_aj G N (fun _ => 0)) hd rfl rfl (sm_tc ck_4_5_in 7 rfl rfl) (by rw [← nI_0, nI_ltI (by omega) (by omega)]; omega) (nI_clamp (by omega)) (by show N * 8 ≤ _; omega) (fun H e => e) hc hs cs_0 (fun U cA e => e) ?_
  rw [cs_nw hm]; exact kk
theorem kc_naz (hd : decode M.2.1 pc = .ok (.newarray .boolean, 2)) (hN : N < 2 ^ 20) (hc : cells + 1 ≤ R.cells) (hs : slots + N ≤ R.slots) (hm : 0 < m) (kk : sm_V G M R Z (cells + 1) (slots + N) (pc + 2) lv (.ref (m + k) :: st) (sm_cs h m (k + 1) (va_up f k (sm_az G N (fun _ => 0))))) : sm_V G M R Z cells slots pc lv (.int (nI N) :: st) (sm_cs h m k f) := by
  refine sv_newa (N := N) (n := m + k) .boolean 2 (sm_az G N (fun _ => 0)) hd rfl rfl (sm_tc ck_1_6_in 14 rfl rfl) (by rw [← nI_0, nI_ltI (by omega) (by omega)]; omega) (nI_clamp (by omega)) (by show N * 1 ≤ _; omega) (fun H e => e) hc hs cs_0 (fun U cA e => e) ?_
  rw [cs_nw hm]; exact kk
theorem kc_nac (hd : decode M.2.1 pc = .ok (.newarray .char, 2)) (hN : N < 2 ^ 20) (hc : cells + 1 ≤ R.cells) (hs : slots + N ≤ R.slots) (hm : 0 < m) (kk : sm_V G M R Z (cells + 1) (slots + N) (pc + 2) lv (.ref (m + k) :: st) (sm_cs h m (k + 1) (va_up f k (sm_ac G N (fun _ => 0))))) : sm_V G M R Z cells slots pc lv (.int (nI N) :: st) (sm_cs h m k f) := by
  refine sv_newa (N := N) (n := m + k) .char 3 (sm_ac G N (fun _ => 0)) hd rfl rfl (sm_tc ck_1_1_in 7 rfl rfl) (by rw [← nI_0, nI_ltI (by omega) (by omega)]; omega) (nI_clamp (by omega)) (by show N * 2 ≤ _; omega) (fun H e => e) hc hs cs_0 (fun U cA e => e) ?_
  rw [cs_nw hm]; exact kk
theorem kc_nq3 (hd : decode M.2.1 pc = .ok (.anewarray index, 3)) (w1 : Cond.classLink M.1.cls index RX3 ∈ sm_tbl) (hN : N < 2 ^ 20) (hc : cells + 1 ≤ R.cells) (hs : slots + N ≤ R.slots) (hm : 0 < m) (kk : sm_V G M R Z (cells + 1) (slots + N) (pc + 3) lv (.ref (m + k) :: st) (sm_cs h m (k + 1) (va_up f k (sm_ar G 4 N (fun _ => none))))) : sm_V G M R Z cells slots pc lv (.int (nI N) :: st) (sm_cs h m k f) := by
  refine sv_newq (N := N) (n := m + k) RX3 4 hd w1 (by simp) rfl (by rw [← nI_0, nI_ltI (by omega) (by omega)]; omega) (nI_clamp (by omega)) (by omega) hc hs cs_0 ?_
  rw [cs_nw hm]; exact kk
theorem kc_nq2 (hd : decode M.2.1 pc = .ok (.anewarray index, 3)) (w1 : Cond.classLink M.1.cls index RX2 ∈ sm_tbl) (hN : N < 2 ^ 20) (hc : cells + 1 ≤ R.cells) (hs : slots + N ≤ R.slots) (hm : 0 < m) (kk : sm_V G M R Z (cells + 1) (slots + N) (pc + 3) lv (.ref (m + k) :: st) (sm_cs h m (k + 1) (va_up f k (sm_ar G 5 N (fun _ => none))))) : sm_V G M R Z cells slots pc lv (.int (nI N) :: st) (sm_cs h m k f) := by
  refine sv_newq (N := N) (n := m + k) RX2 5 hd w1 (by simp) rfl (by rw [← nI_0, nI_ltI (by omega) (by omega)]; omega) (nI_clamp (by omega)) (by omega) hc hs cs_0 ?_
  rw [cs_nw hm]; exact kk
theorem kc_nq0 (hd : decode M.2.1 pc = .ok (.anewarray index, 3)) (w1 : Cond.classLink M.1.cls index RX0 ∈ sm_tbl) (hN : N < 2 ^ 20) (hc : cells + 1 ≤ R.cells) (hs : slots + N ≤ R.slots) (hm : 0 < m) (kk : sm_V G M R Z (cells + 1) (slots + N) (pc + 3) lv (.ref (m + k) :: st) (sm_cs h m (k + 1) (va_up f k (sm_ar G 6 N (fun _ => none))))) : sm_V G M R Z cells slots pc lv (.int (nI N) :: st) (sm_cs h m k f) := by
  refine sv_newq (N := N) (n := m + k) RX0 6 hd w1 (by simp) rfl (by rw [← nI_0, nI_ltI (by omega) (by omega)]; omega) (nI_clamp (by omega)) (by omega) hc hs cs_0 ?_
  rw [cs_nw hm]; exact kk
def nw_0 : List Value := [.null, .null, .null, .null, .int 0, .int 0, .int 0, .int 0, .int 0, .int 0, .int 0, .long 0, .null, .int 0, .int 0, .int 0]
theorem nw_0_ok : ∀ j, j < 16 → defaultValue (tyX0 j) = vp_V nw_0 j := by
  intro j hj
  rcases (show j = 0 ∨ j = 1 ∨ j = 2 ∨ j = 3 ∨ j = 4 ∨ j = 5 ∨ j = 6 ∨ j = 7 ∨ j = 8 ∨ j = 9 ∨ j = 10 ∨ j = 11 ∨ j = 12 ∨ j = 13 ∨ j = 14 ∨ j = 15 by omega) with rfl | rfl | rfl | rfl | rfl | rfl | rfl | rfl | rfl | rfl | rfl | rfl | rfl | rfl | rfl | rfl
  all_goals rfl
theorem kc_new0 (hd : decode M.2.1 pc = .ok (.new index, 3)) (w1 : Cond.classLink M.1.cls index RX0 ∈ sm_tbl) (hc : cells + 1 ≤ R.cells) (hs : slots + 16 ≤ R.slots) (hm : 0 < m) (kk : sm_V G M R Z (cells + 1) (slots + 16) (pc + 3) lv (.ref (m + k) :: st) (sm_cs (sm_cs h m k f) (m + k) 1 (fun _ => .inr (0, nw_0)))) : sm_V G M R Z cells slots pc lv st (sm_cs h m k f) := by
  refine sv_new (n := m + k) nw_0 sm_cl0 hd w1 (sm_tc ck_1_1_in 9 rfl rfl) (sm_tc ck_1_0_in 3 rfl rfl) nw_0_ok hc hs cs_0 ?_
  rw [cs_nw1 (by omega)]; exact kk
def nw_1 : List Value := [.null, .int 0, .int 0]
theorem nw_1_ok : ∀ j, j < 3 → defaultValue (tyX1 j) = vp_V nw_1 j := by
  intro j hj
  rcases (show j = 0 ∨ j = 1 ∨ j = 2 by omega) with rfl | rfl | rfl
  all_goals rfl
theorem kc_new1 (hd : decode M.2.1 pc = .ok (.new index, 3)) (w1 : Cond.classLink M.1.cls index RX1 ∈ sm_tbl) (hc : cells + 1 ≤ R.cells) (hs : slots + 3 ≤ R.slots) (hm : 0 < m) (kk : sm_V G M R Z (cells + 1) (slots + 3) (pc + 3) lv (.ref (m + k) :: st) (sm_cs (sm_cs h m k f) (m + k) 1 (fun _ => .inr (1, nw_1)))) : sm_V G M R Z cells slots pc lv st (sm_cs h m k f) := by
  refine sv_new (n := m + k) nw_1 sm_cl1 hd w1 (sm_tc ck_1_5_in 6 rfl rfl) (sm_tc ck_1_0_in 6 rfl rfl) nw_1_ok hc hs cs_0 ?_
  rw [cs_nw1 (by omega)]; exact kk
def nw_2 : List Value := [.null, .int 0]
theorem nw_2_ok : ∀ j, j < 2 → defaultValue (tyX2 j) = vp_V nw_2 j := by
  intro j hj
  rcases (show j = 0 ∨ j = 1 by omega) with rfl | rfl
  all_goals rfl
theorem kc_new2 (hd : decode M.2.1 pc = .ok (.new index, 3)) (w1 : Cond.classLink M.1.cls index RX2 ∈ sm_tbl) (hc : cells + 1 ≤ R.cells) (hs : slots + 2 ≤ R.slots) (hm : 0 < m) (kk : sm_V G M R Z (cells + 1) (slots + 2) (pc + 3) lv (.ref (m + k) :: st) (sm_cs (sm_cs h m k f) (m + k) 1 (fun _ => .inr (2, nw_2)))) : sm_V G M R Z cells slots pc lv st (sm_cs h m k f) := by
  refine sv_new (n := m + k) nw_2 sm_cl2 hd w1 (sm_tc ck_1_2_in 18 rfl rfl) (sm_tc ck_1_0_in 5 rfl rfl) nw_2_ok hc hs cs_0 ?_
  rw [cs_nw1 (by omega)]; exact kk
def nw_3 : List Value := [.null, .int 0, .int 0, .int 0, .int 0, .int 0]
theorem nw_3_ok : ∀ j, j < 6 → defaultValue (tyX3 j) = vp_V nw_3 j := by
  intro j hj
  rcases (show j = 0 ∨ j = 1 ∨ j = 2 ∨ j = 3 ∨ j = 4 ∨ j = 5 by omega) with rfl | rfl | rfl | rfl | rfl | rfl
  all_goals rfl
theorem kc_new3 (hd : decode M.2.1 pc = .ok (.new index, 3)) (w1 : Cond.classLink M.1.cls index RX3 ∈ sm_tbl) (hc : cells + 1 ≤ R.cells) (hs : slots + 6 ≤ R.slots) (hm : 0 < m) (kk : sm_V G M R Z (cells + 1) (slots + 6) (pc + 3) lv (.ref (m + k) :: st) (sm_cs (sm_cs h m k f) (m + k) 1 (fun _ => .inr (3, nw_3)))) : sm_V G M R Z cells slots pc lv st (sm_cs h m k f) := by
  refine sv_new (n := m + k) nw_3 sm_cl3 hd w1 (sm_tc ck_1_1_in 18 rfl rfl) (sm_tc ck_1_0_in 4 rfl rfl) nw_3_ok hc hs cs_0 ?_
  rw [cs_nw1 (by omega)]; exact kk
def nw_4 : List Value := [.null, .int 0]
theorem nw_4_ok : ∀ j, j < 2 → defaultValue (tyX4 j) = vp_V nw_4 j := by
  intro j hj
  rcases (show j = 0 ∨ j = 1 by omega) with rfl | rfl
  all_goals rfl
theorem kc_new4 (hd : decode M.2.1 pc = .ok (.new index, 3)) (w1 : Cond.classLink M.1.cls index RX4 ∈ sm_tbl) (hc : cells + 1 ≤ R.cells) (hs : slots + 2 ≤ R.slots) (hm : 0 < m) (kk : sm_V G M R Z (cells + 1) (slots + 2) (pc + 3) lv (.ref (m + k) :: st) (sm_cs (sm_cs h m k f) (m + k) 1 (fun _ => .inr (4, nw_4)))) : sm_V G M R Z cells slots pc lv st (sm_cs h m k f) := by
  refine sv_new (n := m + k) nw_4 sm_cl4 hd w1 (sm_tc ck_1_0_in 24 rfl rfl) (sm_tc ck_1_0_in 2 rfl rfl) nw_4_ok hc hs cs_0 ?_
  rw [cs_nw1 (by omega)]; exact kk
def nw_5 : List Value := [.null, .null, .null, .null, .null, .null]
theorem nw_5_ok : ∀ j, j < 6 → defaultValue (tyX5 j) = vp_V nw_5 j := by
  intro j hj
  rcases (show j = 0 ∨ j = 1 ∨ j = 2 ∨ j = 3 ∨ j = 4 ∨ j = 5 by omega) with rfl | rfl | rfl | rfl | rfl | rfl
  all_goals rfl
theorem kc_new5 (hd : decode M.2.1 pc = .ok (.new index, 3)) (w1 : Cond.classLink M.1.cls index RX5 ∈ sm_tbl) (hc : cells + 1 ≤ R.cells) (hs : slots + 6 ≤ R.slots) (hm : 0 < m) (kk : sm_V G M R Z (cells + 1) (slots + 6) (pc + 3) lv (.ref (m + k) :: st) (sm_cs (sm_cs h m k f) (m + k) 1 (fun _ => .inr (5, nw_5)))) : sm_V G M R Z cells slots pc lv st (sm_cs h m k f) := by
  refine sv_new (n := m + k) nw_5 sm_cl5 hd w1 (sm_tc ck_1_0_in 16 rfl rfl) (sm_tc ck_1_0_in 1 rfl rfl) nw_5_ok hc hs cs_0 ?_
  rw [cs_nw1 (by omega)]; exact kk
def nw_6 : List Value := [.int 0, .null, .long 0, .null, .null, .int 0, .null, .null, .null, .null, .int 0, .null, .long 0, .null, .long 0, .int 0, .int 0, .int 0, .int 0, .int 0, .int 0, .int 0, .null, .int 0]
theorem nw_6_ok : ∀ j, j < 24 → defaultValue (tyX6 j) = vp_V nw_6 j := by
  intro j hj
  rcases (show j = 0 ∨ j = 1 ∨ j = 2 ∨ j = 3 ∨ j = 4 ∨ j = 5 ∨ j = 6 ∨ j = 7 ∨ j = 8 ∨ j = 9 ∨ j = 10 ∨ j = 11 ∨ j = 12 ∨ j = 13 ∨ j = 14 ∨ j = 15 ∨ j = 16 ∨ j = 17 ∨ j = 18 ∨ j = 19 ∨ j = 20 ∨ j = 21 ∨ j = 22 ∨ j = 23 by omega) with rfl | rfl | rfl | rfl | rfl | rfl | rfl | rfl | rfl | rfl | rfl | rfl | rfl | rfl | rfl | rfl | rfl | rfl | rfl | rfl | rfl | rfl | rfl | rfl
  all_goals rfl
theorem kc_new6 (hd : decode M.2.1 pc = .ok (.new index, 3)) (w1 : Cond.classLink M.1.cls index RX6 ∈ sm_tbl) (hc : cells + 1 ≤ R.cells) (hs : slots + 24 ≤ R.slots) (hm : 0 < m) (kk : sm_V G M R Z (cells + 1) (slots + 24) (pc + 3) lv (.ref (m + k) :: st) (sm_cs (sm_cs h m k f) (m + k) 1 (fun _ => .inr (6, nw_6)))) : sm_V G M R Z cells slots pc lv st (sm_cs h m k f) := by
  refine sv_new (n := m + k) nw_6 sm_cl6 hd w1 (sm_tc ck_4_2_in 15 rfl rfl) (sm_tc ck_1_0_in 7 rfl rfl) nw_6_ok hc hs cs_0 ?_
  rw [cs_nw1 (by omega)]; exact kk
theorem kc_pF {ci j : Nat} {C : String} {T : u_T} {NN : Nat} {ty : Nat → FieldType} {fs : List Value} {v : Value} (hC : sm_cl ci C T NN ty) (hd : decode M.2.1 pc = .ok (.putfield index, 3)) (hk : j < NN) (hw : sm_fl M.1.cls index j T) (hfin : (T j).2.2.2 = true) (hin2 : M.1.name = "<init>") (hdecl : (T j).1 = M.1.cls) (hf0 : f 0 = .inr (ci, fs)) (hl0 : j < fs.length) (hn : narrow (ty j) v = v) (hfit : fits (ty j) v = true) (hm : 0 < m) (hk0 : 0 < k) (kk : sm_V G M R Z cells slots (pc + 3) lv st (sm_cs h m k (va_up f 0 (.inr (ci, fs.set j v))))) : sm_V G M R Z cells slots pc lv (v :: .ref m :: st) (sm_cs h m k f) :=
  sv_putF hC hd hk hw hfin hin2 hdecl ((cz_at0 hm hk0).trans (congrArg some hf0)) hl0 hn hfit (by rw [cs_up0 hm hk0]; exact kk)
theorem kc_p {ci j : Nat} {C : String} {T : u_T} {NN : Nat} {ty : Nat → FieldType} {fs : List Value} {v : Value} (hC : sm_cl ci C T NN ty) (hd : decode M.2.1 pc = .ok (.putfield index, 3)) (hk : j < NN) (hw : sm_fl M.1.cls index j T) (hfin : (T j).2.2.2 = false) (hf0 : f 0 = .inr (ci, fs)) (hl0 : j < fs.length) (hn : narrow (ty j) v = v) (hfit : fits (ty j) v = true) (hm : 0 < m) (hk0 : 0 < k) (kk : sm_V G M R Z cells slots (pc + 3) lv st (sm_cs h m k (va_up f 0 (.inr (ci, fs.set j v))))) : sm_V G M R Z cells slots pc lv (v :: .ref m :: st) (sm_cs h m k f) :=
  sv_put hC hd hk hw hfin ((cz_at0 hm hk0).trans (congrArg some hf0)) hl0 hn hfit (by rw [cs_up0 hm hk0]; exact kk)
theorem kc_g {ci j : Nat} {C : String} {T : u_T} {NN : Nat} {ty : Nat → FieldType} {fs : List Value} {v : Value} (hC : sm_cl ci C T NN ty) (hd : decode M.2.1 pc = .ok (.getfield index, 3)) (hk : j < NN) (hw : sm_fl M.1.cls index j T) (hf0 : f 0 = .inr (ci, fs)) (hv : fs[j]? = some v) (hm : 0 < m) (hk0 : 0 < k) (kk : sm_V G M R Z cells slots (pc + 3) lv (v :: st) (sm_cs h m k f)) : sm_V G M R Z cells slots pc lv (.ref m :: st) (sm_cs h m k f) :=
  sv_get hC hd hk hw ((cz_at0 hm hk0).trans (congrArg some hf0)) hv kk
theorem sj_X5_o : Cond.methodLink RX5 1 Lib.objectInit ∈ sm_tbl := sm_tc ck_1_0_in 20 rfl rfl
theorem sj_X4_o : Cond.methodLink RX4 3 Lib.objectInit ∈ sm_tbl := sm_tc ck_1_0_in 28 rfl rfl
theorem sj_X0_o : Cond.methodLink RX0 3 Lib.objectInit ∈ sm_tbl := sm_tc ck_1_1_in 13 rfl rfl
theorem sj_X3_o : Cond.methodLink RX3 3 Lib.objectInit ∈ sm_tbl := sm_tc ck_1_1_in 22 rfl rfl
theorem sj_X2_o : Cond.methodLink RX2 3 Lib.objectInit ∈ sm_tbl := sm_tc ck_1_2_in 22 rfl rfl
theorem sj_X1_o : Cond.methodLink RX1 1 Lib.objectInit ∈ sm_tbl := sm_tc ck_1_5_in 10 rfl rfl
theorem sj_X6_o : Cond.methodLink RX6 1 Lib.objectInit ∈ sm_tbl := sm_tc ck_4_2_in 19 rfl rfl
theorem sj_o1 : Cond.instanceMethod Lib.objectInit ∈ sm_tbl := sm_tc ck_1_0_in 21 rfl rfl
theorem sj_o2 : Cond.code Lib.objectInit ⟨#[0xb1]⟩ 1 none ∈ sm_tbl := sm_tc ck_1_0_in 22 rfl rfl
theorem sk_L_8 : Cond.classLink RL 8 RX5 ∈ sm_tbl := sm_tc ck_1_0_in 15 rfl rfl
theorem sk_X5_7 : Cond.classLink RX5 7 RX4 ∈ sm_tbl := sm_tc ck_1_0_in 23 rfl rfl
theorem sk_X5_16 : Cond.classLink RX5 16 RX0 ∈ sm_tbl := sm_tc ck_1_1_in 8 rfl rfl
theorem sk_X0_9 : Cond.classLink RX0 9 RX3 ∈ sm_tbl := sm_tc ck_1_1_in 14 rfl rfl
theorem sk_X0_17 : Cond.classLink RX0 17 RX2 ∈ sm_tbl := sm_tc ck_1_1_in 16 rfl rfl
theorem sk_X5_26 : Cond.classLink RX5 26 RX1 ∈ sm_tbl := sm_tc ck_1_5_in 5 rfl rfl
theorem sk_X1_9 : Cond.classLink RX1 9 RX0 ∈ sm_tbl := sm_tc ck_1_5_in 11 rfl rfl
theorem sk_L_87 : Cond.classLink RL 87 RX6 ∈ sm_tbl := sm_tc ck_4_2_in 14 rfl rfl
theorem cs_fun {e : va_E} {h9 : sm_H} (h : f 0 = e) : sm_cs h9 m 1 f = sm_cs h9 m 1 (fun _ => e) := cs_eq (fun o ho => by rw [show o = 0 by omega]; exact h)
def nw_P : Nat → Nat := fun _ => 0
def nw_pf (G : sm_G) (a : Nat) : Nat → va_E := fun o => if o = 0 then .inr (3, cl_pf a nw_P) else sm_ai G 3 (cl_pg nw_P)
theorem nw_pg : cl_pg nw_P = fun _ => 0 := by funext j; unfold cl_pg; split <;> rfl
def nw_qf (G : sm_G) (a : Nat) : Nat → va_E := fun o => if o = 0 then .inr (2, cl_qf a 0) else sm_ai G 3 (cl_qg nw_P)
theorem nw_qg : cl_qg nw_P = fun _ => 0 := by funext j; unfold cl_qg; split <;> rfl
def nw_tf (G : sm_G) (a : Nat) : Nat → va_E := fun o => if o = 0 then .inr (4, cl_tf a 0) else sm_ac G 120 (cl_tg nw_P)
theorem nw_tg : cl_tg nw_P = fun _ => 0 := by funext j; unfold cl_tg; split <;> rfl
theorem k3_init (hm : 0 < m) : sm_C G mX3_init 1 1 3 [.ref m] (sm_cs h m 1 (fun _ => .inr (3, nw_3))) (fun r1 h1 => r1 = .inl none ∧ h1 = sm_cs h m 2 (nw_pf G m)) := by
  unfold sm_C
  show sm_V G _ _ _ 0 0 0 [(0, .ref m)] [] _
  refine sv_aload_n dX3_init_0 rfl ?_
  refine sv_objInit dX3_init_1 sj_X3_o sj_o1 sj_o2 (Nat.le_of_ble_eq_true rfl) (Nat.le_of_ble_eq_true rfl) ?_
  refine sv_aload_n dX3_init_4 rfl ?_
  refine sv_iconst (nI 3) dX3_init_5 (by decide) ?_
  refine kc_nai dX3_init_6 (by decide) (by first | exact Nat.le_of_ble_eq_true rfl | (show _ ≤ _; omega) | omega) (by first | exact Nat.le_of_ble_eq_true rfl | (show _ ≤ _; omega) | omega) hm ?_
  refine kc_pF sm_cl3 (j := 0) dX3_init_8 (by decide) sf_X3_9 rfl rfl rfl rfl (Nat.le_of_ble_eq_true rfl) rfl rfl hm (by omega) ?_
  refine sv_aload_n dX3_init_11 rfl ?_
  refine sv_iconst (nI 0) dX3_init_12 (by decide) ?_
  refine kc_p sm_cl3 (j := 1) dX3_init_13 (by decide) sf_X3_15 rfl rfl (Nat.le_of_ble_eq_true rfl) rfl rfl hm (by omega) ?_
  refine sv_aload_n dX3_init_16 rfl ?_
  refine sv_iconst (nI 0) dX3_init_17 (by decide) ?_
  refine kc_p sm_cl3 (j := 2) dX3_init_18 (by decide) sf_X3_19 rfl rfl (Nat.le_of_ble_eq_true rfl) rfl rfl hm (by omega) ?_
  refine sv_aload_n dX3_init_21 rfl ?_
  refine sv_iconst (nI 0) dX3_init_22 (by decide) ?_
  refine kc_p sm_cl3 (j := 3) dX3_init_23 (by decide) sf_X3_22 rfl rfl (Nat.le_of_ble_eq_true rfl) rfl rfl hm (by omega) ?_
  refine sv_aload_n dX3_init_26 rfl ?_
  refine sv_iconst (nI 0) dX3_init_27 (by decide) ?_
  refine kc_p sm_cl3 (j := 4) dX3_init_28 (by decide) sf_X3_25 rfl rfl (Nat.le_of_ble_eq_true rfl) rfl rfl hm (by omega) ?_
  refine sv_aload_n dX3_init_31 rfl ?_
  refine sv_iconst (nI 0) dX3_init_32 (by decide) ?_
  refine kc_p sm_cl3 (j := 5) dX3_init_33 (by decide) sf_X3_28 rfl rfl (Nat.le_of_ble_eq_true rfl) rfl rfl hm (by omega) ?_
  refine sv_vret dX3_init_36 rfl (by first | exact Nat.le_of_ble_eq_true rfl | (show _ ≤ _; omega) | omega) (by first | exact Nat.le_of_ble_eq_true rfl | (show _ ≤ _; omega) | omega) ?_
  refine ⟨rfl, cs_eq (fun o ho => ?_)⟩
  rcases (show o = 0 ∨ o = 1 by omega) with rfl | rfl
  · rfl
  · exact (congrArg (sm_ai G 3) nw_pg).symm
theorem k2_init (hm : 0 < m) : sm_C G mX2_init 1 1 3 [.ref m] (sm_cs h m 1 (fun _ => .inr (2, nw_2))) (fun r1 h1 => r1 = .inl none ∧ h1 = sm_cs h m 2 (nw_qf G m)) := by
  unfold sm_C
  show sm_V G _ _ _ 0 0 0 [(0, .ref m)] [] _
  refine sv_aload_n dX2_init_0 rfl ?_
  refine sv_objInit dX2_init_1 sj_X2_o sj_o1 sj_o2 (Nat.le_of_ble_eq_true rfl) (Nat.le_of_ble_eq_true rfl) ?_
  refine sv_aload_n dX2_init_4 rfl ?_
  refine sv_iconst (nI 3) dX2_init_5 (by decide) ?_
  refine kc_nai dX2_init_6 (by decide) (by first | exact Nat.le_of_ble_eq_true rfl | (show _ ≤ _; omega) | omega) (by first | exact Nat.le_of_ble_eq_true rfl | (show _ ≤ _; omega) | omega) hm ?_
  refine kc_pF sm_cl2 (j := 0) dX2_init_8 (by decide) sf_X2_11 rfl rfl rfl rfl (Nat.le_of_ble_eq_true rfl) rfl rfl hm (by omega) ?_
  refine sv_aload_n dX2_init_11 rfl ?_
  refine sv_iconst (nI 0) dX2_init_12 (by decide) ?_
  refine kc_p sm_cl2 (j := 1) dX2_init_13 (by decide) sf_X2_15 rfl rfl (Nat.le_of_ble_eq_true rfl) rfl rfl hm (by omega) ?_
  refine sv_vret dX2_init_16 rfl (by first | exact Nat.le_of_ble_eq_true rfl | (show _ ≤ _; omega) | omega) (by first | exact Nat.le_of_ble_eq_true rfl | (show _ ≤ _; omega) | omega) ?_
  refine ⟨rfl, cs_eq (fun o ho => ?_)⟩
  rcases (show o = 0 ∨ o = 1 by omega) with rfl | rfl
  · rfl
  · exact (congrArg (sm_ai G 3) nw_qg).symm
theorem k4_init (hm : 0 < m) : sm_C G mX4_init 1 1 120 [.ref m] (sm_cs h m 1 (fun _ => .inr (4, nw_4))) (fun r1 h1 => r1 = .inl none ∧ h1 = sm_cs h m 2 (nw_tf G m)) := by
  unfold sm_C
  show sm_V G _ _ _ 0 0 0 [(0, .ref m)] [] _
  refine sv_aload_n dX4_init_0 rfl ?_
  refine sv_objInit dX4_init_1 sj_X4_o sj_o1 sj_o2 (Nat.le_of_ble_eq_true rfl) (Nat.le_of_ble_eq_true rfl) ?_
  refine sv_aload_n dX4_init_4 rfl ?_
  refine sv_bipush (nI 120) dX4_init_5 (by decide) ?_
  refine kc_nac dX4_init_7 (by decide) (by first | exact Nat.le_of_ble_eq_true rfl | (show _ ≤ _; omega) | omega) (by first | exact Nat.le_of_ble_eq_true rfl | (show _ ≤ _; omega) | omega) hm ?_
  refine kc_pF sm_cl4 (j := 0) dX4_init_9 (by decide) sf_X4_11 rfl rfl rfl rfl (Nat.le_of_ble_eq_true rfl) rfl rfl hm (by omega) ?_
  refine sv_aload_n dX4_init_12 rfl ?_
  refine sv_iconst (nI 0) dX4_init_13 (by decide) ?_
  refine kc_p sm_cl4 (j := 1) dX4_init_14 (by decide) sf_X4_15 rfl rfl (Nat.le_of_ble_eq_true rfl) rfl rfl hm (by omega) ?_
  refine sv_vret dX4_init_17 rfl (by first | exact Nat.le_of_ble_eq_true rfl | (show _ ≤ _; omega) | omega) (by first | exact Nat.le_of_ble_eq_true rfl | (show _ ≤ _; omega) | omega) ?_
  refine ⟨rfl, cs_eq (fun o ho => ?_)⟩
  rcases (show o = 0 ∨ o = 1 by omega) with rfl | rfl
  · rfl
  · exact (congrArg (sm_ac G 120) nw_tg).symm
def sm_sz (h : sm_H) (n : Nat) : sm_H := fun b => if b = 0 then some (.inr (n, [])) else h b
def rw_f (G : sm_G) (m : Nat) (o : Nat) : va_E := if o = 0 then .inr (6, [.int 0, .ref (m + 1), .long 0, .ref (m + 2), .ref (m + 3), .int 0, .ref (m + 4), .ref (m + 5), .ref (m + 6), .ref (m + 7), .int 0, .ref (m + 8), .long 0, .ref (m + 9), .long 0, .int 0, .int 0, .int 0, .int 0, .int 0, .int 0, .int 0, .ref (m + 10), .int 0]) else if o = 1 then sm_ai G 69 (fun _ => 0) else if o = 2 then sm_ai G 966 (fun _ => 0) else if o = 3 then sm_aj G 14 (fun _ => 0) else if o = 4 then sm_ai G 138 (fun _ => 0) else if o = 5 then sm_aj G 2 (fun _ => 0) else if o = 6 then sm_az G 2 (fun _ => 0) else if o = 7 then sm_ai G 120 (fun _ => 0) else if o = 8 then sm_ai G 69 (fun _ => 0) else if o = 9 then sm_ai G 69 (fun _ => 0) else sm_ai G 240 (fun _ => 0)
theorem rw_om (hm : 0 < m) : sm_cs h m 11 (rw_f G m) = sm_om G (sm_sz h (m + 11)) m (fun _ => 0) (fun _ => 0) (sm_as (fun _ _ => 0) (fun _ => 0)) (fun _ _ => 0) := by
  have eA : sm_as (fun _ _ => 0) (fun _ => 0) = fun _ _ => (0 : Int32) := by
    funext a j; unfold sm_as va_up; split <;> rfl
  rw [eA]
  funext b; unfold sm_cs sm_om sm_sz
  by_cases e0 : b = 0
  · rw [if_pos e0, if_neg (by omega), if_neg (by omega), if_neg (by omega), if_neg (by omega), if_neg (by omega), if_neg (by omega), if_neg (by omega), if_neg (by omega), if_neg (by omega), if_neg (by omega), if_neg (by omega), if_pos e0]
  rw [if_neg e0]
  by_cases e1 : m ≤ b ∧ b < m + 11
  · rw [if_pos e1]
    obtain ⟨o, rfl⟩ : ∃ o, b = m + o := ⟨b - m, by omega⟩
    rw [Nat.add_sub_cancel_left]
    rcases (show o = 0 ∨ o = 1 ∨ o = 2 ∨ o = 3 ∨ o = 4 ∨ o = 5 ∨ o = 6 ∨ o = 7 ∨ o = 8 ∨ o = 9 ∨ o = 10 by omega) with rfl | rfl | rfl | rfl | rfl | rfl | rfl | rfl | rfl | rfl | rfl
    all_goals (repeat first | rw [if_pos (by omega)] | rw [if_neg (by omega)])
    all_goals rfl
  · rw [if_neg e1, if_neg (by omega), if_neg (by omega), if_neg (by omega), if_neg (by omega), if_neg (by omega), if_neg (by omega), if_neg (by omega), if_neg (by omega), if_neg (by omega), if_neg (by omega), if_neg (by omega), if_neg e0]
theorem c6_init (hm : 0 < m) : sm_C G mX6_init 1 10 1689 [.ref m] (sm_cs h m 1 (fun _ => .inr (6, nw_6))) (fun r1 h1 => r1 = .inl none ∧ h1 = (sm_om G (sm_sz h (m + 11)) m (fun _ => 0) (va_up (fun _ => 0) 2 0) (sm_as (fun _ _ => 0) (gm_s0 (fun _ => 0))) (fun _ _ => 0))) := by
  unfold sm_C
  show sm_V G _ _ _ 0 0 0 [(0, .ref m)] [] _
  refine sv_aload_n dX6_init_0 rfl ?_
  refine sv_objInit dX6_init_1 sj_X6_o sj_o1 sj_o2 (Nat.le_of_ble_eq_true rfl) (Nat.le_of_ble_eq_true rfl) ?_
  refine sv_aload_n dX6_init_4 rfl ?_
  refine sv_bipush (nI 69) dX6_init_5 (by decide) ?_
  refine kc_nai dX6_init_7 (by decide) (by first | exact Nat.le_of_ble_eq_true rfl | (show _ ≤ 10; omega)) (by first | exact Nat.le_of_ble_eq_true rfl | (show _ ≤ 1689; omega)) hm ?_
  refine kc_pF sm_cl6 (j := 1) dX6_init_9 (by decide) sf_X6_7 rfl rfl rfl rfl (Nat.le_of_ble_eq_true rfl) rfl rfl hm (by omega) ?_
  refine sv_aload_n dX6_init_12 rfl ?_
  refine sv_sipush (nI 966) dX6_init_13 (by decide) ?_
  refine kc_nai dX6_init_16 (by decide) (by first | exact Nat.le_of_ble_eq_true rfl | (show _ ≤ 10; omega)) (by first | exact Nat.le_of_ble_eq_true rfl | (show _ ≤ 1689; omega)) hm ?_
  refine kc_pF sm_cl6 (j := 3) dX6_init_18 (by decide) sf_X6_13 rfl rfl rfl rfl (Nat.le_of_ble_eq_true rfl) rfl rfl hm (by omega) ?_
  refine sv_aload_n dX6_init_21 rfl ?_
  refine sv_bipush (nI 14) dX6_init_22 (by decide) ?_
  refine kc_naj dX6_init_24 (by decide) (by first | exact Nat.le_of_ble_eq_true rfl | (show _ ≤ 10; omega)) (by first | exact Nat.le_of_ble_eq_true rfl | (show _ ≤ 1689; omega)) hm ?_
  refine kc_pF sm_cl6 (j := 4) dX6_init_26 (by decide) sf_X6_16 rfl rfl rfl rfl (Nat.le_of_ble_eq_true rfl) rfl rfl hm (by omega) ?_
  refine sv_aload_n dX6_init_29 rfl ?_
  refine sv_sipush (nI 138) dX6_init_30 (by decide) ?_
  refine kc_nai dX6_init_33 (by decide) (by first | exact Nat.le_of_ble_eq_true rfl | (show _ ≤ 10; omega)) (by first | exact Nat.le_of_ble_eq_true rfl | (show _ ≤ 1689; omega)) hm ?_
  refine kc_pF sm_cl6 (j := 6) dX6_init_35 (by decide) sf_X6_20 rfl rfl rfl rfl (Nat.le_of_ble_eq_true rfl) rfl rfl hm (by omega) ?_
  refine sv_aload_n dX6_init_38 rfl ?_
  refine sv_iconst (nI 2) dX6_init_39 (by decide) ?_
  refine kc_naj dX6_init_40 (by decide) (by first | exact Nat.le_of_ble_eq_true rfl | (show _ ≤ 10; omega)) (by first | exact Nat.le_of_ble_eq_true rfl | (show _ ≤ 1689; omega)) hm ?_
  refine kc_pF sm_cl6 (j := 7) dX6_init_42 (by decide) sf_X6_23 rfl rfl rfl rfl (Nat.le_of_ble_eq_true rfl) rfl rfl hm (by omega) ?_
  refine sv_aload_n dX6_init_45 rfl ?_
  refine sv_iconst (nI 2) dX6_init_46 (by decide) ?_
  refine kc_naz dX6_init_47 (by decide) (by first | exact Nat.le_of_ble_eq_true rfl | (show _ ≤ 10; omega)) (by first | exact Nat.le_of_ble_eq_true rfl | (show _ ≤ 1689; omega)) hm ?_
  refine kc_pF sm_cl6 (j := 8) dX6_init_49 (by decide) sf_X6_26 rfl rfl rfl rfl (Nat.le_of_ble_eq_true rfl) rfl rfl hm (by omega) ?_
  refine sv_aload_n dX6_init_52 rfl ?_
  refine sv_bipush (nI 120) dX6_init_53 (by decide) ?_
  refine kc_nai dX6_init_55 (by decide) (by first | exact Nat.le_of_ble_eq_true rfl | (show _ ≤ 10; omega)) (by first | exact Nat.le_of_ble_eq_true rfl | (show _ ≤ 1689; omega)) hm ?_
  refine kc_pF sm_cl6 (j := 9) dX6_init_57 (by decide) sf_X6_30 rfl rfl rfl rfl (Nat.le_of_ble_eq_true rfl) rfl rfl hm (by omega) ?_
  refine sv_aload_n dX6_init_60 rfl ?_
  refine sv_bipush (nI 69) dX6_init_61 (by decide) ?_
  refine kc_nai dX6_init_63 (by decide) (by first | exact Nat.le_of_ble_eq_true rfl | (show _ ≤ 10; omega)) (by first | exact Nat.le_of_ble_eq_true rfl | (show _ ≤ 1689; omega)) hm ?_
  refine kc_pF sm_cl6 (j := 11) dX6_init_65 (by decide) sf_X6_33 rfl rfl rfl rfl (Nat.le_of_ble_eq_true rfl) rfl rfl hm (by omega) ?_
  refine sv_aload_n dX6_init_68 rfl ?_
  refine sv_bipush (nI 69) dX6_init_69 (by decide) ?_
  refine kc_nai dX6_init_71 (by decide) (by first | exact Nat.le_of_ble_eq_true rfl | (show _ ≤ 10; omega)) (by first | exact Nat.le_of_ble_eq_true rfl | (show _ ≤ 1689; omega)) hm ?_
  refine kc_pF sm_cl6 (j := 13) dX6_init_73 (by decide) sf_X6_36 rfl rfl rfl rfl (Nat.le_of_ble_eq_true rfl) rfl rfl hm (by omega) ?_
  refine sv_aload_n dX6_init_76 rfl ?_
  refine sv_sipush (nI 240) dX6_init_77 (by decide) ?_
  refine kc_nai dX6_init_80 (by decide) (by first | exact Nat.le_of_ble_eq_true rfl | (show _ ≤ 10; omega)) (by first | exact Nat.le_of_ble_eq_true rfl | (show _ ≤ 1689; omega)) hm ?_
  refine kc_pF sm_cl6 (j := 22) dX6_init_82 (by decide) sf_X6_39 rfl rfl rfl rfl (Nat.le_of_ble_eq_true rfl) rfl rfl hm (by omega) ?_
  refine sv_aload_n dX6_init_85 rfl ?_
  refine sv_iconst (nI 0) dX6_init_86 (by decide) ?_
  refine kc_p sm_cl6 (j := 0) dX6_init_87 (by decide) sf_X6_42 rfl rfl (Nat.le_of_ble_eq_true rfl) rfl rfl hm (by omega) ?_
  refine sv_aload_n dX6_init_90 rfl ?_
  refine sv_heap (h' := (sm_om G (sm_sz h (m + 11)) m (fun _ => 0) (fun _ => 0) (sm_as (fun _ _ => 0) (fun _ => 0)) (fun _ _ => 0))) ((cs_eq (fun o ho => by rcases (show o = 0 ∨ o = 1 ∨ o = 2 ∨ o = 3 ∨ o = 4 ∨ o = 5 ∨ o = 6 ∨ o = 7 ∨ o = 8 ∨ o = 9 ∨ o = 10 by omega) with rfl | rfl | rfl | rfl | rfl | rfl | rfl | rfl | rfl | rfl | rfl <;> rfl)).trans (rw_om hm)) ?_
  refine sv_callV (As := []) sc_X6_46 (c6_settles) rfl rfl (Nat.le_of_ble_eq_true rfl) dX6_init_91 ⟨by decide, by decide⟩ ⟨Nat.le_refl _, Nat.le_refl _⟩ (Nat.le_of_ble_eq_true rfl) om_0 (List.cons_ne_nil _ _) rfl ?_
  refine sv_vret dX6_init_94 rfl (by first | exact Nat.le_of_ble_eq_true rfl | (show _ ≤ _; omega) | omega) (by first | exact Nat.le_of_ble_eq_true rfl | (show _ ≤ _; omega) | omega) ?_
  exact ⟨rfl, rfl⟩
def nw_S : gm_S := fun _ => 0
def nw_B : Nat → Int32 := fun _ => -1
/-- a game in the making: a players, b places, s settings stand -/
def gn (G : sm_G) (g a b s : Nat) (o : Nat) : va_E := if o = 1 then sm_ar G 4 4 (cl_ra a (g + 7)) else if o = 2 then sm_ar G 5 6 (cl_ra b (g + 15)) else cl_gc G g (cg_ss nw_S s) 0 nw_P nw_B o
theorem gn_ca {s : Nat} (hs : s ≤ 3) : cl_ca (cg_ss nw_S s) = fun _ => 0 := by
  funext j; unfold cl_ca cg_ss; split
  · rw [if_neg (by omega)]; rfl
  · rfl
theorem gn_cs : cl_cs (cg_ss nw_S 0) = fun _ => 0 := by
  funext j; unfold cl_cs cg_ss; split
  · rw [if_neg (by omega)]; rfl
  · rfl
theorem gn_ra {b : Nat} : cl_ra 0 b = fun _ => none := by funext j; unfold cl_ra; rw [if_neg (by omega)]
theorem gn_ra_s {b v : Nat} (hn : n < 6) (hv : v = b + 2 * n) : va_up (cl_ra n b) (nI n).toNatClampNeg (some v) = cl_ra (n + 1) b := by
  subst hv; rw [nI_clamp (by omega)]; funext j; unfold va_up cl_ra
  by_cases e : j = n
  · rw [if_pos e, if_pos (by omega), e]
  · rw [if_neg e]; split
    · rw [if_pos (by omega)]
    · rw [if_neg (by omega)]
theorem gn_r {p s : Nat} (hs : s ≤ 3) : cl_r (cg_ss nw_S s) p = nw_P := by
  funext w; show cg_ss nw_S s (13 + 8 * p + w) = 0; unfold cg_ss; rw [if_neg (by omega)]; rfl
theorem gn_o {q s : Nat} (hs : s ≤ 3) : cl_o (cg_ss nw_S s) q = nw_P := by
  funext w; show cg_ss nw_S s (45 + 4 * q + 1 + w) = 0; unfold cg_ss; rw [if_neg (by omega)]; rfl
theorem gn_at {g a b s o : Nat} (ho : 3 ≤ o) : gn G g a b s o = cl_gc G g (cg_ss nw_S s) 0 nw_P nw_B o := by unfold gn; rw [if_neg (by omega), if_neg (by omega)]
theorem gn_p0 {g a b s p : Nat} (hs : s ≤ 3) (hp : p < 4) : gn G g a b s (7 + 2 * p) = .inr (3, cl_pf (g + (7 + 2 * p)) nw_P) := by
  rw [gn_at (by omega), gc_p hp, gn_r hs]
theorem gn_p1 {g a b s p : Nat} (hs : s ≤ 3) (hp : p < 4) : gn G g a b s (8 + 2 * p) = sm_ai G 3 (cl_pg nw_P) := by
  rw [gn_at (by omega), gc_pg hp, gn_r hs]
theorem gn_q0 {g a b s q : Nat} (hs : s ≤ 3) (hq : q < 6) : gn G g a b s (15 + 2 * q) = .inr (2, cl_qf (g + (15 + 2 * q)) 0) := by
  rw [gn_at (by omega), gc_q hq, show cg_ss nw_S s (45 + 4 * q) = 0 by unfold cg_ss; rw [if_neg (by omega)]; rfl]
theorem gn_q1 {g a b s q : Nat} (hs : s ≤ 3) (hq : q < 6) : gn G g a b s (16 + 2 * q) = sm_ai G 3 (cl_qg nw_P) := by
  rw [gn_at (by omega), gc_qg hq, gn_o hs]
theorem gn_mp {g p : Nat} (hg : 0 < g) (hp : p < 4) : sm_cs (sm_cs h g (7 + 2 * p) (gn G g p 0 0)) (g + (7 + 2 * p)) 2 (nw_pf G (g + (7 + 2 * p))) = sm_cs h g (7 + 2 * p + 2) (gn G g p 0 0) :=
  cs_w hg (fun _ _ => rfl) (fun o ho => by
    rcases (show o = 0 ∨ o = 1 by omega) with rfl | rfl
    · exact (gn_p0 (by omega) hp).symm
    · rw [show 7 + 2 * p + 1 = 8 + 2 * p by omega, gn_p1 (by omega) hp]; rfl)
theorem gn_mq {g q : Nat} (hg : 0 < g) (hq : q < 6) : sm_cs (sm_cs h g (15 + 2 * q) (gn G g 4 q 0)) (g + (15 + 2 * q)) 2 (nw_qf G (g + (15 + 2 * q))) = sm_cs h g (15 + 2 * q + 2) (gn G g 4 q 0) :=
  cs_w hg (fun _ _ => rfl) (fun o ho => by
    rcases (show o = 0 ∨ o = 1 by omega) with rfl | rfl
    · exact (gn_q0 (by omega) hq).symm
    · rw [show 15 + 2 * q + 1 = 16 + 2 * q by omega, gn_q1 (by omega) hq]; rfl)
theorem gn_sp {g p : Nat} (hg : 0 < g) (hp : p < 4) : sm_up (sm_cs h g (7 + 2 * p + 2) (gn G g p 0 0)) (g + 1) (sm_ar G 4 4 (va_up (cl_ra p (g + 7)) (nI p).toNatClampNeg (some (g + (7 + 2 * p))))) = sm_cs h g (7 + 2 * (p + 1)) (gn G g (p + 1) 0 0) := by
  rw [cs_up hg (by omega), gn_ra_s (by omega) (by omega)]
  refine cs_eq (fun o ho => ?_)
  unfold va_up gn
  by_cases e : o = 1
  · rw [if_pos e, if_pos e]
  · rw [if_neg e, if_neg e, if_neg e]
theorem gn_sq {g q : Nat} (hg : 0 < g) (hq : q < 6) : sm_up (sm_cs h g (15 + 2 * q + 2) (gn G g 4 q 0)) (g + 2) (sm_ar G 5 6 (va_up (cl_ra q (g + 15)) (nI q).toNatClampNeg (some (g + (15 + 2 * q))))) = sm_cs h g (15 + 2 * (q + 1)) (gn G g 4 (q + 1) 0) := by
  rw [cs_up hg (by omega), gn_ra_s (by omega) (by omega)]
  refine cs_eq (fun o ho => ?_)
  unfold va_up gn
  by_cases e : o = 2
  · rw [if_pos e, if_neg (by omega), if_pos e]
  · rw [if_neg e, if_neg e, if_neg e]
theorem gn_ss {g s : Nat} (hg : 0 < g) (hs : s < 3) : sm_up (sm_cs h g 27 (gn G g 4 6 s)) (g + 4) (sm_ai G 3 (upd (cl_cs (cg_ss nw_S s)) (nI s).toNatClampNeg (nI (cg_fs s)))) = sm_cs h g 27 (gn G g 4 6 (s + 1)) := by
  rw [cs_up hg (by omega), nI_clamp (by omega)]
  refine cs_eq (fun o ho => ?_)
  by_cases e : o = 4
  · subst e
    have : upd (cl_cs (cg_ss nw_S s)) s (nI (cg_fs s)) = cl_cs (cg_ss nw_S (s + 1)) := by
      funext j; unfold upd cl_cs cg_ss
      by_cases e : j = s
      · subst e; rw [if_pos rfl, if_pos hs, if_pos (by omega)]
      · rw [if_neg e]; split
        · split
          · rw [if_pos (by omega)]
          · rw [if_neg (by omega)]
        · rfl
    rw [this]; rfl
  · rw [up_ne e]
    unfold gn
    split
    · rfl
    split
    · rfl
    · have z : ∀ i, 3 ≤ i → cg_ss nw_S s i = cg_ss nw_S (s + 1) i := fun i hi => by unfold cg_ss; rw [if_neg (by omega), if_neg (by omega)]
      exact gc_eq (fun _ => ⟨⟨z _ (by omega), z _ (by omega), z _ (by omega), z _ (by omega), z _ (by omega), z _ (by omega), z _ (by omega)⟩, rfl, rfl, rfl, rfl⟩) (fun _ j hj => z _ (by omega)) (fun e4 => absurd e4 e) (fun _ _ _ => rfl) (fun p hp _ w hw => z _ (by omega)) (fun q hq _ w hw => z _ (by omega)) ho
def nw_0S : gm_S := cg_ss nw_S 3
theorem gn_end {g : Nat} : sm_cs h g 27 (gn G g 4 6 3) = sm_cs h g 27 (cl_gc G g nw_0S 0 nw_P nw_B) := cs_eq (fun o ho => by
  unfold gn
  by_cases e1 : o = 1
  · subst e1; rfl
  rw [if_neg e1]
  by_cases e2 : o = 2
  · subst e2; rfl
  rw [if_neg e2]; rfl)
theorem k0_init (hm : 0 < m) : sm_C G mX0_init 2 26 91 [.ref m] (sm_cs h m 1 (fun _ => .inr (0, nw_0))) (fun r1 h1 => r1 = .inl none ∧ h1 = sm_cs h m 27 (cl_gc G m nw_0S 0 nw_P nw_B)) := by
  unfold sm_C
  show sm_V G _ _ _ 0 0 0 [(0, .ref m)] [] _
  refine sv_aload_n dX0_init_0 rfl ?_
  refine sv_objInit dX0_init_1 sj_X0_o sj_o1 sj_o2 (Nat.le_of_ble_eq_true rfl) (Nat.le_of_ble_eq_true rfl) ?_
  refine sv_aload_n dX0_init_4 rfl ?_
  refine sv_iconst (nI 4) dX0_init_5 (by decide) ?_
  refine kc_nq3 dX0_init_6 sk_X0_9 (by decide) (by first | exact Nat.le_of_ble_eq_true rfl | (show _ ≤ 26; omega)) (by first | exact Nat.le_of_ble_eq_true rfl | (show _ ≤ 91; omega)) hm ?_
  refine kc_pF sm_cl0 (j := 0) dX0_init_9 (by decide) sf_X0_11 rfl rfl rfl rfl (Nat.le_of_ble_eq_true rfl) rfl rfl hm (by omega) ?_
  refine sv_aload_n dX0_init_12 rfl ?_
  refine sv_bipush (nI 6) dX0_init_13 (by decide) ?_
  refine kc_nq2 dX0_init_15 sk_X0_17 (by decide) (by first | exact Nat.le_of_ble_eq_true rfl | (show _ ≤ 26; omega)) (by first | exact Nat.le_of_ble_eq_true rfl | (show _ ≤ 91; omega)) hm ?_
  refine kc_pF sm_cl0 (j := 1) dX0_init_18 (by decide) sf_X0_19 rfl rfl rfl rfl (Nat.le_of_ble_eq_true rfl) rfl rfl hm (by omega) ?_
  refine sv_aload_n dX0_init_21 rfl ?_
  refine sv_iconst (nI 3) dX0_init_22 (by decide) ?_
  refine kc_nai dX0_init_23 (by decide) (by first | exact Nat.le_of_ble_eq_true rfl | (show _ ≤ 26; omega)) (by first | exact Nat.le_of_ble_eq_true rfl | (show _ ≤ 91; omega)) hm ?_
  refine kc_pF sm_cl0 (j := 2) dX0_init_25 (by decide) sf_X0_23 rfl rfl rfl rfl (Nat.le_of_ble_eq_true rfl) rfl rfl hm (by omega) ?_
  refine sv_aload_n dX0_init_28 rfl ?_
  refine sv_iconst (nI 3) dX0_init_29 (by decide) ?_
  refine kc_nai dX0_init_30 (by decide) (by first | exact Nat.le_of_ble_eq_true rfl | (show _ ≤ 26; omega)) (by first | exact Nat.le_of_ble_eq_true rfl | (show _ ≤ 91; omega)) hm ?_
  refine kc_pF sm_cl0 (j := 3) dX0_init_32 (by decide) sf_X0_27 rfl rfl rfl rfl (Nat.le_of_ble_eq_true rfl) rfl rfl hm (by omega) ?_
  refine sv_aload_n dX0_init_35 rfl ?_
  refine sv_iconst (nI 0) dX0_init_36 (by decide) ?_
  refine kc_p sm_cl0 (j := 4) dX0_init_37 (by decide) sf_X0_30 rfl rfl (Nat.le_of_ble_eq_true rfl) rfl rfl hm (by omega) ?_
  refine sv_aload_n dX0_init_40 rfl ?_
  refine sv_iconst (nI 0) dX0_init_41 (by decide) ?_
  refine kc_p sm_cl0 (j := 5) dX0_init_42 (by decide) sf_X0_34 rfl rfl (Nat.le_of_ble_eq_true rfl) rfl rfl hm (by omega) ?_
  refine sv_aload_n dX0_init_45 rfl ?_
  refine sv_iconst (nI 0) dX0_init_46 (by decide) ?_
  refine kc_p sm_cl0 (j := 6) dX0_init_47 (by decide) sf_X0_37 rfl rfl (Nat.le_of_ble_eq_true rfl) rfl rfl hm (by omega) ?_
  refine sv_aload_n dX0_init_50 rfl ?_
  refine sv_iconst (nI 0) dX0_init_51 (by decide) ?_
  refine kc_p sm_cl0 (j := 7) dX0_init_52 (by decide) sf_X0_40 rfl rfl (Nat.le_of_ble_eq_true rfl) rfl rfl hm (by omega) ?_
  refine sv_aload_n dX0_init_55 rfl ?_
  refine sv_iconst (nI 0) dX0_init_56 (by decide) ?_
  refine kc_p sm_cl0 (j := 8) dX0_init_57 (by decide) sf_X0_43 rfl rfl (Nat.le_of_ble_eq_true rfl) rfl rfl hm (by omega) ?_
  refine sv_aload_n dX0_init_60 rfl ?_
  refine sv_iconst (nI 0) dX0_init_61 (by decide) ?_
  refine kc_p sm_cl0 (j := 9) dX0_init_62 (by decide) sf_X0_46 rfl rfl (Nat.le_of_ble_eq_true rfl) rfl rfl hm (by omega) ?_
  refine sv_aload_n dX0_init_65 rfl ?_
  refine sv_iconst (nI 0) dX0_init_66 (by decide) ?_
  refine kc_p sm_cl0 (j := 10) dX0_init_67 (by decide) sf_X0_49 rfl rfl (Nat.le_of_ble_eq_true rfl) rfl rfl hm (by omega) ?_
  refine sv_aload_n dX0_init_70 rfl ?_
  refine sv_lconst (0) dX0_init_71 (by decide) ?_
  refine kc_p sm_cl0 (j := 11) dX0_init_72 (by decide) sf_X0_52 rfl rfl (Nat.le_of_ble_eq_true rfl) rfl rfl hm (by omega) ?_
  refine sv_aload_n dX0_init_75 rfl ?_
  refine kc_new3 dX0_init_76 sk_X0_9 (by first | exact Nat.le_of_ble_eq_true rfl | (show _ ≤ 26; omega)) (by first | exact Nat.le_of_ble_eq_true rfl | (show _ ≤ 91; omega)) hm ?_
  refine sv_dup dX0_init_79 rfl ?_
  refine sv_invIN (As := []) sc_X0_56 (k3_init (m := m + 5) (by omega)) rfl rfl (Nat.le_of_ble_eq_true rfl) dX0_init_80 ⟨by decide, by decide⟩ ⟨(by first | exact Nat.le_of_ble_eq_true rfl | (show _ ≤ 26; omega)), (by first | exact Nat.le_of_ble_eq_true rfl | (show _ ≤ 91; omega))⟩ (Nat.le_of_ble_eq_true rfl) (fun E h1 q => by obtain ⟨q1, -⟩ := q; cases q1) (fun v1 h1 q => ?_)
  obtain ⟨q1, rfl⟩ := q
  cases q1
  refine sv_heap (cs_cs hm) ?_
  refine kc_pF sm_cl0 (j := 12) dX0_init_83 (by decide) sf_X0_57 rfl rfl rfl rfl (Nat.le_of_ble_eq_true rfl) rfl rfl hm (by omega) ?_
  refine sv_aload_n dX0_init_86 rfl ?_
  refine sv_iconst (-1) dX0_init_87 (by decide) ?_
  refine kc_p sm_cl0 (j := 13) dX0_init_88 (by decide) sf_X0_61 rfl rfl (Nat.le_of_ble_eq_true rfl) rfl rfl hm (by omega) ?_
  refine sv_aload_n dX0_init_91 rfl ?_
  refine sv_iconst (-1) dX0_init_92 (by decide) ?_
  refine kc_p sm_cl0 (j := 14) dX0_init_93 (by decide) sf_X0_64 rfl rfl (Nat.le_of_ble_eq_true rfl) rfl rfl hm (by omega) ?_
  refine sv_aload_n dX0_init_96 rfl ?_
  refine sv_iconst (-1) dX0_init_97 (by decide) ?_
  refine kc_p sm_cl0 (j := 15) dX0_init_98 (by decide) sf_X0_67 rfl rfl (Nat.le_of_ble_eq_true rfl) rfl rfl hm (by omega) ?_
  refine sv_iconst (nI 0) dX0_init_101 (by decide) ?_
  refine sv_istore_n (lv' := [(1, _), (0, _)]) dX0_init_102 (by decide) rfl ?_
  refine sv_heap (h' := sm_cs h m 7 (gn G m 0 0 0)) ?_ ?_
  · exact (cs_eq (fun o ho => by
      rcases (show o = 0 ∨ o = 1 ∨ o = 2 ∨ o = 3 ∨ o = 4 ∨ o = 5 ∨ o = 6 by omega) with rfl | rfl | rfl | rfl | rfl | rfl | rfl
      · rfl
      · exact congrArg (sm_ar G 4 4) gn_ra.symm
      · exact congrArg (sm_ar G 5 6) gn_ra.symm
      · exact congrArg (sm_ai G 3) (gn_ca (by omega)).symm
      · exact congrArg (sm_ai G 3) gn_cs.symm
      · rfl
      · rfl))
  refine sv_wide (c2 := 6 + 2 * 0) (s2 := 25 + 9 * 0) (by decide) (by decide) (sv_sub [0, 1] rfl (sv_loopC (pc := 103) (lv := fun p => [(1, .int (nI p)), (0, .ref m)]) (hp := fun p => (sm_cs h m (7 + 2 * p) (gn G m p 0 0))) (cf := fun p => 6 + 2 * p) (sf := fun p => 25 + 9 * p) (N := 4) ?_ ?_))
  · skip
    show sm_V G _ _ _ (6 + 2 * 4) (25 + 9 * 4) _ [(1, .int (nI 4)), (0, .ref m)] [] (sm_cs h m (7 + 2 * 4) (gn G m 4 0 0))
    refine sv_iload_n dX0_init_103 rfl ?_
    refine sv_iconst (nI 4) dX0_init_104 (by decide) ?_
    refine sv_icmpN_ge 127 dX0_init_105 (by decide) (by omega) (by omega) (fun c_105 => ?_) (fun c_105 => absurd c_105 (by omega))
    refine sv_iconst (nI 0) dX0_init_127 (by decide) ?_
    refine sv_istore_n (lv' := [(1, _), (0, _)]) dX0_init_128 (by decide) rfl ?_
    refine sv_wide (c2 := 14 + 2 * 0) (s2 := 61 + 5 * 0) (by decide) (by decide) (sv_sub [0, 1] rfl (sv_loopC (pc := 129) (lv := fun q => [(1, .int (nI q)), (0, .ref m)]) (hp := fun q => (sm_cs h m (15 + 2 * q) (gn G m 4 q 0))) (cf := fun q => 14 + 2 * q) (sf := fun q => 61 + 5 * q) (N := 6) ?_ ?_))
    · skip
      show sm_V G _ _ _ (14 + 2 * 6) (61 + 5 * 6) _ [(1, .int (nI 6)), (0, .ref m)] [] (sm_cs h m (15 + 2 * 6) (gn G m 4 6 0))
      refine sv_iload_n dX0_init_129 rfl ?_
      refine sv_bipush (nI 6) dX0_init_130 (by decide) ?_
      refine sv_icmpN_ge 154 dX0_init_132 (by decide) (by omega) (by omega) (fun c_132 => ?_) (fun c_132 => absurd c_132 (by omega))
      refine sv_iconst (nI 0) dX0_init_154 (by decide) ?_
      refine sv_istore_n (lv' := [(1, _), (0, _)]) dX0_init_155 (by decide) rfl ?_
      refine sv_sub [0, 1] rfl (sv_loop (pc := 156) (lv := fun s => [(1, .int (nI s)), (0, .ref m)]) (hp := fun s => (sm_cs h m 27 (gn G m 4 6 s))) (I := fun s => True) (N := 3) (trivial) ?_ ?_)
      · intro hI_s
        show sm_V G _ _ _ _ _ _ [(1, .int (nI 3)), (0, .ref m)] [] (sm_cs h m 27 (gn G m 4 6 3))
        refine sv_iload_n dX0_init_156 rfl ?_
        refine sv_iconst (nI 3) dX0_init_157 (by decide) ?_
        refine sv_icmpN_ge 178 dX0_init_158 (by decide) (by omega) (by omega) (fun c_158 => ?_) (fun c_158 => absurd c_158 (by omega))
        refine sv_vret dX0_init_178 rfl (by first | exact Nat.le_of_ble_eq_true rfl | (show _ ≤ _; omega) | omega) (by first | exact Nat.le_of_ble_eq_true rfl | (show _ ≤ _; omega) | omega) ?_
        exact ⟨rfl, gn_end⟩
      · intro s hn_s hI_s ih_s
        show sm_V G _ _ _ _ _ _ [(1, .int (nI s)), (0, .ref m)] [] (sm_cs h m 27 (gn G m 4 6 s))
        refine sv_iload_n dX0_init_156 rfl ?_
        refine sv_iconst (nI 3) dX0_init_157 (by decide) ?_
        refine sv_icmpN_ge 178 dX0_init_158 (by decide) (by omega) (by omega) (fun c_158 => absurd c_158 (by omega)) (fun c_158 => ?_)
        refine sv_aload_n dX0_init_161 rfl ?_
        refine kc_g sm_cl0 (j := 3) dX0_init_162 (by decide) sf_X0_27 rfl rfl hm (by omega) ?_
        refine sv_iload_n dX0_init_165 rfl ?_
        refine sv_getsN 2 rfl dX0_init_166 sg_X0_71 ?_
        refine sv_iload_n dX0_init_169 rfl ?_
        refine sv_sald (v := nI (cg_fs s)) 2 rfl dX0_init_170 (vp_in_nI (by show s < 3; omega) (by decide)) (by rw [nI_clamp (by omega)]; exact cg_fs_at s (by omega)) ?_
        refine sv_iastore dX0_init_171 (cz_at (o := 4) hm (by omega)) (vp_in_nI (by omega) (by omega)) ?_
        refine sv_heap (gn_ss hm hn_s) ?_
        refine sv_iinc1 (lv' := [(1, _), (0, _)]) dX0_init_172 rfl (by decide) rfl ?_
        refine sv_goto 156 dX0_init_175 (by decide) ?_
        exact sv_sub [0, 1] rfl (ih_s trivial)
    · intro q hn ih
      show sm_V G _ _ _ (14 + 2 * q) (61 + 5 * q) _ [(1, .int (nI q)), (0, .ref m)] [] (sm_cs h m (15 + 2 * q) (gn G m 4 q 0))
      refine sv_iload_n dX0_init_129 rfl ?_
      refine sv_bipush (nI 6) dX0_init_130 (by decide) ?_
      refine sv_icmpN_ge 154 dX0_init_132 (by decide) (by omega) (by omega) (fun c_132 => absurd c_132 (by omega)) (fun c_132 => ?_)
      refine sv_aload_n dX0_init_135 rfl ?_
      refine kc_g sm_cl0 (j := 1) dX0_init_136 (by decide) sf_X0_19 rfl rfl hm (by omega) ?_
      refine sv_iload_n dX0_init_139 rfl ?_
      refine kc_new2 dX0_init_140 sk_X0_17 (by first | exact Nat.le_of_ble_eq_true rfl | (show _ ≤ 26; omega)) (by first | exact Nat.le_of_ble_eq_true rfl | (show _ ≤ 91; omega)) hm ?_
      refine sv_dup dX0_init_143 rfl ?_
      refine sv_invIN (As := []) sc_X0_70 (k2_init (m := m + (15 + 2 * q)) (by omega)) rfl rfl (Nat.le_of_ble_eq_true rfl) dX0_init_144 ⟨by decide, by decide⟩ ⟨(by first | exact Nat.le_of_ble_eq_true rfl | (show _ ≤ 26; omega)), (by first | exact Nat.le_of_ble_eq_true rfl | (show _ ≤ 91; omega))⟩ (Nat.le_of_ble_eq_true rfl) (fun E h1 q => by obtain ⟨q1, -⟩ := q; cases q1) (fun v1 h1 q => ?_)
      obtain ⟨q1, rfl⟩ := q
      cases q1
      refine sv_heap (gn_mq hm hn) ?_
      refine sv_aastore5 dX0_init_147 (cz_at (o := 2) hm (by omega)) ((cz_at (o := 15 + 2 * q) hm (by omega)).trans (congrArg some (gn_q0 (by omega) hn))) (List.cons_ne_nil _ _) (vp_in_nI (by omega) (by omega)) ?_
      refine sv_heap (gn_sq hm hn) ?_
      refine sv_iinc1 (lv' := [(1, _), (0, _)]) dX0_init_148 rfl (by decide) rfl ?_
      refine sv_goto 129 dX0_init_151 (by decide) ?_
      exact sv_sub [0, 1] rfl (sv_wide (by omega) (by omega) ih)
  · intro p hn ih
    show sm_V G _ _ _ (6 + 2 * p) (25 + 9 * p) _ [(1, .int (nI p)), (0, .ref m)] [] (sm_cs h m (7 + 2 * p) (gn G m p 0 0))
    refine sv_iload_n dX0_init_103 rfl ?_
    refine sv_iconst (nI 4) dX0_init_104 (by decide) ?_
    refine sv_icmpN_ge 127 dX0_init_105 (by decide) (by omega) (by omega) (fun c_105 => absurd c_105 (by omega)) (fun c_105 => ?_)
    refine sv_aload_n dX0_init_108 rfl ?_
    refine kc_g sm_cl0 (j := 0) dX0_init_109 (by decide) sf_X0_11 rfl rfl hm (by omega) ?_
    refine sv_iload_n dX0_init_112 rfl ?_
    refine kc_new3 dX0_init_113 sk_X0_9 (by first | exact Nat.le_of_ble_eq_true rfl | (show _ ≤ 26; omega)) (by first | exact Nat.le_of_ble_eq_true rfl | (show _ ≤ 91; omega)) hm ?_
    refine sv_dup dX0_init_116 rfl ?_
    refine sv_invIN (As := []) sc_X0_56 (k3_init (m := m + (7 + 2 * p)) (by omega)) rfl rfl (Nat.le_of_ble_eq_true rfl) dX0_init_117 ⟨by decide, by decide⟩ ⟨(by first | exact Nat.le_of_ble_eq_true rfl | (show _ ≤ 26; omega)), (by first | exact Nat.le_of_ble_eq_true rfl | (show _ ≤ 91; omega))⟩ (Nat.le_of_ble_eq_true rfl) (fun E h1 q => by obtain ⟨q1, -⟩ := q; cases q1) (fun v1 h1 q => ?_)
    obtain ⟨q1, rfl⟩ := q
    cases q1
    refine sv_heap (gn_mp hm hn) ?_
    refine sv_aastore4 dX0_init_120 (cz_at (o := 1) hm (by omega)) ((cz_at (o := 7 + 2 * p) hm (by omega)).trans (congrArg some (gn_p0 (by omega) hn))) (List.cons_ne_nil _ _) (vp_in_nI (by omega) (by omega)) ?_
    refine sv_heap (gn_sp hm hn) ?_
    refine sv_iinc1 (lv' := [(1, _), (0, _)]) dX0_init_121 rfl (by decide) rfl ?_
    refine sv_goto 103 dX0_init_124 (by decide) ?_
    exact sv_sub [0, 1] rfl (sv_wide (by omega) (by omega) ih)
end CNW
