section SR6
variable {G : sm_G} {h : sm_H} {m : Nat} {F : Nat → Int32} {X : Nat → Int64} {A : Nat → Nat → Int32} {L : Nat → Nat → Int64} {S : Nat → Nat} {K : Nat}
/-- what is put aside -/
def gm_kN (A : Nat → Nat → Int32) (S : gm_S) (n : Nat) : Nat → Nat → Int32 := va_up A 11 (fun i => if i < n then nI (S i) else A 11 i)
def gm_kA (b : Bool) (A : Nat → Nat → Int32) (S : gm_S) : Nat → Nat → Int32 := if b then gm_kN A S 69 else A
def gm_kX (b : Bool) (X : Nat → Int64) : Nat → Int64 := if b then va_up X 12 (X 2) else X
theorem gm_kN_0 : gm_kN A S 0 = A := by
  funext a i; unfold gm_kN va_up; split
  · rename_i e; subst e; show (if i < 0 then _ else _) = _; rw [if_neg (by omega)]
  · rfl
theorem gm_kN_s (n : Nat) : va_up (gm_kN A S n) 11 (va_up (gm_kN A S n 11) n (nI (S n))) = gm_kN A S (n + 1) := by
  funext a i; unfold gm_kN va_up; split
  · rename_i e; subst e
    simp only [if_true]
    (repeat' split) <;> first | rfl | omega | (subst_vars; first | rfl | omega)
  · rename_i e; rfl
theorem as_up11 (f : Nat → Int32) : va_up (sm_as A S) 11 f = sm_as (va_up A 11 f) S := by
  funext a i; unfold sm_as va_up
  (repeat' split) <;> first | rfl | omega
theorem as_11 : sm_as A S 11 = A 11 := by unfold sm_as; rw [up_ne (by omega)]
theorem om_A {A1 A2 : Nat → Nat → Int32} (e : A1 = A2) : sm_om G h m F X (sm_as A1 S) L = sm_om G h m F X (sm_as A2 S) L := by rw [e]
theorem om_kst (n : Nat) : sm_om G h m F X (va_up (sm_as (gm_kN A S n) S) 11 (va_up (sm_as (gm_kN A S n) S 11) n (sm_as (gm_kN A S n) S 1 n))) L = sm_om G h m F X (sm_as (gm_kN A S (n + 1)) S) L := by
  rw [as_up11, as_11]
  show sm_om G h m F X (sm_as (va_up (gm_kN A S n) 11 (va_up (gm_kN A S n 11) n (nI (S n)))) S) L = _
  rw [gm_kN_s]
/-- what is taken back -/
def gm_bkN (T S : gm_S) (n : Nat) : gm_S := fun i => if i < n then T i else S i
theorem gm_bkN_0 (T : gm_S) : gm_bkN T S 0 = S := by funext i; unfold gm_bkN; rw [if_neg (by omega)]
theorem gm_bkN_s (T : gm_S) (n : Nat) : va_up (gm_bkN T S n) n (T n) = gm_bkN T S (n + 1) := by
  funext i; simp only [gm_bkN, va_up]
  (repeat' split) <;> first | rfl | omega | (subst_vars; first | rfl | omega)
theorem gm_bkN_69 {T : gm_S} (h : ∀ i, 69 ≤ i → S i = T i) : gm_bkN T S 69 = T := by
  funext i; unfold gm_bkN; split
  · rfl
  · exact h i (by omega)
theorem om_bst {T : gm_S} (hT : ∀ i, i < 69 → A 11 i = nI (T i)) {n : Nat} (hn : n < 69) : sm_om G h m F X (va_up (sm_as A (gm_bkN T S n)) 1 (va_up (sm_as A (gm_bkN T S n) 1) n (sm_as A (gm_bkN T S n) 11 n))) L = sm_om G h m F X (sm_as A (gm_bkN T S (n + 1))) L := by
  rw [as_11, hT n hn, as_up, gm_bkN_s]
theorem c6_putsAside  : sm_F G mX6_putsAside 0 [.ref m] (sm_om G h m F X (sm_as A S) L) (.inl none) (sm_om G h m F (va_up X 12 (X 2)) (sm_as (gm_kN A S 69) S) L) := by
  unfold sm_F sm_C
  show sm_V G _ _ _ 0 0 0 [(0, .ref m)] [] _
  refine sv_iconst (nI 0) dX6_putsAside_0 (by decide) ?_
  refine sv_istore_n (lv' := [(1, _), (0, _)]) dX6_putsAside_1 (by decide) rfl ?_
  refine sv_heap (h' := (sm_om G h m F X (sm_as (gm_kN A S 0) S) L)) (om_A gm_kN_0.symm) ?_
  refine sv_sub [0, 1] rfl (sv_loop (pc := 2) (lv := fun n => [(1, .int (nI n)), (0, .ref m)]) (hp := fun n => (sm_om G h m F X (sm_as (gm_kN A S n) S) L)) (I := fun n => True) (N := 69) (trivial) ?_ ?_)
  · intro hI
    show sm_V G _ _ _ _ _ _ [(1, .int (nI 69)), (0, .ref m)] [] (sm_om G h m F X (sm_as (gm_kN A S 69) S) L)
    refine sv_iload_n dX6_putsAside_2 rfl ?_
    refine sv_bipush (nI 69) dX6_putsAside_3 (by decide) ?_
    refine sv_icmpN_ge 26 dX6_putsAside_5 (by decide) (by omega) (by omega) (fun c_5 => ?_) (fun c_5 => absurd c_5 (by omega))
    refine sv_aload_n dX6_putsAside_26 rfl ?_
    refine sv_aload_n dX6_putsAside_27 rfl ?_
    refine rm_get2 rfl dX6_putsAside_28 ?_
    refine rm_put12 rfl dX6_putsAside_31 ?_
    refine sv_vret dX6_putsAside_34 rfl (Nat.le_refl _) (Nat.le_refl _) ?_
    exact ⟨rfl, rfl⟩
  · intro n hn hI ih
    show sm_V G _ _ _ _ _ _ [(1, .int (nI n)), (0, .ref m)] [] (sm_om G h m F X (sm_as (gm_kN A S n) S) L)
    refine sv_iload_n dX6_putsAside_2 rfl ?_
    refine sv_bipush (nI 69) dX6_putsAside_3 (by decide) ?_
    refine sv_icmpN_ge 26 dX6_putsAside_5 (by decide) (by omega) (by omega) (fun c_5 => absurd c_5 (by omega)) (fun c_5 => ?_)
    refine sv_aload_n dX6_putsAside_8 rfl ?_
    refine rm_get11 rfl dX6_putsAside_9 ?_
    refine sv_iload_n dX6_putsAside_12 rfl ?_
    refine sv_aload_n dX6_putsAside_13 rfl ?_
    refine rm_get1 rfl dX6_putsAside_14 ?_
    refine sv_iload_n dX6_putsAside_17 rfl ?_
    refine rm_ld1 dX6_putsAside_18 (by omega) ?_
    refine rm_st11 dX6_putsAside_19 (by omega) ?_
    refine sv_heap (h' := (sm_om G h m F X (sm_as (gm_kN A S (n + 1)) S) L)) (om_kst n) ?_
    refine sv_iinc1 (lv' := [(1, _), (0, _)]) dX6_putsAside_20 rfl (by decide) rfl ?_
    refine sv_goto 2 dX6_putsAside_23 (by decide) ?_
    exact sv_sub [0, 1] rfl (ih trivial)
theorem c6_takesBack {T : gm_S} (hT : ∀ i, i < 69 → A 11 i = nI (T i)) (hT2 : ∀ i, 69 ≤ i → S i = T i) : sm_F G mX6_takesBack 0 [.ref m] (sm_om G h m F X (sm_as A S) L) (.inl none) (sm_om G h m F (va_up X 2 (X 12)) (sm_as A T) L) := by
  unfold sm_F sm_C
  show sm_V G _ _ _ 0 0 0 [(0, .ref m)] [] _
  refine sv_iconst (nI 0) dX6_takesBack_0 (by decide) ?_
  refine sv_istore_n (lv' := [(1, _), (0, _)]) dX6_takesBack_1 (by decide) rfl ?_
  refine sv_heap (h' := (sm_om G h m F X (sm_as A (gm_bkN T S 0)) L)) (om_S (gm_bkN_0 T).symm) ?_
  refine sv_sub [0, 1] rfl (sv_loop (pc := 2) (lv := fun n => [(1, .int (nI n)), (0, .ref m)]) (hp := fun n => (sm_om G h m F X (sm_as A (gm_bkN T S n)) L)) (I := fun n => True) (N := 69) (trivial) ?_ ?_)
  · intro hI
    show sm_V G _ _ _ _ _ _ [(1, .int (nI 69)), (0, .ref m)] [] (sm_om G h m F X (sm_as A (gm_bkN T S 69)) L)
    refine sv_iload_n dX6_takesBack_2 rfl ?_
    refine sv_bipush (nI 69) dX6_takesBack_3 (by decide) ?_
    refine sv_icmpN_ge 26 dX6_takesBack_5 (by decide) (by omega) (by omega) (fun c_5 => ?_) (fun c_5 => absurd c_5 (by omega))
    refine sv_heap (h' := (sm_om G h m F X (sm_as A T) L)) (om_S (gm_bkN_69 hT2)) ?_
    refine sv_aload_n dX6_takesBack_26 rfl ?_
    refine sv_aload_n dX6_takesBack_27 rfl ?_
    refine rm_get12 rfl dX6_takesBack_28 ?_
    refine rm_put2 rfl dX6_takesBack_31 ?_
    refine sv_vret dX6_takesBack_34 rfl (Nat.le_refl _) (Nat.le_refl _) ?_
    exact ⟨rfl, rfl⟩
  · intro n hn hI ih
    show sm_V G _ _ _ _ _ _ [(1, .int (nI n)), (0, .ref m)] [] (sm_om G h m F X (sm_as A (gm_bkN T S n)) L)
    refine sv_iload_n dX6_takesBack_2 rfl ?_
    refine sv_bipush (nI 69) dX6_takesBack_3 (by decide) ?_
    refine sv_icmpN_ge 26 dX6_takesBack_5 (by decide) (by omega) (by omega) (fun c_5 => absurd c_5 (by omega)) (fun c_5 => ?_)
    refine sv_aload_n dX6_takesBack_8 rfl ?_
    refine rm_get1 rfl dX6_takesBack_9 ?_
    refine sv_iload_n dX6_takesBack_12 rfl ?_
    refine sv_aload_n dX6_takesBack_13 rfl ?_
    refine rm_get11 rfl dX6_takesBack_14 ?_
    refine sv_iload_n dX6_takesBack_17 rfl ?_
    refine rm_ld11 dX6_takesBack_18 (by omega) ?_
    refine rm_st1 dX6_takesBack_19 (by omega) ?_
    refine sv_heap (h' := (sm_om G h m F X (sm_as A (gm_bkN T S (n + 1))) L)) (om_bst hT hn) ?_
    refine sv_iinc1 (lv' := [(1, _), (0, _)]) dX6_takesBack_20 rfl (by decide) rfl ?_
    refine sv_goto 2 dX6_takesBack_23 (by decide) ?_
    exact sv_sub [0, 1] rfl (ih trivial)
theorem gm_chg {q c : Nat} (hc : c < 24) (h : gm_ch q c = true) : q = 3 → c / 10 < 3 ∧ 1 ≤ c % 10 ∧ c % 10 ≤ 3 := by
  intro e; subst e; unfold gm_ch at h; simp at h; omega
theorem gm_do_tot {T : gm_S} {q c : Nat} (hq : q < 6) (hc : c < 24) (h4 : T 4 < 4) (h5 : T 5 ≤ 6) (h7 : ∀ g, g < 3 → 1 ≤ T (7 + g) ∧ T (7 + g) ≤ 9) (hg : q = 3 → c / 10 < 3 ∧ 1 ≤ c % 10 ∧ c % 10 ≤ 3) (hw : gm_wk T q c (T (13 + 8 * T 4)) = true) : gm_tot T (T 4) ≤ gm_tot (gm_do T q c) (T 4) + 20 ∧ gm_tot (gm_do T q c) (T 4) ≤ gm_tot T (T 4) + 200 := by
  unfold gm_wk at hw
  simp only [decide_eq_true_eq] at hw
  obtain ⟨w2, w3, w4, w5⟩ := hw
  rcases (show q = 0 ∨ q = 1 ∨ q = 2 ∨ q = 3 ∨ q = 4 ∨ q = 5 by omega) with rfl | rfl | rfl | rfl | rfl | rfl
  · simp only [gm_tot, gm_do, va_up, if_true, if_false, Nat.reduceEqDiff]; simp; omega
  · simp only [gm_tot, gm_do, va_up, if_true, if_false, Nat.reduceEqDiff]; simp; omega
  · have := w2 rfl
    simp only [gm_tot, gm_do, va_up, if_true, if_false, Nat.reduceEqDiff]; simp; omega
  · have w := w3 rfl
    obtain ⟨g1, g2, g3⟩ := hg rfl
    generalize hn : c % 10 = n at *
    generalize hgd : c / 10 = g at *
    obtain ⟨p1, p2⟩ := h7 g g1
    have sl : n ≤ gm_sell (T (7 + g)) n ∧ gm_sell (T (7 + g)) n ≤ 27 := by
      rcases (show n = 1 ∨ n = 2 ∨ n = 3 by omega) with rfl | rfl | rfl <;> simp [gm_sell] <;> omega
    have e7 : va_up T (13 + 8 * T 4 + (1 + g)) (T (13 + 8 * T 4 + (1 + g)) - n) (7 + g) = T (7 + g) := up_ne (by omega)
    have ed : gm_do T 3 c = gm_sst (va_up T (13 + 8 * T 4 + (1 + g)) (T (13 + 8 * T 4 + (1 + g)) - n)) (T 4) g n := by
      unfold gm_do; rw [if_neg (by omega), if_neg (by omega), if_neg (by omega), if_pos rfl, hn, hgd]
    rw [ed]
    generalize hU : va_up T (13 + 8 * T 4 + (1 + g)) (T (13 + 8 * T 4 + (1 + g)) - n) = U at *
    have e0 : gm_sst U (T 4) g n (13 + 8 * T 4) = U (13 + 8 * T 4) + gm_sell (T (7 + g)) n := by unfold gm_sst; rw [if_pos rfl, e7]
    have ew : ∀ w, 1 ≤ w → gm_sst U (T 4) g n (13 + 8 * T 4 + w) = U (13 + 8 * T 4 + w) := by intro w hw1; unfold gm_sst; rw [if_neg (by omega), if_neg (by omega)]
    have u0 : U (13 + 8 * T 4) = T (13 + 8 * T 4) := by rw [← hU]; exact up_ne (by omega)
    have u5 : U (13 + 8 * T 4 + 5) = T (13 + 8 * T 4 + 5) := by rw [← hU]; exact up_ne (by omega)
    have ug : U (13 + 8 * T 4 + (1 + g)) = T (13 + 8 * T 4 + (1 + g)) - n := by rw [← hU]; exact up_eq
    have uo : ∀ w, w ≠ 1 + g → U (13 + 8 * T 4 + w) = T (13 + 8 * T 4 + w) := by intro w hw1; rw [← hU]; exact up_ne (by omega)
    unfold gm_tot
    rw [e0, ew 1 (by omega), ew 2 (by omega), ew 3 (by omega), ew 5 (by omega), u0, u5]
    rcases (show g = 0 ∨ g = 1 ∨ g = 2 by omega) with rfl | rfl | rfl
    · have a2 := uo 2 (by omega); have a3 := uo 3 (by omega)
      simp only [Nat.reduceAdd] at ug w
      omega
    · have a2 := uo 1 (by omega); have a3 := uo 3 (by omega)
      simp only [Nat.reduceAdd] at ug w
      omega
    · have a2 := uo 1 (by omega); have a3 := uo 2 (by omega)
      simp only [Nat.reduceAdd] at ug w
      omega
  · have := w4 rfl
    simp only [gm_tot, gm_do, va_up, if_true, if_false, Nat.reduceEqDiff]; simp; omega
  · have := w5 rfl
    simp only [gm_tot, gm_do, va_up, if_true, if_false, Nat.reduceEqDiff]; simp; omega
theorem gm_pl_tot {q c : Nat} (hI : gm_I K S) (hq : q < 6) (hc : c < 24) (hg : q = 3 → c / 10 < 3 ∧ 1 ≤ c % 10 ∧ c % 10 ≤ 3) (hcan : gm_can S q c = true) : gm_tot S (S 4) ≤ gm_tot (gm_pl S q c) (S 4) + 30 ∧ gm_tot (gm_pl S q c) (S 4) ≤ gm_tot S (S 4) + 200 ∧ gm_tot S (S 4) < 2 ^ 30 := by
  have hJ := gm_IJ hI (gm_on_i (gm_can_on hcan)).1
  have hw := gm_S2_w hJ hq hc hcan
  obtain ⟨g1, g2, g3⟩ := gm_S2_x hJ hq hcan
  have ht := gm_can_t hcan
  obtain ⟨⟨j0, j01, j1, j2, j21⟩, jK, jK2, jw, j3, j31, j4, j5, j51, j6, jp, j10, ⟨jh, jps⟩, jpl, jow⟩ := id hJ
  have e4 := g1 4 (by omega)
  have tl : gm_toll S q ≤ 5 := by unfold gm_toll; split <;> omega
  have d := gm_do_tot (T := gm_add (gm_bd S q) q) hq hc (by omega) (by rw [g1 5 (by omega)]; omega) (fun g hg9 => by rw [g1 (7 + g) (by omega)]; exact jp g hg9) hg hw
  rw [e4] at d
  have et : gm_tot (gm_add (gm_bd S q) q) (S 4) + gm_toll S q = gm_tot S (S 4) := by
    unfold gm_tot
    rw [g3, g2 (S 4) 1 (by omega) (by omega) (by omega) (by omega), g2 (S 4) 2 (by omega) (by omega) (by omega) (by omega), g2 (S 4) 3 (by omega) (by omega) (by omega) (by omega), g2 (S 4) 5 (by omega) (by omega) (by omega) (by omega)]
    omega
  have b0 := jK (13 + 8 * S 4) (by omega) (by omega)
  have b1 := jK (13 + 8 * S 4 + 1) (by omega) (by omega)
  have b2 := jK (13 + 8 * S 4 + 2) (by omega) (by omega)
  have b3 := jK (13 + 8 * S 4 + 3) (by omega) (by omega)
  have b5 := jK (13 + 8 * S 4 + 5) (by omega) (by omega)
  refine ⟨?_, ?_, ?_⟩
  · unfold gm_pl; omega
  · unfold gm_pl; omega
  · unfold gm_tot; omega
theorem gm_pl_69 {q c : Nat} (hI : gm_I K S) (hq : q < 6) (hc : c < 24) (hg : q = 3 → c / 10 < 3 ∧ 1 ≤ c % 10 ∧ c % 10 ≤ 3) (hcan : gm_can S q c = true) : ∀ i, 69 ≤ i → gm_pl S q c i = S i := by
  intro i hi
  have hJ := gm_IJ hI (gm_on_i (gm_can_on hcan)).1
  obtain ⟨f1, f2, f3, f4, f5⟩ := gm_bd_x hJ hq hcan
  obtain ⟨g1, g2, g3⟩ := gm_S2_x hJ hq hcan
  obtain ⟨⟨j0, j01, j1, j2, j21⟩, jK, jK2, jw, j3, j31, j4, j5, j51, j6, jp, j10, ⟨jh, jps⟩, jpl, jow⟩ := id hJ
  have e4 := g1 4 (by omega)
  have bw := jw q hq
  have eb : gm_bd S q i = S i := by
    cases hf : gm_full S q with
    | false => rw [gm_bd_n hf]
    | true =>
      obtain ⟨hb, hcn⟩ := gm_can_fE hcan hf
      obtain ⟨hk, hne⟩ := gm_bk_lt hb
      have ho := jow q _ hq hk
      rw [gm_bd_f hf]
      exact gm_bump_at hk (by omega) (by omega) (by omega) (by omega)
  have ea : gm_add (gm_bd S q) q i = S i := by
    unfold gm_add
    rw [f2, up_ne (by omega), up_ne (by omega), up_ne (by omega), eb]
  unfold gm_pl
  generalize gm_add (gm_bd S q) q = T at *
  unfold gm_do
  split
  · rw [up_ne (by omega)]; exact ea
  split
  · rw [up_ne (by omega)]; exact ea
  split
  · rw [up_ne (by omega), up_ne (by omega), up_ne (by omega)]; exact ea
  split
  · rename_i e
    obtain ⟨x1, x2, x3⟩ := hg e
    unfold gm_sst
    rw [if_neg (by omega), if_neg (by omega), up_ne (by omega)]; exact ea
  split
  · rw [up_ne (by omega), up_ne (by omega), up_ne (by omega)]; exact ea
  · rw [up_ne (by omega), up_ne (by omega)]; exact ea
theorem nI_100 {a b : Nat} (h : b ≤ a + 100) : nI a - nI b + nI 100 = nI (a + 100 - b) := by
  rw [← pk_sub h, ← nI_add a 100, Int32.sub_eq_add_neg, Int32.sub_eq_add_neg, Int32.add_assoc, Int32.add_assoc, Int32.add_comm (nI 100)]
/-- what a placing brings, as the program says it -/
def gm_bv (S : gm_S) (q c : Nat) : Int32 := if gm_can S q c = true then nI (gm_brg S q c) else -1
theorem gm_bv_t {q c : Nat} (h : gm_can S q c = true) : gm_bv S q c = nI (gm_brg S q c) := by unfold gm_bv; rw [if_pos h]
theorem gm_bv_f {q c : Nat} (h : gm_can S q c = false) : gm_bv S q c = -1 := by unfold gm_bv; rw [if_neg (by rw [h]; decide)]
theorem gm_kA_t {b : Bool} (h : b = true) : gm_kA b A S = gm_kN A S 69 := by subst h; rfl
theorem gm_kA_f {b : Bool} (h : b = false) : gm_kA b A S = A := by subst h; rfl
theorem gm_kX_t {b : Bool} (h : b = true) : gm_kX b X = va_up X 12 (X 2) := by subst h; rfl
theorem gm_kX_f {b : Bool} (h : b = false) : gm_kX b X = X := by subst h; rfl
theorem gm_kX_c {y : Int64} : va_up (va_up X 12 y) 2 y = va_up (va_up X 2 y) 12 y := by funext i; unfold va_up; (repeat' split) <;> first | rfl | omega
theorem gm_kX_b : va_up (va_up X 12 (X 2)) 2 (va_up X 12 (X 2) 12) = va_up X 12 (X 2) := by
  funext i; unfold va_up; (repeat' split) <;> first | rfl | omega | (subst_vars; first | rfl | omega)
theorem gm_s4 {q c : Nat} (hI : gm_I K S) (hcan : gm_can S q c = true) : S 4 < 4 := by
  have hJ := gm_IJ hI (gm_on_i (gm_can_on hcan)).1
  have a := hJ.2.2.2.2.2.2.1; have b := hJ.2.2.2.2.2.1; omega
theorem c6_bringing {q c : Nat} (hI : gm_I K S) (hq : q < 6) (hc : c < 24) (hg : q = 3 → c / 10 < 3 ∧ 1 ≤ c % 10 ∧ c % 10 ≤ 3) : sm_F G mX6_bringing 4 [.ref m, .int (nI q), .int (nI c)] (sm_om G h m F X (sm_as A S) L) (.inl (some (.int (gm_bv S q c)))) (sm_om G h m F (gm_kX (gm_can S q c) X) (sm_as (gm_kA (gm_can S q c) A S) S) L) := by
  unfold sm_F sm_C
  show sm_V G _ _ _ 0 0 0 [(0, .ref m), (1, .int (nI q)), (2, .int (nI c))] [] _
  refine sv_aload_n dX6_bringing_0 rfl ?_
  refine sv_iload_n dX6_bringing_1 rfl ?_
  refine sv_iload_n dX6_bringing_2 rfl ?_
  refine sv_callV (As := [_, _]) sc_X6_127 (c6_canPlace hI hq hc (fun e => (hg e).1)) rfl rfl (Nat.le_of_ble_eq_true rfl) dX6_bringing_3 ⟨by decide, by decide⟩ ⟨Nat.le_refl _, Nat.le_refl _⟩ (Nat.le_of_ble_eq_true rfl) om_0 (List.cons_ne_nil _ _) rfl ?_
  refine sv_ifN_ne 11 dX6_bringing_6 (by decide) (by first | omega | (have z := b2n_lt (gm_can S q c); omega)) (fun c_6 => ?_) (fun c_6 => ?_)
  · have hcan := b2n_1 c_6
    obtain ⟨t1, t2, t3⟩ := gm_pl_tot hI hq hc hg hcan
    have j4 := gm_s4 hI hcan
    refine sv_aload_n dX6_bringing_11 rfl ?_
    refine sv_callV (As := []) sc_X6_131 (c6_putsAside) rfl rfl (Nat.le_of_ble_eq_true rfl) dX6_bringing_12 ⟨by decide, by decide⟩ ⟨Nat.le_refl _, Nat.le_refl _⟩ (Nat.le_of_ble_eq_true rfl) om_0 (List.cons_ne_nil _ _) rfl ?_
    refine sv_aload_n dX6_bringing_15 rfl ?_
    refine rm_get1 rfl dX6_bringing_16 ?_
    refine sv_iconst (nI 4) dX6_bringing_19 (by decide) ?_
    refine rm_ld1N dX6_bringing_20 (by first | omega | (have z := b2n_lt (gm_can S q c); omega)) ?_
    refine sv_istore_n (lv' := [(3, _), (0, _), (1, _), (2, _)]) dX6_bringing_21 (by decide) rfl ?_
    refine sv_aload_n dX6_bringing_22 rfl ?_
    refine sv_iload_n dX6_bringing_23 rfl ?_
    refine sv_callV (As := [_]) sc_X6_134 (c6_total (by omega)) rfl rfl (Nat.le_of_ble_eq_true rfl) dX6_bringing_24 ⟨by decide, by decide⟩ ⟨Nat.le_refl _, Nat.le_refl _⟩ (Nat.le_of_ble_eq_true rfl) om_0 (List.cons_ne_nil _ _) rfl ?_
    refine sv_istore (lv' := [(4, _), (3, _), (0, _), (1, _), (2, _)]) dX6_bringing_27 (by decide) rfl ?_
    refine sv_aload_n dX6_bringing_29 rfl ?_
    refine sv_iload_n dX6_bringing_30 rfl ?_
    refine sv_iload_n dX6_bringing_31 rfl ?_
    refine sv_callV (As := [_, _]) sc_X6_137 (c6_places hI hq hc hg hcan) rfl rfl (Nat.le_of_ble_eq_true rfl) dX6_bringing_32 ⟨by decide, by decide⟩ ⟨Nat.le_refl _, Nat.le_refl _⟩ (Nat.le_of_ble_eq_true rfl) om_0 (List.cons_ne_nil _ _) rfl ?_
    refine sv_pop dX6_bringing_35 rfl ?_
    refine sv_aload_n dX6_bringing_36 rfl ?_
    refine sv_iload_n dX6_bringing_37 rfl ?_
    refine sv_callV (As := [_]) sc_X6_134 (c6_total (by omega)) rfl rfl (Nat.le_of_ble_eq_true rfl) dX6_bringing_38 ⟨by decide, by decide⟩ ⟨Nat.le_refl _, Nat.le_refl _⟩ (Nat.le_of_ble_eq_true rfl) om_0 (List.cons_ne_nil _ _) rfl ?_
    refine sv_iload dX6_bringing_41 rfl ?_
    refine sv_isub dX6_bringing_43 ?_
    refine sv_bipush (100) dX6_bringing_44 (by decide) ?_
    refine sv_iadd dX6_bringing_46 ?_
    refine sv_top (nI (gm_brg S q c)) (nI_100 (by omega)) ?_
    refine sv_istore (lv' := [(5, _), (4, _), (3, _), (0, _), (1, _), (2, _)]) dX6_bringing_47 (by decide) rfl ?_
    refine sv_aload_n dX6_bringing_49 rfl ?_
    refine sv_callV (As := []) sc_X6_140 (c6_takesBack (T := S) (fun i hi => by show (if i < 69 then nI (S i) else A 11 i) = _; rw [if_pos hi]) (gm_pl_69 hI hq hc hg hcan)) rfl rfl (Nat.le_of_ble_eq_true rfl) dX6_bringing_50 ⟨by decide, by decide⟩ ⟨Nat.le_refl _, Nat.le_refl _⟩ (Nat.le_of_ble_eq_true rfl) om_0 (List.cons_ne_nil _ _) rfl ?_
    refine sv_iload dX6_bringing_53 rfl ?_
    refine sv_iret dX6_bringing_55 rfl rfl (Nat.le_refl _) (Nat.le_refl _) ?_
    exact ⟨rI (by rw [gm_bv_t hcan]), by rw [gm_kA_t hcan, gm_kX_t hcan, gm_kX_b]⟩
  · refine sv_iconst (-1) dX6_bringing_9 (by decide) ?_
    refine sv_iret dX6_bringing_10 rfl rfl (Nat.le_refl _) (Nat.le_refl _) ?_
    have e := b2n_f c_6
    exact ⟨rI (gm_bv_f e).symm, by rw [gm_kA_f e, gm_kX_f e]⟩
end SR6
