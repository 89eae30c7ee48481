section SR14
variable {G : sm_G} {h : sm_H} {m : Nat} {F : Nat → Int32} {X : Nat → Int64} {A : Nat → Nat → Int32} {L : Nat → Nat → Int64} {S : Nat → Nat} {K : Nat}
def gm_rj (S : gm_S) : Nat → Nat
  | 0 => 0
  | n + 1 => if gm_tot S (gm_rj S n) < gm_tot S (n + 1) then n + 1 else gm_rj S n
def gm_ri (S : gm_S) (n : Nat) : Int32 := if n = 0 then -1 else nI (gm_rj S (n - 1))
theorem gm_rj_le (S : gm_S) : ∀ n, gm_rj S n ≤ n
  | 0 => Nat.le_refl _
  | n + 1 => by unfold gm_rj; have := gm_rj_le S n; split <;> omega
theorem gm_ri_z {n : Nat} (hn : n < 2 ^ 31) (h : gm_ri S n = -1) : n = 0 := by
  unfold gm_ri at h; split at h
  · assumption
  · exact absurd h (ne_1 (by have := gm_rj_le S (n - 1); omega))
theorem gm_ri_p {n : Nat} (h : ¬ gm_ri S n = -1) : 0 < n ∧ gm_ri S n = nI (gm_rj S (n - 1)) := by
  unfold gm_ri at h ⊢
  by_cases e : n = 0
  · rw [if_pos e] at h; exact absurd rfl h
  · exact ⟨by omega, if_neg e⟩
theorem gm_ri_1 {n : Nat} (h : n = 0) : nI n = gm_ri S (n + 1) := by subst h; rfl
theorem gm_ri_2 {n : Nat} (h : 0 < n) (h2 : gm_tot S (gm_rj S (n - 1)) < gm_tot S n) : nI n = gm_ri S (n + 1) := by
  obtain ⟨j, rfl⟩ : ∃ j, n = j + 1 := ⟨n - 1, by omega⟩
  show _ = nI (if gm_tot S (gm_rj S j) < gm_tot S (j + 1) then j + 1 else gm_rj S j)
  rw [if_pos (by exact h2)]
theorem gm_ri_3 {n : Nat} (h : 0 < n) (h2 : gm_tot S n ≤ gm_tot S (gm_rj S (n - 1))) : gm_ri S n = gm_ri S (n + 1) := by
  obtain ⟨j, rfl⟩ : ∃ j, n = j + 1 := ⟨n - 1, by omega⟩
  show nI (gm_rj S j) = nI (gm_rj S (j + 1))
  show _ = nI (if gm_tot S (gm_rj S j) < gm_tot S (j + 1) then j + 1 else gm_rj S j)
  rw [if_neg (by have h3 : gm_tot S (j + 1) ≤ gm_tot S (gm_rj S j) := h2; omega)]
theorem gm_tot_lt (hI : gm_I K S) {p : Nat} (hp : p < 4) : gm_tot S p < 2 ^ 31 := by
  have jK := hI.2.1; have := hI.2.2.1
  have b0 := jK (13 + 8 * p) (by omega) (by omega)
  have b1 := jK (13 + 8 * p + 1) (by omega) (by omega)
  have b2 := jK (13 + 8 * p + 2) (by omega) (by omega)
  have b3 := jK (13 + 8 * p + 3) (by omega) (by omega)
  have b5 := jK (13 + 8 * p + 5) (by omega) (by omega)
  unfold gm_tot; omega
theorem c6_richest (hI0 : gm_I K S) : sm_F G mX6_richest 2 [.ref m] (sm_om G h m F X (sm_as A S) L) (.inl (some (.int (gm_ri S (S 3))))) (sm_om G h m F X (sm_as A S) L) := by
  unfold sm_F sm_C
  show sm_V G _ _ _ 0 0 0 [(0, .ref m)] [] _
  have b3 := hI0.2.1 3 (by omega) (by omega); have b6 := hI0.2.1 6 (by omega) (by omega); have b0 := hI0.2.1 0 (by omega) (by omega); have bK := hI0.2.2.1
  have b34 : S 3 ≤ 4 := by have q := hI0.2.2.2.2; omega
  refine sv_iconst (-1) dX6_richest_0 (by decide) ?_
  refine sv_istore_n (lv' := [(1, _), (0, _)]) dX6_richest_1 (by decide) rfl ?_
  refine sv_iconst (nI 0) dX6_richest_2 (by decide) ?_
  refine sv_istore_n (lv' := [(2, _), (1, _), (0, _)]) dX6_richest_3 (by decide) rfl ?_
  refine sv_sub [0, 1, 2] rfl (sv_loop (pc := 4) (lv := fun n => [(2, .int (nI n)), (1, .int (gm_ri S n)), (0, .ref m)]) (hp := fun n => (sm_om G h m F X (sm_as A S) L)) (I := fun n => True) (N := S 3) (trivial) ?_ ?_)
  · intro hI
    show sm_V G _ _ _ _ _ _ [(2, .int (nI (S 3))), (1, .int (gm_ri S (S 3))), (0, .ref m)] [] (sm_om G h m F X (sm_as A S) L)
    refine sv_iload_n dX6_richest_4 rfl ?_
    refine sv_aload_n dX6_richest_5 rfl ?_
    refine rm_get1 rfl dX6_richest_6 ?_
    refine sv_iconst (nI 3) dX6_richest_9 (by decide) ?_
    refine rm_ld1N dX6_richest_10 (by first | omega | exact gm_tot_lt hI0 (by omega)) ?_
    refine sv_icmpN_ge 44 dX6_richest_11 (by decide) (by first | omega | exact gm_tot_lt hI0 (by omega)) (by first | omega | exact gm_tot_lt hI0 (by omega)) (fun c_11 => ?_) (fun c_11 => absurd c_11 (by omega))
    refine sv_iload_n dX6_richest_44 rfl ?_
    refine sv_iret dX6_richest_45 rfl rfl (Nat.le_refl _) (Nat.le_refl _) ?_
    exact ⟨rfl, rfl⟩
  · intro n hn hI ih
    show sm_V G _ _ _ _ _ _ [(2, .int (nI n)), (1, .int (gm_ri S n)), (0, .ref m)] [] (sm_om G h m F X (sm_as A S) L)
    refine sv_iload_n dX6_richest_4 rfl ?_
    refine sv_aload_n dX6_richest_5 rfl ?_
    refine rm_get1 rfl dX6_richest_6 ?_
    refine sv_iconst (nI 3) dX6_richest_9 (by decide) ?_
    refine rm_ld1N dX6_richest_10 (by first | omega | exact gm_tot_lt hI0 (by omega)) ?_
    refine sv_icmpN_ge 44 dX6_richest_11 (by decide) (by first | omega | exact gm_tot_lt hI0 (by omega)) (by first | omega | exact gm_tot_lt hI0 (by omega)) (fun c_11 => absurd c_11 (by omega)) (fun c_11 => ?_)
    refine sv_iload_n dX6_richest_14 rfl ?_
    refine sv_iconst (-1) dX6_richest_15 (by decide) ?_
    refine sv_icmp_eq 32 dX6_richest_16 (by decide) (fun c_16 => ?_) (fun c_16 => ?_)
    · refine sv_iload_n dX6_richest_32 rfl ?_
      refine sv_goto 37 dX6_richest_33 (by decide) ?_
      refine sv_top (gm_ri S (n + 1)) (gm_ri_1 (gm_ri_z (by omega) c_16)) ?_
      refine sv_istore_n (lv' := [(1, _), (2, _), (0, _)]) dX6_richest_37 (by decide) rfl ?_
      refine sv_iinc1 (lv' := [(2, _), (1, _), (0, _)]) dX6_richest_38 rfl (by decide) rfl ?_
      refine sv_goto 4 dX6_richest_41 (by decide) ?_
      exact sv_sub [0, 1, 2] rfl (ih trivial)
    · obtain ⟨np, ne⟩ := gm_ri_p c_16
      have rl := gm_rj_le S (n - 1)
      refine sv_aload_n dX6_richest_19 rfl ?_
      refine sv_iload_n dX6_richest_20 rfl ?_
      refine sv_callV (As := [_]) sc_X6_134 (c6_total (by omega)) rfl rfl (Nat.le_of_ble_eq_true rfl) dX6_richest_21 ⟨by decide, by decide⟩ ⟨Nat.le_refl _, Nat.le_refl _⟩ (Nat.le_of_ble_eq_true rfl) om_0 (List.cons_ne_nil _ _) rfl ?_
      refine sv_aload_n dX6_richest_24 rfl ?_
      refine sv_iload_n dX6_richest_25 rfl ?_
      refine sv_top (nI (gm_rj S (n - 1))) (ne) ?_
      refine sv_callV (As := [_]) sc_X6_134 (c6_total (p := gm_rj S (n - 1)) (by have := gm_rj_le S (n - 1); omega)) rfl rfl (Nat.le_of_ble_eq_true rfl) dX6_richest_26 ⟨by decide, by decide⟩ ⟨Nat.le_refl _, Nat.le_refl _⟩ (Nat.le_of_ble_eq_true rfl) om_0 (List.cons_ne_nil _ _) rfl ?_
      refine sv_icmpN_le 36 dX6_richest_29 (by decide) (by first | omega | exact gm_tot_lt hI0 (by omega)) (by first | omega | exact gm_tot_lt hI0 (by omega)) (fun c_29 => ?_) (fun c_29 => ?_)
      · refine sv_iload_n dX6_richest_36 rfl ?_
        refine sv_top (gm_ri S (n + 1)) (gm_ri_3 np c_29) ?_
        refine sv_istore_n (lv' := [(1, _), (2, _), (0, _)]) dX6_richest_37 (by decide) rfl ?_
        refine sv_iinc1 (lv' := [(2, _), (1, _), (0, _)]) dX6_richest_38 rfl (by decide) rfl ?_
        refine sv_goto 4 dX6_richest_41 (by decide) ?_
        exact sv_sub [0, 1, 2] rfl (ih trivial)
      · refine sv_iload_n dX6_richest_32 rfl ?_
        refine sv_goto 37 dX6_richest_33 (by decide) ?_
        refine sv_top (gm_ri S (n + 1)) (gm_ri_2 np c_29) ?_
        refine sv_istore_n (lv' := [(1, _), (2, _), (0, _)]) dX6_richest_37 (by decide) rfl ?_
        refine sv_iinc1 (lv' := [(2, _), (1, _), (0, _)]) dX6_richest_38 rfl (by decide) rfl ?_
        refine sv_goto 4 dX6_richest_41 (by decide) ?_
        exact sv_sub [0, 1, 2] rfl (ih trivial)
def gm_z0 (S : gm_S) (a n : Nat) : gm_S := fun i => if a ≤ i ∧ i < a + n then 0 else S i
theorem gm_z0_0 (a : Nat) : gm_z0 S a 0 = S := by funext i; unfold gm_z0; rw [if_neg (by omega)]
theorem gm_z0_s (a n : Nat) : va_up (gm_z0 S a n) (a + n) 0 = gm_z0 S a (n + 1) := by
  funext i; simp only [gm_z0, va_up]
  (repeat' split) <;> first | rfl | omega
theorem gm_z0_t (n : Nat) : va_up (gm_z0 S 0 n) n 0 = gm_z0 S 0 (n + 1) := by have := gm_z0_s (S := S) 0 n; rw [Nat.zero_add] at this; exact this
/-- a fresh one's row -/
def gm_s0 (S : gm_S) : gm_S := va_up (va_up (va_up (gm_z0 S 0 69) 0 6) 1 1) 2 2
theorem c6_settles  : sm_F G mX6_settles 0 [.ref m] (sm_om G h m F X (sm_as A S) L) (.inl none) (sm_om G h m F (va_up X 2 0) (sm_as A (gm_s0 S)) L) := by
  unfold sm_F sm_C
  show sm_V G _ _ _ 0 0 0 [(0, .ref m)] [] _
  refine sv_iconst (nI 0) dX6_settles_0 (by decide) ?_
  refine sv_istore_n (lv' := [(1, _), (0, _)]) dX6_settles_1 (by decide) rfl ?_
  refine sv_heap (h' := (sm_om G h m F X (sm_as A (gm_z0 S 0 0)) L)) (om_S (gm_z0_0 0).symm) ?_
  refine sv_sub [0, 1] rfl (sv_loop (pc := 2) (lv := fun n => [(1, .int (nI n)), (0, .ref m)]) (hp := fun n => (sm_om G h m F X (sm_as A (gm_z0 S 0 n)) L)) (I := fun n => True) (N := 69) (trivial) ?_ ?_)
  · intro hI
    show sm_V G _ _ _ _ _ _ [(1, .int (nI 69)), (0, .ref m)] [] (sm_om G h m F X (sm_as A (gm_z0 S 0 69)) L)
    refine sv_iload_n dX6_settles_2 rfl ?_
    refine sv_bipush (nI 69) dX6_settles_3 (by decide) ?_
    refine sv_icmpN_ge 21 dX6_settles_5 (by decide) (by omega) (by omega) (fun c_5 => ?_) (fun c_5 => absurd c_5 (by omega))
    refine sv_aload_n dX6_settles_21 rfl ?_
    refine rm_get1 rfl dX6_settles_22 ?_
    refine sv_iconst (nI 0) dX6_settles_25 (by decide) ?_
    refine sv_bipush (nI 6) dX6_settles_26 (by decide) ?_
    refine rm_st1N dX6_settles_28 (by omega) ?_
    refine sv_aload_n dX6_settles_29 rfl ?_
    refine rm_get1 rfl dX6_settles_30 ?_
    refine sv_iconst (nI 1) dX6_settles_33 (by decide) ?_
    refine sv_iconst (nI 1) dX6_settles_34 (by decide) ?_
    refine rm_st1N dX6_settles_35 (by omega) ?_
    refine sv_aload_n dX6_settles_36 rfl ?_
    refine rm_get1 rfl dX6_settles_37 ?_
    refine sv_iconst (nI 2) dX6_settles_40 (by decide) ?_
    refine sv_iconst (nI 2) dX6_settles_41 (by decide) ?_
    refine rm_st1N dX6_settles_42 (by omega) ?_
    refine sv_aload_n dX6_settles_43 rfl ?_
    refine sv_lconst (0) dX6_settles_44 (by decide) ?_
    refine rm_put2 rfl dX6_settles_45 ?_
    refine sv_vret dX6_settles_48 rfl (Nat.le_refl _) (Nat.le_refl _) ?_
    exact ⟨rfl, rfl⟩
  · intro n hn hI ih
    show sm_V G _ _ _ _ _ _ [(1, .int (nI n)), (0, .ref m)] [] (sm_om G h m F X (sm_as A (gm_z0 S 0 n)) L)
    refine sv_iload_n dX6_settles_2 rfl ?_
    refine sv_bipush (nI 69) dX6_settles_3 (by decide) ?_
    refine sv_icmpN_ge 21 dX6_settles_5 (by decide) (by omega) (by omega) (fun c_5 => absurd c_5 (by omega)) (fun c_5 => ?_)
    refine sv_aload_n dX6_settles_8 rfl ?_
    refine rm_get1 rfl dX6_settles_9 ?_
    refine sv_iload_n dX6_settles_12 rfl ?_
    refine sv_iconst (nI 0) dX6_settles_13 (by decide) ?_
    refine rm_st1N dX6_settles_14 (by omega) ?_
    refine sv_heap (h' := (sm_om G h m F X (sm_as A (gm_z0 S 0 (n + 1))) L)) (om_S (gm_z0_t n)) ?_
    refine sv_iinc1 (lv' := [(1, _), (0, _)]) dX6_settles_15 rfl (by decide) rfl ?_
    refine sv_goto 2 dX6_settles_18 (by decide) ?_
    exact sv_sub [0, 1] rfl (ih trivial)
def gm_b8 (w : Nat) : Nat := if w = 0 then 5 else if w = 4 then 6 else if w = 5 then 3 else if w = 6 then 3 else 0
def gm_bg (S : gm_S) (p n : Nat) : gm_S := fun i => if i < 3 then S i else if i = 3 then p else if i = 7 then 3 else if i = 8 then 3 else if i = 9 then 6 else if 13 ≤ i ∧ i < 13 + 8 * n then gm_b8 ((i - 13) % 8) else if i < 69 then 0 else S i
theorem gm_bg_0 {p : Nat} : va_up (va_up (va_up (va_up (gm_z0 S 3 66) 3 p) 7 3) 8 3) 9 6 = gm_bg S p 0 := by
  funext i; simp only [gm_z0, gm_bg, va_up]
  (repeat' split) <;> first | rfl | omega
theorem gm_bg_w {p n w : Nat} (hn : n < 4) (hw : w < 8) : gm_bg S p n (13 + 8 * n + w) = 0 := by
  unfold gm_bg
  rw [if_neg (by omega), if_neg (by omega), if_neg (by omega), if_neg (by omega), if_neg (by omega), if_neg (by omega), if_pos (by omega)]
theorem gm_bg_s {p n : Nat} (hn : n < 4) : va_up (va_up (va_up (va_up (gm_bg S p n) (13 + 8 * n) 5) (13 + 8 * n + 4) 6) (13 + 8 * n + 5) 3) (13 + 8 * n + 6) 3 = gm_bg S p (n + 1) := by
  funext i
  by_cases e : 13 + 8 * n ≤ i ∧ i < 13 + 8 * n + 8
  · obtain ⟨w, rfl, hw⟩ : ∃ w, i = 13 + 8 * n + w ∧ w < 8 := ⟨i - (13 + 8 * n), by omega, by omega⟩
    have e2 : gm_bg S p (n + 1) (13 + 8 * n + w) = gm_b8 w := by
      unfold gm_bg
      rw [if_neg (by omega), if_neg (by omega), if_neg (by omega), if_neg (by omega), if_neg (by omega), if_pos (by omega), show (13 + 8 * n + w - 13) % 8 = w by omega]
    rw [e2]
    have e3 := gm_bg_w (S := S) (p := p) hn hw
    unfold va_up gm_b8
    (repeat' split) <;> first | omega | (subst_vars; omega) | exact e3
  · rw [up_ne (by omega), up_ne (by omega), up_ne (by omega), up_ne (by omega)]
    unfold gm_bg
    by_cases e4 : 13 ≤ i ∧ i < 13 + 8 * n
    · rw [if_neg (by omega), if_neg (by omega), if_neg (by omega), if_neg (by omega), if_neg (by omega), if_pos e4, if_neg (by omega), if_neg (by omega), if_neg (by omega), if_neg (by omega), if_neg (by omega), if_pos (by omega)]
    · have e5 : ¬ (13 ≤ i ∧ i < 13 + 8 * (n + 1)) := by omega
      simp only [if_neg e4, if_neg e5]
/-- a new game's row -/
def gm_new (S : gm_S) (p : Nat) (x : Int64) : gm_S := va_up (gm_bg S p p) 5 (gm_die (gm_nx x))
theorem va_up_2 (X : Nat → Int64) (x y : Int64) : va_up (va_up X 2 x) 2 y = va_up X 2 y := up_up _ _ _ _
theorem c6_begins {p : Nat} {x : Int64} (hp : p ≤ 4) : sm_F G mX6_begins 2 [.ref m, .int (nI p), .long x] (sm_om G h m F X (sm_as A S) L) (.inl none) (sm_om G h m F (va_up X 2 (gm_nx x)) (sm_as A (gm_new S p x)) L) := by
  unfold sm_F sm_C
  show sm_V G _ _ _ 0 0 0 [(0, .ref m), (1, .int (nI p)), (2, .long x)] [] _
  refine sv_iconst (nI 3) dX6_begins_0 (by decide) ?_
  refine sv_istore (lv' := [(4, _), (0, _), (1, _), (2, _)]) dX6_begins_1 (by decide) rfl ?_
  refine sv_heap (h' := (sm_om G h m F X (sm_as A (gm_z0 S 3 0)) L)) (om_S (gm_z0_0 3).symm) ?_
  refine sv_sub [0, 1, 2, 3] rfl (sv_loop (pc := 3) (lv := fun n => [(4, .int (nI (3 + n))), (0, .ref m), (1, .int (nI p)), (2, .long x)]) (hp := fun n => (sm_om G h m F X (sm_as A (gm_z0 S 3 n)) L)) (I := fun n => True) (N := 66) (trivial) ?_ ?_)
  · intro hI
    show sm_V G _ _ _ _ _ _ [(4, .int (nI (3 + 66))), (0, .ref m), (1, .int (nI p)), (2, .long x)] [] (sm_om G h m F X (sm_as A (gm_z0 S 3 66)) L)
    refine sv_iload dX6_begins_3 rfl ?_
    refine sv_bipush (nI 69) dX6_begins_5 (by decide) ?_
    refine sv_icmpN_ge 24 dX6_begins_7 (by decide) (by omega) (by omega) (fun c_7 => ?_) (fun c_7 => absurd c_7 (by omega))
    refine sv_aload_n dX6_begins_24 rfl ?_
    refine rm_get1 rfl dX6_begins_25 ?_
    refine sv_iconst (nI 3) dX6_begins_28 (by decide) ?_
    refine sv_iload_n dX6_begins_29 rfl ?_
    refine rm_st1N dX6_begins_30 (by omega) ?_
    refine sv_aload_n dX6_begins_31 rfl ?_
    refine rm_get1 rfl dX6_begins_32 ?_
    refine sv_bipush (nI 7) dX6_begins_35 (by decide) ?_
    refine sv_iconst (nI 3) dX6_begins_37 (by decide) ?_
    refine rm_st1N dX6_begins_38 (by omega) ?_
    refine sv_aload_n dX6_begins_39 rfl ?_
    refine rm_get1 rfl dX6_begins_40 ?_
    refine sv_bipush (nI 8) dX6_begins_43 (by decide) ?_
    refine sv_iconst (nI 3) dX6_begins_45 (by decide) ?_
    refine rm_st1N dX6_begins_46 (by omega) ?_
    refine sv_aload_n dX6_begins_47 rfl ?_
    refine rm_get1 rfl dX6_begins_48 ?_
    refine sv_bipush (nI 9) dX6_begins_51 (by decide) ?_
    refine sv_bipush (nI 6) dX6_begins_53 (by decide) ?_
    refine rm_st1N dX6_begins_55 (by omega) ?_
    refine sv_iconst (nI 0) dX6_begins_56 (by decide) ?_
    refine sv_istore (lv' := [(4, _), (0, _), (1, _), (2, _)]) dX6_begins_57 (by decide) rfl ?_
    refine sv_heap (h' := (sm_om G h m F X (sm_as A (gm_bg S p 0)) L)) (om_S gm_bg_0) ?_
    refine sv_sub [0, 1, 2, 3] rfl (sv_loop (pc := 59) (lv := fun n => [(4, .int (nI n)), (0, .ref m), (1, .int (nI p)), (2, .long x)]) (hp := fun n => (sm_om G h m F X (sm_as A (gm_bg S p n)) L)) (I := fun n => True) (N := p) (trivial) ?_ ?_)
    · intro hI
      show sm_V G _ _ _ _ _ _ [(4, .int (nI p)), (0, .ref m), (1, .int (nI p)), (2, .long x)] [] (sm_om G h m F X (sm_as A (gm_bg S p p)) L)
      refine sv_iload dX6_begins_59 rfl ?_
      refine sv_iload_n dX6_begins_61 rfl ?_
      refine sv_icmpN_ge 105 dX6_begins_62 (by decide) (by omega) (by omega) (fun c_62 => ?_) (fun c_62 => absurd c_62 (by omega))
      refine sv_aload_n dX6_begins_105 rfl ?_
      refine sv_lload_n dX6_begins_106 rfl ?_
      refine rm_put2 rfl dX6_begins_107 ?_
      refine sv_aload_n dX6_begins_110 rfl ?_
      refine sv_callV (As := []) sc_X6_93 (c6_throwsDie) rfl rfl (Nat.le_of_ble_eq_true rfl) dX6_begins_111 ⟨by decide, by decide⟩ ⟨Nat.le_refl _, Nat.le_refl _⟩ (Nat.le_of_ble_eq_true rfl) om_0 (List.cons_ne_nil _ _) rfl ?_
      refine sv_vret dX6_begins_114 rfl (Nat.le_refl _) (Nat.le_refl _) ?_
      exact ⟨rfl, om_FXAL rfl (by rw [up_eq, up_up]) (by rw [up_eq]; rfl) rfl⟩
    · intro n hn hI ih
      show sm_V G _ _ _ _ _ _ [(4, .int (nI n)), (0, .ref m), (1, .int (nI p)), (2, .long x)] [] (sm_om G h m F X (sm_as A (gm_bg S p n)) L)
      refine sv_iload dX6_begins_59 rfl ?_
      refine sv_iload_n dX6_begins_61 rfl ?_
      refine sv_icmpN_ge 105 dX6_begins_62 (by decide) (by omega) (by omega) (fun c_62 => absurd c_62 (by omega)) (fun c_62 => ?_)
      refine sv_aload_n dX6_begins_65 rfl ?_
      refine sv_iload dX6_begins_66 rfl ?_
      refine sv_iconst (nI 0) dX6_begins_68 (by decide) ?_
      refine sv_iconst (nI 5) dX6_begins_69 (by decide) ?_
      refine sv_callV (As := [_, _, _]) sc_X6_85 (c6_adds0 (p := n) (n := 5) (by omega) (by rw [show 13 + 8 * n = 13 + 8 * n + 0 from rfl, gm_bg_w (by omega) (by omega)]; rfl)) rfl rfl (Nat.le_of_ble_eq_true rfl) dX6_begins_70 ⟨by decide, by decide⟩ ⟨Nat.le_refl _, Nat.le_refl _⟩ (Nat.le_of_ble_eq_true rfl) om_0 (List.cons_ne_nil _ _) rfl ?_
      refine sv_aload_n dX6_begins_73 rfl ?_
      refine sv_iload dX6_begins_74 rfl ?_
      refine sv_iconst (nI 4) dX6_begins_76 (by decide) ?_
      refine sv_bipush (nI 6) dX6_begins_77 (by decide) ?_
      refine sv_callV (As := [_, _, _]) sc_X6_85 (c6_adds (p := n) (w := 4) (n := 6) (by omega) (by rw [up_ne (by omega), gm_bg_w (by omega) (by omega)]; rfl)) rfl rfl (Nat.le_of_ble_eq_true rfl) dX6_begins_79 ⟨by decide, by decide⟩ ⟨Nat.le_refl _, Nat.le_refl _⟩ (Nat.le_of_ble_eq_true rfl) om_0 (List.cons_ne_nil _ _) rfl ?_
      refine sv_aload_n dX6_begins_82 rfl ?_
      refine sv_iload dX6_begins_83 rfl ?_
      refine sv_iconst (nI 5) dX6_begins_85 (by decide) ?_
      refine sv_iconst (nI 3) dX6_begins_86 (by decide) ?_
      refine sv_callV (As := [_, _, _]) sc_X6_85 (c6_adds (p := n) (w := 5) (n := 3) (by omega) (by rw [up_ne (by omega), up_ne (by omega), gm_bg_w (by omega) (by omega)]; rfl)) rfl rfl (Nat.le_of_ble_eq_true rfl) dX6_begins_87 ⟨by decide, by decide⟩ ⟨Nat.le_refl _, Nat.le_refl _⟩ (Nat.le_of_ble_eq_true rfl) om_0 (List.cons_ne_nil _ _) rfl ?_
      refine sv_aload_n dX6_begins_90 rfl ?_
      refine sv_iload dX6_begins_91 rfl ?_
      refine sv_bipush (nI 6) dX6_begins_93 (by decide) ?_
      refine sv_iconst (nI 3) dX6_begins_95 (by decide) ?_
      refine sv_callV (As := [_, _, _]) sc_X6_85 (c6_adds (p := n) (w := 6) (n := 3) (by omega) (by rw [up_ne (by omega), up_ne (by omega), up_ne (by omega), gm_bg_w (by omega) (by omega)]; rfl)) rfl rfl (Nat.le_of_ble_eq_true rfl) dX6_begins_96 ⟨by decide, by decide⟩ ⟨Nat.le_refl _, Nat.le_refl _⟩ (Nat.le_of_ble_eq_true rfl) om_0 (List.cons_ne_nil _ _) rfl ?_
      refine sv_heap (h' := (sm_om G h m F X (sm_as A (gm_bg S p (n + 1))) L)) (om_S (gm_bg_s (by omega))) ?_
      refine sv_iinc1 (lv' := [(4, _), (0, _), (1, _), (2, _)]) dX6_begins_99 rfl (by decide) rfl ?_
      refine sv_goto 59 dX6_begins_102 (by decide) ?_
      exact sv_sub [0, 1, 2, 3] rfl (ih trivial)
  · intro n hn hI ih
    show sm_V G _ _ _ _ _ _ [(4, .int (nI (3 + n))), (0, .ref m), (1, .int (nI p)), (2, .long x)] [] (sm_om G h m F X (sm_as A (gm_z0 S 3 n)) L)
    refine sv_iload dX6_begins_3 rfl ?_
    refine sv_bipush (nI 69) dX6_begins_5 (by decide) ?_
    refine sv_icmpN_ge 24 dX6_begins_7 (by decide) (by omega) (by omega) (fun c_7 => absurd c_7 (by omega)) (fun c_7 => ?_)
    refine sv_aload_n dX6_begins_10 rfl ?_
    refine rm_get1 rfl dX6_begins_11 ?_
    refine sv_iload dX6_begins_14 rfl ?_
    refine sv_iconst (nI 0) dX6_begins_16 (by decide) ?_
    refine rm_st1N dX6_begins_17 (by omega) ?_
    refine sv_heap (h' := (sm_om G h m F X (sm_as A (gm_z0 S 3 (n + 1))) L)) (om_S (gm_z0_s 3 n)) ?_
    refine sv_iinc1 (lv' := [(4, _), (0, _), (1, _), (2, _)]) dX6_begins_18 rfl (by decide) rfl ?_
    refine sv_goto 3 dX6_begins_21 (by decide) ?_
    exact sv_sub [0, 1, 2, 3] rfl (ih trivial)
def gm_lv (z : Bool) (S : gm_S) (x : Int64) (q c : Nat) : Nat × gm_S × Int64 := if q = 6 then (if gm_on S = true then (0, gm_pass z S x) else (1, S, x)) else if gm_can S q c = true then (0, gm_put z S x q c) else (1, S, x)
theorem gm_lv_1 {z : Bool} {x : Int64} {q c : Nat} (h : q = 6) (h2 : gm_on S = true) : gm_lv z S x q c = (0, gm_pass z S x) := by unfold gm_lv; rw [if_pos h, if_pos h2]
theorem gm_lv_2 {z : Bool} {x : Int64} {q c : Nat} (h : q = 6) (h2 : gm_on S = false) : gm_lv z S x q c = (1, S, x) := by unfold gm_lv; rw [if_pos h, if_neg (ne_t h2)]
theorem gm_lv_3 {z : Bool} {x : Int64} {q c : Nat} (h : q ≠ 6) (h2 : gm_can S q c = true) : gm_lv z S x q c = (0, gm_put z S x q c) := by unfold gm_lv; rw [if_neg h, if_pos h2]
theorem gm_lv_4 {z : Bool} {x : Int64} {q c : Nat} (h : q ≠ 6) (h2 : gm_can S q c = false) : gm_lv z S x q c = (1, S, x) := by unfold gm_lv; rw [if_neg h, if_neg (ne_t h2)]
theorem c6_leavesOut {x : Int64} {q c : Nat} (hI : gm_I K S) (hK : K + 40 < 2 ^ 26) (hK9 : 12 ≤ K) (hqc : q = 6 ∨ (q < 6 ∧ c < 24 ∧ gm_ch q c = true)) : sm_F G mX6_leavesOut 6 [.ref m, .int (nI q), .int (nI c)] (sm_om G h m F (va_up X 2 x) (sm_as A S) L) (.inl (some (.int (nI (gm_lv false S x q c).1)))) (sm_om G h m F (va_up X 2 (gm_lv false S x q c).2.2) (sm_as A (gm_lv false S x q c).2.1) L) := by
  unfold sm_F sm_C
  show sm_V G _ _ _ 0 0 0 [(0, .ref m), (1, .int (nI q)), (2, .int (nI c))] [] _
  have b3 := hI.2.1 3 (by omega) (by omega); have b6 := hI.2.1 6 (by omega) (by omega); have b0 := hI.2.1 0 (by omega) (by omega); have bK := hI.2.2.1
  refine sv_iload_n dX6_leavesOut_0 rfl ?_
  refine sv_bipush (nI 6) dX6_leavesOut_1 (by decide) ?_
  refine sv_icmpN_ne 21 dX6_leavesOut_3 (by decide) (by first | omega | (have z := b2n_lt (gm_on S); omega) | (have z := b2n_lt (gm_can S q c); omega)) (by first | omega | (have z := b2n_lt (gm_on S); omega) | (have z := b2n_lt (gm_can S q c); omega)) (fun c_3 => ?_) (fun c_3 => ?_)
  · obtain ⟨hq, hc, hch⟩ := hqc.resolve_left c_3
    refine sv_aload_n dX6_leavesOut_21 rfl ?_
    refine sv_iload_n dX6_leavesOut_22 rfl ?_
    refine sv_iload_n dX6_leavesOut_23 rfl ?_
    refine sv_callV (As := [_, _]) sc_X6_127 (c6_canPlace hI (by omega) (by omega) (fun e => (gm_chg hc hch e).1)) rfl rfl (Nat.le_of_ble_eq_true rfl) dX6_leavesOut_24 ⟨by decide, by decide⟩ ⟨Nat.le_refl _, Nat.le_refl _⟩ (Nat.le_of_ble_eq_true rfl) om_0 (List.cons_ne_nil _ _) rfl ?_
    refine sv_ifN_ne 32 dX6_leavesOut_27 (by decide) (by first | omega | (have z := b2n_lt (gm_on S); omega) | (have z := b2n_lt (gm_can S q c); omega)) (fun c_27 => ?_) (fun c_27 => ?_)
    · have hcan := b2n_1 c_27
      have hM := gm_pl_M hI (by omega) (by omega) hch hcan hK hK9
      have hn := hM.n
      refine sv_aload_n dX6_leavesOut_32 rfl ?_
      refine sv_iload_n dX6_leavesOut_33 rfl ?_
      refine sv_iload_n dX6_leavesOut_34 rfl ?_
      refine sv_callV (As := [_, _]) sc_X6_137 (c6_places hI hq hc (gm_chg hc hch) hcan) rfl rfl (Nat.le_of_ble_eq_true rfl) dX6_leavesOut_35 ⟨by decide, by decide⟩ ⟨Nat.le_refl _, Nat.le_refl _⟩ (Nat.le_of_ble_eq_true rfl) om_0 (List.cons_ne_nil _ _) rfl ?_
      refine sv_pop dX6_leavesOut_38 rfl ?_
      refine sv_aload_n dX6_leavesOut_39 rfl ?_
      refine sv_callV (As := []) sc_X6_158 (c6_goesTo hM.k hM.k2 (by omega) (by omega) (by omega) (by omega)) rfl rfl (Nat.le_of_ble_eq_true rfl) dX6_leavesOut_40 ⟨by decide, by decide⟩ ⟨Nat.le_refl _, Nat.le_refl _⟩ (Nat.le_of_ble_eq_true rfl) om_0 (List.cons_ne_nil _ _) rfl ?_
      refine sv_iconst (nI 0) dX6_leavesOut_43 (by decide) ?_
      refine sv_iret dX6_leavesOut_44 rfl rfl (Nat.le_refl _) (Nat.le_refl _) ?_
      exact ⟨by rw [gm_lv_3 c_3 hcan], by rw [gm_lv_3 c_3 hcan]; rfl⟩
    · refine sv_iconst (nI 1) dX6_leavesOut_30 (by decide) ?_
      refine sv_iret dX6_leavesOut_31 rfl rfl (Nat.le_refl _) (Nat.le_refl _) ?_
      exact ⟨by rw [gm_lv_4 c_3 (b2n_f c_27)], by rw [gm_lv_4 c_3 (b2n_f c_27)]⟩
  · refine sv_aload_n dX6_leavesOut_6 rfl ?_
    refine sv_callV (As := []) sc_X6_106 (c6_isOn (by omega) (by omega) (by omega)) rfl rfl (Nat.le_of_ble_eq_true rfl) dX6_leavesOut_7 ⟨by decide, by decide⟩ ⟨Nat.le_refl _, Nat.le_refl _⟩ (Nat.le_of_ble_eq_true rfl) om_0 (List.cons_ne_nil _ _) rfl ?_
    refine sv_ifN_ne 15 dX6_leavesOut_10 (by decide) (by first | omega | (have z := b2n_lt (gm_on S); omega) | (have z := b2n_lt (gm_can S q c); omega)) (fun c_10 => ?_) (fun c_10 => ?_)
    · have hM := gm_IM hI (b2n_1 c_10)
      have hn := hM.n
      refine sv_aload_n dX6_leavesOut_15 rfl ?_
      refine sv_callV (As := []) sc_X6_164 (c6_passes hM.k hM.k2 (by omega) (by omega) (by omega) (by omega) (by omega)) rfl rfl (Nat.le_of_ble_eq_true rfl) dX6_leavesOut_16 ⟨by decide, by decide⟩ ⟨Nat.le_refl _, Nat.le_refl _⟩ (Nat.le_of_ble_eq_true rfl) om_0 (List.cons_ne_nil _ _) rfl ?_
      refine sv_iconst (nI 0) dX6_leavesOut_19 (by decide) ?_
      refine sv_iret dX6_leavesOut_20 rfl rfl (Nat.le_refl _) (Nat.le_refl _) ?_
      exact ⟨by rw [gm_lv_1 c_3 (b2n_1 c_10)], by rw [gm_lv_1 c_3 (b2n_1 c_10)]⟩
    · refine sv_iconst (nI 1) dX6_leavesOut_13 (by decide) ?_
      refine sv_iret dX6_leavesOut_14 rfl rfl (Nat.le_refl _) (Nat.le_refl _) ?_
      exact ⟨by rw [gm_lv_2 c_3 (b2n_f c_10)], by rw [gm_lv_2 c_3 (b2n_f c_10)]⟩
end SR14
