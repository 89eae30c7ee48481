section SR13
variable {G : sm_G} {h : sm_H} {m : Nat} {F : Nat → Int32} {X : Nat → Int64} {A : Nat → Nat → Int32} {L : Nat → Nat → Int64} {S : Nat → Nat} {K : Nat}
def gm_isS (w v : Int32) : Bool := if w = nI 0 then gm_in (nI 1) v (nI 12) else if w = nI 1 then gm_in (nI 0) v (nI 5) else if w = nI 2 then gm_in (nI 1) v (nI 3) else false
theorem gm_isS_0 {w v : Int32} (h : w = 0) : gm_isS w v = gm_in (nI 1) v (nI 12) := by unfold gm_isS; rw [if_pos (h.trans nI_0.symm)]
theorem gm_isS_1 {w v : Int32} (h : w = nI 1) : gm_isS w v = gm_in (nI 0) v (nI 5) := by subst h; unfold gm_isS; rw [if_neg (by decide), if_pos rfl]
theorem gm_isS_2 {w v : Int32} (h : w = nI 2) : gm_isS w v = gm_in (nI 1) v (nI 3) := by subst h; unfold gm_isS; rw [if_neg (by decide), if_neg (by decide), if_pos rfl]
theorem gm_isS_3 {w v : Int32} (h0 : w ≠ 0) (h1 : w ≠ nI 1) (h2 : w ≠ nI 2) : gm_isS w v = false := by unfold gm_isS; rw [if_neg (by rw [nI_0]; exact h0), if_neg h1, if_neg h2]
theorem gm_isS_k {w v : Int32} (h : gm_isS w v = true) : ∃ a b, w = nI a ∧ v = nI b ∧ ((a = 0 ∧ 1 ≤ b ∧ b ≤ 12) ∨ (a = 1 ∧ b ≤ 5) ∨ (a = 2 ∧ 1 ≤ b ∧ b ≤ 3)) := by
  unfold gm_isS at h
  split at h
  · obtain ⟨k, e, k1, k2⟩ := gm_in_k (by omega) (by omega) h
    exact ⟨0, k, by assumption, e, .inl ⟨rfl, k1, k2⟩⟩
  split at h
  · obtain ⟨k, e, k1, k2⟩ := gm_in_k (by omega) (by omega) h
    exact ⟨1, k, by assumption, e, .inr (.inl ⟨rfl, k2⟩)⟩
  split at h
  · obtain ⟨k, e, k1, k2⟩ := gm_in_k (by omega) (by omega) h
    exact ⟨2, k, by assumption, e, .inr (.inr ⟨rfl, k1, k2⟩)⟩
  · cases h
theorem c6_isSetting {w v : Int32} : sm_F G mX6_isSetting 1 [.int w, .int v] h (.inl (some (.int (nI (b2n (gm_isS w v)))))) h := by
  unfold sm_F sm_C
  show sm_V G _ _ _ 0 0 0 [(0, .int w), (1, .int v)] [] _
  refine sv_iload_n dX6_isSetting_0 rfl ?_
  refine sv_if_ne 14 dX6_isSetting_1 (by decide) (fun c_1 => ?_) (fun c_1 => ?_)
  · refine sv_iload_n dX6_isSetting_14 rfl ?_
    refine sv_iconst (nI 1) dX6_isSetting_15 (by decide) ?_
    refine sv_icmp_ne 28 dX6_isSetting_16 (by decide) (fun c_16 => ?_) (fun c_16 => ?_)
    · refine sv_iload_n dX6_isSetting_28 rfl ?_
      refine sv_iconst (nI 2) dX6_isSetting_29 (by decide) ?_
      refine sv_icmp_ne 46 dX6_isSetting_30 (by decide) (fun c_30 => ?_) (fun c_30 => ?_)
      · refine sv_iconst (nI 0) dX6_isSetting_46 (by decide) ?_
        refine sv_iret dX6_isSetting_47 rfl rfl (Nat.le_refl _) (Nat.le_refl _) ?_
        exact ⟨rI (by rw [gm_isS_3 c_1 c_16 c_30]; rfl), rfl⟩
      · refine sv_iload_n dX6_isSetting_33 rfl ?_
        refine sv_iconst (nI 1) dX6_isSetting_34 (by decide) ?_
        refine sv_iconst (nI 3) dX6_isSetting_35 (by decide) ?_
        refine sv_callS (As := [_, _, _]) sc_X6_53 (c6_inG) rfl rfl (Nat.le_of_ble_eq_true rfl) dX6_isSetting_36 ⟨by decide, by decide⟩ ⟨Nat.le_refl _, Nat.le_refl _⟩ (Nat.le_of_ble_eq_true rfl) ?_
        refine sv_ifN_eq 46 dX6_isSetting_39 (by decide) (by first | omega | (have z := b2n_lt (gm_in (nI 1) v (nI 3)); omega)) (fun c_39 => ?_) (fun c_39 => ?_)
        · refine sv_iconst (nI 0) dX6_isSetting_46 (by decide) ?_
          refine sv_iret dX6_isSetting_47 rfl rfl (Nat.le_refl _) (Nat.le_refl _) ?_
          exact ⟨rI (by rw [gm_isS_2 c_30, b2n_f c_39]; rfl), rfl⟩
        · refine sv_iconst (nI 1) dX6_isSetting_42 (by decide) ?_
          refine sv_goto 47 dX6_isSetting_43 (by decide) ?_
          refine sv_iret dX6_isSetting_47 rfl rfl (Nat.le_refl _) (Nat.le_refl _) ?_
          exact ⟨rI (by rw [gm_isS_2 c_30, b2n_1 c_39]; rfl), rfl⟩
    · refine sv_iload_n dX6_isSetting_19 rfl ?_
      refine sv_iconst (nI 0) dX6_isSetting_20 (by decide) ?_
      refine sv_iconst (nI 5) dX6_isSetting_21 (by decide) ?_
      refine sv_callS (As := [_, _, _]) sc_X6_53 (c6_inG) rfl rfl (Nat.le_of_ble_eq_true rfl) dX6_isSetting_22 ⟨by decide, by decide⟩ ⟨Nat.le_refl _, Nat.le_refl _⟩ (Nat.le_of_ble_eq_true rfl) ?_
      refine sv_goto 47 dX6_isSetting_25 (by decide) ?_
      refine sv_iret dX6_isSetting_47 rfl (nar_b (b2n_lt _)) (Nat.le_refl _) (Nat.le_refl _) ?_
      exact ⟨rI (by rw [gm_isS_1 c_16]), rfl⟩
  · refine sv_iload_n dX6_isSetting_4 rfl ?_
    refine sv_iconst (nI 1) dX6_isSetting_5 (by decide) ?_
    refine sv_bipush (nI 12) dX6_isSetting_6 (by decide) ?_
    refine sv_callS (As := [_, _, _]) sc_X6_53 (c6_inG) rfl rfl (Nat.le_of_ble_eq_true rfl) dX6_isSetting_8 ⟨by decide, by decide⟩ ⟨Nat.le_refl _, Nat.le_refl _⟩ (Nat.le_of_ble_eq_true rfl) ?_
    refine sv_goto 47 dX6_isSetting_11 (by decide) ?_
    refine sv_iret dX6_isSetting_47 rfl (nar_b (b2n_lt _)) (Nat.le_refl _) (Nat.le_refl _) ?_
    exact ⟨rI (by rw [gm_isS_0 c_1]), rfl⟩
def gm_kp (A : Nat → Nat → Int32) (S : gm_S) (n : Nat) : Nat → Nat → Int32 := va_up A 13 (fun i => if i < n then nI (S i) else A 13 i)
theorem gm_kp_0 : gm_kp A S 0 = A := by
  funext a i; unfold gm_kp va_up; split
  · rename_i e; subst e; show (if i < 0 then _ else _) = _; rw [if_neg (by omega)]
  · rfl
theorem gm_kp_s (n : Nat) : va_up (gm_kp A S n) 13 (va_up (gm_kp A S n 13) n (nI (S n))) = gm_kp A S (n + 1) := by
  funext a i; unfold gm_kp va_up; split
  · rename_i e; subst e
    simp only [if_true]
    (repeat' split) <;> first | rfl | omega | (subst_vars; first | rfl | omega)
  · rename_i e; rfl
theorem om_kp (n : Nat) : va_up (sm_as (gm_kp A S n) S) 13 (va_up (sm_as (gm_kp A S n) S 13) n (sm_as (gm_kp A S n) S 1 n)) = sm_as (gm_kp A S (n + 1)) S := by
  rw [as_upk 13 (by omega), as_k 13 (by omega)]
  show sm_as (va_up (gm_kp A S n) 13 (va_up (gm_kp A S n 13) n (nI (S n)))) S = _
  rw [gm_kp_s]
theorem om_tk {T : gm_S} {k d : Nat} (hk : k ≠ 1) (hT : ∀ i, i < 69 → A k (d + i) = nI (T i)) {n : Nat} (hn : n < 69) : va_up (sm_as A (gm_bkN T S n)) 1 (va_up (sm_as A (gm_bkN T S n) 1) n (sm_as A (gm_bkN T S n) k (d + n))) = sm_as A (gm_bkN T S (n + 1)) := by
  rw [as_k k hk, hT n hn, as_up, gm_bkN_s]
theorem c6_keeps  : sm_F G mX6_keeps 0 [.ref m] (sm_om G h m F X (sm_as A S) L) (.inl none) (sm_om G h m F (va_up X 14 (X 2)) (sm_as (gm_kp A S 69) S) L) := by
  unfold sm_F sm_C
  show sm_V G _ _ _ 0 0 0 [(0, .ref m)] [] _
  refine sv_iconst (nI 0) dX6_keeps_0 (by decide) ?_
  refine sv_istore_n (lv' := [(1, _), (0, _)]) dX6_keeps_1 (by decide) rfl ?_
  refine sv_heap (h' := (sm_om G h m F X (sm_as (gm_kp A S 0) S) L)) (om_A gm_kp_0.symm) ?_
  refine sv_sub [0, 1] rfl (sv_loop (pc := 2) (lv := fun n => [(1, .int (nI n)), (0, .ref m)]) (hp := fun n => (sm_om G h m F X (sm_as (gm_kp A S n) S) L)) (I := fun n => True) (N := 69) (trivial) ?_ ?_)
  · intro hI
    show sm_V G _ _ _ _ _ _ [(1, .int (nI 69)), (0, .ref m)] [] (sm_om G h m F X (sm_as (gm_kp A S 69) S) L)
    refine sv_iload_n dX6_keeps_2 rfl ?_
    refine sv_bipush (nI 69) dX6_keeps_3 (by decide) ?_
    refine sv_icmpN_ge 26 dX6_keeps_5 (by decide) (by omega) (by omega) (fun c_5 => ?_) (fun c_5 => absurd c_5 (by omega))
    refine sv_aload_n dX6_keeps_26 rfl ?_
    refine sv_aload_n dX6_keeps_27 rfl ?_
    refine rm_get2 rfl dX6_keeps_28 ?_
    refine rm_put14 rfl dX6_keeps_31 ?_
    refine sv_vret dX6_keeps_34 rfl (Nat.le_refl _) (Nat.le_refl _) ?_
    exact ⟨rfl, rfl⟩
  · intro n hn hI ih
    show sm_V G _ _ _ _ _ _ [(1, .int (nI n)), (0, .ref m)] [] (sm_om G h m F X (sm_as (gm_kp A S n) S) L)
    refine sv_iload_n dX6_keeps_2 rfl ?_
    refine sv_bipush (nI 69) dX6_keeps_3 (by decide) ?_
    refine sv_icmpN_ge 26 dX6_keeps_5 (by decide) (by omega) (by omega) (fun c_5 => absurd c_5 (by omega)) (fun c_5 => ?_)
    refine sv_aload_n dX6_keeps_8 rfl ?_
    refine rm_get13 rfl dX6_keeps_9 ?_
    refine sv_iload_n dX6_keeps_12 rfl ?_
    refine sv_aload_n dX6_keeps_13 rfl ?_
    refine rm_get1 rfl dX6_keeps_14 ?_
    refine sv_iload_n dX6_keeps_17 rfl ?_
    refine rm_ld1 dX6_keeps_18 (by omega) ?_
    refine rm_st13 dX6_keeps_19 (by omega) ?_
    refine sv_heap (h' := (sm_om G h m F X (sm_as (gm_kp A S (n + 1)) S) L)) (om_FXAL rfl rfl (om_kp n) rfl) ?_
    refine sv_iinc1 (lv' := [(1, _), (0, _)]) dX6_keeps_20 rfl (by decide) rfl ?_
    refine sv_goto 2 dX6_keeps_23 (by decide) ?_
    exact sv_sub [0, 1] rfl (ih trivial)
theorem c6_takesKept {T : gm_S} (hT : ∀ i, i < 69 → A 13 i = nI (T i)) (hT2 : ∀ i, 69 ≤ i → S i = T i) : sm_F G mX6_takesKept 0 [.ref m] (sm_om G h m F X (sm_as A S) L) (.inl none) (sm_om G h m F (va_up X 2 (X 14)) (sm_as A T) L) := by
  unfold sm_F sm_C
  show sm_V G _ _ _ 0 0 0 [(0, .ref m)] [] _
  refine sv_iconst (nI 0) dX6_takesKept_0 (by decide) ?_
  refine sv_istore_n (lv' := [(1, _), (0, _)]) dX6_takesKept_1 (by decide) rfl ?_
  refine sv_heap (h' := (sm_om G h m F X (sm_as A (gm_bkN T S 0)) L)) (om_S (gm_bkN_0 T).symm) ?_
  refine sv_sub [0, 1] rfl (sv_loop (pc := 2) (lv := fun n => [(1, .int (nI n)), (0, .ref m)]) (hp := fun n => (sm_om G h m F X (sm_as A (gm_bkN T S n)) L)) (I := fun n => True) (N := 69) (trivial) ?_ ?_)
  · intro hI
    show sm_V G _ _ _ _ _ _ [(1, .int (nI 69)), (0, .ref m)] [] (sm_om G h m F X (sm_as A (gm_bkN T S 69)) L)
    refine sv_iload_n dX6_takesKept_2 rfl ?_
    refine sv_bipush (nI 69) dX6_takesKept_3 (by decide) ?_
    refine sv_icmpN_ge 26 dX6_takesKept_5 (by decide) (by omega) (by omega) (fun c_5 => ?_) (fun c_5 => absurd c_5 (by omega))
    refine sv_heap (h' := (sm_om G h m F X (sm_as A T) L)) (om_S (gm_bkN_69 hT2)) ?_
    refine sv_aload_n dX6_takesKept_26 rfl ?_
    refine sv_aload_n dX6_takesKept_27 rfl ?_
    refine rm_get14 rfl dX6_takesKept_28 ?_
    refine rm_put2 rfl dX6_takesKept_31 ?_
    refine sv_vret dX6_takesKept_34 rfl (Nat.le_refl _) (Nat.le_refl _) ?_
    exact ⟨rfl, rfl⟩
  · intro n hn hI ih
    show sm_V G _ _ _ _ _ _ [(1, .int (nI n)), (0, .ref m)] [] (sm_om G h m F X (sm_as A (gm_bkN T S n)) L)
    refine sv_iload_n dX6_takesKept_2 rfl ?_
    refine sv_bipush (nI 69) dX6_takesKept_3 (by decide) ?_
    refine sv_icmpN_ge 26 dX6_takesKept_5 (by decide) (by omega) (by omega) (fun c_5 => absurd c_5 (by omega)) (fun c_5 => ?_)
    refine sv_aload_n dX6_takesKept_8 rfl ?_
    refine rm_get1 rfl dX6_takesKept_9 ?_
    refine sv_iload_n dX6_takesKept_12 rfl ?_
    refine sv_aload_n dX6_takesKept_13 rfl ?_
    refine rm_get13 rfl dX6_takesKept_14 ?_
    refine sv_iload_n dX6_takesKept_17 rfl ?_
    refine rm_ld13 dX6_takesKept_18 (by omega) ?_
    refine rm_st1 dX6_takesKept_19 (by omega) ?_
    refine sv_heap (h' := (sm_om G h m F X (sm_as A (gm_bkN T S (n + 1))) L)) (om_FXAL rfl rfl ((congrArg _ (by rw [Nat.zero_add])).trans (om_tk (d := 0) (by omega) (fun i hi => by rw [Nat.zero_add]; exact hT i hi) hn)) rfl) ?_
    refine sv_iinc1 (lv' := [(1, _), (0, _)]) dX6_takesKept_20 rfl (by decide) rfl ?_
    refine sv_goto 2 dX6_takesKept_23 (by decide) ?_
    exact sv_sub [0, 1] rfl (ih trivial)
theorem an_0 (F : Nat → Int32) (c v : Int32) : va_up (va_up F 0 c) 0 v = va_up F 0 v := up_up _ _ _ _
theorem c6_undo0 (hf : F 5 = nI 0) : sm_F G mX6_undo 1 [.ref m] (sm_om G h m F X (sm_as A S) L) (.inl (some (.int (nI 0)))) (sm_om G h m (va_up F 0 (nI 1)) X (sm_as A S) L) := by
  unfold sm_F sm_C
  show sm_V G _ _ _ 0 0 0 [(0, .ref m)] [] _
  refine sv_aload_n dX6_undo_0 rfl ?_
  refine sv_iconst (nI 0) dX6_undo_1 (by decide) ?_
  refine rm_put0 rfl dX6_undo_2 ?_
  refine sv_aload_n dX6_undo_5 rfl ?_
  refine rm_get5 rfl dX6_undo_6 ?_
  refine sv_top (nI 0) ((up_ne (by omega)).trans hf) ?_
  refine sv_ifN_ne 18 dX6_undo_9 (by decide) (by omega) (fun c_9 => absurd c_9 (by omega)) (fun c_9 => ?_)
  refine sv_aload_n dX6_undo_12 rfl ?_
  refine sv_iconst (nI 1) dX6_undo_13 (by decide) ?_
  refine sv_callV (As := [_]) sc_X6_167 (c6_fails) rfl rfl (Nat.le_of_ble_eq_true rfl) dX6_undo_14 ⟨by decide, by decide⟩ ⟨Nat.le_refl _, Nat.le_refl _⟩ (Nat.le_of_ble_eq_true rfl) om_0 (List.cons_ne_nil _ _) rfl ?_
  refine sv_iret dX6_undo_17 rfl rfl (Nat.le_refl _) (Nat.le_refl _) ?_
  exact ⟨rfl, om_FXAL (up_up _ _ _ _) rfl rfl rfl⟩
theorem c6_undo1 {k : Nat} {T : gm_S} (hf : F 5 = nI k) (h0 : 0 < k) (hk : k ≤ 14) (hT : ∀ i, i < 69 → A 3 (69 * (k - 1) + i) = nI (T i)) (hT2 : ∀ i, 69 ≤ i → S i = T i) : sm_F G mX6_undo 1 [.ref m] (sm_om G h m F X (sm_as A S) L) (.inl (some (.int (nI (k - 1))))) (sm_om G h m (va_up (va_up F 0 (nI 0)) 5 (nI (k - 1))) (va_up X 2 (L 4 (k - 1))) (sm_as A T) L) := by
  unfold sm_F sm_C
  show sm_V G _ _ _ 0 0 0 [(0, .ref m)] [] _
  refine sv_aload_n dX6_undo_0 rfl ?_
  refine sv_iconst (nI 0) dX6_undo_1 (by decide) ?_
  refine rm_put0 rfl dX6_undo_2 ?_
  refine sv_aload_n dX6_undo_5 rfl ?_
  refine rm_get5 rfl dX6_undo_6 ?_
  refine sv_top (nI k) ((up_ne (by omega)).trans hf) ?_
  refine sv_ifN_ne 18 dX6_undo_9 (by decide) (by omega) (fun c_9 => ?_) (fun c_9 => absurd c_9 (by omega))
  refine sv_aload_n dX6_undo_18 rfl ?_
  refine sv_dup dX6_undo_19 rfl ?_
  refine rm_get5 rfl dX6_undo_20 ?_
  refine sv_top (nI k) ((up_ne (by omega)).trans hf) ?_
  refine sv_iconst (nI 1) dX6_undo_23 (by decide) ?_
  refine sv_isubN dX6_undo_24 (by omega) ?_
  refine rm_put5 rfl dX6_undo_25 ?_
  refine sv_iconst (nI 0) dX6_undo_28 (by decide) ?_
  refine sv_istore_n (lv' := [(1, _), (0, _)]) dX6_undo_29 (by decide) rfl ?_
  refine sv_heap (h' := (sm_om G h m (va_up (va_up F 0 (nI 0)) 5 (nI (k - 1))) X (sm_as A (gm_bkN T S 0)) L)) (om_S (gm_bkN_0 T).symm) ?_
  refine sv_sub [0, 1] rfl (sv_loop (pc := 30) (lv := fun n => [(1, .int (nI n)), (0, .ref m)]) (hp := fun n => (sm_om G h m (va_up (va_up F 0 (nI 0)) 5 (nI (k - 1))) X (sm_as A (gm_bkN T S n)) L)) (I := fun n => True) (N := 69) (trivial) ?_ ?_)
  · intro hI
    show sm_V G _ _ _ _ _ _ [(1, .int (nI 69)), (0, .ref m)] [] (sm_om G h m (va_up (va_up F 0 (nI 0)) 5 (nI (k - 1))) X (sm_as A (gm_bkN T S 69)) L)
    refine sv_iload_n dX6_undo_30 rfl ?_
    refine sv_bipush (nI 69) dX6_undo_31 (by decide) ?_
    refine sv_icmpN_ge 62 dX6_undo_33 (by decide) (by omega) (by omega) (fun c_33 => ?_) (fun c_33 => absurd c_33 (by omega))
    refine sv_heap (h' := (sm_om G h m (va_up (va_up F 0 (nI 0)) 5 (nI (k - 1))) X (sm_as A T) L)) (om_S (gm_bkN_69 hT2)) ?_
    refine sv_aload_n dX6_undo_62 rfl ?_
    refine sv_aload_n dX6_undo_63 rfl ?_
    refine rm_get4 rfl dX6_undo_64 ?_
    refine sv_aload_n dX6_undo_67 rfl ?_
    refine rm_get5 rfl dX6_undo_68 ?_
    refine sv_top (nI (k - 1)) (up_eq) ?_
    refine rm_ld4 dX6_undo_71 (by omega) ?_
    refine rm_put2 rfl dX6_undo_72 ?_
    refine sv_aload_n dX6_undo_75 rfl ?_
    refine rm_get5 rfl dX6_undo_76 ?_
    refine sv_top (nI (k - 1)) (up_eq) ?_
    refine sv_iret dX6_undo_79 rfl rfl (Nat.le_refl _) (Nat.le_refl _) ?_
    exact ⟨rfl, rfl⟩
  · intro n hn hI ih
    show sm_V G _ _ _ _ _ _ [(1, .int (nI n)), (0, .ref m)] [] (sm_om G h m (va_up (va_up F 0 (nI 0)) 5 (nI (k - 1))) X (sm_as A (gm_bkN T S n)) L)
    refine sv_iload_n dX6_undo_30 rfl ?_
    refine sv_bipush (nI 69) dX6_undo_31 (by decide) ?_
    refine sv_icmpN_ge 62 dX6_undo_33 (by decide) (by omega) (by omega) (fun c_33 => absurd c_33 (by omega)) (fun c_33 => ?_)
    refine sv_aload_n dX6_undo_36 rfl ?_
    refine rm_get1 rfl dX6_undo_37 ?_
    refine sv_iload_n dX6_undo_40 rfl ?_
    refine sv_aload_n dX6_undo_41 rfl ?_
    refine rm_get3 rfl dX6_undo_42 ?_
    refine sv_bipush (nI 69) dX6_undo_45 (by decide) ?_
    refine sv_aload_n dX6_undo_47 rfl ?_
    refine rm_get5 rfl dX6_undo_48 ?_
    refine sv_top (nI (k - 1)) (up_eq) ?_
    refine sv_imulN dX6_undo_51 ?_
    refine sv_iload_n dX6_undo_52 rfl ?_
    refine sv_iaddN dX6_undo_53 ?_
    refine rm_ld3 dX6_undo_54 (by omega) ?_
    refine rm_st1 dX6_undo_55 (by omega) ?_
    refine sv_heap (h' := (sm_om G h m (va_up (va_up F 0 (nI 0)) 5 (nI (k - 1))) X (sm_as A (gm_bkN T S (n + 1))) L)) (om_FXAL rfl rfl (om_tk (by omega) hT hn) rfl) ?_
    refine sv_iinc1 (lv' := [(1, _), (0, _)]) dX6_undo_56 rfl (by decide) rfl ?_
    refine sv_goto 30 dX6_undo_59 (by decide) ?_
    exact sv_sub [0, 1] rfl (ih trivial)
end SR13
