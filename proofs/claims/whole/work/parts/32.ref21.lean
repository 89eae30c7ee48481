section SR21
variable {G : sm_G} {h : sm_H} {m : Nat} {F : Nat → Int32} {X : Nat → Int64} {A : Nat → Nat → Int32} {L : Nat → Nat → Int64} {S : Nat → Nat} {K : Nat} {B : Nat → Nat} {n p mc : Nat}
theorem c6_load0 (h10 : F 10 = nI n) (hn : n ≤ 120) (hB : ∀ i, i < n → A 9 i = nI (B i)) (hB2 : ∀ i, i < n → B i < 256) (hr : (gm_read B n (A 22)).1 = false) : sm_F G mX6_load 4 [.ref m] (sm_om G h m F X (sm_as A S) L) (.inl (some (.int (nI 0)))) (sm_om G h m (va_up (gm_RF (va_up F 0 (nI 0)) (gm_read B n (A 22)).2.1 (gm_read B n (A 22)).1 (gm_read B n (A 22)).2.2.1 (gm_ha B n) (gm_hbb B n)) 0 (nI 1)) X (sm_as (va_up A 22 (gm_read B n (A 22)).2.2.2) S) L) := by
  unfold sm_F sm_C
  show sm_V G _ _ _ 0 0 0 [(0, .ref m)] [] _
  refine sv_aload_n dX6_load_0 rfl ?_
  refine sv_iconst (nI 0) dX6_load_1 (by decide) ?_
  refine rm_put0 rfl dX6_load_2 ?_
  refine sv_aload_n dX6_load_5 rfl ?_
  refine sv_callV (As := []) sc_X6_202 (c6_reads ((up_ne (by omega)).trans h10) hn hB hB2) rfl rfl (Nat.le_of_ble_eq_true rfl) dX6_load_6 ⟨by decide, by decide⟩ ⟨Nat.le_refl _, Nat.le_refl _⟩ (Nat.le_of_ble_eq_true rfl) om_0 (List.cons_ne_nil _ _) rfl ?_
  refine sv_iconst (-1) dX6_load_9 (by decide) ?_
  refine sv_icmp_eq 19 dX6_load_10 (by decide) (fun c_10 => absurd c_10 (gm_rans_f hr (by have := gm_read_le (B := B) (n := n) (A 22); omega))) (fun c_10 => ?_)
  refine sv_aload_n dX6_load_13 rfl ?_
  refine sv_iconst (nI 1) dX6_load_14 (by decide) ?_
  refine sv_callV (As := [_]) sc_X6_167 (c6_fails) rfl rfl (Nat.le_of_ble_eq_true rfl) dX6_load_15 ⟨by decide, by decide⟩ ⟨Nat.le_refl _, Nat.le_refl _⟩ (Nat.le_of_ble_eq_true rfl) om_0 (List.cons_ne_nil _ _) rfl ?_
  refine sv_iret dX6_load_18 rfl rfl (Nat.le_refl _) (Nat.le_refl _) ?_
  exact ⟨rfl, rfl⟩
theorem gm_mvo_i {s : gm_St} (h : gm_mvo s) {i : Nat} (hi : i < s.2.2.1) : ∃ q c, s.2.2.2 (2 * i) = nI q ∧ s.2.2.2 (2 * i + 1) = nI c ∧ i2 (s.2.2.2 (2 * i)) = q ∧ (q = 6 ∨ (q < 6 ∧ c < 24 ∧ gm_ch q c = true ∧ i2 (s.2.2.2 (2 * i + 1)) = c)) := by
  obtain ⟨q, c, a1, a2, a3⟩ := h i hi
  refine ⟨q, c, a1, a2, by rw [a1, i2_nI (by omega)], ?_⟩
  rcases a3 with a3 | ⟨b1, b2, b3⟩
  · exact .inl a3
  · exact .inr ⟨b1, b2, b3, by rw [a2, i2_nI (by omega)]⟩
theorem gm_lv_6 {z : Bool} {x : Int64} {c c' : Nat} : gm_lv z S x 6 c = gm_lv z S x 6 c' := by unfold gm_lv; rw [if_pos rfl, if_pos rfl]
theorem gm_ldN_s {z : Bool} {M : Nat → Int32} {x : Int64} {k q c : Nat} (h1 : i2 (M (2 * k)) = q) (h2 : q = 6 ∨ i2 (M (2 * k + 1)) = c) : gm_ldN z M S x (k + 1) = ((gm_ldN z M S x k).1 + (gm_lv z (gm_ldN z M S x k).2.1 (gm_ldN z M S x k).2.2 q c).1, (gm_lv z (gm_ldN z M S x k).2.1 (gm_ldN z M S x k).2.2 q c).2) := by
  show ((gm_ldN z M S x k).1 + (gm_lv z (gm_ldN z M S x k).2.1 (gm_ldN z M S x k).2.2 (i2 (M (2 * k))) (i2 (M (2 * k + 1)))).1, (gm_lv z (gm_ldN z M S x k).2.1 (gm_ldN z M S x k).2.2 (i2 (M (2 * k))) (i2 (M (2 * k + 1)))).2) = _
  rw [h1]
  rcases h2 with h2 | h2
  · rw [h2, gm_lv_6 (c' := c)]
  · rw [h2]
/-- the slots emptied -/
def gm_A8 (A : Nat → Nat → Int32) : Nat → Nat → Int32 := va_up A 8 (va_up (va_up (A 8) 0 (nI 0)) 1 (nI 0))
theorem gm_A8_1 : va_up (sm_as A S) 8 (va_up (sm_as A S 8) 0 (vp_nar .boolean (nI 0))) = sm_as (va_up A 8 (va_up (A 8) 0 (nI 0))) S := by rw [as_upk 8 (by omega), as_k 8 (by omega), vn_0]
theorem gm_A8_2 : va_up (sm_as (va_up A 8 (va_up (A 8) 0 (nI 0))) S) 8 (va_up (sm_as (va_up A 8 (va_up (A 8) 0 (nI 0))) S 8) 1 (vp_nar .boolean (nI 0))) = sm_as (gm_A8 A) S := by rw [as_upkk 8 (by omega), vn_0]; rfl
theorem gm_A8_22 : gm_A8 A 22 = A 22 := by unfold gm_A8; rw [up_ne (by omega)]
theorem c6_loadK (h10 : F 10 = nI n) (hn : n ≤ 120) (hB : ∀ i, i < n → A 9 i = nI (B i)) (hB2 : ∀ i, i < n → B i < 256) (hr : (gm_read B n (A 22)).1 = true) (hk0 : ∀ i, i ≠ 11 → i ≠ 12 → S i ≤ K) (hK9 : 12 ≤ K) (hK : K + 5000 < 2 ^ 26) : sm_F G mX6_load 7 [.ref m] (sm_om G h m F X (sm_as A S) L) (.inl (some (.int (nI (gm_ldN false (gm_read B n (A 22)).2.2.2 (gm_new (gm_s0 S) (gm_tp B) ((nI (gm_ts B)).toInt64)) (gm_nx ((nI (gm_ts B)).toInt64)) (gm_read B n (A 22)).2.2.1).1)))) (sm_om G h m (va_up (gm_RF (va_up F 0 (nI 0)) (gm_read B n (A 22)).2.1 (gm_read B n (A 22)).1 (gm_read B n (A 22)).2.2.1 (gm_ha B n) (gm_hbb B n)) 5 (nI 0)) (va_up X 2 (gm_ldN false (gm_read B n (A 22)).2.2.2 (gm_new (gm_s0 S) (gm_tp B) ((nI (gm_ts B)).toInt64)) (gm_nx ((nI (gm_ts B)).toInt64)) (gm_read B n (A 22)).2.2.1).2.2) (sm_as (gm_A8 (va_up A 22 (gm_read B n (A 22)).2.2.2)) (gm_ldN false (gm_read B n (A 22)).2.2.2 (gm_new (gm_s0 S) (gm_tp B) ((nI (gm_ts B)).toInt64)) (gm_nx ((nI (gm_ts B)).toInt64)) (gm_read B n (A 22)).2.2.1).2.1) L) := by
  unfold sm_F sm_C
  show sm_V G _ _ _ 0 0 0 [(0, .ref m)] [] _
  have h4 := gm_read_k hr
  have hmc := gm_mc_le (B := B) (M := A 22) hn hr
  refine sv_aload_n dX6_load_0 rfl ?_
  refine sv_iconst (nI 0) dX6_load_1 (by decide) ?_
  refine rm_put0 rfl dX6_load_2 ?_
  refine sv_aload_n dX6_load_5 rfl ?_
  refine sv_callV (As := []) sc_X6_202 (c6_reads ((up_ne (by omega)).trans h10) hn hB hB2) rfl rfl (Nat.le_of_ble_eq_true rfl) dX6_load_6 ⟨by decide, by decide⟩ ⟨Nat.le_refl _, Nat.le_refl _⟩ (Nat.le_of_ble_eq_true rfl) om_0 (List.cons_ne_nil _ _) rfl ?_
  refine sv_iconst (-1) dX6_load_9 (by decide) ?_
  refine sv_icmp_eq 19 dX6_load_10 (by decide) (fun c_10 => ?_) (fun c_10 => absurd c_10 (fun z => z (gm_rans_t hr)))
  refine sv_aload_n dX6_load_19 rfl ?_
  refine sv_callV (As := []) sc_X6_46 (c6_settles) rfl rfl (Nat.le_of_ble_eq_true rfl) dX6_load_20 ⟨by decide, by decide⟩ ⟨Nat.le_refl _, Nat.le_refl _⟩ (Nat.le_of_ble_eq_true rfl) om_0 (List.cons_ne_nil _ _) rfl ?_
  refine sv_aload_n dX6_load_23 rfl ?_
  refine sv_iconst (nI 0) dX6_load_24 (by decide) ?_
  refine rm_put5 rfl dX6_load_25 ?_
  refine sv_aload_n dX6_load_28 rfl ?_
  refine rm_get8 rfl dX6_load_29 ?_
  refine sv_iconst (nI 0) dX6_load_32 (by decide) ?_
  refine sv_iconst (nI 0) dX6_load_33 (by decide) ?_
  refine rm_st8 dX6_load_34 (by first | omega | exact Nat.lt_trans (b2n_lt _) (by decide)) ?_
  refine sv_heap (h' := (sm_om G h m (va_up (gm_RF (va_up F 0 (nI 0)) (gm_read B n (A 22)).2.1 (gm_read B n (A 22)).1 (gm_read B n (A 22)).2.2.1 (gm_ha B n) (gm_hbb B n)) 5 (nI 0)) (va_up X 2 0) (sm_as (va_up (va_up A 22 (gm_read B n (A 22)).2.2.2) 8 (va_up ((va_up A 22 (gm_read B n (A 22)).2.2.2) 8) 0 (nI 0))) (gm_s0 S)) L)) (om_FXAL rfl rfl gm_A8_1 rfl) ?_
  refine sv_aload_n dX6_load_35 rfl ?_
  refine rm_get8 rfl dX6_load_36 ?_
  refine sv_iconst (nI 1) dX6_load_39 (by decide) ?_
  refine sv_iconst (nI 0) dX6_load_40 (by decide) ?_
  refine rm_st8 dX6_load_41 (by first | omega | exact Nat.lt_trans (b2n_lt _) (by decide)) ?_
  refine sv_heap (h' := (sm_om G h m (va_up (gm_RF (va_up F 0 (nI 0)) (gm_read B n (A 22)).2.1 (gm_read B n (A 22)).1 (gm_read B n (A 22)).2.2.1 (gm_ha B n) (gm_hbb B n)) 5 (nI 0)) (va_up X 2 0) (sm_as (gm_A8 (va_up A 22 (gm_read B n (A 22)).2.2.2)) (gm_s0 S)) L)) (om_FXAL rfl rfl gm_A8_2 rfl) ?_
  refine sv_aload_n dX6_load_42 rfl ?_
  refine sv_aload_n dX6_load_43 rfl ?_
  refine rm_get20 rfl dX6_load_44 ?_
  refine sv_top (nI (gm_tp B)) ((up_ne (by omega)).trans (gm_RF_20.trans (gm_hd h4).1)) ?_
  refine sv_aload_n dX6_load_47 rfl ?_
  refine rm_get21 rfl dX6_load_48 ?_
  refine sv_top (nI (gm_ts B)) ((up_ne (by omega)).trans (gm_RF_21.trans (gm_hd h4).2.1)) ?_
  refine sv_i2l dX6_load_51 ?_
  refine sv_callV (As := [_, _]) sc_X6_205 (c6_begins (gm_hd h4).2.2.2.1) rfl rfl (Nat.le_of_ble_eq_true rfl) dX6_load_52 ⟨by decide, by decide⟩ ⟨Nat.le_refl _, Nat.le_refl _⟩ (Nat.le_of_ble_eq_true rfl) om_0 (List.cons_ne_nil _ _) rfl ?_
  refine sv_iconst (nI 0) dX6_load_55 (by decide) ?_
  refine sv_istore_n (lv' := [(1, _), (0, _)]) dX6_load_56 (by decide) rfl ?_
  refine sv_iconst (nI 0) dX6_load_57 (by decide) ?_
  refine sv_istore_n (lv' := [(2, _), (1, _), (0, _)]) dX6_load_58 (by decide) rfl ?_
  refine sv_heap (h' := (sm_om G h m (va_up (gm_RF (va_up F 0 (nI 0)) (gm_read B n (A 22)).2.1 (gm_read B n (A 22)).1 (gm_read B n (A 22)).2.2.1 (gm_ha B n) (gm_hbb B n)) 5 (nI 0)) (va_up X 2 (gm_ldN false (gm_read B n (A 22)).2.2.2 (gm_new (gm_s0 S) (gm_tp B) ((nI (gm_ts B)).toInt64)) (gm_nx ((nI (gm_ts B)).toInt64)) 0).2.2) (sm_as (gm_A8 (va_up A 22 (gm_read B n (A 22)).2.2.2)) (gm_ldN false (gm_read B n (A 22)).2.2.2 (gm_new (gm_s0 S) (gm_tp B) ((nI (gm_ts B)).toInt64)) (gm_nx ((nI (gm_ts B)).toInt64)) 0).2.1) L)) (om_FXAL rfl (up_up _ _ _ _) rfl rfl) ?_
  refine sv_sub [0, 1, 2] rfl (sv_loop (pc := 59) (lv := fun i => [(2, .int (nI i)), (1, .int (nI (gm_ldN false (gm_read B n (A 22)).2.2.2 (gm_new (gm_s0 S) (gm_tp B) ((nI (gm_ts B)).toInt64)) (gm_nx ((nI (gm_ts B)).toInt64)) i).1)), (0, .ref m)]) (hp := fun i => (sm_om G h m (va_up (gm_RF (va_up F 0 (nI 0)) (gm_read B n (A 22)).2.1 (gm_read B n (A 22)).1 (gm_read B n (A 22)).2.2.1 (gm_ha B n) (gm_hbb B n)) 5 (nI 0)) (va_up X 2 (gm_ldN false (gm_read B n (A 22)).2.2.2 (gm_new (gm_s0 S) (gm_tp B) ((nI (gm_ts B)).toInt64)) (gm_nx ((nI (gm_ts B)).toInt64)) i).2.2) (sm_as (gm_A8 (va_up A 22 (gm_read B n (A 22)).2.2.2)) (gm_ldN false (gm_read B n (A 22)).2.2.2 (gm_new (gm_s0 S) (gm_tp B) ((nI (gm_ts B)).toInt64)) (gm_nx ((nI (gm_ts B)).toInt64)) i).2.1) L)) (I := fun i => gm_I (K + 40 * i) (gm_ldN false (gm_read B n (A 22)).2.2.2 (gm_new (gm_s0 S) (gm_tp B) ((nI (gm_ts B)).toInt64)) (gm_nx ((nI (gm_ts B)).toInt64)) i).2.1) (N := (gm_read B n (A 22)).2.2.1) (gm_new_I (gm_s0_k hk0 hK9).1 (gm_s0_k hk0 hK9).2 (by omega) (by omega) (gm_hd h4).2.2.1 (gm_hd h4).2.2.2.1) ?_ ?_)
  · intro hI_i
    show sm_V G _ _ _ _ _ _ [(2, .int (nI ((gm_read B n (A 22)).2.2.1))), (1, .int (nI (gm_ldN false (gm_read B n (A 22)).2.2.2 (gm_new (gm_s0 S) (gm_tp B) ((nI (gm_ts B)).toInt64)) (gm_nx ((nI (gm_ts B)).toInt64)) ((gm_read B n (A 22)).2.2.1)).1)), (0, .ref m)] [] (sm_om G h m (va_up (gm_RF (va_up F 0 (nI 0)) (gm_read B n (A 22)).2.1 (gm_read B n (A 22)).1 (gm_read B n (A 22)).2.2.1 (gm_ha B n) (gm_hbb B n)) 5 (nI 0)) (va_up X 2 (gm_ldN false (gm_read B n (A 22)).2.2.2 (gm_new (gm_s0 S) (gm_tp B) ((nI (gm_ts B)).toInt64)) (gm_nx ((nI (gm_ts B)).toInt64)) ((gm_read B n (A 22)).2.2.1)).2.2) (sm_as (gm_A8 (va_up A 22 (gm_read B n (A 22)).2.2.2)) (gm_ldN false (gm_read B n (A 22)).2.2.2 (gm_new (gm_s0 S) (gm_tp B) ((nI (gm_ts B)).toInt64)) (gm_nx ((nI (gm_ts B)).toInt64)) ((gm_read B n (A 22)).2.2.1)).2.1) L)
    refine sv_iload_n dX6_load_59 rfl ?_
    refine sv_aload_n dX6_load_60 rfl ?_
    refine rm_get23 rfl dX6_load_61 ?_
    refine sv_top (nI (gm_read B n (A 22)).2.2.1) ((up_ne (by omega)).trans gm_RF_23) ?_
    refine sv_icmpN_ge 98 dX6_load_64 (by decide) (by first | omega | exact Nat.lt_trans (b2n_lt _) (by decide)) (by first | omega | exact Nat.lt_trans (b2n_lt _) (by decide)) (fun c_64 => ?_) (fun c_64 => absurd c_64 (by omega))
    refine sv_iload_n dX6_load_98 rfl ?_
    refine sv_iret dX6_load_99 rfl rfl (Nat.le_refl _) (Nat.le_refl _) ?_
    exact ⟨rfl, rfl⟩
  · intro i hn_i hI_i ih_i
    show sm_V G _ _ _ _ _ _ [(2, .int (nI i)), (1, .int (nI (gm_ldN false (gm_read B n (A 22)).2.2.2 (gm_new (gm_s0 S) (gm_tp B) ((nI (gm_ts B)).toInt64)) (gm_nx ((nI (gm_ts B)).toInt64)) i).1)), (0, .ref m)] [] (sm_om G h m (va_up (gm_RF (va_up F 0 (nI 0)) (gm_read B n (A 22)).2.1 (gm_read B n (A 22)).1 (gm_read B n (A 22)).2.2.1 (gm_ha B n) (gm_hbb B n)) 5 (nI 0)) (va_up X 2 (gm_ldN false (gm_read B n (A 22)).2.2.2 (gm_new (gm_s0 S) (gm_tp B) ((nI (gm_ts B)).toInt64)) (gm_nx ((nI (gm_ts B)).toInt64)) i).2.2) (sm_as (gm_A8 (va_up A 22 (gm_read B n (A 22)).2.2.2)) (gm_ldN false (gm_read B n (A 22)).2.2.2 (gm_new (gm_s0 S) (gm_tp B) ((nI (gm_ts B)).toInt64)) (gm_nx ((nI (gm_ts B)).toInt64)) i).2.1) L)
    have hI := hI_i
    obtain ⟨q, c, a1, a2, a3, a4⟩ := gm_mvo_i (gm_mvo_r (B := B) (n := n) (A 22)) hn_i
    have hqc : q = 6 ∨ (q < 6 ∧ c < 24 ∧ gm_ch q c = true) := a4.imp id (fun z => ⟨z.1, z.2.1, z.2.2.1⟩)
    have es := gm_ldN_s (z := false) (S := gm_new (gm_s0 S) (gm_tp B) ((nI (gm_ts B)).toInt64)) (x := gm_nx ((nI (gm_ts B)).toInt64)) a3 (a4.imp id (fun z => z.2.2.2))
    refine sv_iload_n dX6_load_59 rfl ?_
    refine sv_aload_n dX6_load_60 rfl ?_
    refine rm_get23 rfl dX6_load_61 ?_
    refine sv_top (nI (gm_read B n (A 22)).2.2.1) ((up_ne (by omega)).trans gm_RF_23) ?_
    refine sv_icmpN_ge 98 dX6_load_64 (by decide) (by first | omega | exact Nat.lt_trans (b2n_lt _) (by decide)) (by first | omega | exact Nat.lt_trans (b2n_lt _) (by decide)) (fun c_64 => absurd c_64 (by omega)) (fun c_64 => ?_)
    refine sv_iload_n dX6_load_67 rfl ?_
    refine sv_aload_n dX6_load_68 rfl ?_
    refine sv_aload_n dX6_load_69 rfl ?_
    refine rm_get22 rfl dX6_load_70 ?_
    refine sv_iconst (nI 2) dX6_load_73 (by decide) ?_
    refine sv_iload_n dX6_load_74 rfl ?_
    refine sv_imulN dX6_load_75 ?_
    refine rm_ld22 dX6_load_76 (by first | omega | exact Nat.lt_trans (b2n_lt _) (by decide)) ?_
    refine sv_top (nI q) ((congrFun ((as_k 22 (by omega)).trans (gm_A8_22.trans up_eq)) _).trans a1) ?_
    refine sv_aload_n dX6_load_77 rfl ?_
    refine rm_get22 rfl dX6_load_78 ?_
    refine sv_iconst (nI 2) dX6_load_81 (by decide) ?_
    refine sv_iload_n dX6_load_82 rfl ?_
    refine sv_imulN dX6_load_83 ?_
    refine sv_iconst (nI 1) dX6_load_84 (by decide) ?_
    refine sv_iaddN dX6_load_85 ?_
    refine rm_ld22 dX6_load_86 (by first | omega | exact Nat.lt_trans (b2n_lt _) (by decide)) ?_
    refine sv_top (nI c) ((congrFun ((as_k 22 (by omega)).trans (gm_A8_22.trans up_eq)) _).trans a2) ?_
    refine sv_callV (As := [_, _]) sc_X6_209 (c6_leavesOut (K := K + 40 * i) hI (by omega) (by omega) hqc) rfl rfl (Nat.le_of_ble_eq_true rfl) dX6_load_87 ⟨by decide, by decide⟩ ⟨Nat.le_refl _, Nat.le_refl _⟩ (Nat.le_of_ble_eq_true rfl) om_0 (List.cons_ne_nil _ _) rfl ?_
    refine sv_iaddN dX6_load_90 ?_
    refine sv_top (nI (gm_ldN false (gm_read B n (A 22)).2.2.2 (gm_new (gm_s0 S) (gm_tp B) ((nI (gm_ts B)).toInt64)) (gm_nx ((nI (gm_ts B)).toInt64)) (i + 1)).1) (congrArg nI (by rw [es])) ?_
    refine sv_istore_n (lv' := [(1, _), (2, _), (0, _)]) dX6_load_91 (by decide) rfl ?_
    refine sv_heap (h' := (sm_om G h m (va_up (gm_RF (va_up F 0 (nI 0)) (gm_read B n (A 22)).2.1 (gm_read B n (A 22)).1 (gm_read B n (A 22)).2.2.1 (gm_ha B n) (gm_hbb B n)) 5 (nI 0)) (va_up X 2 (gm_ldN false (gm_read B n (A 22)).2.2.2 (gm_new (gm_s0 S) (gm_tp B) ((nI (gm_ts B)).toInt64)) (gm_nx ((nI (gm_ts B)).toInt64)) (i + 1)).2.2) (sm_as (gm_A8 (va_up A 22 (gm_read B n (A 22)).2.2.2)) (gm_ldN false (gm_read B n (A 22)).2.2.2 (gm_new (gm_s0 S) (gm_tp B) ((nI (gm_ts B)).toInt64)) (gm_nx ((nI (gm_ts B)).toInt64)) (i + 1)).2.1) L)) (by rw [es]) ?_
    refine sv_iinc1 (lv' := [(2, _), (1, _), (0, _)]) dX6_load_92 rfl (by decide) rfl ?_
    refine sv_goto 59 dX6_load_95 (by decide) ?_
    exact sv_sub [0, 1, 2] rfl (ih_i (by rw [es, show K + 40 * (i + 1) = K + 40 * i + 40 by omega]; exact gm_lv_I (K := K + 40 * i) hI (by omega) (by omega) hqc))
end SR21
