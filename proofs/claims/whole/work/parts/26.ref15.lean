section SR15
variable {G : sm_G} {h : sm_H} {m : Nat} {F : Nat → Int32} {X : Nat → Int64} {A : Nat → Nat → Int32} {L : Nat → Nat → Int64} {S : Nat → Nat} {K : Nat}
def gm_ref (S : gm_S) (q c : Int32) : Nat := if gm_in (nI 0) q (nI 5) = true then (if gm_chR (i2 q) c = true then (if gm_can S (i2 q) (i2 c) = true then 0 else 3) else 2) else 1
theorem gm_ref_1 {q c : Int32} (h : gm_in (nI 0) q (nI 5) = false) : gm_ref S q c = 1 := by unfold gm_ref; rw [if_neg (ne_t h)]
theorem gm_ref_2 {q : Nat} {c : Int32} (hq : q < 2 ^ 31) (h : gm_in (nI 0) (nI q) (nI 5) = true) (h2 : gm_chR q c = false) : gm_ref S (nI q) c = 2 := by unfold gm_ref; rw [if_pos h, i2_nI hq, if_neg (ne_t h2)]
theorem gm_ref_3 {q c : Nat} (hq : q < 2 ^ 31) (hc : c < 2 ^ 31) (h : gm_in (nI 0) (nI q) (nI 5) = true) (h2 : gm_chR q (nI c) = true) (h3 : gm_can S q c = false) : gm_ref S (nI q) (nI c) = 3 := by unfold gm_ref; rw [if_pos h, i2_nI hq, if_pos h2, i2_nI hc, if_neg (ne_t h3)]
theorem gm_ref_0 {q c : Nat} (hq : q < 2 ^ 31) (hc : c < 2 ^ 31) (h : gm_in (nI 0) (nI q) (nI 5) = true) (h2 : gm_chR q (nI c) = true) (h3 : gm_can S q c = true) : gm_ref S (nI q) (nI c) = 0 := by unfold gm_ref; rw [if_pos h, i2_nI hq, if_pos h2, i2_nI hc, if_pos h3]
theorem gm_ref_k {q c : Int32} (h : gm_ref S q c = 0) : ∃ a b, q = nI a ∧ c = nI b ∧ a < 6 ∧ b < 24 ∧ gm_ch a b = true ∧ gm_can S a b = true := by
  unfold gm_ref at h
  split at h
  · rename_i h1
    obtain ⟨a, rfl, a1, a2⟩ := gm_in_k (by omega) (by omega) h1
    rw [i2_nI (by omega)] at h
    split at h
    · rename_i h2
      obtain ⟨b, rfl, b1⟩ := gm_ch_k h2
      rw [i2_nI (by omega)] at h
      split at h
      · rename_i h3
        rw [gm_chR_n (by omega)] at h2
        exact ⟨a, b, rfl, rfl, by omega, b1, h2, h3⟩
      · omega
    · omega
  · omega
theorem gm_ref_lt (S : gm_S) (q c : Int32) : gm_ref S q c ≤ 3 := by unfold gm_ref; (repeat' split) <;> omega
theorem c6_refuses {q c : Int32} (hI : gm_I K S) : sm_F G mX6_refuses 3 [.ref m, .int q, .int c] (sm_om G h m F X (sm_as A S) L) (.inl (some (.int (nI (gm_ref S q c))))) (sm_om G h m F X (sm_as A S) L) := by
  unfold sm_F sm_C
  show sm_V G _ _ _ 0 0 0 [(0, .ref m), (1, .int q), (2, .int c)] [] _
  refine sv_iload_n dX6_refuses_0 rfl ?_
  refine sv_callS (As := [_]) sc_X6_221 (c6_isPlace) rfl rfl (Nat.le_of_ble_eq_true rfl) dX6_refuses_1 ⟨by decide, by decide⟩ ⟨Nat.le_refl _, Nat.le_refl _⟩ (Nat.le_of_ble_eq_true rfl) ?_
  refine sv_ifN_ne 11 dX6_refuses_4 (by decide) (by first | omega | (have z := b2n_lt (gm_in (nI 0) q (nI 5)); omega) | (have z := b2n_lt (gm_chR q9 c); omega) | (have z := b2n_lt (gm_can S q9 k); omega)) (fun c_4 => ?_) (fun c_4 => ?_)
  · have in_q := b2n_1 c_4
    obtain ⟨q9, rfl, q9_1, q9_2⟩ := gm_in_k (by omega) (by omega) in_q
    refine sv_iload_n dX6_refuses_11 rfl ?_
    refine sv_iload_n dX6_refuses_12 rfl ?_
    refine sv_callS (As := [_, _]) sc_X6_152 (c6_isChoice (by omega)) rfl rfl (Nat.le_of_ble_eq_true rfl) dX6_refuses_13 ⟨by decide, by decide⟩ ⟨Nat.le_refl _, Nat.le_refl _⟩ (Nat.le_of_ble_eq_true rfl) ?_
    refine sv_ifN_ne 23 dX6_refuses_16 (by decide) (by first | omega | (have z := b2n_lt (gm_in (nI 0) q (nI 5)); omega) | (have z := b2n_lt (gm_chR q9 c); omega) | (have z := b2n_lt (gm_can S q9 k); omega)) (fun c_16 => ?_) (fun c_16 => ?_)
    · have in_c := b2n_1 c_16
      obtain ⟨k, rfl, k_1⟩ := gm_ch_k in_c
      have hch := in_c
      rw [gm_chR_n (by omega)] at hch
      refine sv_aload_n dX6_refuses_23 rfl ?_
      refine sv_iload_n dX6_refuses_24 rfl ?_
      refine sv_iload_n dX6_refuses_25 rfl ?_
      refine sv_callV (As := [_, _]) sc_X6_127 (c6_canPlace hI (by omega) (by omega) (fun e => (gm_chg (by omega) hch e).1)) rfl rfl (Nat.le_of_ble_eq_true rfl) dX6_refuses_26 ⟨by decide, by decide⟩ ⟨Nat.le_refl _, Nat.le_refl _⟩ (Nat.le_of_ble_eq_true rfl) om_0 (List.cons_ne_nil _ _) rfl ?_
      refine sv_ifN_ne 36 dX6_refuses_29 (by decide) (by first | omega | (have z := b2n_lt (gm_in (nI 0) q (nI 5)); omega) | (have z := b2n_lt (gm_chR q9 c); omega) | (have z := b2n_lt (gm_can S q9 k); omega)) (fun c_29 => ?_) (fun c_29 => ?_)
      · refine sv_iconst (nI 0) dX6_refuses_36 (by decide) ?_
        refine sv_iret dX6_refuses_37 rfl rfl (Nat.le_refl _) (Nat.le_refl _) ?_
        exact ⟨ri (gm_ref_0 (by omega) (by omega) in_q in_c (b2n_1 c_29)).symm, rfl⟩
      · refine sv_iconst (nI 3) dX6_refuses_32 (by decide) ?_
        refine sv_goto 37 dX6_refuses_33 (by decide) ?_
        refine sv_iret dX6_refuses_37 rfl rfl (Nat.le_refl _) (Nat.le_refl _) ?_
        exact ⟨ri (gm_ref_3 (by omega) (by omega) in_q in_c (b2n_f c_29)).symm, rfl⟩
    · refine sv_iconst (nI 2) dX6_refuses_19 (by decide) ?_
      refine sv_goto 37 dX6_refuses_20 (by decide) ?_
      refine sv_iret dX6_refuses_37 rfl rfl (Nat.le_refl _) (Nat.le_refl _) ?_
      exact ⟨ri (gm_ref_2 (by omega) in_q (b2n_f c_16)).symm, rfl⟩
  · refine sv_iconst (nI 1) dX6_refuses_7 (by decide) ?_
    refine sv_goto 37 dX6_refuses_8 (by decide) ?_
    refine sv_iret dX6_refuses_37 rfl rfl (Nat.le_refl _) (Nat.le_refl _) ?_
    exact ⟨ri (gm_ref_1 (b2n_f c_4)).symm, rfl⟩
theorem c6_place0 {q c : Int32} (hI : gm_I K S) (hr : gm_ref S q c ≠ 0) : sm_F G mX6_place 4 [.ref m, .int q, .int c] (sm_om G h m F X (sm_as A S) L) (.inl (some (.int (nI 0)))) (sm_om G h m (va_up F 0 (nI (gm_ref S q c))) X (sm_as A S) L) := by
  unfold sm_F sm_C
  show sm_V G _ _ _ 0 0 0 [(0, .ref m), (1, .int q), (2, .int c)] [] _
  refine sv_aload_n dX6_place_0 rfl ?_
  refine sv_aload_n dX6_place_1 rfl ?_
  refine sv_iload_n dX6_place_2 rfl ?_
  refine sv_iload_n dX6_place_3 rfl ?_
  refine sv_callV (As := [_, _]) sc_X6_227 (c6_refuses hI) rfl rfl (Nat.le_of_ble_eq_true rfl) dX6_place_4 ⟨by decide, by decide⟩ ⟨Nat.le_refl _, Nat.le_refl _⟩ (Nat.le_of_ble_eq_true rfl) om_0 (List.cons_ne_nil _ _) rfl ?_
  refine rm_put0 rfl dX6_place_7 ?_
  refine sv_aload_n dX6_place_10 rfl ?_
  refine rm_get0 rfl dX6_place_11 ?_
  refine sv_top (nI (gm_ref S q c)) (up_eq) ?_
  refine sv_ifN_eq 19 dX6_place_14 (by decide) (by have := gm_ref_lt S q c; omega) (fun c_14 => absurd c_14 hr) (fun c_14 => ?_)
  refine sv_iconst (nI 0) dX6_place_17 (by decide) ?_
  refine sv_iret dX6_place_18 rfl rfl (Nat.le_refl _) (Nat.le_refl _) ?_
  exact ⟨rfl, rfl⟩
theorem c6_placeK {x : Int64} {k : Nat} (hf : F 5 = nI k) (hk : k ≤ 14) (hI : gm_I K S) (hK : K + 40 < 2 ^ 26) (hK9 : 12 ≤ K) {q c : Nat} (hq : q < 6) (hc : c < 24) (hch : gm_ch q c = true) (hcan : gm_can S q c = true) : sm_F G mX6_place 5 [.ref m, .int (nI q), .int (nI c)] (sm_om G h m F (va_up X 2 x) (sm_as A S) L) (.inl (some (.int (gm_who S q)))) (sm_om G h m (gm_rmF k (va_up F 0 (nI 0))) (va_up X 2 (gm_put false S x q c).2) (sm_as (gm_rmA k A S) (gm_put false S x q c).1) (gm_rmL k L x)) := by
  unfold sm_F sm_C
  show sm_V G _ _ _ 0 0 0 [(0, .ref m), (1, .int (nI q)), (2, .int (nI c))] [] _
  have hM := gm_pl_M hI hq hc hch hcan hK hK9
  have hn := hM.n
  refine sv_aload_n dX6_place_0 rfl ?_
  refine sv_aload_n dX6_place_1 rfl ?_
  refine sv_iload_n dX6_place_2 rfl ?_
  refine sv_iload_n dX6_place_3 rfl ?_
  refine sv_callV (As := [_, _]) sc_X6_227 (c6_refuses hI) rfl rfl (Nat.le_of_ble_eq_true rfl) dX6_place_4 ⟨by decide, by decide⟩ ⟨Nat.le_refl _, Nat.le_refl _⟩ (Nat.le_of_ble_eq_true rfl) om_0 (List.cons_ne_nil _ _) rfl ?_
  refine sv_top (nI 0) (congrArg nI (gm_ref_0 (by omega) (by omega) (decide_eq_true (by rw [nI_leI (by omega) (by omega), nI_leI (by omega) (by omega)]; omega)) (by rw [gm_chR_n (by omega)]; exact hch) hcan)) ?_
  refine rm_put0 rfl dX6_place_7 ?_
  refine sv_aload_n dX6_place_10 rfl ?_
  refine rm_get0 rfl dX6_place_11 ?_
  refine sv_top (nI 0) (up_eq) ?_
  refine sv_ifN_eq 19 dX6_place_14 (by decide) (by omega) (fun c_14 => ?_) (fun c_14 => absurd c_14 (fun z => z rfl))
  refine sv_aload_n dX6_place_19 rfl ?_
  refine sv_callV (As := []) sc_X6_224 (c6_remembers (k := k) ((up_ne (by omega)).trans hf) hk) rfl rfl (Nat.le_of_ble_eq_true rfl) dX6_place_20 ⟨by decide, by decide⟩ ⟨Nat.le_refl _, Nat.le_refl _⟩ (Nat.le_of_ble_eq_true rfl) om_0 (List.cons_ne_nil _ _) rfl ?_
  refine sv_heap (h' := (sm_om G h m (gm_rmF k (va_up F 0 (nI 0))) (va_up X 2 x) (sm_as (gm_rmA k A S) S) (gm_rmL k L x))) (by rw [up_eq]) ?_
  refine sv_aload_n dX6_place_23 rfl ?_
  refine sv_iload_n dX6_place_24 rfl ?_
  refine sv_iload_n dX6_place_25 rfl ?_
  refine sv_callV (As := [_, _]) sc_X6_137 (c6_places hI hq hc (gm_chg hc hch) hcan) rfl rfl (Nat.le_of_ble_eq_true rfl) dX6_place_26 ⟨by decide, by decide⟩ ⟨Nat.le_refl _, Nat.le_refl _⟩ (Nat.le_of_ble_eq_true rfl) om_0 (List.cons_ne_nil _ _) rfl ?_
  refine sv_istore_n (lv' := [(3, _), (0, _), (1, _), (2, _)]) dX6_place_29 (by decide) rfl ?_
  refine sv_aload_n dX6_place_30 rfl ?_
  refine sv_callV (As := []) sc_X6_158 (c6_goesTo hM.k hM.k2 (by omega) (by omega) (by omega) (by omega)) rfl rfl (Nat.le_of_ble_eq_true rfl) dX6_place_31 ⟨by decide, by decide⟩ ⟨Nat.le_refl _, Nat.le_refl _⟩ (Nat.le_of_ble_eq_true rfl) om_0 (List.cons_ne_nil _ _) rfl ?_
  refine sv_iload_n dX6_place_34 rfl ?_
  refine sv_iret dX6_place_35 rfl rfl (Nat.le_refl _) (Nat.le_refl _) ?_
  exact ⟨rfl, rfl⟩
theorem c6_pass0 (hI : gm_I K S) (hon : gm_on S = false) : sm_F G mX6_pass 1 [.ref m] (sm_om G h m F X (sm_as A S) L) (.inl (some (.int (nI 0)))) (sm_om G h m (va_up F 0 (nI 1)) X (sm_as A S) L) := by
  unfold sm_F sm_C
  show sm_V G _ _ _ 0 0 0 [(0, .ref m)] [] _
  have b3 := hI.2.1 3 (by omega) (by omega); have b6 := hI.2.1 6 (by omega) (by omega); have b0 := hI.2.1 0 (by omega) (by omega); have bK := hI.2.2.1
  refine sv_aload_n dX6_pass_0 rfl ?_
  refine sv_iconst (nI 0) dX6_pass_1 (by decide) ?_
  refine rm_put0 rfl dX6_pass_2 ?_
  refine sv_aload_n dX6_pass_5 rfl ?_
  refine sv_callV (As := []) sc_X6_106 (c6_isOn (by omega) (by omega) (by omega)) rfl rfl (Nat.le_of_ble_eq_true rfl) dX6_pass_6 ⟨by decide, by decide⟩ ⟨Nat.le_refl _, Nat.le_refl _⟩ (Nat.le_of_ble_eq_true rfl) om_0 (List.cons_ne_nil _ _) rfl ?_
  refine sv_ifN_ne 18 dX6_pass_9 (by decide) (by first | omega | (have z := b2n_lt (gm_on S); omega)) (fun c_9 => absurd c_9 (fun z => z ((b2n_0 _).mpr hon))) (fun c_9 => ?_)
  refine sv_aload_n dX6_pass_12 rfl ?_
  refine sv_iconst (nI 1) dX6_pass_13 (by decide) ?_
  refine sv_callV (As := [_]) sc_X6_167 (c6_fails) rfl rfl (Nat.le_of_ble_eq_true rfl) dX6_pass_14 ⟨by decide, by decide⟩ ⟨Nat.le_refl _, Nat.le_refl _⟩ (Nat.le_of_ble_eq_true rfl) om_0 (List.cons_ne_nil _ _) rfl ?_
  refine sv_iret dX6_pass_17 rfl rfl (Nat.le_refl _) (Nat.le_refl _) ?_
  exact ⟨rfl, om_FXAL (up_up _ _ _ _) rfl rfl rfl⟩
def gm_cur (S : gm_S) : Int32 := if gm_on S = true then nI (S 4) else -1
theorem c6_passK {x : Int64} {k : Nat} (hf : F 5 = nI k) (hk : k ≤ 14) (hI : gm_I K S) (hon : gm_on S = true) (hK9 : 12 ≤ K) : sm_F G mX6_pass 6 [.ref m] (sm_om G h m F (va_up X 2 x) (sm_as A S) L) (.inl (some (.int (gm_cur (gm_pass false S x).1)))) (sm_om G h m (gm_rmF k (va_up F 0 (nI 0))) (va_up X 2 (gm_pass false S x).2) (sm_as (gm_rmA k A S) (gm_pass false S x).1) (gm_rmL k L x)) := by
  unfold sm_F sm_C
  show sm_V G _ _ _ 0 0 0 [(0, .ref m)] [] _
  have b3 := hI.2.1 3 (by omega) (by omega); have b6 := hI.2.1 6 (by omega) (by omega); have b0 := hI.2.1 0 (by omega) (by omega); have bK := hI.2.2.1
  have hM := gm_IM hI hon
  have hn := hM.n
  have hI2 := gm_pass_I (z := false) (x := x) hI hon hK9
  have d3 := hI2.2.1 3 (by omega) (by omega); have d6 := hI2.2.1 6 (by omega) (by omega); have d0 := hI2.2.1 0 (by omega) (by omega)
  refine sv_aload_n dX6_pass_0 rfl ?_
  refine sv_iconst (nI 0) dX6_pass_1 (by decide) ?_
  refine rm_put0 rfl dX6_pass_2 ?_
  refine sv_aload_n dX6_pass_5 rfl ?_
  refine sv_callV (As := []) sc_X6_106 (c6_isOn (by omega) (by omega) (by omega)) rfl rfl (Nat.le_of_ble_eq_true rfl) dX6_pass_6 ⟨by decide, by decide⟩ ⟨Nat.le_refl _, Nat.le_refl _⟩ (Nat.le_of_ble_eq_true rfl) om_0 (List.cons_ne_nil _ _) rfl ?_
  refine sv_ifN_ne 18 dX6_pass_9 (by decide) (by first | omega | (have z := b2n_lt (gm_on S); omega) | (have z := b2n_lt (gm_on (gm_pass false S x).1); omega)) (fun c_9 => ?_) (fun c_9 => absurd c_9 (fun z => by rw [(b2n_0 _).mp z] at hon; cases hon))
  refine sv_aload_n dX6_pass_18 rfl ?_
  refine sv_callV (As := []) sc_X6_224 (c6_remembers (k := k) ((up_ne (by omega)).trans hf) hk) rfl rfl (Nat.le_of_ble_eq_true rfl) dX6_pass_19 ⟨by decide, by decide⟩ ⟨Nat.le_refl _, Nat.le_refl _⟩ (Nat.le_of_ble_eq_true rfl) om_0 (List.cons_ne_nil _ _) rfl ?_
  refine sv_heap (h' := (sm_om G h m (gm_rmF k (va_up F 0 (nI 0))) (va_up X 2 x) (sm_as (gm_rmA k A S) S) (gm_rmL k L x))) (by rw [up_eq]) ?_
  refine sv_aload_n dX6_pass_22 rfl ?_
  refine sv_callV (As := []) sc_X6_164 (c6_passes hM.k hM.k2 (by omega) (by omega) (by omega) (by omega) (by omega)) rfl rfl (Nat.le_of_ble_eq_true rfl) dX6_pass_23 ⟨by decide, by decide⟩ ⟨Nat.le_refl _, Nat.le_refl _⟩ (Nat.le_of_ble_eq_true rfl) om_0 (List.cons_ne_nil _ _) rfl ?_
  refine sv_aload_n dX6_pass_26 rfl ?_
  refine sv_callV (As := []) sc_X6_106 (c6_isOn (S := (gm_pass false S x).1) (by omega) (by omega) (by omega)) rfl rfl (Nat.le_of_ble_eq_true rfl) dX6_pass_27 ⟨by decide, by decide⟩ ⟨Nat.le_refl _, Nat.le_refl _⟩ (Nat.le_of_ble_eq_true rfl) om_0 (List.cons_ne_nil _ _) rfl ?_
  refine sv_ifN_eq 42 dX6_pass_30 (by decide) (by first | omega | (have z := b2n_lt (gm_on S); omega) | (have z := b2n_lt (gm_on (gm_pass false S x).1); omega)) (fun c_30 => ?_) (fun c_30 => ?_)
  · refine sv_iconst (-1) dX6_pass_42 (by decide) ?_
    refine sv_iret dX6_pass_43 rfl rfl (Nat.le_refl _) (Nat.le_refl _) ?_
    exact ⟨rI (by unfold gm_cur; rw [if_neg (ne_t (b2n_f c_30))]), rfl⟩
  · refine sv_aload_n dX6_pass_33 rfl ?_
    refine rm_get1 rfl dX6_pass_34 ?_
    refine sv_iconst (nI 4) dX6_pass_37 (by decide) ?_
    refine rm_ld1N dX6_pass_38 (by first | omega | (have z := b2n_lt (gm_on S); omega) | (have z := b2n_lt (gm_on (gm_pass false S x).1); omega)) ?_
    refine sv_goto 43 dX6_pass_39 (by decide) ?_
    refine sv_iret dX6_pass_43 rfl rfl (Nat.le_refl _) (Nat.le_refl _) ?_
    exact ⟨rI (by unfold gm_cur; rw [if_pos (b2n_1 c_30)]), rfl⟩
theorem c6_play0 (hI : gm_I K S) (hon : gm_on S = false) : sm_F G mX6_play 1 [.ref m] (sm_om G h m F X (sm_as A S) L) (.inl (some (.int (nI 0)))) (sm_om G h m (va_up F 0 (nI 1)) X (sm_as A S) L) := by
  unfold sm_F sm_C
  show sm_V G _ _ _ 0 0 0 [(0, .ref m)] [] _
  have b3 := hI.2.1 3 (by omega) (by omega); have b6 := hI.2.1 6 (by omega) (by omega); have b0 := hI.2.1 0 (by omega) (by omega); have bK := hI.2.2.1
  refine sv_aload_n dX6_play_0 rfl ?_
  refine sv_iconst (nI 0) dX6_play_1 (by decide) ?_
  refine rm_put0 rfl dX6_play_2 ?_
  refine sv_aload_n dX6_play_5 rfl ?_
  refine sv_callV (As := []) sc_X6_106 (c6_isOn (by omega) (by omega) (by omega)) rfl rfl (Nat.le_of_ble_eq_true rfl) dX6_play_6 ⟨by decide, by decide⟩ ⟨Nat.le_refl _, Nat.le_refl _⟩ (Nat.le_of_ble_eq_true rfl) om_0 (List.cons_ne_nil _ _) rfl ?_
  refine sv_ifN_ne 18 dX6_play_9 (by decide) (by first | omega | (have z := b2n_lt (gm_on S); omega)) (fun c_9 => absurd c_9 (fun z => z ((b2n_0 _).mpr hon))) (fun c_9 => ?_)
  refine sv_aload_n dX6_play_12 rfl ?_
  refine sv_iconst (nI 1) dX6_play_13 (by decide) ?_
  refine sv_callV (As := [_]) sc_X6_167 (c6_fails) rfl rfl (Nat.le_of_ble_eq_true rfl) dX6_play_14 ⟨by decide, by decide⟩ ⟨Nat.le_refl _, Nat.le_refl _⟩ (Nat.le_of_ble_eq_true rfl) om_0 (List.cons_ne_nil _ _) rfl ?_
  refine sv_iret dX6_play_17 rfl rfl (Nat.le_refl _) (Nat.le_refl _) ?_
  exact ⟨rfl, om_FXAL (up_up _ _ _ _) rfl rfl rfl⟩
theorem c6_playK {x : Int64} {k : Nat} (hf : F 5 = nI k) (hk : k ≤ 14) (hI : gm_I K S) (hon : gm_on S = true) (hK : K + 40 < 2 ^ 26) (hK9 : 12 ≤ K) : sm_F G mX6_play 7 [.ref m] (sm_om G h m F (va_up X 2 x) (sm_as A S) L) (.inl (some (.int (gm_pans S)))) (sm_om G h m (gm_FB (gm_rmF k (va_up F 0 (nI 0))) (gm_bst S)) (va_up (gm_kX (gm_any S) (va_up X 2 x)) 2 (gm_play false S x).2) (sm_as (gm_kA (gm_any S) (gm_rmA k A S) S) (gm_play false S x).1) (gm_rmL k L x)) := by
  unfold sm_F sm_C
  show sm_V G _ _ _ 0 0 0 [(0, .ref m)] [] _
  have b3 := hI.2.1 3 (by omega) (by omega); have b6 := hI.2.1 6 (by omega) (by omega); have b0 := hI.2.1 0 (by omega) (by omega); have bK := hI.2.2.1
  refine sv_aload_n dX6_play_0 rfl ?_
  refine sv_iconst (nI 0) dX6_play_1 (by decide) ?_
  refine rm_put0 rfl dX6_play_2 ?_
  refine sv_aload_n dX6_play_5 rfl ?_
  refine sv_callV (As := []) sc_X6_106 (c6_isOn (by omega) (by omega) (by omega)) rfl rfl (Nat.le_of_ble_eq_true rfl) dX6_play_6 ⟨by decide, by decide⟩ ⟨Nat.le_refl _, Nat.le_refl _⟩ (Nat.le_of_ble_eq_true rfl) om_0 (List.cons_ne_nil _ _) rfl ?_
  refine sv_ifN_ne 18 dX6_play_9 (by decide) (by first | omega | (have z := b2n_lt (gm_on S); omega)) (fun c_9 => ?_) (fun c_9 => absurd c_9 (fun z => by rw [(b2n_0 _).mp z] at hon; cases hon))
  refine sv_aload_n dX6_play_18 rfl ?_
  refine sv_callV (As := []) sc_X6_224 (c6_remembers (k := k) ((up_ne (by omega)).trans hf) hk) rfl rfl (Nat.le_of_ble_eq_true rfl) dX6_play_19 ⟨by decide, by decide⟩ ⟨Nat.le_refl _, Nat.le_refl _⟩ (Nat.le_of_ble_eq_true rfl) om_0 (List.cons_ne_nil _ _) rfl ?_
  refine sv_heap (h' := (sm_om G h m (gm_rmF k (va_up F 0 (nI 0))) (va_up X 2 x) (sm_as (gm_rmA k A S) S) (gm_rmL k L x))) (by rw [up_eq]) ?_
  refine sv_aload_n dX6_play_22 rfl ?_
  refine sv_callV (As := []) sc_X6_230 (c6_plays hI hon hK hK9) rfl rfl (Nat.le_of_ble_eq_true rfl) dX6_play_23 ⟨by decide, by decide⟩ ⟨Nat.le_refl _, Nat.le_refl _⟩ (Nat.le_of_ble_eq_true rfl) om_0 (List.cons_ne_nil _ _) rfl ?_
  refine sv_iret dX6_play_26 rfl rfl (Nat.le_refl _) (Nat.le_refl _) ?_
  exact ⟨rfl, rfl⟩
theorem c6_begin0 {p : Int32} {y : Int64} (hp : gm_in (nI 2) p (nI 4) = false) : sm_F G mX6_begin 1 [.ref m, .int p, .long y] (sm_om G h m F X (sm_as A S) L) (.inl (some (.int (nI 0)))) (sm_om G h m (va_up F 0 (nI 1)) X (sm_as A S) L) := by
  unfold sm_F sm_C
  show sm_V G _ _ _ 0 0 0 [(0, .ref m), (1, .int p), (2, .long y)] [] _
  refine sv_aload_n dX6_begin_0 rfl ?_
  refine sv_iconst (nI 0) dX6_begin_1 (by decide) ?_
  refine rm_put0 rfl dX6_begin_2 ?_
  refine sv_iload_n dX6_begin_5 rfl ?_
  refine sv_iconst (nI 2) dX6_begin_6 (by decide) ?_
  refine sv_iconst (nI 4) dX6_begin_7 (by decide) ?_
  refine sv_callS (As := [_, _, _]) sc_X6_53 (c6_inG) rfl rfl (Nat.le_of_ble_eq_true rfl) dX6_begin_8 ⟨by decide, by decide⟩ ⟨Nat.le_refl _, Nat.le_refl _⟩ (Nat.le_of_ble_eq_true rfl) ?_
  refine sv_ifN_ne 20 dX6_begin_11 (by decide) (by first | omega | (have z := b2n_lt (gm_in (nI 2) p (nI 4)); omega)) (fun c_11 => absurd c_11 (fun z => z ((b2n_0 _).mpr hp))) (fun c_11 => ?_)
  refine sv_aload_n dX6_begin_14 rfl ?_
  refine sv_iconst (nI 1) dX6_begin_15 (by decide) ?_
  refine sv_callV (As := [_]) sc_X6_167 (c6_fails) rfl rfl (Nat.le_of_ble_eq_true rfl) dX6_begin_16 ⟨by decide, by decide⟩ ⟨Nat.le_refl _, Nat.le_refl _⟩ (Nat.le_of_ble_eq_true rfl) om_0 (List.cons_ne_nil _ _) rfl ?_
  refine sv_iret dX6_begin_19 rfl rfl (Nat.le_refl _) (Nat.le_refl _) ?_
  exact ⟨rfl, om_FXAL (up_up _ _ _ _) rfl rfl rfl⟩
theorem c6_beginK {y : Int64} {k : Nat} (hf : F 5 = nI k) (hk : k ≤ 14) {p : Nat} (hp2 : 2 ≤ p) (hp : p ≤ 4) : sm_F G mX6_begin 3 [.ref m, .int (nI p), .long y] (sm_om G h m F X (sm_as A S) L) (.inl (some (.int (nI (gm_die (gm_nx y)))))) (sm_om G h m (gm_rmF k (va_up F 0 (nI 0))) (va_up X 2 (gm_nx y)) (sm_as (gm_rmA k A S) (gm_new S p y)) (gm_rmL k L (X 2))) := by
  unfold sm_F sm_C
  show sm_V G _ _ _ 0 0 0 [(0, .ref m), (1, .int (nI p)), (2, .long y)] [] _
  refine sv_aload_n dX6_begin_0 rfl ?_
  refine sv_iconst (nI 0) dX6_begin_1 (by decide) ?_
  refine rm_put0 rfl dX6_begin_2 ?_
  refine sv_iload_n dX6_begin_5 rfl ?_
  refine sv_iconst (nI 2) dX6_begin_6 (by decide) ?_
  refine sv_iconst (nI 4) dX6_begin_7 (by decide) ?_
  refine sv_callS (As := [_, _, _]) sc_X6_53 (c6_in (by omega) (by omega) (by omega)) rfl rfl (Nat.le_of_ble_eq_true rfl) dX6_begin_8 ⟨by decide, by decide⟩ ⟨Nat.le_refl _, Nat.le_refl _⟩ (Nat.le_of_ble_eq_true rfl) ?_
  refine sv_ifN_ne 20 dX6_begin_11 (by decide) (by first | omega | exact Nat.lt_trans (b2n_lt _) (by decide)) (fun c_11 => ?_) (fun c_11 => absurd c_11 (by rw [b2n_0, decide_eq_false_iff_not]; omega))
  refine sv_aload_n dX6_begin_20 rfl ?_
  refine sv_callV (As := []) sc_X6_224 (c6_remembers (k := k) ((up_ne (by omega)).trans hf) hk) rfl rfl (Nat.le_of_ble_eq_true rfl) dX6_begin_21 ⟨by decide, by decide⟩ ⟨Nat.le_refl _, Nat.le_refl _⟩ (Nat.le_of_ble_eq_true rfl) om_0 (List.cons_ne_nil _ _) rfl ?_
  refine sv_aload_n dX6_begin_24 rfl ?_
  refine sv_iload_n dX6_begin_25 rfl ?_
  refine sv_lload_n dX6_begin_26 rfl ?_
  refine sv_callV (As := [_, _]) sc_X6_205 (c6_begins hp) rfl rfl (Nat.le_of_ble_eq_true rfl) dX6_begin_27 ⟨by decide, by decide⟩ ⟨Nat.le_refl _, Nat.le_refl _⟩ (Nat.le_of_ble_eq_true rfl) om_0 (List.cons_ne_nil _ _) rfl ?_
  refine sv_aload_n dX6_begin_30 rfl ?_
  refine rm_get1 rfl dX6_begin_31 ?_
  refine sv_iconst (nI 5) dX6_begin_34 (by decide) ?_
  refine rm_ld1N dX6_begin_35 (by first | omega | exact Nat.lt_trans (b2n_lt _) (by decide)) ?_
  refine sv_iret dX6_begin_36 rfl rfl (Nat.le_refl _) (Nat.le_refl _) ?_
  exact ⟨rfl, rfl⟩
theorem c6_set0 {w v : Int32} (hs : gm_isS w v = false) : sm_F G mX6_set 2 [.ref m, .int w, .int v] (sm_om G h m F X (sm_as A S) L) (.inl (some (.int (nI 0)))) (sm_om G h m (va_up F 0 (nI 1)) X (sm_as A S) L) := by
  unfold sm_F sm_C
  show sm_V G _ _ _ 0 0 0 [(0, .ref m), (1, .int w), (2, .int v)] [] _
  refine sv_aload_n dX6_set_0 rfl ?_
  refine sv_iconst (nI 0) dX6_set_1 (by decide) ?_
  refine rm_put0 rfl dX6_set_2 ?_
  refine sv_iload_n dX6_set_5 rfl ?_
  refine sv_iload_n dX6_set_6 rfl ?_
  refine sv_callS (As := [_, _]) sc_X6_233 (c6_isSetting) rfl rfl (Nat.le_of_ble_eq_true rfl) dX6_set_7 ⟨by decide, by decide⟩ ⟨Nat.le_refl _, Nat.le_refl _⟩ (Nat.le_of_ble_eq_true rfl) ?_
  refine sv_ifN_ne 19 dX6_set_10 (by decide) (by first | omega | (have z := b2n_lt (gm_isS w v); omega)) (fun c_10 => absurd c_10 (fun z => z ((b2n_0 _).mpr hs))) (fun c_10 => ?_)
  refine sv_aload_n dX6_set_13 rfl ?_
  refine sv_iconst (nI 1) dX6_set_14 (by decide) ?_
  refine sv_callV (As := [_]) sc_X6_167 (c6_fails) rfl rfl (Nat.le_of_ble_eq_true rfl) dX6_set_15 ⟨by decide, by decide⟩ ⟨Nat.le_refl _, Nat.le_refl _⟩ (Nat.le_of_ble_eq_true rfl) om_0 (List.cons_ne_nil _ _) rfl ?_
  refine sv_iret dX6_set_18 rfl rfl (Nat.le_refl _) (Nat.le_refl _) ?_
  exact ⟨rfl, om_FXAL (up_up _ _ _ _) rfl rfl rfl⟩
theorem c6_setK {k : Nat} (hf : F 5 = nI k) (hk : k ≤ 14) {w v : Nat} (hs : gm_isS (nI w) (nI v) = true) (hw : w < 3) : sm_F G mX6_set 2 [.ref m, .int (nI w), .int (nI v)] (sm_om G h m F X (sm_as A S) L) (.inl (some (.int (nI (S w))))) (sm_om G h m (gm_rmF k (va_up F 0 (nI 0))) X (sm_as (gm_rmA k A S) (va_up S w v)) (gm_rmL k L (X 2))) := by
  unfold sm_F sm_C
  show sm_V G _ _ _ 0 0 0 [(0, .ref m), (1, .int (nI w)), (2, .int (nI v))] [] _
  refine sv_aload_n dX6_set_0 rfl ?_
  refine sv_iconst (nI 0) dX6_set_1 (by decide) ?_
  refine rm_put0 rfl dX6_set_2 ?_
  refine sv_iload_n dX6_set_5 rfl ?_
  refine sv_iload_n dX6_set_6 rfl ?_
  refine sv_callS (As := [_, _]) sc_X6_233 (c6_isSetting) rfl rfl (Nat.le_of_ble_eq_true rfl) dX6_set_7 ⟨by decide, by decide⟩ ⟨Nat.le_refl _, Nat.le_refl _⟩ (Nat.le_of_ble_eq_true rfl) ?_
  refine sv_ifN_ne 19 dX6_set_10 (by decide) (by first | omega | (have z := b2n_lt (gm_isS (nI w) (nI v)); omega)) (fun c_10 => ?_) (fun c_10 => absurd c_10 (fun z => by rw [(b2n_0 _).mp z] at hs; cases hs))
  refine sv_aload_n dX6_set_19 rfl ?_
  refine sv_callV (As := []) sc_X6_224 (c6_remembers (k := k) ((up_ne (by omega)).trans hf) hk) rfl rfl (Nat.le_of_ble_eq_true rfl) dX6_set_20 ⟨by decide, by decide⟩ ⟨Nat.le_refl _, Nat.le_refl _⟩ (Nat.le_of_ble_eq_true rfl) om_0 (List.cons_ne_nil _ _) rfl ?_
  refine sv_aload_n dX6_set_23 rfl ?_
  refine rm_get1 rfl dX6_set_24 ?_
  refine sv_iload_n dX6_set_27 rfl ?_
  refine rm_ld1N dX6_set_28 (by first | omega | (have z := b2n_lt (gm_isS (nI w) (nI v)); omega)) ?_
  refine sv_istore_n (lv' := [(3, _), (0, _), (1, _), (2, _)]) dX6_set_29 (by decide) rfl ?_
  refine sv_aload_n dX6_set_30 rfl ?_
  refine rm_get1 rfl dX6_set_31 ?_
  refine sv_iload_n dX6_set_34 rfl ?_
  refine sv_iload_n dX6_set_35 rfl ?_
  refine rm_st1N dX6_set_36 (by first | omega | (have z := b2n_lt (gm_isS (nI w) (nI v)); omega)) ?_
  refine sv_iload_n dX6_set_37 rfl ?_
  refine sv_iret dX6_set_38 rfl rfl (Nat.le_refl _) (Nat.le_refl _) ?_
  exact ⟨rfl, rfl⟩
end SR15
