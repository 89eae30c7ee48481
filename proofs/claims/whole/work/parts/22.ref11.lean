section SR11
variable {G : sm_G} {h : sm_H} {m : Nat} {F : Nat → Int32} {X : Nat → Int64} {A : Nat → Nat → Int32} {L : Nat → Nat → Int64} {S : Nat → Nat} {K : Nat}
theorem an_l_1 {p g : Int32} (h : gm_isP S p = false) : an_loses S p g = (nI 1, nI 0) := by unfold an_loses; rw [if_neg (ne_t h)]
theorem an_l_2 {p g : Int32} (h : gm_isP S p = true) (h2 : gm_in (nI 0) g (nI 2) = false) : an_loses S p g = (nI 2, nI 0) := by unfold an_loses; rw [if_pos h, if_neg (ne_t h2)]
theorem an_l_3 {p g : Int32} (h : gm_isP S p = true) (h2 : gm_in (nI 0) g (nI 2) = true) (h3 : gm_on S = false) : an_loses S p g = (nI 0, nI 0) := by unfold an_loses; rw [if_pos h, if_pos h2, if_neg (ne_t h3)]
theorem an_l_4 {p g : Nat} (hp : p < 2 ^ 31) (hg : g < 2 ^ 31) (h : gm_isP S (nI p) = true) (h2 : gm_in (nI 0) (nI g) (nI 2) = true) (h3 : gm_on S = true) : an_loses S (nI p) (nI g) = (nI 0, nI (gm_loss S p g)) := by unfold an_loses; rw [if_pos h, if_pos h2, if_pos h3, i2_nI hp, i2_nI hg]
theorem an_b_1 {q : Int32} (h : gm_in (nI 0) q (nI 5) = false) : an_bumps S q = (nI 1, nI 0) := by unfold an_bumps; rw [if_neg (ne_t h)]
theorem an_b_2 {q : Nat} (hq : q < 2 ^ 31) (h : gm_in (nI 0) (nI q) (nI 5) = true) (h2 : ¬ (gm_on S = true ∧ gm_full S q = true ∧ gm_bk S q ≠ 3)) : an_bumps S (nI q) = (nI 0, -1) := by unfold an_bumps gm_bmp; rw [if_pos h, i2_nI hq, if_neg h2]
theorem an_b_3 {q : Nat} (hq : q < 2 ^ 31) (h : gm_in (nI 0) (nI q) (nI 5) = true) (h2 : gm_on S = true) (h3 : gm_full S q = true) (h4 : gm_bk S q ≠ 3) : an_bumps S (nI q) = (nI 0, nI (S (45 + 4 * q + 1 + gm_bk S q))) := by unfold an_bumps gm_bmp; rw [if_pos h, i2_nI hq, if_pos ⟨h2, h3, h4⟩]
theorem gm_bki_n {q : Nat} (h : gm_bk S q ≠ 3) : gm_bki S q = nI (gm_bk S q) := by unfold gm_bki; rw [if_neg h]
theorem gm_bki_3 {q : Nat} (h : gm_bki S q = -1) : gm_bk S q = 3 := by
  unfold gm_bki at h
  split at h
  · assumption
  · rename_i e
    exact absurd h (ne_1 (by unfold gm_bk at e ⊢; (repeat' split) <;> omega))
theorem gm_bki_4 {q : Nat} (h : gm_bki S q ≠ -1) : gm_bk S q ≠ 3 := by intro e; apply h; unfold gm_bki; rw [if_pos e]
theorem c6_loses {p g : Int32} (hI : gm_I K S) : sm_F G mX6_loses 2 [.ref m, .int p, .int g] (sm_om G h m F X (sm_as A S) L) (.inl (some (.int ((an_loses S p g).2)))) (sm_om G h m (va_up F 0 (an_loses S p g).1) X (sm_as A S) L) := by
  unfold sm_F sm_C
  show sm_V G _ _ _ 0 0 0 [(0, .ref m), (1, .int p), (2, .int g)] [] _
  have b3 := hI.2.1 3 (by omega) (by omega); have b6 := hI.2.1 6 (by omega) (by omega); have b0 := hI.2.1 0 (by omega) (by omega); have bK := hI.2.2.1
  have b34 : S 3 ≤ 4 := by have q := hI.2.2.2.2; omega
  refine sv_aload_n dX6_loses_0 rfl ?_
  refine sv_iconst (nI 0) dX6_loses_1 (by decide) ?_
  refine rm_put0 rfl dX6_loses_2 ?_
  refine sv_aload_n dX6_loses_5 rfl ?_
  refine sv_iload_n dX6_loses_6 rfl ?_
  refine sv_callV (As := [_]) sc_X6_218 (c6_isPlayerG (by omega)) rfl rfl (Nat.le_of_ble_eq_true rfl) dX6_loses_7 ⟨by decide, by decide⟩ ⟨Nat.le_refl _, Nat.le_refl _⟩ (Nat.le_of_ble_eq_true rfl) om_0 (List.cons_ne_nil _ _) rfl ?_
  refine sv_ifN_ne 19 dX6_loses_10 (by decide) (by first | omega | (have z := b2n_lt (gm_isP S p); omega) | (have z := b2n_lt (gm_isP S (nI p9)); omega) | (have z := b2n_lt (gm_in (nI 0) g (nI 2)); omega) | (have z := b2n_lt (gm_on S); omega)) (fun c_10 => ?_) (fun c_10 => ?_)
  · have in_p := b2n_1 c_10
    obtain ⟨p9, rfl, p9_1⟩ := gm_isP_k (by omega) in_p
    refine sv_iload_n dX6_loses_19 rfl ?_
    refine sv_iconst (nI 0) dX6_loses_20 (by decide) ?_
    refine sv_iconst (nI 2) dX6_loses_21 (by decide) ?_
    refine sv_callS (As := [_, _, _]) sc_X6_53 (c6_inG) rfl rfl (Nat.le_of_ble_eq_true rfl) dX6_loses_22 ⟨by decide, by decide⟩ ⟨Nat.le_refl _, Nat.le_refl _⟩ (Nat.le_of_ble_eq_true rfl) ?_
    refine sv_ifN_ne 36 dX6_loses_25 (by decide) (by first | omega | (have z := b2n_lt (gm_isP S p); omega) | (have z := b2n_lt (gm_isP S (nI p9)); omega) | (have z := b2n_lt (gm_in (nI 0) g (nI 2)); omega) | (have z := b2n_lt (gm_on S); omega)) (fun c_25 => ?_) (fun c_25 => ?_)
    · have in_g := b2n_1 c_25
      obtain ⟨k, rfl, k_1, k_2⟩ := gm_in_k (by omega) (by omega) in_g
      refine sv_aload_n dX6_loses_36 rfl ?_
      refine sv_callV (As := []) sc_X6_106 (c6_isOn (by omega) (by omega) (by omega)) rfl rfl (Nat.le_of_ble_eq_true rfl) dX6_loses_37 ⟨by decide, by decide⟩ ⟨Nat.le_refl _, Nat.le_refl _⟩ (Nat.le_of_ble_eq_true rfl) om_0 (List.cons_ne_nil _ _) rfl ?_
      refine sv_ifN_eq 52 dX6_loses_40 (by decide) (by first | omega | (have z := b2n_lt (gm_isP S p); omega) | (have z := b2n_lt (gm_isP S (nI p9)); omega) | (have z := b2n_lt (gm_in (nI 0) g (nI 2)); omega) | (have z := b2n_lt (gm_on S); omega)) (fun c_40 => ?_) (fun c_40 => ?_)
      · refine sv_iconst (nI 0) dX6_loses_52 (by decide) ?_
        refine sv_iret dX6_loses_53 rfl rfl (Nat.le_refl _) (Nat.le_refl _) ?_
        exact api_l (an_l_3 in_p in_g (b2n_f c_40)) (by first | rfl | exact up_up _ _ _ _)
      · refine sv_aload_n dX6_loses_43 rfl ?_
        refine sv_iload_n dX6_loses_44 rfl ?_
        refine sv_iload_n dX6_loses_45 rfl ?_
        refine sv_callV (As := [_, _]) sc_X6_82 (c6_loss (by omega) (by omega) hI.2.1 hI.2.2.1) rfl rfl (Nat.le_of_ble_eq_true rfl) dX6_loses_46 ⟨by decide, by decide⟩ ⟨Nat.le_refl _, Nat.le_refl _⟩ (Nat.le_of_ble_eq_true rfl) om_0 (List.cons_ne_nil _ _) rfl ?_
        refine sv_goto 53 dX6_loses_49 (by decide) ?_
        refine sv_iret dX6_loses_53 rfl rfl (Nat.le_refl _) (Nat.le_refl _) ?_
        exact api_l (an_l_4 (by omega) (by omega) in_p in_g (b2n_1 c_40)) (by first | rfl | exact up_up _ _ _ _)
    · refine sv_aload_n dX6_loses_28 rfl ?_
      refine sv_iconst (nI 2) dX6_loses_29 (by decide) ?_
      refine sv_callV (As := [_]) sc_X6_167 (c6_fails) rfl rfl (Nat.le_of_ble_eq_true rfl) dX6_loses_30 ⟨by decide, by decide⟩ ⟨Nat.le_refl _, Nat.le_refl _⟩ (Nat.le_of_ble_eq_true rfl) om_0 (List.cons_ne_nil _ _) rfl ?_
      refine sv_goto 53 dX6_loses_33 (by decide) ?_
      refine sv_iret dX6_loses_53 rfl rfl (Nat.le_refl _) (Nat.le_refl _) ?_
      exact api_l (an_l_2 in_p (b2n_f c_25)) (by first | rfl | exact up_up _ _ _ _)
  · refine sv_aload_n dX6_loses_13 rfl ?_
    refine sv_iconst (nI 1) dX6_loses_14 (by decide) ?_
    refine sv_callV (As := [_]) sc_X6_167 (c6_fails) rfl rfl (Nat.le_of_ble_eq_true rfl) dX6_loses_15 ⟨by decide, by decide⟩ ⟨Nat.le_refl _, Nat.le_refl _⟩ (Nat.le_of_ble_eq_true rfl) om_0 (List.cons_ne_nil _ _) rfl ?_
    refine sv_iret dX6_loses_18 rfl rfl (Nat.le_refl _) (Nat.le_refl _) ?_
    exact api_l (an_l_1 (b2n_f c_10)) (by first | rfl | exact up_up _ _ _ _)
theorem c6_bumps {q : Int32} (hI : gm_I K S) : sm_F G mX6_bumps 2 [.ref m, .int q] (sm_om G h m F X (sm_as A S) L) (.inl (some (.int ((an_bumps S q).2)))) (sm_om G h m (va_up F 0 (an_bumps S q).1) X (sm_as A S) L) := by
  unfold sm_F sm_C
  show sm_V G _ _ _ 0 0 0 [(0, .ref m), (1, .int q)] [] _
  have b3 := hI.2.1 3 (by omega) (by omega); have b6 := hI.2.1 6 (by omega) (by omega); have b0 := hI.2.1 0 (by omega) (by omega); have bK := hI.2.2.1
  refine sv_aload_n dX6_bumps_0 rfl ?_
  refine sv_iconst (nI 0) dX6_bumps_1 (by decide) ?_
  refine rm_put0 rfl dX6_bumps_2 ?_
  refine sv_iload_n dX6_bumps_5 rfl ?_
  refine sv_callS (As := [_]) sc_X6_221 (c6_isPlace) rfl rfl (Nat.le_of_ble_eq_true rfl) dX6_bumps_6 ⟨by decide, by decide⟩ ⟨Nat.le_refl _, Nat.le_refl _⟩ (Nat.le_of_ble_eq_true rfl) ?_
  refine sv_ifN_ne 18 dX6_bumps_9 (by decide) (by first | omega | (have z := b2n_lt (gm_in (nI 0) q (nI 5)); omega) | (have z := b2n_lt (gm_on S); omega) | (have z := b2n_lt (gm_full S q9); omega)) (fun c_9 => ?_) (fun c_9 => ?_)
  · have in_q := b2n_1 c_9
    obtain ⟨q9, rfl, q9_1, q9_2⟩ := gm_in_k (by omega) (by omega) in_q
    refine sv_aload_n dX6_bumps_18 rfl ?_
    refine sv_callV (As := []) sc_X6_106 (c6_isOn (by omega) (by omega) (by omega)) rfl rfl (Nat.le_of_ble_eq_true rfl) dX6_bumps_19 ⟨by decide, by decide⟩ ⟨Nat.le_refl _, Nat.le_refl _⟩ (Nat.le_of_ble_eq_true rfl) om_0 (List.cons_ne_nil _ _) rfl ?_
    refine sv_ifN_eq 42 dX6_bumps_22 (by decide) (by first | omega | (have z := b2n_lt (gm_in (nI 0) q (nI 5)); omega) | (have z := b2n_lt (gm_on S); omega) | (have z := b2n_lt (gm_full S q9); omega)) (fun c_22 => ?_) (fun c_22 => ?_)
    · refine sv_iconst (-1) dX6_bumps_42 (by decide) ?_
      refine sv_iret dX6_bumps_43 rfl rfl (Nat.le_refl _) (Nat.le_refl _) ?_
      exact api_l (an_b_2 (by omega) in_q (by rintro ⟨x1, x2, x3⟩; rw [b2n_f c_22] at x1; cases x1)) (by first | rfl | exact up_up _ _ _ _)
    · have hon := b2n_1 c_22
      obtain ⟨⟨j0, j01, j1, j2, j21⟩, jK, jK2, jw, j3, j31, j4, j5, j51, j6, jp, j10, ⟨jh, jps⟩, jpl, jow⟩ := gm_IJ hI (gm_on_i hon).1
      have bw := jw q9 (by omega)
      refine sv_aload_n dX6_bumps_25 rfl ?_
      refine sv_iload_n dX6_bumps_26 rfl ?_
      refine sv_callV (As := [_]) sc_X6_110 (c6_isFull (by omega) (by omega) (by omega)) rfl rfl (Nat.le_of_ble_eq_true rfl) dX6_bumps_27 ⟨by decide, by decide⟩ ⟨Nat.le_refl _, Nat.le_refl _⟩ (Nat.le_of_ble_eq_true rfl) om_0 (List.cons_ne_nil _ _) rfl ?_
      refine sv_ifN_eq 42 dX6_bumps_30 (by decide) (by first | omega | (have z := b2n_lt (gm_in (nI 0) q (nI 5)); omega) | (have z := b2n_lt (gm_on S); omega) | (have z := b2n_lt (gm_full S q9); omega)) (fun c_30 => ?_) (fun c_30 => ?_)
      · refine sv_iconst (-1) dX6_bumps_42 (by decide) ?_
        refine sv_iret dX6_bumps_43 rfl rfl (Nat.le_refl _) (Nat.le_refl _) ?_
        exact api_l (an_b_2 (by omega) in_q (by rintro ⟨x1, x2, x3⟩; rw [b2n_f c_30] at x2; cases x2)) (by first | rfl | exact up_up _ _ _ _)
      · refine sv_aload_n dX6_bumps_33 rfl ?_
        refine sv_iload_n dX6_bumps_34 rfl ?_
        refine sv_callV (As := [_]) sc_X6_114 (c6_bumpedAt (by omega) bw (by omega) (fun k hk => by have := jow q9 k (by omega) hk; omega)) rfl rfl (Nat.le_of_ble_eq_true rfl) dX6_bumps_35 ⟨by decide, by decide⟩ ⟨Nat.le_refl _, Nat.le_refl _⟩ (Nat.le_of_ble_eq_true rfl) om_0 (List.cons_ne_nil _ _) rfl ?_
        refine sv_iconst (-1) dX6_bumps_38 (by decide) ?_
        refine sv_icmp_ne 44 dX6_bumps_39 (by decide) (fun c_39 => ?_) (fun c_39 => ?_)
        · have hb := gm_bki_4 c_39
          obtain ⟨hk, hne⟩ := gm_bk_lt hb
          have ho := jow q9 _ (by omega) hk
          refine sv_aload_n dX6_bumps_44 rfl ?_
          refine sv_iload_n dX6_bumps_45 rfl ?_
          refine sv_aload_n dX6_bumps_46 rfl ?_
          refine sv_iload_n dX6_bumps_47 rfl ?_
          refine sv_callV (As := [_]) sc_X6_114 (c6_bumpedAt (by omega) bw (by omega) (fun k hk => by have := jow q9 k (by omega) hk; omega)) rfl rfl (Nat.le_of_ble_eq_true rfl) dX6_bumps_48 ⟨by decide, by decide⟩ ⟨Nat.le_refl _, Nat.le_refl _⟩ (Nat.le_of_ble_eq_true rfl) om_0 (List.cons_ne_nil _ _) rfl ?_
          refine sv_top (nI (gm_bk S q9)) (gm_bki_n hb) ?_
          refine sv_callV (As := [_, _]) sc_X6_103 (c6_ownerAt (by omega)) rfl rfl (Nat.le_of_ble_eq_true rfl) dX6_bumps_51 ⟨by decide, by decide⟩ ⟨Nat.le_refl _, Nat.le_refl _⟩ (Nat.le_of_ble_eq_true rfl) om_0 (List.cons_ne_nil _ _) rfl ?_
          refine sv_iret dX6_bumps_54 rfl rfl (Nat.le_refl _) (Nat.le_refl _) ?_
          exact api_l (an_b_3 (by omega) in_q hon (b2n_1 c_30) hb) (by first | rfl | exact up_up _ _ _ _)
        · refine sv_iconst (-1) dX6_bumps_42 (by decide) ?_
          refine sv_iret dX6_bumps_43 rfl rfl (Nat.le_refl _) (Nat.le_refl _) ?_
          exact api_l (an_b_2 (by omega) in_q (by rintro ⟨x1, x2, x3⟩; exact x3 (gm_bki_3 c_39))) (by first | rfl | exact up_up _ _ _ _)
  · refine sv_aload_n dX6_bumps_12 rfl ?_
    refine sv_iconst (nI 1) dX6_bumps_13 (by decide) ?_
    refine sv_callV (As := [_]) sc_X6_167 (c6_fails) rfl rfl (Nat.le_of_ble_eq_true rfl) dX6_bumps_14 ⟨by decide, by decide⟩ ⟨Nat.le_refl _, Nat.le_refl _⟩ (Nat.le_of_ble_eq_true rfl) om_0 (List.cons_ne_nil _ _) rfl ?_
    refine sv_iret dX6_bumps_17 rfl rfl (Nat.le_refl _) (Nat.le_refl _) ?_
    exact api_l (an_b_1 (b2n_f c_9)) (by first | rfl | exact up_up _ _ _ _)
theorem gm_try_t {q : Nat} {c : Nat} (hq : q < 2 ^ 31) (hc : c < 2 ^ 31) (h : gm_in (nI 0) (nI q) (nI 5) = true) (h2 : gm_chR q (nI c) = true) : gm_try S (nI q) (nI c) = gm_can S q c := by unfold gm_try; rw [h, i2_nI hq, i2_nI hc, h2]; rfl
theorem gm_try_1 {q c : Int32} (h : gm_in (nI 0) q (nI 5) = false) : gm_try S q c = false := by unfold gm_try; rw [h]; rfl
theorem gm_try_2 {q : Nat} {c : Int32} (hq : q < 2 ^ 31) (h2 : gm_chR q c = false) : gm_try S (nI q) c = false := by unfold gm_try; rw [i2_nI hq, h2, Bool.and_false]; rfl
theorem an_r_1 {q c : Int32} (h : gm_in (nI 0) q (nI 5) = false) : an_brings S q c = (nI 1, nI 0) := by unfold an_brings; rw [if_neg (ne_t h)]
theorem an_r_2 {q : Nat} {c : Int32} (hq : q < 2 ^ 31) (h : gm_in (nI 0) (nI q) (nI 5) = true) (h2 : gm_chR q c = false) : an_brings S (nI q) c = (nI 2, nI 0) := by unfold an_brings; rw [if_pos h, i2_nI hq, if_neg (ne_t h2)]
theorem an_r_3 {q c : Nat} (hq : q < 2 ^ 31) (hc : c < 2 ^ 31) (h : gm_in (nI 0) (nI q) (nI 5) = true) (h2 : gm_chR q (nI c) = true) : an_brings S (nI q) (nI c) = (nI 0, gm_bv S q c) := by unfold an_brings; rw [if_pos h, i2_nI hq, if_pos h2, i2_nI hc]
theorem api_k {ans : Int32 × Int32} {c v : Int32} {F' : Nat → Int32} {b b' : Bool} (e : ans = (c, v)) (eF : F' = va_up F 0 c) (eb : b' = b) : (Sum.inl (some (Value.int v)) : sm_O) = .inl (some (.int ans.2)) ∧ sm_om G h m F' (gm_kX b' X) (sm_as (gm_kA b' A S) S) L = sm_om G h m (va_up F 0 ans.1) (gm_kX b X) (sm_as (gm_kA b A S) S) L := by
  subst e; subst eF; subst eb; exact ⟨rfl, rfl⟩
theorem c6_brings {q c : Int32} (hI : gm_I K S) : sm_F G mX6_brings 5 [.ref m, .int q, .int c] (sm_om G h m F X (sm_as A S) L) (.inl (some (.int ((an_brings S q c).2)))) (sm_om G h m (va_up F 0 (an_brings S q c).1) (gm_kX (gm_try S q c) X) (sm_as (gm_kA (gm_try S q c) A S) S) L) := by
  unfold sm_F sm_C
  show sm_V G _ _ _ 0 0 0 [(0, .ref m), (1, .int q), (2, .int c)] [] _
  refine sv_aload_n dX6_brings_0 rfl ?_
  refine sv_iconst (nI 0) dX6_brings_1 (by decide) ?_
  refine rm_put0 rfl dX6_brings_2 ?_
  refine sv_iload_n dX6_brings_5 rfl ?_
  refine sv_callS (As := [_]) sc_X6_221 (c6_isPlace) rfl rfl (Nat.le_of_ble_eq_true rfl) dX6_brings_6 ⟨by decide, by decide⟩ ⟨Nat.le_refl _, Nat.le_refl _⟩ (Nat.le_of_ble_eq_true rfl) ?_
  refine sv_ifN_ne 18 dX6_brings_9 (by decide) (by first | omega | (have z := b2n_lt (gm_in (nI 0) q (nI 5)); omega) | (have z := b2n_lt (gm_chR q9 c); omega)) (fun c_9 => ?_) (fun c_9 => ?_)
  · have in_q := b2n_1 c_9
    obtain ⟨q9, rfl, q9_1, q9_2⟩ := gm_in_k (by omega) (by omega) in_q
    refine sv_iload_n dX6_brings_18 rfl ?_
    refine sv_iload_n dX6_brings_19 rfl ?_
    refine sv_callS (As := [_, _]) sc_X6_152 (c6_isChoice (by omega)) rfl rfl (Nat.le_of_ble_eq_true rfl) dX6_brings_20 ⟨by decide, by decide⟩ ⟨Nat.le_refl _, Nat.le_refl _⟩ (Nat.le_of_ble_eq_true rfl) ?_
    refine sv_ifN_eq 35 dX6_brings_23 (by decide) (by first | omega | (have z := b2n_lt (gm_in (nI 0) q (nI 5)); omega) | (have z := b2n_lt (gm_chR q9 c); omega)) (fun c_23 => ?_) (fun c_23 => ?_)
    · refine sv_aload_n dX6_brings_35 rfl ?_
      refine sv_iconst (nI 2) dX6_brings_36 (by decide) ?_
      refine sv_callV (As := [_]) sc_X6_167 (c6_fails) rfl rfl (Nat.le_of_ble_eq_true rfl) dX6_brings_37 ⟨by decide, by decide⟩ ⟨Nat.le_refl _, Nat.le_refl _⟩ (Nat.le_of_ble_eq_true rfl) om_0 (List.cons_ne_nil _ _) rfl ?_
      refine sv_iret dX6_brings_40 rfl rfl (Nat.le_refl _) (Nat.le_refl _) ?_
      exact api_k (b' := false) (an_r_2 (by omega) in_q (b2n_f c_23)) (by first | rfl | exact up_up _ _ _ _) (gm_try_2 (by omega) (b2n_f c_23)).symm
    · have in_c := b2n_1 c_23
      obtain ⟨k, rfl, k_1⟩ := gm_ch_k in_c
      have hch := in_c
      rw [gm_chR_n (by omega)] at hch
      refine sv_aload_n dX6_brings_26 rfl ?_
      refine sv_iload_n dX6_brings_27 rfl ?_
      refine sv_iload_n dX6_brings_28 rfl ?_
      refine sv_callV (As := [_, _]) sc_X6_155 (c6_bringing hI (by omega) (by omega) (gm_chg (by omega) hch)) rfl rfl (Nat.le_of_ble_eq_true rfl) dX6_brings_29 ⟨by decide, by decide⟩ ⟨Nat.le_refl _, Nat.le_refl _⟩ (Nat.le_of_ble_eq_true rfl) om_0 (List.cons_ne_nil _ _) rfl ?_
      refine sv_goto 40 dX6_brings_32 (by decide) ?_
      refine sv_iret dX6_brings_40 rfl rfl (Nat.le_refl _) (Nat.le_refl _) ?_
      exact api_k (an_r_3 (by omega) (by omega) in_q in_c) (by first | rfl | exact up_up _ _ _ _) (gm_try_t (by omega) (by omega) in_q in_c).symm
  · refine sv_aload_n dX6_brings_12 rfl ?_
    refine sv_iconst (nI 1) dX6_brings_13 (by decide) ?_
    refine sv_callV (As := [_]) sc_X6_167 (c6_fails) rfl rfl (Nat.le_of_ble_eq_true rfl) dX6_brings_14 ⟨by decide, by decide⟩ ⟨Nat.le_refl _, Nat.le_refl _⟩ (Nat.le_of_ble_eq_true rfl) om_0 (List.cons_ne_nil _ _) rfl ?_
    refine sv_iret dX6_brings_17 rfl rfl (Nat.le_refl _) (Nat.le_refl _) ?_
    exact api_k (b' := false) (an_r_1 (b2n_f c_9)) (by first | rfl | exact up_up _ _ _ _) (gm_try_1 (b2n_f c_9)).symm
theorem gm_bsw_0 (a : Nat × Nat × Nat) {k : Nat} (h : k = 0) : gm_bsw a k = gm_e a a.1 := by unfold gm_bsw; rw [if_pos h]
theorem gm_bsw_1 (a : Nat × Nat × Nat) {k : Nat} (h0 : k ≠ 0) (h : k = 1) : gm_bsw a k = gm_e a a.2.1 := by unfold gm_bsw; rw [if_neg h0, if_pos h]
theorem gm_bsw_2 (a : Nat × Nat × Nat) {k : Nat} (h0 : k ≠ 0) (h : k ≠ 1) : gm_bsw a k = gm_e a a.2.2 := by unfold gm_bsw; rw [if_neg h0, if_neg h]
/-- the reference behind an asking for the best -/
def gm_hb (G : sm_G) (h : sm_H) (m : Nat) (F : Nat → Int32) (X : Nat → Int64) (A : Nat → Nat → Int32) (S : gm_S) (L : Nat → Nat → Int64) (w : Int32) : sm_H :=
  if gm_in (nI 0) w (nI 2) = true then sm_om G h m (gm_FB (va_up F 0 (nI 0)) (gm_bst S)) (gm_kX (gm_any S) X) (sm_as (gm_kA (gm_any S) A S) S) L else sm_om G h m (va_up F 0 (nI 1)) X (sm_as A S) L
theorem gm_hb_1 {w v : Int32} {F' : Nat → Int32} (hw : gm_in (nI 0) w (nI 2) = false) (eF : F' = va_up F 0 (nI 1)) : (Sum.inl (some (Value.int (nI 0))) : sm_O) = .inl (some (.int (an_best S w).2)) ∧ sm_om G h m F' X (sm_as A S) L = gm_hb G h m F X A S L w := by
  unfold an_best gm_hb; rw [if_neg (ne_t hw), if_neg (ne_t hw), eF]; exact ⟨rfl, rfl⟩
theorem gm_hb_2 {k : Nat} {v : Int32} (hk : k < 2 ^ 31) (hw : gm_in (nI 0) (nI k) (nI 2) = true) (e : v = gm_bsw (gm_bst S) k) : (Sum.inl (some (Value.int v)) : sm_O) = .inl (some (.int (an_best S (nI k)).2)) ∧ gm_h G h m (va_up F 0 (nI 0)) X A S L (gm_out S 6) = gm_hb G h m F X A S L (nI k) := by
  unfold an_best gm_hb gm_h; rw [if_pos hw, if_pos hw, i2_nI hk, e, gm_out_2]; exact ⟨rfl, rfl⟩
theorem c6_best {w : Int32} (hI : gm_I K S) : sm_F G mX6_best 6 [.ref m, .int w] (sm_om G h m F X (sm_as A S) L) (.inl (some (.int ((an_best S w).2)))) (gm_hb G h m F X A S L w) := by
  unfold sm_F sm_C
  show sm_V G _ _ _ 0 0 0 [(0, .ref m), (1, .int w)] [] _
  refine sv_aload_n dX6_best_0 rfl ?_
  refine sv_iconst (nI 0) dX6_best_1 (by decide) ?_
  refine rm_put0 rfl dX6_best_2 ?_
  refine sv_iload_n dX6_best_5 rfl ?_
  refine sv_iconst (nI 0) dX6_best_6 (by decide) ?_
  refine sv_iconst (nI 2) dX6_best_7 (by decide) ?_
  refine sv_callS (As := [_, _, _]) sc_X6_53 (c6_inG) rfl rfl (Nat.le_of_ble_eq_true rfl) dX6_best_8 ⟨by decide, by decide⟩ ⟨Nat.le_refl _, Nat.le_refl _⟩ (Nat.le_of_ble_eq_true rfl) ?_
  refine sv_ifN_ne 20 dX6_best_11 (by decide) (by first | omega | (have z := b2n_lt (gm_in (nI 0) w (nI 2)); omega)) (fun c_11 => ?_) (fun c_11 => ?_)
  · have in_w := b2n_1 c_11
    obtain ⟨k, rfl, k_1, k_2⟩ := gm_in_k (by omega) (by omega) in_w
    refine sv_aload_n dX6_best_20 rfl ?_
    refine sv_callV (As := []) sc_X6_161 (c6_findsBest hI) rfl rfl (Nat.le_of_ble_eq_true rfl) dX6_best_21 ⟨by decide, by decide⟩ ⟨Nat.le_refl _, Nat.le_refl _⟩ (Nat.le_of_ble_eq_true rfl) om_0 (List.cons_ne_nil _ _) rfl ?_
    refine sv_iload_n dX6_best_24 rfl ?_
    refine sv_ifN_ne 35 dX6_best_25 (by decide) (by first | omega | (have z := b2n_lt (gm_in (nI 0) w (nI 2)); omega)) (fun c_25 => ?_) (fun c_25 => ?_)
    · refine sv_iload_n dX6_best_35 rfl ?_
      refine sv_iconst (nI 1) dX6_best_36 (by decide) ?_
      refine sv_icmpN_ne 47 dX6_best_37 (by decide) (by first | omega | (have z := b2n_lt (gm_in (nI 0) w (nI 2)); omega)) (by first | omega | (have z := b2n_lt (gm_in (nI 0) w (nI 2)); omega)) (fun c_37 => ?_) (fun c_37 => ?_)
      · refine sv_aload_n dX6_best_47 rfl ?_
        refine rm_get17 rfl dX6_best_48 ?_
        refine sv_iret dX6_best_51 rfl rfl (Nat.le_refl _) (Nat.le_refl _) ?_
        exact gm_hb_2 (by omega) in_w ((gm_FB_17 _ _).trans ((gm_out_2 S ▸ (gm_bsw_2 _ c_25 c_37).symm)))
      · refine sv_aload_n dX6_best_40 rfl ?_
        refine rm_get16 rfl dX6_best_41 ?_
        refine sv_goto 51 dX6_best_44 (by decide) ?_
        refine sv_iret dX6_best_51 rfl rfl (Nat.le_refl _) (Nat.le_refl _) ?_
        exact gm_hb_2 (by omega) in_w ((gm_FB_16 _ _).trans ((gm_out_2 S ▸ (gm_bsw_1 _ c_25 c_37).symm)))
    · refine sv_aload_n dX6_best_28 rfl ?_
      refine rm_get15 rfl dX6_best_29 ?_
      refine sv_goto 51 dX6_best_32 (by decide) ?_
      refine sv_iret dX6_best_51 rfl rfl (Nat.le_refl _) (Nat.le_refl _) ?_
      exact gm_hb_2 (by omega) in_w ((gm_FB_15 _ _).trans ((gm_out_2 S ▸ (gm_bsw_0 _ c_25).symm)))
  · refine sv_aload_n dX6_best_14 rfl ?_
    refine sv_iconst (nI 1) dX6_best_15 (by decide) ?_
    refine sv_callV (As := [_]) sc_X6_167 (c6_fails) rfl rfl (Nat.le_of_ble_eq_true rfl) dX6_best_16 ⟨by decide, by decide⟩ ⟨Nat.le_refl _, Nat.le_refl _⟩ (Nat.le_of_ble_eq_true rfl) om_0 (List.cons_ne_nil _ _) rfl ?_
    refine sv_iret dX6_best_19 rfl rfl (Nat.le_refl _) (Nat.le_refl _) ?_
    exact gm_hb_1 (v := 0) (b2n_f c_11) (by first | rfl | exact up_up _ _ _ _)
end SR11
