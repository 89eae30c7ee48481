section SR2
variable {G : sm_G} {h : sm_H} {m : Nat} {F : Nat → Int32} {X : Nat → Int64} {A : Nat → Nat → Int32} {L : Nat → Nat → Int64} {S : Nat → Nat} {K : Nat}
theorem gm_lf_le (S : gm_S) (p : Nat) : gm_lf S p ≤ gm_ov S p ∧ gm_lf S p ≤ S (13 + 8 * p + 2) := by unfold gm_lf; omega
theorem gm_lr_le (S : gm_S) (p : Nat) : gm_lr S p ≤ gm_ov S p - gm_lf S p ∧ gm_lr S p ≤ S (13 + 8 * p + 1) := by unfold gm_lr; omega
theorem gm_ls_le (S : gm_S) (p : Nat) : gm_ls S p ≤ S (13 + 8 * p + 1) := by have := gm_lr_le S p; unfold gm_ls; split <;> omega
theorem gm_lc_le (S : gm_S) (p : Nat) : gm_lc S p ≤ S (13 + 8 * p + 3) := by unfold gm_lc gm_lr gm_lf gm_ov; omega
theorem c6_loss {p g : Nat} (hp : p < 4) (hg : g < 3) (hK : ∀ i, i ≠ 11 → i ≠ 12 → S i ≤ K) (hK2 : K < 2 ^ 26) : sm_F G mX6_loss 1 [.ref m, .int (nI p), .int (nI g)] (sm_om G h m F X (sm_as A S) L) (.inl (some (.int (nI (gm_loss S p g))))) (sm_om G h m F X (sm_as A S) L) := by
  unfold sm_F sm_C
  show sm_V G _ _ _ 0 0 0 [(0, .ref m), (1, .int (nI p)), (2, .int (nI g))] [] _
  have b1 := hK (13 + 8 * p + 1) (by omega) (by omega); have b2 := hK (13 + 8 * p + 2) (by omega) (by omega); have b3 := hK (13 + 8 * p + 3) (by omega) (by omega); have b4 := hK (13 + 8 * p + 4) (by omega) (by omega); have b5 := hK 5 (by omega) (by omega); have l0 : gm_ov S p ≤ 3 * K := (by unfold gm_ov; omega); have l1 := gm_lf_le S p; have l2 := gm_lr_le S p
  refine sv_cut (c9 := 0) (s9 := 0) (p9 := 122) (l9 := [(7, .int (nI (if S 5 = 1 then (S (13 + 8 * p + 1) - gm_lr S p + 1) / 2 else 0))), (6, .int (nI (gm_lc S p))), (5, .int (nI (gm_lr S p))), (4, .int (nI (gm_lf S p))), (2, .int (nI g))]) (t9 := []) (h9 := (sm_om G h m F X (sm_as A S) L)) ?_ (fun k_122 => ?_)
  · refine sv_iload_n dX6_loss_122 rfl ?_
    refine sv_ifN_ne 134 dX6_loss_123 (by decide) (by omega) (fun c_123 => ?_) (fun c_123 => ?_)
    · refine sv_iload_n dX6_loss_134 rfl ?_
      refine sv_iconst (nI 1) dX6_loss_135 (by decide) ?_
      refine sv_icmpN_ne 144 dX6_loss_136 (by decide) (by omega) (by omega) (fun c_136 => ?_) (fun c_136 => ?_)
      · refine sv_iload dX6_loss_144 rfl ?_
        refine sv_iret dX6_loss_146 rfl rfl (Nat.le_refl _) (Nat.le_refl _) ?_
        exact ⟨ri (by unfold gm_loss gm_ls; (repeat' split) <;> first | omega | rfl), rfl⟩
      · refine sv_iload dX6_loss_139 rfl ?_
        refine sv_goto 146 dX6_loss_141 (by decide) ?_
        refine sv_iret dX6_loss_146 rfl rfl (Nat.le_refl _) (Nat.le_refl _) ?_
        exact ⟨ri (by unfold gm_loss gm_ls; (repeat' split) <;> first | omega | rfl), rfl⟩
    · refine sv_iload dX6_loss_126 rfl ?_
      refine sv_iload dX6_loss_128 rfl ?_
      refine sv_iaddN dX6_loss_130 ?_
      refine sv_goto 146 dX6_loss_131 (by decide) ?_
      refine sv_iret dX6_loss_146 rfl rfl (Nat.le_refl _) (Nat.le_refl _) ?_
      exact ⟨ri (by unfold gm_loss gm_ls; (repeat' split) <;> first | omega | rfl), rfl⟩
  refine sv_cut (c9 := 0) (s9 := 0) (p9 := 87) (l9 := [(5, .int (nI (gm_lr S p))), (3, .int (nI (gm_ov S p - gm_lf S p))), (4, .int (nI (gm_lf S p))), (0, .ref m), (1, .int (nI p)), (2, .int (nI g))]) (t9 := []) (h9 := (sm_om G h m F X (sm_as A S) L)) ?_ (fun k_87 => ?_)
  · refine sv_iload_n dX6_loss_87 rfl ?_
    refine sv_iload dX6_loss_88 rfl ?_
    refine sv_isubN dX6_loss_90 (by omega) ?_
    refine sv_istore (lv' := [(6, _), (5, _), (3, _), (4, _), (0, _), (1, _), (2, _)]) dX6_loss_91 (by decide) rfl ?_
    refine sv_aload_n dX6_loss_93 rfl ?_
    refine rm_get1 rfl dX6_loss_94 ?_
    refine sv_iconst (nI 5) dX6_loss_97 (by decide) ?_
    refine rm_ld1N dX6_loss_98 (by omega) ?_
    refine sv_iconst (nI 1) dX6_loss_99 (by decide) ?_
    refine sv_icmpN_ne 119 dX6_loss_100 (by decide) (by omega) (by omega) (fun c_100 => ?_) (fun c_100 => ?_)
    · refine sv_iconst (nI 0) dX6_loss_119 (by decide) ?_
      refine sv_top (nI (if S 5 = 1 then (S (13 + 8 * p + 1) - gm_lr S p + 1) / 2 else 0)) (by first | rw [if_pos (by omega)] | rw [if_neg (by omega)]) ?_
      refine sv_istore (lv' := [(7, _), (6, _), (5, _), (3, _), (4, _), (0, _), (1, _), (2, _)]) dX6_loss_120 (by decide) rfl ?_
      exact sv_sub [0, 1, 2, 4, 7] rfl k_122
    · refine sv_aload_n dX6_loss_103 rfl ?_
      refine sv_iload_n dX6_loss_104 rfl ?_
      refine sv_iconst (nI 1) dX6_loss_105 (by decide) ?_
      refine sv_callV (As := [_, _]) sc_X6_78 (c6_of (by omega)) rfl rfl (Nat.le_of_ble_eq_true rfl) dX6_loss_106 ⟨by decide, by decide⟩ ⟨Nat.le_refl _, Nat.le_refl _⟩ (Nat.le_of_ble_eq_true rfl) om_0 (List.cons_ne_nil _ _) rfl ?_
      refine sv_iload dX6_loss_109 rfl ?_
      refine sv_isubN dX6_loss_111 (by omega) ?_
      refine sv_iconst (nI 1) dX6_loss_112 (by decide) ?_
      refine sv_iaddN dX6_loss_113 ?_
      refine sv_iconst (nI 2) dX6_loss_114 (by decide) ?_
      refine sv_idivN dX6_loss_115 (by omega) (by omega) (by omega) ?_
      refine sv_goto 120 dX6_loss_116 (by decide) ?_
      refine sv_top (nI (if S 5 = 1 then (S (13 + 8 * p + 1) - gm_lr S p + 1) / 2 else 0)) (by first | rw [if_pos (by omega)] | rw [if_neg (by omega)]) ?_
      refine sv_istore (lv' := [(7, _), (6, _), (5, _), (3, _), (4, _), (0, _), (1, _), (2, _)]) dX6_loss_120 (by decide) rfl ?_
      exact sv_sub [0, 1, 2, 4, 7] rfl k_122
  refine sv_cut (c9 := 0) (s9 := 0) (p9 := 60) (l9 := [(4, .int (nI (gm_lf S p))), (3, .int (nI (gm_ov S p))), (0, .ref m), (1, .int (nI p)), (2, .int (nI g))]) (t9 := []) (h9 := (sm_om G h m F X (sm_as A S) L)) ?_ (fun k_60 => ?_)
  · refine sv_iload_n dX6_loss_60 rfl ?_
    refine sv_iload dX6_loss_61 rfl ?_
    refine sv_isubN dX6_loss_63 (by omega) ?_
    refine sv_istore_n (lv' := [(3, _), (4, _), (0, _), (1, _), (2, _)]) dX6_loss_64 (by decide) rfl ?_
    refine sv_iload_n dX6_loss_65 rfl ?_
    refine sv_aload_n dX6_loss_66 rfl ?_
    refine sv_iload_n dX6_loss_67 rfl ?_
    refine sv_iconst (nI 1) dX6_loss_68 (by decide) ?_
    refine sv_callV (As := [_, _]) sc_X6_78 (c6_of (by omega)) rfl rfl (Nat.le_of_ble_eq_true rfl) dX6_loss_69 ⟨by decide, by decide⟩ ⟨Nat.le_refl _, Nat.le_refl _⟩ (Nat.le_of_ble_eq_true rfl) om_0 (List.cons_ne_nil _ _) rfl ?_
    refine sv_icmpN_ge 79 dX6_loss_72 (by decide) (by omega) (by omega) (fun c_72 => ?_) (fun c_72 => ?_)
    · refine sv_aload_n dX6_loss_79 rfl ?_
      refine sv_iload_n dX6_loss_80 rfl ?_
      refine sv_iconst (nI 1) dX6_loss_81 (by decide) ?_
      refine sv_callV (As := [_, _]) sc_X6_78 (c6_of (by omega)) rfl rfl (Nat.le_of_ble_eq_true rfl) dX6_loss_82 ⟨by decide, by decide⟩ ⟨Nat.le_refl _, Nat.le_refl _⟩ (Nat.le_of_ble_eq_true rfl) om_0 (List.cons_ne_nil _ _) rfl ?_
      refine sv_top (nI (gm_lr S p)) (congrArg nI (by unfold gm_lr; omega)) ?_
      refine sv_istore (lv' := [(5, _), (3, _), (4, _), (0, _), (1, _), (2, _)]) dX6_loss_85 (by decide) rfl ?_
      exact sv_sub [0, 1, 2, 3, 4, 5] rfl k_87
    · refine sv_iload_n dX6_loss_75 rfl ?_
      refine sv_goto 85 dX6_loss_76 (by decide) ?_
      refine sv_top (nI (gm_lr S p)) (congrArg nI (by unfold gm_lr; omega)) ?_
      refine sv_istore (lv' := [(5, _), (3, _), (4, _), (0, _), (1, _), (2, _)]) dX6_loss_85 (by decide) rfl ?_
      exact sv_sub [0, 1, 2, 3, 4, 5] rfl k_87
  refine sv_cut (c9 := 0) (s9 := 0) (p9 := 38) (l9 := [(3, .int (nI (gm_ov S p))), (0, .ref m), (1, .int (nI p)), (2, .int (nI g))]) (t9 := []) (h9 := (sm_om G h m F X (sm_as A S) L)) ?_ (fun k_38 => ?_)
  · refine sv_iload_n dX6_loss_38 rfl ?_
    refine sv_aload_n dX6_loss_39 rfl ?_
    refine sv_iload_n dX6_loss_40 rfl ?_
    refine sv_iconst (nI 2) dX6_loss_41 (by decide) ?_
    refine sv_callV (As := [_, _]) sc_X6_78 (c6_of (by omega)) rfl rfl (Nat.le_of_ble_eq_true rfl) dX6_loss_42 ⟨by decide, by decide⟩ ⟨Nat.le_refl _, Nat.le_refl _⟩ (Nat.le_of_ble_eq_true rfl) om_0 (List.cons_ne_nil _ _) rfl ?_
    refine sv_icmpN_ge 52 dX6_loss_45 (by decide) (by omega) (by omega) (fun c_45 => ?_) (fun c_45 => ?_)
    · refine sv_aload_n dX6_loss_52 rfl ?_
      refine sv_iload_n dX6_loss_53 rfl ?_
      refine sv_iconst (nI 2) dX6_loss_54 (by decide) ?_
      refine sv_callV (As := [_, _]) sc_X6_78 (c6_of (by omega)) rfl rfl (Nat.le_of_ble_eq_true rfl) dX6_loss_55 ⟨by decide, by decide⟩ ⟨Nat.le_refl _, Nat.le_refl _⟩ (Nat.le_of_ble_eq_true rfl) om_0 (List.cons_ne_nil _ _) rfl ?_
      refine sv_top (nI (gm_lf S p)) (congrArg nI (by unfold gm_lf; omega)) ?_
      refine sv_istore (lv' := [(4, _), (3, _), (0, _), (1, _), (2, _)]) dX6_loss_58 (by decide) rfl ?_
      exact sv_sub [0, 1, 2, 3, 4] rfl k_60
    · refine sv_iload_n dX6_loss_48 rfl ?_
      refine sv_goto 58 dX6_loss_49 (by decide) ?_
      refine sv_top (nI (gm_lf S p)) (congrArg nI (by unfold gm_lf; omega)) ?_
      refine sv_istore (lv' := [(4, _), (3, _), (0, _), (1, _), (2, _)]) dX6_loss_58 (by decide) rfl ?_
      exact sv_sub [0, 1, 2, 3, 4] rfl k_60
  refine sv_aload_n dX6_loss_0 rfl ?_
  refine sv_iload_n dX6_loss_1 rfl ?_
  refine sv_iconst (nI 1) dX6_loss_2 (by decide) ?_
  refine sv_callV (As := [_, _]) sc_X6_78 (c6_of (by omega)) rfl rfl (Nat.le_of_ble_eq_true rfl) dX6_loss_3 ⟨by decide, by decide⟩ ⟨Nat.le_refl _, Nat.le_refl _⟩ (Nat.le_of_ble_eq_true rfl) om_0 (List.cons_ne_nil _ _) rfl ?_
  refine sv_aload_n dX6_loss_6 rfl ?_
  refine sv_iload_n dX6_loss_7 rfl ?_
  refine sv_iconst (nI 2) dX6_loss_8 (by decide) ?_
  refine sv_callV (As := [_, _]) sc_X6_78 (c6_of (by omega)) rfl rfl (Nat.le_of_ble_eq_true rfl) dX6_loss_9 ⟨by decide, by decide⟩ ⟨Nat.le_refl _, Nat.le_refl _⟩ (Nat.le_of_ble_eq_true rfl) om_0 (List.cons_ne_nil _ _) rfl ?_
  refine sv_iaddN dX6_loss_12 ?_
  refine sv_aload_n dX6_loss_13 rfl ?_
  refine sv_iload_n dX6_loss_14 rfl ?_
  refine sv_iconst (nI 3) dX6_loss_15 (by decide) ?_
  refine sv_callV (As := [_, _]) sc_X6_78 (c6_of (by omega)) rfl rfl (Nat.le_of_ble_eq_true rfl) dX6_loss_16 ⟨by decide, by decide⟩ ⟨Nat.le_refl _, Nat.le_refl _⟩ (Nat.le_of_ble_eq_true rfl) om_0 (List.cons_ne_nil _ _) rfl ?_
  refine sv_iaddN dX6_loss_19 ?_
  refine sv_aload_n dX6_loss_20 rfl ?_
  refine sv_iload_n dX6_loss_21 rfl ?_
  refine sv_iconst (nI 4) dX6_loss_22 (by decide) ?_
  refine sv_callV (As := [_, _]) sc_X6_78 (c6_of (by omega)) rfl rfl (Nat.le_of_ble_eq_true rfl) dX6_loss_23 ⟨by decide, by decide⟩ ⟨Nat.le_refl _, Nat.le_refl _⟩ (Nat.le_of_ble_eq_true rfl) om_0 (List.cons_ne_nil _ _) rfl ?_
  rcases Nat.lt_or_ge (S (13 + 8 * p + 1) + S (13 + 8 * p + 2) + S (13 + 8 * p + 3)) (S (13 + 8 * p + 4)) with hr | hr
  · refine sv_isub dX6_loss_26 ?_
    refine sv_istore_n (lv' := [(3, _), (0, _), (1, _), (2, _)]) dX6_loss_27 (by decide) rfl ?_
    refine sv_iload_n dX6_loss_28 rfl ?_
    refine sv_if_ge 36 dX6_loss_29 (by decide) (fun c_29 => absurd c_29 (Int32.not_le.mpr (pk_sneg (by omega) hr))) (fun c_29 => ?_)
    refine sv_iconst (nI 0) dX6_loss_32 (by decide) ?_
    refine sv_goto 37 dX6_loss_33 (by decide) ?_
    refine sv_top (nI (gm_ov S p)) (congrArg nI (by unfold gm_ov; omega)) ?_
    refine sv_istore_n (lv' := [(3, _), (0, _), (1, _), (2, _)]) dX6_loss_37 (by decide) rfl ?_
    exact sv_sub [0, 1, 2, 3] rfl k_38
  · refine sv_isubN dX6_loss_26 hr ?_
    refine sv_istore_n (lv' := [(3, _), (0, _), (1, _), (2, _)]) dX6_loss_27 (by decide) rfl ?_
    refine sv_iload_n dX6_loss_28 rfl ?_
    refine sv_ifN_ge 36 dX6_loss_29 (by decide) (by omega) (fun c_29 => ?_) (fun c_29 => absurd c_29 not_false)
    refine sv_iload_n dX6_loss_36 rfl ?_
    refine sv_top (nI (gm_ov S p)) (congrArg nI (by unfold gm_ov; omega)) ?_
    refine sv_istore_n (lv' := [(3, _), (0, _), (1, _), (2, _)]) dX6_loss_37 (by decide) rfl ?_
    exact sv_sub [0, 1, 2, 3] rfl k_38
theorem up_ends (S : gm_S) (p : Nat) : (va_up (va_up (va_up (va_up (va_up (va_up S (13 + 8 * p + 1) (S (13 + 8 * p + 1) - gm_ls S p)) (13 + 8 * p + 2) (S (13 + 8 * p + 2) - gm_lf S p)) (13 + 8 * p + 3) (S (13 + 8 * p + 3) - gm_lc S p)) 12 (S 12 + (gm_ls S p + gm_lf S p + gm_lc S p))) (13 + 8 * p + 6) (S (13 + 8 * p + 5))) (13 + 8 * p + 7) 0) = gm_ends S p := by
  funext i
  unfold gm_ends va_up
  (repeat' split) <;> first | rfl | omega | (subst_vars; first | rfl | omega)
theorem c6_ends {p : Nat} (hp : p < 4) (hK : ∀ i, i ≠ 11 → i ≠ 12 → S i ≤ K) (hK2 : K < 2 ^ 26) : sm_F G mX6_ends 2 [.ref m, .int (nI p)] (sm_om G h m F X (sm_as A S) L) (.inl none) (sm_om G h m F X (sm_as A (gm_ends S p)) L) := by
  unfold sm_F sm_C
  show sm_V G _ _ _ 0 0 0 [(0, .ref m), (1, .int (nI p))] [] _
  have l1 := gm_ls_le S p; have l2 := gm_lf_le S p; have l3 := gm_lc_le S p
  refine sv_aload_n dX6_ends_0 rfl ?_
  refine sv_iload_n dX6_ends_1 rfl ?_
  refine sv_iconst (nI 0) dX6_ends_2 (by decide) ?_
  refine sv_callV (As := [_, _]) sc_X6_82 (c6_loss (g := 0) hp (by omega) hK hK2) rfl rfl (Nat.le_of_ble_eq_true rfl) dX6_ends_3 ⟨by decide, by decide⟩ ⟨Nat.le_refl _, Nat.le_refl _⟩ (Nat.le_of_ble_eq_true rfl) om_0 (List.cons_ne_nil _ _) rfl ?_
  refine sv_top (nI (gm_ls S p)) rfl ?_
  refine sv_istore_n (lv' := [(2, _), (0, _), (1, _)]) dX6_ends_6 (by decide) rfl ?_
  refine sv_aload_n dX6_ends_7 rfl ?_
  refine sv_iload_n dX6_ends_8 rfl ?_
  refine sv_iconst (nI 1) dX6_ends_9 (by decide) ?_
  refine sv_callV (As := [_, _]) sc_X6_82 (c6_loss (g := 1) hp (by omega) hK hK2) rfl rfl (Nat.le_of_ble_eq_true rfl) dX6_ends_10 ⟨by decide, by decide⟩ ⟨Nat.le_refl _, Nat.le_refl _⟩ (Nat.le_of_ble_eq_true rfl) om_0 (List.cons_ne_nil _ _) rfl ?_
  refine sv_top (nI (gm_lf S p)) rfl ?_
  refine sv_istore_n (lv' := [(3, _), (2, _), (0, _), (1, _)]) dX6_ends_13 (by decide) rfl ?_
  refine sv_aload_n dX6_ends_14 rfl ?_
  refine sv_iload_n dX6_ends_15 rfl ?_
  refine sv_iconst (nI 2) dX6_ends_16 (by decide) ?_
  refine sv_callV (As := [_, _]) sc_X6_82 (c6_loss (g := 2) hp (by omega) hK hK2) rfl rfl (Nat.le_of_ble_eq_true rfl) dX6_ends_17 ⟨by decide, by decide⟩ ⟨Nat.le_refl _, Nat.le_refl _⟩ (Nat.le_of_ble_eq_true rfl) om_0 (List.cons_ne_nil _ _) rfl ?_
  refine sv_top (nI (gm_lc S p)) rfl ?_
  refine sv_istore (lv' := [(4, _), (3, _), (2, _), (0, _), (1, _)]) dX6_ends_20 (by decide) rfl ?_
  refine sv_aload_n dX6_ends_22 rfl ?_
  refine sv_iload_n dX6_ends_23 rfl ?_
  refine sv_iconst (nI 1) dX6_ends_24 (by decide) ?_
  refine sv_iload_n dX6_ends_25 rfl ?_
  refine sv_ineg dX6_ends_26 ?_
  refine sv_callV (As := [_, _, _]) sc_X6_85 (c6_adds (n := S (13 + 8 * p + 1) - gm_ls S p) (by omega) (by exact nI_neg (by omega))) rfl rfl (Nat.le_of_ble_eq_true rfl) dX6_ends_27 ⟨by decide, by decide⟩ ⟨Nat.le_refl _, Nat.le_refl _⟩ (Nat.le_of_ble_eq_true rfl) om_0 (List.cons_ne_nil _ _) rfl ?_
  refine sv_aload_n dX6_ends_30 rfl ?_
  refine sv_iload_n dX6_ends_31 rfl ?_
  refine sv_iconst (nI 2) dX6_ends_32 (by decide) ?_
  refine sv_iload_n dX6_ends_33 rfl ?_
  refine sv_ineg dX6_ends_34 ?_
  refine sv_callV (As := [_, _, _]) sc_X6_85 (c6_adds (n := S (13 + 8 * p + 2) - gm_lf S p) (by omega) (by rw [up_ne (by omega)]; exact nI_neg (by omega))) rfl rfl (Nat.le_of_ble_eq_true rfl) dX6_ends_35 ⟨by decide, by decide⟩ ⟨Nat.le_refl _, Nat.le_refl _⟩ (Nat.le_of_ble_eq_true rfl) om_0 (List.cons_ne_nil _ _) rfl ?_
  refine sv_aload_n dX6_ends_38 rfl ?_
  refine sv_iload_n dX6_ends_39 rfl ?_
  refine sv_iconst (nI 3) dX6_ends_40 (by decide) ?_
  refine sv_iload dX6_ends_41 rfl ?_
  refine sv_ineg dX6_ends_43 ?_
  refine sv_callV (As := [_, _, _]) sc_X6_85 (c6_adds (n := S (13 + 8 * p + 3) - gm_lc S p) (by omega) (by rw [up_ne (by omega), up_ne (by omega)]; exact nI_neg (by omega))) rfl rfl (Nat.le_of_ble_eq_true rfl) dX6_ends_44 ⟨by decide, by decide⟩ ⟨Nat.le_refl _, Nat.le_refl _⟩ (Nat.le_of_ble_eq_true rfl) om_0 (List.cons_ne_nil _ _) rfl ?_
  refine sv_aload_n dX6_ends_47 rfl ?_
  refine rm_get1 rfl dX6_ends_48 ?_
  refine sv_bipush (nI 12) dX6_ends_51 (by decide) ?_
  refine sv_dup2 dX6_ends_53 rfl rfl ?_
  refine rm_ld1N dX6_ends_54 (by omega) ?_
  refine sv_top (nI (S 12)) (congrArg nI (by rw [up_ne (by omega), up_ne (by omega), up_ne (by omega)])) ?_
  refine sv_iload_n dX6_ends_55 rfl ?_
  refine sv_iload_n dX6_ends_56 rfl ?_
  refine sv_iaddN dX6_ends_57 ?_
  refine sv_iload dX6_ends_58 rfl ?_
  refine sv_iaddN dX6_ends_60 ?_
  refine sv_iaddN dX6_ends_61 ?_
  refine rm_st1N dX6_ends_62 (by omega) ?_
  refine sv_aload_n dX6_ends_63 rfl ?_
  refine rm_get1 rfl dX6_ends_64 ?_
  refine sv_bipush (nI 13) dX6_ends_67 (by decide) ?_
  refine sv_bipush (nI 8) dX6_ends_69 (by decide) ?_
  refine sv_iload_n dX6_ends_71 rfl ?_
  refine sv_imulN dX6_ends_72 ?_
  refine sv_iaddN dX6_ends_73 ?_
  refine sv_bipush (nI 6) dX6_ends_74 (by decide) ?_
  refine sv_iaddN dX6_ends_76 ?_
  refine sv_aload_n dX6_ends_77 rfl ?_
  refine sv_iload_n dX6_ends_78 rfl ?_
  refine sv_iconst (nI 5) dX6_ends_79 (by decide) ?_
  refine sv_callV (As := [_, _]) sc_X6_78 (c6_of (p := p) (w := 5) (by omega)) rfl rfl (Nat.le_of_ble_eq_true rfl) dX6_ends_80 ⟨by decide, by decide⟩ ⟨Nat.le_refl _, Nat.le_refl _⟩ (Nat.le_of_ble_eq_true rfl) om_0 (List.cons_ne_nil _ _) rfl ?_
  refine sv_top (nI (S (13 + 8 * p + 5))) (congrArg nI (by rw [up_ne (by omega), up_ne (by omega), up_ne (by omega), up_ne (by omega)])) ?_
  refine rm_st1N dX6_ends_83 (by omega) ?_
  refine sv_aload_n dX6_ends_84 rfl ?_
  refine rm_get1 rfl dX6_ends_85 ?_
  refine sv_bipush (nI 13) dX6_ends_88 (by decide) ?_
  refine sv_bipush (nI 8) dX6_ends_90 (by decide) ?_
  refine sv_iload_n dX6_ends_92 rfl ?_
  refine sv_imulN dX6_ends_93 ?_
  refine sv_iaddN dX6_ends_94 ?_
  refine sv_bipush (nI 7) dX6_ends_95 (by decide) ?_
  refine sv_iaddN dX6_ends_97 ?_
  refine sv_iconst (nI 0) dX6_ends_98 (by decide) ?_
  refine rm_st1N dX6_ends_99 (by omega) ?_
  refine sv_vret dX6_ends_100 rfl (Nat.le_refl _) (Nat.le_refl _) ?_
  exact ⟨rfl, by rw [← up_ends]⟩
theorem gm_ends_lo (S : gm_S) {p i : Nat} (hi : i < 12) : gm_ends S p i = S i := by unfold gm_ends; (repeat' split) <;> first | rfl | omega
theorem gm_endsN_lo (S : gm_S) {i : Nat} (hi : i < 12) : ∀ n, gm_endsN S n i = S i
  | 0 => rfl
  | n + 1 => by rw [gm_endsN, gm_ends_lo _ hi, gm_endsN_lo S hi n]
theorem gm_ends_K {S : gm_S} {p : Nat} (hK : ∀ i, i ≠ 11 → i ≠ 12 → S i ≤ K) : ∀ i, i ≠ 11 → i ≠ 12 → gm_ends S p i ≤ K := by
  intro i h1 h2
  have := hK i h1 h2; have := hK (13 + 8 * p + 5) (by omega) (by omega)
  unfold gm_ends
  (repeat' split) <;> omega
theorem gm_endsN_K {S : gm_S} (hK : ∀ i, i ≠ 11 → i ≠ 12 → S i ≤ K) : ∀ n i, i ≠ 11 → i ≠ 12 → gm_endsN S n i ≤ K
  | 0 => hK
  | n + 1 => gm_ends_K (gm_endsN_K hK n)
def gm_zr (S : gm_S) (n : Nat) : gm_S := fun i => if 45 ≤ i ∧ i < 45 + n then 0 else S i
def gm_pr (S : gm_S) (n : Nat) : gm_S := fun i => if 7 ≤ i ∧ i < 7 + n then (if S i < 9 then S i + 1 else S i) else S i
theorem gm_zr_s (S : gm_S) (n : Nat) : va_up (gm_zr S n) (45 + n) 0 = gm_zr S (n + 1) := by
  funext i; unfold va_up gm_zr; (repeat' split) <;> first | rfl | omega
theorem gm_zr_0 (S : gm_S) : gm_zr S 0 = S := by funext i; unfold gm_zr; split <;> first | rfl | omega
theorem gm_pr_0 (S : gm_S) : gm_pr S 0 = S := by funext i; unfold gm_pr; split <;> first | rfl | omega
theorem gm_pr_s (S : gm_S) (n v : Nat) (hv : v = if S (7 + n) < 9 then S (7 + n) + 1 else S (7 + n)) : va_up (gm_pr S n) (7 + n) v = gm_pr S (n + 1) := by
  subst hv; funext i; unfold va_up gm_pr; (repeat' split) <;> first | rfl | omega | (subst_vars; first | rfl | omega)
theorem gm_pr_at (S : gm_S) (n : Nat) : gm_pr S n (7 + n) = S (7 + n) := by unfold gm_pr; split <;> first | rfl | omega
theorem up_end (S : gm_S) (x : Int64) (T : gm_S) (hT : T = gm_pr (gm_zr (gm_endsN S (S 3)) 24) 3) : va_up (va_up (va_up (va_up T 5 (gm_die (gm_nx x))) 6 (gm_endsN S (S 3) 6 + 1)) 10 ((S 10 + 1) % S 3)) 4 ((S 10 + 1) % S 3) = gm_end false S x := by
  subst hT; funext i; unfold va_up gm_end gm_pr gm_zr
  simp only [Bool.false_eq_true, false_implies, and_true]
  (repeat' split) <;> first | rfl | omega | (subst_vars; first | rfl | omega)
theorem c6_endsRound {x : Int64} (hK : ∀ i, i ≠ 11 → i ≠ 12 → S i ≤ K) (hK2 : K < 2 ^ 26) (h3 : S 3 ≤ 4) (h10 : S 10 < S 3) : sm_F G mX6_endsRound 3 [.ref m] (sm_om G h m F (va_up X 2 x) (sm_as A S) L) (.inl none) (sm_om G h m F (va_up X 2 (gm_nx x)) (sm_as A (gm_end false S x)) L) := by
  unfold sm_F sm_C
  show sm_V G _ _ _ 0 0 0 [(0, .ref m)] [] _
  refine sv_iconst (nI 0) dX6_endsRound_0 (by decide) ?_
  refine sv_istore_n (lv' := [(1, _), (0, _)]) dX6_endsRound_1 (by decide) rfl ?_
  refine sv_sub [0, 1] rfl (sv_loop (pc := 2) (lv := fun n => [(1, .int (nI n)), (0, .ref m)]) (hp := fun n => (sm_om G h m F (va_up X 2 x) (sm_as A (gm_endsN S n)) L)) (I := fun n => True) (N := S 3) (trivial) ?_ ?_)
  · intro hI
    show sm_V G _ _ _ _ _ _ [(1, .int (nI (S 3))), (0, .ref m)] [] (sm_om G h m F (va_up X 2 x) (sm_as A (gm_endsN S (S 3))) L)
    refine sv_iload_n dX6_endsRound_2 rfl ?_
    refine sv_aload_n dX6_endsRound_3 rfl ?_
    refine rm_get1 rfl dX6_endsRound_4 ?_
    refine sv_iconst (nI 3) dX6_endsRound_7 (by decide) ?_
    refine rm_ld1N dX6_endsRound_8 (by omega) ?_
    refine sv_top (nI (S 3)) (congrArg nI (gm_endsN_lo S (by omega) _)) ?_
    refine sv_icmpN_ge 23 dX6_endsRound_9 (by decide) (by omega) (by omega) (fun c_9 => ?_) (fun c_9 => absurd c_9 (by omega))
    refine sv_bipush (nI 45) dX6_endsRound_23 (by decide) ?_
    refine sv_istore_n (lv' := [(1, _), (0, _)]) dX6_endsRound_25 (by decide) rfl ?_
    refine sv_heap (h' := (sm_om G h m F (va_up X 2 x) (sm_as A (gm_zr (gm_endsN S (S 3)) 0)) L)) (by rw [gm_zr_0]) ?_
    refine sv_sub [0, 1] rfl (sv_loop (pc := 26) (lv := fun n => [(1, .int (nI (45 + n))), (0, .ref m)]) (hp := fun n => (sm_om G h m F (va_up X 2 x) (sm_as A (gm_zr (gm_endsN S (S 3)) n)) L)) (I := fun n => True) (N := 24) (trivial) ?_ ?_)
    · intro hI
      show sm_V G _ _ _ _ _ _ [(1, .int (nI (45 + 24))), (0, .ref m)] [] (sm_om G h m F (va_up X 2 x) (sm_as A (gm_zr (gm_endsN S (S 3)) 24)) L)
      refine sv_iload_n dX6_endsRound_26 rfl ?_
      refine sv_bipush (nI 69) dX6_endsRound_27 (by decide) ?_
      refine sv_icmpN_ge 45 dX6_endsRound_29 (by decide) (by omega) (by omega) (fun c_29 => ?_) (fun c_29 => absurd c_29 (by omega))
      refine sv_iconst (nI 0) dX6_endsRound_45 (by decide) ?_
      refine sv_istore_n (lv' := [(1, _), (0, _)]) dX6_endsRound_46 (by decide) rfl ?_
      refine sv_heap (h' := (sm_om G h m F (va_up X 2 x) (sm_as A (gm_pr (gm_zr (gm_endsN S (S 3)) 24) 0)) L)) (by rw [gm_pr_0]) ?_
      refine sv_sub [0, 1] rfl (sv_loop (pc := 47) (lv := fun n => [(1, .int (nI n)), (0, .ref m)]) (hp := fun n => (sm_om G h m F (va_up X 2 x) (sm_as A (gm_pr (gm_zr (gm_endsN S (S 3)) 24) n)) L)) (I := fun n => True) (N := 3) (trivial) ?_ ?_)
      · intro hI
        show sm_V G _ _ _ _ _ _ [(1, .int (nI 3)), (0, .ref m)] [] (sm_om G h m F (va_up X 2 x) (sm_as A (gm_pr (gm_zr (gm_endsN S (S 3)) 24) 3)) L)
        refine sv_iload_n dX6_endsRound_47 rfl ?_
        refine sv_iconst (nI 3) dX6_endsRound_48 (by decide) ?_
        refine sv_icmpN_ge 89 dX6_endsRound_49 (by decide) (by omega) (by omega) (fun c_49 => ?_) (fun c_49 => absurd c_49 (by omega))
        refine sv_aload_n dX6_endsRound_89 rfl ?_
        refine sv_callV (As := []) sc_X6_93 (c6_throwsDie) rfl rfl (Nat.le_of_ble_eq_true rfl) dX6_endsRound_90 ⟨by decide, by decide⟩ ⟨Nat.le_refl _, Nat.le_refl _⟩ (Nat.le_of_ble_eq_true rfl) om_0 (List.cons_ne_nil _ _) rfl ?_
        refine sv_aload_n dX6_endsRound_93 rfl ?_
        refine rm_get1 rfl dX6_endsRound_94 ?_
        refine sv_bipush (nI 6) dX6_endsRound_97 (by decide) ?_
        refine sv_dup2 dX6_endsRound_99 rfl rfl ?_
        refine rm_ld1N dX6_endsRound_100 (by omega) ?_
        refine sv_top (nI (gm_endsN S (S 3) 6)) (congrArg nI (by simp [va_up, gm_pr, gm_zr])) ?_
        refine sv_iconst (nI 1) dX6_endsRound_101 (by decide) ?_
        refine sv_iaddN dX6_endsRound_102 ?_
        refine rm_st1N dX6_endsRound_103 (by omega) ?_
        refine sv_aload_n dX6_endsRound_104 rfl ?_
        refine rm_get1 rfl dX6_endsRound_105 ?_
        refine sv_bipush (nI 10) dX6_endsRound_108 (by decide) ?_
        refine sv_aload_n dX6_endsRound_110 rfl ?_
        refine rm_get1 rfl dX6_endsRound_111 ?_
        refine sv_bipush (nI 10) dX6_endsRound_114 (by decide) ?_
        refine rm_ld1N dX6_endsRound_116 (by omega) ?_
        refine sv_top (nI (S 10)) (congrArg nI (by simp [va_up, gm_pr, gm_zr, gm_endsN_lo])) ?_
        refine sv_iconst (nI 1) dX6_endsRound_117 (by decide) ?_
        refine sv_iaddN dX6_endsRound_118 ?_
        refine sv_aload_n dX6_endsRound_119 rfl ?_
        refine rm_get1 rfl dX6_endsRound_120 ?_
        refine sv_iconst (nI 3) dX6_endsRound_123 (by decide) ?_
        refine rm_ld1N dX6_endsRound_124 (by omega) ?_
        refine sv_top (nI (S 3)) (congrArg nI (by simp [va_up, gm_pr, gm_zr, gm_endsN_lo])) ?_
        refine sv_iremN dX6_endsRound_125 (by omega) (by omega) (by omega) ?_
        refine rm_st1N dX6_endsRound_126 (by omega) ?_
        refine sv_aload_n dX6_endsRound_127 rfl ?_
        refine rm_get1 rfl dX6_endsRound_128 ?_
        refine sv_iconst (nI 4) dX6_endsRound_131 (by decide) ?_
        refine sv_aload_n dX6_endsRound_132 rfl ?_
        refine rm_get1 rfl dX6_endsRound_133 ?_
        refine sv_bipush (nI 10) dX6_endsRound_136 (by decide) ?_
        refine rm_ld1N dX6_endsRound_138 (by omega) ?_
        refine sv_top (nI ((S 10 + 1) % S 3)) (congrArg nI (by simp [va_up])) ?_
        refine rm_st1N dX6_endsRound_139 (by omega) ?_
        refine sv_vret dX6_endsRound_140 rfl (Nat.le_refl _) (Nat.le_refl _) ?_
        exact ⟨rfl, by rw [← up_end S x _ rfl]; simp [up_up, up_eq]⟩
      · intro n hn hI ih
        show sm_V G _ _ _ _ _ _ [(1, .int (nI n)), (0, .ref m)] [] (sm_om G h m F (va_up X 2 x) (sm_as A (gm_pr (gm_zr (gm_endsN S (S 3)) 24) n)) L)
        have b7 := hK (7 + n) (by omega) (by omega)
        have hz : gm_zr (gm_endsN S (S 3)) 24 (7 + n) = S (7 + n) := (if_neg (by omega)).trans (gm_endsN_lo S (by omega) _)
        refine sv_iload_n dX6_endsRound_47 rfl ?_
        refine sv_iconst (nI 3) dX6_endsRound_48 (by decide) ?_
        refine sv_icmpN_ge 89 dX6_endsRound_49 (by decide) (by omega) (by omega) (fun c_49 => absurd c_49 (by omega)) (fun c_49 => ?_)
        refine sv_aload_n dX6_endsRound_52 rfl ?_
        refine rm_get1 rfl dX6_endsRound_53 ?_
        refine sv_bipush (nI 7) dX6_endsRound_56 (by decide) ?_
        refine sv_iload_n dX6_endsRound_58 rfl ?_
        refine sv_iaddN dX6_endsRound_59 ?_
        refine sv_dup2 dX6_endsRound_60 rfl rfl ?_
        refine rm_ld1N dX6_endsRound_61 (by omega) ?_
        refine sv_top (nI (S (7 + n))) (congrArg nI (by rw [gm_pr_at]; exact hz)) ?_
        refine sv_aload_n dX6_endsRound_62 rfl ?_
        refine rm_get1 rfl dX6_endsRound_63 ?_
        refine sv_bipush (nI 7) dX6_endsRound_66 (by decide) ?_
        refine sv_iload_n dX6_endsRound_68 rfl ?_
        refine sv_iaddN dX6_endsRound_69 ?_
        refine rm_ld1N dX6_endsRound_70 (by omega) ?_
        refine sv_top (nI (S (7 + n))) (congrArg nI (by rw [gm_pr_at]; exact hz)) ?_
        refine sv_bipush (nI 9) dX6_endsRound_71 (by decide) ?_
        refine sv_icmpN_ge 80 dX6_endsRound_73 (by decide) (by omega) (by omega) (fun c_73 => ?_) (fun c_73 => ?_)
        · refine sv_iconst (nI 0) dX6_endsRound_80 (by decide) ?_
          refine sv_iaddN dX6_endsRound_81 ?_
          refine rm_st1N dX6_endsRound_82 (by omega) ?_
          refine sv_heap (h' := (sm_om G h m F (va_up X 2 x) (sm_as A (gm_pr (gm_zr (gm_endsN S (S 3)) 24) (n + 1))) L)) (by rw [gm_pr_s _ n _ (by rw [hz]; split <;> omega)]) ?_
          refine sv_iinc1 (lv' := [(1, _), (0, _)]) dX6_endsRound_83 rfl (by decide) rfl ?_
          refine sv_goto 47 dX6_endsRound_86 (by decide) ?_
          exact sv_sub [0, 1] rfl (ih trivial)
        · refine sv_iconst (nI 1) dX6_endsRound_76 (by decide) ?_
          refine sv_goto 81 dX6_endsRound_77 (by decide) ?_
          refine sv_iaddN dX6_endsRound_81 ?_
          refine rm_st1N dX6_endsRound_82 (by omega) ?_
          refine sv_heap (h' := (sm_om G h m F (va_up X 2 x) (sm_as A (gm_pr (gm_zr (gm_endsN S (S 3)) 24) (n + 1))) L)) (by rw [gm_pr_s _ n _ (by rw [hz]; split <;> omega)]) ?_
          refine sv_iinc1 (lv' := [(1, _), (0, _)]) dX6_endsRound_83 rfl (by decide) rfl ?_
          refine sv_goto 47 dX6_endsRound_86 (by decide) ?_
          exact sv_sub [0, 1] rfl (ih trivial)
    · intro n hn hI ih
      show sm_V G _ _ _ _ _ _ [(1, .int (nI (45 + n))), (0, .ref m)] [] (sm_om G h m F (va_up X 2 x) (sm_as A (gm_zr (gm_endsN S (S 3)) n)) L)
      refine sv_iload_n dX6_endsRound_26 rfl ?_
      refine sv_bipush (nI 69) dX6_endsRound_27 (by decide) ?_
      refine sv_icmpN_ge 45 dX6_endsRound_29 (by decide) (by omega) (by omega) (fun c_29 => absurd c_29 (by omega)) (fun c_29 => ?_)
      refine sv_aload_n dX6_endsRound_32 rfl ?_
      refine rm_get1 rfl dX6_endsRound_33 ?_
      refine sv_iload_n dX6_endsRound_36 rfl ?_
      refine sv_iconst (nI 0) dX6_endsRound_37 (by decide) ?_
      refine rm_st1N dX6_endsRound_38 (by omega) ?_
      refine sv_heap (h' := (sm_om G h m F (va_up X 2 x) (sm_as A (gm_zr (gm_endsN S (S 3)) (n + 1))) L)) (by rw [gm_zr_s]) ?_
      refine sv_iinc1 (lv' := [(1, _), (0, _)]) dX6_endsRound_39 rfl (by decide) rfl ?_
      refine sv_goto 26 dX6_endsRound_42 (by decide) ?_
      exact sv_sub [0, 1] rfl (ih trivial)
  · intro n hn hI ih
    show sm_V G _ _ _ _ _ _ [(1, .int (nI n)), (0, .ref m)] [] (sm_om G h m F (va_up X 2 x) (sm_as A (gm_endsN S n)) L)
    refine sv_iload_n dX6_endsRound_2 rfl ?_
    refine sv_aload_n dX6_endsRound_3 rfl ?_
    refine rm_get1 rfl dX6_endsRound_4 ?_
    refine sv_iconst (nI 3) dX6_endsRound_7 (by decide) ?_
    refine rm_ld1N dX6_endsRound_8 (by omega) ?_
    refine sv_top (nI (S 3)) (congrArg nI (gm_endsN_lo S (by omega) _)) ?_
    refine sv_icmpN_ge 23 dX6_endsRound_9 (by decide) (by omega) (by omega) (fun c_9 => absurd c_9 (by omega)) (fun c_9 => ?_)
    refine sv_aload_n dX6_endsRound_12 rfl ?_
    refine sv_iload_n dX6_endsRound_13 rfl ?_
    refine sv_callV (As := [_]) sc_X6_89 (c6_ends (S := gm_endsN S n) (p := n) (by omega) (gm_endsN_K hK n) hK2) rfl rfl (Nat.le_of_ble_eq_true rfl) dX6_endsRound_14 ⟨by decide, by decide⟩ ⟨Nat.le_refl _, Nat.le_refl _⟩ (Nat.le_of_ble_eq_true rfl) om_0 (List.cons_ne_nil _ _) rfl ?_
    refine sv_iinc1 (lv' := [(1, _), (0, _)]) dX6_endsRound_17 rfl (by decide) rfl ?_
    refine sv_goto 2 dX6_endsRound_20 (by decide) ?_
    exact sv_sub [0, 1] rfl (ih trivial)
end SR2
