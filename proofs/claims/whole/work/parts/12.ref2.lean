section SR2
variable {G : sm_G} {h : sm_H} {m : Nat} {F : Nat → Int32} {X : Nat → Int64} {A : Nat → Nat → Int32} {L : Nat → Nat → Int64} {S : Nat → Nat} {K : Nat}
theorem gm_lf_le (S : gm_S) (p : Nat) : gm_lf S p ≤ gm_ov S p ∧ gm_lf S p ≤ S (13 + 8 * p + 2) := by unfold gm_lf; omega
theorem gm_lr_le (S : gm_S) (p : Nat) : gm_lr S p ≤ gm_ov S p - gm_lf S p ∧ gm_lr S p ≤ S (13 + 8 * p + 1) := by unfold gm_lr; omega
theorem gm_ls_le (S : gm_S) (p : Nat) : gm_ls S p ≤ S (13 + 8 * p + 1) := by have := gm_lr_le S p; unfold gm_ls; split <;> omega
theorem gm_lc_le (S : gm_S) (p : Nat) : gm_lc S p ≤ S (13 + 8 * p + 3) := by unfold gm_lc gm_lr gm_lf gm_ov; omega
theorem c6_loss {p g : Nat} (hp : p < 4) (hg : g < 3) (hK : ∀ i, S i ≤ K) (hK2 : K < 2 ^ 26) : sm_F G mX6_loss 1 [.ref m, .int (nI p), .int (nI g)] (sm_om G h m F X (sm_as A S) L) (.inl (some (.int (nI (gm_loss S p g))))) (sm_om G h m F X (sm_as A S) L) := by
  unfold sm_F sm_C
  show sm_V G _ _ _ 0 0 0 [(0, .ref m), (1, .int (nI p)), (2, .int (nI g))] [] _
  have b1 := hK (13 + 8 * p + 1); have b2 := hK (13 + 8 * p + 2); have b3 := hK (13 + 8 * p + 3); have b4 := hK (13 + 8 * p + 4); have b5 := hK 5; have l0 : gm_ov S p ≤ 3 * K := (by unfold gm_ov; omega); have l1 := gm_lf_le S p; have l2 := gm_lr_le S p
  refine sv_cut (c9 := 0) (s9 := 0) (p9 := 122) (l9 := [(7, .int (nI (if S 5 = 1 then (S (13 + 8 * p + 1) - gm_lr S p + 1) / 2 else 0))), (6, .int (nI (gm_lc S p))), (5, .int (nI (gm_lr S p))), (4, .int (nI (gm_lf S p))), (2, .int (nI g))]) (t9 := []) (h9 := (sm_om G h m F X (sm_as A S) L)) ?_ (fun k_122 => ?_)
  · refine sv_iload_n dX6_loss_122 rfl ?_
    refine sv_ifN_ne 134 dX6_loss_123 (by decide) (by omega) (fun c_123 => ?_) (fun c_123 => ?_)
    · refine sv_iload_n dX6_loss_134 rfl ?_
      refine sv_iconst (nI 1) dX6_loss_135 (by decide) ?_
      refine sv_icmpN_ne 144 dX6_loss_136 (by decide) (by omega) (by omega) (fun c_136 => ?_) (fun c_136 => ?_)
      · refine sv_iload dX6_loss_144 rfl ?_
        refine sv_iret dX6_loss_146 rfl rfl (Nat.le_refl _) (Nat.le_refl _) ?_
        exact ⟨ri (by unfold gm_loss gm_ls; (repeat' split) <;> first | omega | rfl), rfl⟩
      · refine sv_iload dX6_loss_139 rfl ?_
        refine sv_goto 146 dX6_loss_141 (by decide) ?_
        refine sv_iret dX6_loss_146 rfl rfl (Nat.le_refl _) (Nat.le_refl _) ?_
        exact ⟨ri (by unfold gm_loss gm_ls; (repeat' split) <;> first | omega | rfl), rfl⟩
    · refine sv_iload dX6_loss_126 rfl ?_
      refine sv_iload dX6_loss_128 rfl ?_
      refine sv_iaddN dX6_loss_130 ?_
      refine sv_goto 146 dX6_loss_131 (by decide) ?_
      refine sv_iret dX6_loss_146 rfl rfl (Nat.le_refl _) (Nat.le_refl _) ?_
      exact ⟨ri (by unfold gm_loss gm_ls; (repeat' split) <;> first | omega | rfl), rfl⟩
  refine sv_cut (c9 := 0) (s9 := 0) (p9 := 87) (l9 := [(5, .int (nI (gm_lr S p))), (3, .int (nI (gm_ov S p - gm_lf S p))), (4, .int (nI (gm_lf S p))), (0, .ref m), (1, .int (nI p)), (2, .int (nI g))]) (t9 := []) (h9 := (sm_om G h m F X (sm_as A S) L)) ?_ (fun k_87 => ?_)
  · refine sv_iload_n dX6_loss_87 rfl ?_
    refine sv_iload dX6_loss_88 rfl ?_
    refine sv_isubN dX6_loss_90 (by omega) ?_
    refine sv_istore (lv' := [(6, _), (5, _), (3, _), (4, _), (0, _), (1, _), (2, _)]) dX6_loss_91 (by decide) rfl ?_
    refine sv_aload_n dX6_loss_93 rfl ?_
    refine rm_get1 rfl dX6_loss_94 ?_
    refine sv_iconst (nI 5) dX6_loss_97 (by decide) ?_
    refine rm_ld1N dX6_loss_98 (by omega) ?_
    refine sv_iconst (nI 1) dX6_loss_99 (by decide) ?_
    refine sv_icmpN_ne 119 dX6_loss_100 (by decide) (by omega) (by omega) (fun c_100 => ?_) (fun c_100 => ?_)
    · refine sv_iconst (nI 0) dX6_loss_119 (by decide) ?_
      refine sv_top (nI (if S 5 = 1 then (S (13 + 8 * p + 1) - gm_lr S p + 1) / 2 else 0)) (by first | rw [if_pos (by omega)] | rw [if_neg (by omega)]) ?_
      refine sv_istore (lv' := [(7, _), (6, _), (5, _), (3, _), (4, _), (0, _), (1, _), (2, _)]) dX6_loss_120 (by decide) rfl ?_
      exact sv_sub [0, 1, 2, 4, 7] rfl k_122
    · refine sv_aload_n dX6_loss_103 rfl ?_
      refine sv_iload_n dX6_loss_104 rfl ?_
      refine sv_iconst (nI 1) dX6_loss_105 (by decide) ?_
      refine sv_callV (As := [_, _]) sc_X6_78 (c6_of (by omega)) rfl rfl (Nat.le_of_ble_eq_true rfl) dX6_loss_106 ⟨by decide, by decide⟩ ⟨Nat.le_refl _, Nat.le_refl _⟩ (Nat.le_of_ble_eq_true rfl) om_0 (List.cons_ne_nil _ _) rfl ?_
      refine sv_iload dX6_loss_109 rfl ?_
      refine sv_isubN dX6_loss_111 (by omega) ?_
      refine sv_iconst (nI 1) dX6_loss_112 (by decide) ?_
      refine sv_iaddN dX6_loss_113 ?_
      refine sv_iconst (nI 2) dX6_loss_114 (by decide) ?_
      refine sv_idivN dX6_loss_115 (by omega) (by omega) (by omega) ?_
      refine sv_goto 120 dX6_loss_116 (by decide) ?_
      refine sv_top (nI (if S 5 = 1 then (S (13 + 8 * p + 1) - gm_lr S p + 1) / 2 else 0)) (by first | rw [if_pos (by omega)] | rw [if_neg (by omega)]) ?_
      refine sv_istore (lv' := [(7, _), (6, _), (5, _), (3, _), (4, _), (0, _), (1, _), (2, _)]) dX6_loss_120 (by decide) rfl ?_
      exact sv_sub [0, 1, 2, 4, 7] rfl k_122
  refine sv_cut (c9 := 0) (s9 := 0) (p9 := 60) (l9 := [(4, .int (nI (gm_lf S p))), (3, .int (nI (gm_ov S p))), (0, .ref m), (1, .int (nI p)), (2, .int (nI g))]) (t9 := []) (h9 := (sm_om G h m F X (sm_as A S) L)) ?_ (fun k_60 => ?_)
  · refine sv_iload_n dX6_loss_60 rfl ?_
    refine sv_iload dX6_loss_61 rfl ?_
    refine sv_isubN dX6_loss_63 (by omega) ?_
    refine sv_istore_n (lv' := [(3, _), (4, _), (0, _), (1, _), (2, _)]) dX6_loss_64 (by decide) rfl ?_
    refine sv_iload_n dX6_loss_65 rfl ?_
    refine sv_aload_n dX6_loss_66 rfl ?_
    refine sv_iload_n dX6_loss_67 rfl ?_
    refine sv_iconst (nI 1) dX6_loss_68 (by decide) ?_
    refine sv_callV (As := [_, _]) sc_X6_78 (c6_of (by omega)) rfl rfl (Nat.le_of_ble_eq_true rfl) dX6_loss_69 ⟨by decide, by decide⟩ ⟨Nat.le_refl _, Nat.le_refl _⟩ (Nat.le_of_ble_eq_true rfl) om_0 (List.cons_ne_nil _ _) rfl ?_
    refine sv_icmpN_ge 79 dX6_loss_72 (by decide) (by omega) (by omega) (fun c_72 => ?_) (fun c_72 => ?_)
    · refine sv_aload_n dX6_loss_79 rfl ?_
      refine sv_iload_n dX6_loss_80 rfl ?_
      refine sv_iconst (nI 1) dX6_loss_81 (by decide) ?_
      refine sv_callV (As := [_, _]) sc_X6_78 (c6_of (by omega)) rfl rfl (Nat.le_of_ble_eq_true rfl) dX6_loss_82 ⟨by decide, by decide⟩ ⟨Nat.le_refl _, Nat.le_refl _⟩ (Nat.le_of_ble_eq_true rfl) om_0 (List.cons_ne_nil _ _) rfl ?_
      refine sv_top (nI (gm_lr S p)) (congrArg nI (by unfold gm_lr; omega)) ?_
      refine sv_istore (lv' := [(5, _), (3, _), (4, _), (0, _), (1, _), (2, _)]) dX6_loss_85 (by decide) rfl ?_
      exact sv_sub [0, 1, 2, 3, 4, 5] rfl k_87
    · refine sv_iload_n dX6_loss_75 rfl ?_
      refine sv_goto 85 dX6_loss_76 (by decide) ?_
      refine sv_top (nI (gm_lr S p)) (congrArg nI (by unfold gm_lr; omega)) ?_
      refine sv_istore (lv' := [(5, _), (3, _), (4, _), (0, _), (1, _), (2, _)]) dX6_loss_85 (by decide) rfl ?_
      exact sv_sub [0, 1, 2, 3, 4, 5] rfl k_87
  refine sv_cut (c9 := 0) (s9 := 0) (p9 := 38) (l9 := [(3, .int (nI (gm_ov S p))), (0, .ref m), (1, .int (nI p)), (2, .int (nI g))]) (t9 := []) (h9 := (sm_om G h m F X (sm_as A S) L)) ?_ (fun k_38 => ?_)
  · refine sv_iload_n dX6_loss_38 rfl ?_
    refine sv_aload_n dX6_loss_39 rfl ?_
    refine sv_iload_n dX6_loss_40 rfl ?_
    refine sv_iconst (nI 2) dX6_loss_41 (by decide) ?_
    refine sv_callV (As := [_, _]) sc_X6_78 (c6_of (by omega)) rfl rfl (Nat.le_of_ble_eq_true rfl) dX6_loss_42 ⟨by decide, by decide⟩ ⟨Nat.le_refl _, Nat.le_refl _⟩ (Nat.le_of_ble_eq_true rfl) om_0 (List.cons_ne_nil _ _) rfl ?_
    refine sv_icmpN_ge 52 dX6_loss_45 (by decide) (by omega) (by omega) (fun c_45 => ?_) (fun c_45 => ?_)
    · refine sv_aload_n dX6_loss_52 rfl ?_
      refine sv_iload_n dX6_loss_53 rfl ?_
      refine sv_iconst (nI 2) dX6_loss_54 (by decide) ?_
      refine sv_callV (As := [_, _]) sc_X6_78 (c6_of (by omega)) rfl rfl (Nat.le_of_ble_eq_true rfl) dX6_loss_55 ⟨by decide, by decide⟩ ⟨Nat.le_refl _, Nat.le_refl _⟩ (Nat.le_of_ble_eq_true rfl) om_0 (List.cons_ne_nil _ _) rfl ?_
      refine sv_top (nI (gm_lf S p)) (congrArg nI (by unfold gm_lf; omega)) ?_
      refine sv_istore (lv' := [(4, _), (3, _), (0, _), (1, _), (2, _)]) dX6_loss_58 (by decide) rfl ?_
      exact sv_sub [0, 1, 2, 3, 4] rfl k_60
    · refine sv_iload_n dX6_loss_48 rfl ?_
      refine sv_goto 58 dX6_loss_49 (by decide) ?_
      refine sv_top (nI (gm_lf S p)) (congrArg nI (by unfold gm_lf; omega)) ?_
      refine sv_istore (lv' := [(4, _), (3, _), (0, _), (1, _), (2, _)]) dX6_loss_58 (by decide) rfl ?_
      exact sv_sub [0, 1, 2, 3, 4] rfl k_60
  refine sv_aload_n dX6_loss_0 rfl ?_
  refine sv_iload_n dX6_loss_1 rfl ?_
  refine sv_iconst (nI 1) dX6_loss_2 (by decide) ?_
  refine sv_callV (As := [_, _]) sc_X6_78 (c6_of (by omega)) rfl rfl (Nat.le_of_ble_eq_true rfl) dX6_loss_3 ⟨by decide, by decide⟩ ⟨Nat.le_refl _, Nat.le_refl _⟩ (Nat.le_of_ble_eq_true rfl) om_0 (List.cons_ne_nil _ _) rfl ?_
  refine sv_aload_n dX6_loss_6 rfl ?_
  refine sv_iload_n dX6_loss_7 rfl ?_
  refine sv_iconst (nI 2) dX6_loss_8 (by decide) ?_
  refine sv_callV (As := [_, _]) sc_X6_78 (c6_of (by omega)) rfl rfl (Nat.le_of_ble_eq_true rfl) dX6_loss_9 ⟨by decide, by decide⟩ ⟨Nat.le_refl _, Nat.le_refl _⟩ (Nat.le_of_ble_eq_true rfl) om_0 (List.cons_ne_nil _ _) rfl ?_
  refine sv_iaddN dX6_loss_12 ?_
  refine sv_aload_n dX6_loss_13 rfl ?_
  refine sv_iload_n dX6_loss_14 rfl ?_
  refine sv_iconst (nI 3) dX6_loss_15 (by decide) ?_
  refine sv_callV (As := [_, _]) sc_X6_78 (c6_of (by omega)) rfl rfl (Nat.le_of_ble_eq_true rfl) dX6_loss_16 ⟨by decide, by decide⟩ ⟨Nat.le_refl _, Nat.le_refl _⟩ (Nat.le_of_ble_eq_true rfl) om_0 (List.cons_ne_nil _ _) rfl ?_
  refine sv_iaddN dX6_loss_19 ?_
  refine sv_aload_n dX6_loss_20 rfl ?_
  refine sv_iload_n dX6_loss_21 rfl ?_
  refine sv_iconst (nI 4) dX6_loss_22 (by decide) ?_
  refine sv_callV (As := [_, _]) sc_X6_78 (c6_of (by omega)) rfl rfl (Nat.le_of_ble_eq_true rfl) dX6_loss_23 ⟨by decide, by decide⟩ ⟨Nat.le_refl _, Nat.le_refl _⟩ (Nat.le_of_ble_eq_true rfl) om_0 (List.cons_ne_nil _ _) rfl ?_
  rcases Nat.lt_or_ge (S (13 + 8 * p + 1) + S (13 + 8 * p + 2) + S (13 + 8 * p + 3)) (S (13 + 8 * p + 4)) with hr | hr
  · refine sv_isub dX6_loss_26 ?_
    refine sv_istore_n (lv' := [(3, _), (0, _), (1, _), (2, _)]) dX6_loss_27 (by decide) rfl ?_
    refine sv_iload_n dX6_loss_28 rfl ?_
    refine sv_if_ge 36 dX6_loss_29 (by decide) (fun c_29 => absurd c_29 (Int32.not_le.mpr (pk_sneg (by omega) hr))) (fun c_29 => ?_)
    refine sv_iconst (nI 0) dX6_loss_32 (by decide) ?_
    refine sv_goto 37 dX6_loss_33 (by decide) ?_
    refine sv_top (nI (gm_ov S p)) (congrArg nI (by unfold gm_ov; omega)) ?_
    refine sv_istore_n (lv' := [(3, _), (0, _), (1, _), (2, _)]) dX6_loss_37 (by decide) rfl ?_
    exact sv_sub [0, 1, 2, 3] rfl k_38
  · refine sv_isubN dX6_loss_26 hr ?_
    refine sv_istore_n (lv' := [(3, _), (0, _), (1, _), (2, _)]) dX6_loss_27 (by decide) rfl ?_
    refine sv_iload_n dX6_loss_28 rfl ?_
    refine sv_ifN_ge 36 dX6_loss_29 (by decide) (by omega) (fun c_29 => ?_) (fun c_29 => absurd c_29 not_false)
    refine sv_iload_n dX6_loss_36 rfl ?_
    refine sv_top (nI (gm_ov S p)) (congrArg nI (by unfold gm_ov; omega)) ?_
    refine sv_istore_n (lv' := [(3, _), (0, _), (1, _), (2, _)]) dX6_loss_37 (by decide) rfl ?_
    exact sv_sub [0, 1, 2, 3] rfl k_38
theorem up_ends (S : gm_S) (p : Nat) : (va_up (va_up (va_up (va_up (va_up (va_up S (13 + 8 * p + 1) (S (13 + 8 * p + 1) - gm_ls S p)) (13 + 8 * p + 2) (S (13 + 8 * p + 2) - gm_lf S p)) (13 + 8 * p + 3) (S (13 + 8 * p + 3) - gm_lc S p)) 12 (S 12 + (gm_ls S p + gm_lf S p + gm_lc S p))) (13 + 8 * p + 6) (S (13 + 8 * p + 5))) (13 + 8 * p + 7) 0) = gm_ends S p := by
  funext i
  unfold gm_ends va_up
  (repeat' split) <;> first | rfl | omega | (subst_vars; first | rfl | omega)
theorem c6_ends {p : Nat} (hp : p < 4) (hK : ∀ i, S i ≤ K) (hK2 : K < 2 ^ 26) : sm_F G mX6_ends 2 [.ref m, .int (nI p)] (sm_om G h m F X (sm_as A S) L) (.inl none) (sm_om G h m F X (sm_as A (gm_ends S p)) L) := by
  unfold sm_F sm_C
  show sm_V G _ _ _ 0 0 0 [(0, .ref m), (1, .int (nI p))] [] _
  have l1 := gm_ls_le S p; have l2 := gm_lf_le S p; have l3 := gm_lc_le S p
  refine sv_aload_n dX6_ends_0 rfl ?_
  refine sv_iload_n dX6_ends_1 rfl ?_
  refine sv_iconst (nI 0) dX6_ends_2 (by decide) ?_
  refine sv_callV (As := [_, _]) sc_X6_82 (c6_loss (g := 0) hp (by omega) hK hK2) rfl rfl (Nat.le_of_ble_eq_true rfl) dX6_ends_3 ⟨by decide, by decide⟩ ⟨Nat.le_refl _, Nat.le_refl _⟩ (Nat.le_of_ble_eq_true rfl) om_0 (List.cons_ne_nil _ _) rfl ?_
  refine sv_top (nI (gm_ls S p)) rfl ?_
  refine sv_istore_n (lv' := [(2, _), (0, _), (1, _)]) dX6_ends_6 (by decide) rfl ?_
  refine sv_aload_n dX6_ends_7 rfl ?_
  refine sv_iload_n dX6_ends_8 rfl ?_
  refine sv_iconst (nI 1) dX6_ends_9 (by decide) ?_
  refine sv_callV (As := [_, _]) sc_X6_82 (c6_loss (g := 1) hp (by omega) hK hK2) rfl rfl (Nat.le_of_ble_eq_true rfl) dX6_ends_10 ⟨by decide, by decide⟩ ⟨Nat.le_refl _, Nat.le_refl _⟩ (Nat.le_of_ble_eq_true rfl) om_0 (List.cons_ne_nil _ _) rfl ?_
  refine sv_top (nI (gm_lf S p)) rfl ?_
  refine sv_istore_n (lv' := [(3, _), (2, _), (0, _), (1, _)]) dX6_ends_13 (by decide) rfl ?_
  refine sv_aload_n dX6_ends_14 rfl ?_
  refine sv_iload_n dX6_ends_15 rfl ?_
  refine sv_iconst (nI 2) dX6_ends_16 (by decide) ?_
  refine sv_callV (As := [_, _]) sc_X6_82 (c6_loss (g := 2) hp (by omega) hK hK2) rfl rfl (Nat.le_of_ble_eq_true rfl) dX6_ends_17 ⟨by decide, by decide⟩ ⟨Nat.le_refl _, Nat.le_refl _⟩ (Nat.le_of_ble_eq_true rfl) om_0 (List.cons_ne_nil _ _) rfl ?_
  refine sv_top (nI (gm_lc S p)) rfl ?_
  refine sv_istore (lv' := [(4, _), (3, _), (2, _), (0, _), (1, _)]) dX6_ends_20 (by decide) rfl ?_
  refine sv_aload_n dX6_ends_22 rfl ?_
  refine sv_iload_n dX6_ends_23 rfl ?_
  refine sv_iconst (nI 1) dX6_ends_24 (by decide) ?_
  refine sv_iload_n dX6_ends_25 rfl ?_
  refine sv_ineg dX6_ends_26 ?_
  refine sv_callV (As := [_, _, _]) sc_X6_85 (c6_adds (n := S (13 + 8 * p + 1) - gm_ls S p) (by omega) (by exact nI_neg (by omega))) rfl rfl (Nat.le_of_ble_eq_true rfl) dX6_ends_27 ⟨by decide, by decide⟩ ⟨Nat.le_refl _, Nat.le_refl _⟩ (Nat.le_of_ble_eq_true rfl) om_0 (List.cons_ne_nil _ _) rfl ?_
  refine sv_aload_n dX6_ends_30 rfl ?_
  refine sv_iload_n dX6_ends_31 rfl ?_
  refine sv_iconst (nI 2) dX6_ends_32 (by decide) ?_
  refine sv_iload_n dX6_ends_33 rfl ?_
  refine sv_ineg dX6_ends_34 ?_
  refine sv_callV (As := [_, _, _]) sc_X6_85 (c6_adds (n := S (13 + 8 * p + 2) - gm_lf S p) (by omega) (by rw [up_ne (by omega)]; exact nI_neg (by omega))) rfl rfl (Nat.le_of_ble_eq_true rfl) dX6_ends_35 ⟨by decide, by decide⟩ ⟨Nat.le_refl _, Nat.le_refl _⟩ (Nat.le_of_ble_eq_true rfl) om_0 (List.cons_ne_nil _ _) rfl ?_
  refine sv_aload_n dX6_ends_38 rfl ?_
  refine sv_iload_n dX6_ends_39 rfl ?_
  refine sv_iconst (nI 3) dX6_ends_40 (by decide) ?_
  refine sv_iload dX6_ends_41 rfl ?_
  refine sv_ineg dX6_ends_43 ?_
  refine sv_callV (As := [_, _, _]) sc_X6_85 (c6_adds (n := S (13 + 8 * p + 3) - gm_lc S p) (by omega) (by rw [up_ne (by omega), up_ne (by omega)]; exact nI_neg (by omega))) rfl rfl (Nat.le_of_ble_eq_true rfl) dX6_ends_44 ⟨by decide, by decide⟩ ⟨Nat.le_refl _, Nat.le_refl _⟩ (Nat.le_of_ble_eq_true rfl) om_0 (List.cons_ne_nil _ _) rfl ?_
  refine sv_aload_n dX6_ends_47 rfl ?_
  refine rm_get1 rfl dX6_ends_48 ?_
  refine sv_bipush (nI 12) dX6_ends_51 (by decide) ?_
  refine sv_dup2 dX6_ends_53 rfl rfl ?_
  refine rm_ld1N dX6_ends_54 (by omega) ?_
  refine sv_top (nI (S 12)) (congrArg nI (by rw [up_ne (by omega), up_ne (by omega), up_ne (by omega)])) ?_
  refine sv_iload_n dX6_ends_55 rfl ?_
  refine sv_iload_n dX6_ends_56 rfl ?_
  refine sv_iaddN dX6_ends_57 ?_
  refine sv_iload dX6_ends_58 rfl ?_
  refine sv_iaddN dX6_ends_60 ?_
  refine sv_iaddN dX6_ends_61 ?_
  refine rm_st1N dX6_ends_62 (by omega) ?_
  refine sv_aload_n dX6_ends_63 rfl ?_
  refine rm_get1 rfl dX6_ends_64 ?_
  refine sv_bipush (nI 13) dX6_ends_67 (by decide) ?_
  refine sv_bipush (nI 8) dX6_ends_69 (by decide) ?_
  refine sv_iload_n dX6_ends_71 rfl ?_
  refine sv_imulN dX6_ends_72 ?_
  refine sv_iaddN dX6_ends_73 ?_
  refine sv_bipush (nI 6) dX6_ends_74 (by decide) ?_
  refine sv_iaddN dX6_ends_76 ?_
  refine sv_aload_n dX6_ends_77 rfl ?_
  refine sv_iload_n dX6_ends_78 rfl ?_
  refine sv_iconst (nI 5) dX6_ends_79 (by decide) ?_
  refine sv_callV (As := [_, _]) sc_X6_78 (c6_of (p := p) (w := 5) (by omega)) rfl rfl (Nat.le_of_ble_eq_true rfl) dX6_ends_80 ⟨by decide, by decide⟩ ⟨Nat.le_refl _, Nat.le_refl _⟩ (Nat.le_of_ble_eq_true rfl) om_0 (List.cons_ne_nil _ _) rfl ?_
  refine sv_top (nI (S (13 + 8 * p + 5))) (congrArg nI (by rw [up_ne (by omega), up_ne (by omega), up_ne (by omega), up_ne (by omega)])) ?_
  refine rm_st1N dX6_ends_83 (by omega) ?_
  refine sv_aload_n dX6_ends_84 rfl ?_
  refine rm_get1 rfl dX6_ends_85 ?_
  refine sv_bipush (nI 13) dX6_ends_88 (by decide) ?_
  refine sv_bipush (nI 8) dX6_ends_90 (by decide) ?_
  refine sv_iload_n dX6_ends_92 rfl ?_
  refine sv_imulN dX6_ends_93 ?_
  refine sv_iaddN dX6_ends_94 ?_
  refine sv_bipush (nI 7) dX6_ends_95 (by decide) ?_
  refine sv_iaddN dX6_ends_97 ?_
  refine sv_iconst (nI 0) dX6_ends_98 (by decide) ?_
  refine rm_st1N dX6_ends_99 (by omega) ?_
  refine sv_vret dX6_ends_100 rfl (Nat.le_refl _) (Nat.le_refl _) ?_
  exact ⟨rfl, by rw [← up_ends]⟩
end SR2
