section SR4
variable {G : sm_G} {h : sm_H} {m : Nat} {F : Nat → Int32} {X : Nat → Int64} {A : Nat → Nat → Int32} {L : Nat → Nat → Int64} {S : Nat → Nat} {K : Nat}
theorem om_S {A : Nat → Nat → Int32} {S1 S2 : gm_S} (e : S1 = S2) : sm_om G h m F X (sm_as A S1) L = sm_om G h m F X (sm_as A S2) L := by rw [e]
theorem nI_n5 {a : Nat} (h : 5 ≤ a) : nI a + -5 = nI (a - 5) := by rw [show (-5 : Int32) = -nI 5 from by decide]; exact nI_neg h
theorem nI_n2 {a : Nat} (h : 2 ≤ a) : nI a + -2 = nI (a - 2) := by rw [show (-2 : Int32) = -nI 2 from by decide]; exact nI_neg h
theorem gm_sell_s (a k : Nat) (hk : k < 3) : gm_sell a (k + 1) = gm_sell a k + max 1 (a - k) := by
  rcases (show k = 0 ∨ k = 1 ∨ k = 2 by omega) with rfl | rfl | rfl <;> simp [gm_sell]
theorem gm_sst_0 {T : gm_S} {p g : Nat} (h1 : 1 ≤ T (7 + g)) : gm_sst T p g 0 = T := by
  funext i; unfold gm_sst gm_sell; (repeat' split) <;> first | rfl | omega | (subst_vars; omega)
theorem gm_sst_p {T : gm_S} {p g n : Nat} (hg : g < 3) : gm_sst T p g n (7 + g) = max 1 (T (7 + g) - n) := by unfold gm_sst; rw [if_neg (by omega), if_pos rfl]
theorem gm_sst_c {T : gm_S} {p g n : Nat} : gm_sst T p g n (13 + 8 * p) = T (13 + 8 * p) + gm_sell (T (7 + g)) n := by unfold gm_sst; rw [if_pos rfl]
theorem gm_sst_s {T : gm_S} {p g n v : Nat} (hg : g < 3) (hn : n < 3) (hv : v = max 1 (T (7 + g) - (n + 1))) : va_up (va_up (gm_sst T p g n) (13 + 8 * p) (gm_sst T p g n (13 + 8 * p) + max 1 (T (7 + g) - n))) (7 + g) v = gm_sst T p g (n + 1) := by
  rw [gm_sst_c]
  subst hv
  have e := gm_sell_s (T (7 + g)) n hn
  funext i; unfold va_up gm_sst
  (repeat' split) <;> first | rfl | omega | (subst_vars; first | rfl | omega)
theorem c6_sells {p g n : Nat} (hp : p < 4) (hg : g < 3) (hn3 : n ≤ 3) (hn : n ≤ S (13 + 8 * p + (1 + g))) (hp1 : 1 ≤ S (7 + g)) (hp9 : S (7 + g) ≤ 9) : sm_F G mX6_sells 1 [.ref m, .int (nI p), .int (nI g), .int (nI n)] (sm_om G h m F X (sm_as A S) L) (.inl none) (sm_om G h m F X (sm_as A (gm_sst (va_up S (13 + 8 * p + (1 + g)) (S (13 + 8 * p + (1 + g)) - n)) p g n)) L) := by
  unfold sm_F sm_C
  show sm_V G _ _ _ 0 0 0 [(0, .ref m), (1, .int (nI p)), (2, .int (nI g)), (3, .int (nI n))] [] _
  have e9 : (va_up S (13 + 8 * p + (1 + g)) (S (13 + 8 * p + (1 + g)) - n)) (7 + g) = S (7 + g) := up_ne (by omega)
  refine sv_aload_n dX6_sells_0 rfl ?_
  refine sv_iload_n dX6_sells_1 rfl ?_
  refine sv_iconst (nI 1) dX6_sells_2 (by decide) ?_
  refine sv_iload_n dX6_sells_3 rfl ?_
  refine sv_iaddN dX6_sells_4 ?_
  refine sv_iload_n dX6_sells_5 rfl ?_
  refine sv_ineg dX6_sells_6 ?_
  refine sv_callV (As := [_, _, _]) sc_X6_85 (c6_adds (p := p) (w := 1 + g) (n := S (13 + 8 * p + (1 + g)) - n) (by omega) (nI_neg hn)) rfl rfl (Nat.le_of_ble_eq_true rfl) dX6_sells_7 ⟨by decide, by decide⟩ ⟨Nat.le_refl _, Nat.le_refl _⟩ (Nat.le_of_ble_eq_true rfl) om_0 (List.cons_ne_nil _ _) rfl ?_
  refine sv_iconst (nI 0) dX6_sells_10 (by decide) ?_
  refine sv_istore (lv' := [(4, _), (0, _), (1, _), (2, _), (3, _)]) dX6_sells_11 (by decide) rfl ?_
  refine sv_heap (h' := (sm_om G h m F X (sm_as A (gm_sst (va_up S (13 + 8 * p + (1 + g)) (S (13 + 8 * p + (1 + g)) - n)) p g 0)) L)) (om_S (by rw [gm_sst_0]; rw [up_ne (by omega)]; exact hp1)) ?_
  refine sv_sub [0, 1, 2, 3, 4] rfl (sv_loop (pc := 13) (lv := fun k => [(4, .int (nI k)), (0, .ref m), (1, .int (nI p)), (2, .int (nI g)), (3, .int (nI n))]) (hp := fun k => (sm_om G h m F X (sm_as A (gm_sst (va_up S (13 + 8 * p + (1 + g)) (S (13 + 8 * p + (1 + g)) - n)) p g k)) L)) (I := fun _ => True) (N := n) (trivial) ?_ ?_)
  · intro hI
    show sm_V G _ _ _ _ _ _ [(4, .int (nI n)), (0, .ref m), (1, .int (nI p)), (2, .int (nI g)), (3, .int (nI n))] [] (sm_om G h m F X (sm_as A (gm_sst (va_up S (13 + 8 * p + (1 + g)) (S (13 + 8 * p + (1 + g)) - n)) p g n)) L)
    refine sv_iload dX6_sells_13 rfl ?_
    refine sv_iload_n dX6_sells_15 rfl ?_
    refine sv_icmpN_ge 70 dX6_sells_16 (by decide) (by omega) (by omega) (fun c_16 => ?_) (fun c_16 => absurd c_16 (by omega))
    refine sv_vret dX6_sells_70 rfl (Nat.le_refl _) (Nat.le_refl _) ?_
    exact ⟨rfl, rfl⟩
  · intro k hk hI ih
    show sm_V G _ _ _ _ _ _ [(4, .int (nI k)), (0, .ref m), (1, .int (nI p)), (2, .int (nI g)), (3, .int (nI n))] [] (sm_om G h m F X (sm_as A (gm_sst (va_up S (13 + 8 * p + (1 + g)) (S (13 + 8 * p + (1 + g)) - n)) p g k)) L)
    refine sv_iload dX6_sells_13 rfl ?_
    refine sv_iload_n dX6_sells_15 rfl ?_
    refine sv_icmpN_ge 70 dX6_sells_16 (by decide) (by omega) (by omega) (fun c_16 => absurd c_16 (by omega)) (fun c_16 => ?_)
    refine sv_aload_n dX6_sells_19 rfl ?_
    refine sv_iload_n dX6_sells_20 rfl ?_
    refine sv_iconst (nI 0) dX6_sells_21 (by decide) ?_
    refine sv_aload_n dX6_sells_22 rfl ?_
    refine rm_get1 rfl dX6_sells_23 ?_
    refine sv_bipush (nI 7) dX6_sells_26 (by decide) ?_
    refine sv_iload_n dX6_sells_28 rfl ?_
    refine sv_iaddN dX6_sells_29 ?_
    refine rm_ld1N dX6_sells_30 (by omega) ?_
    refine sv_top (nI (max 1 ((va_up S (13 + 8 * p + (1 + g)) (S (13 + 8 * p + (1 + g)) - n)) (7 + g) - k))) (congrArg nI (gm_sst_p hg)) ?_
    refine sv_callV (As := [_, _, _]) sc_X6_85 (c6_adds0 (p := p) (n := (gm_sst (va_up S (13 + 8 * p + (1 + g)) (S (13 + 8 * p + (1 + g)) - n)) p g k) (13 + 8 * p) + max 1 ((va_up S (13 + 8 * p + (1 + g)) (S (13 + 8 * p + (1 + g)) - n)) (7 + g) - k)) (by omega) (nI_add _ _)) rfl rfl (Nat.le_of_ble_eq_true rfl) dX6_sells_31 ⟨by decide, by decide⟩ ⟨Nat.le_refl _, Nat.le_refl _⟩ (Nat.le_of_ble_eq_true rfl) om_0 (List.cons_ne_nil _ _) rfl ?_
    refine sv_aload_n dX6_sells_34 rfl ?_
    refine rm_get1 rfl dX6_sells_35 ?_
    refine sv_bipush (nI 7) dX6_sells_38 (by decide) ?_
    refine sv_iload_n dX6_sells_40 rfl ?_
    refine sv_iaddN dX6_sells_41 ?_
    refine sv_dup2 dX6_sells_42 rfl rfl ?_
    refine rm_ld1N dX6_sells_43 (by omega) ?_
    refine sv_top (nI (max 1 ((va_up S (13 + 8 * p + (1 + g)) (S (13 + 8 * p + (1 + g)) - n)) (7 + g) - k))) (congrArg nI (by rw [up_ne (by omega), gm_sst_p hg])) ?_
    refine sv_aload_n dX6_sells_44 rfl ?_
    refine rm_get1 rfl dX6_sells_45 ?_
    refine sv_bipush (nI 7) dX6_sells_48 (by decide) ?_
    refine sv_iload_n dX6_sells_50 rfl ?_
    refine sv_iaddN dX6_sells_51 ?_
    refine rm_ld1N dX6_sells_52 (by omega) ?_
    refine sv_top (nI (max 1 ((va_up S (13 + 8 * p + (1 + g)) (S (13 + 8 * p + (1 + g)) - n)) (7 + g) - k))) (congrArg nI (by rw [up_ne (by omega), gm_sst_p hg])) ?_
    refine sv_iconst (nI 1) dX6_sells_53 (by decide) ?_
    refine sv_icmpN_le 61 dX6_sells_54 (by decide) (by omega) (by omega) (fun c_54 => ?_) (fun c_54 => ?_)
    · refine sv_iconst (nI 0) dX6_sells_61 (by decide) ?_
      refine sv_isubN dX6_sells_62 (by omega) ?_
      refine rm_st1N dX6_sells_63 (by omega) ?_
      refine sv_heap (h' := (sm_om G h m F X (sm_as A (gm_sst (va_up S (13 + 8 * p + (1 + g)) (S (13 + 8 * p + (1 + g)) - n)) p g (k + 1))) L)) (om_S (gm_sst_s hg (by omega) (by omega))) ?_
      refine sv_iinc1 (lv' := [(4, _), (0, _), (1, _), (2, _), (3, _)]) dX6_sells_64 rfl (by decide) rfl ?_
      refine sv_goto 13 dX6_sells_67 (by decide) ?_
      exact sv_sub [0, 1, 2, 3, 4] rfl (ih trivial)
    · refine sv_iconst (nI 1) dX6_sells_57 (by decide) ?_
      refine sv_goto 62 dX6_sells_58 (by decide) ?_
      refine sv_isubN dX6_sells_62 (by omega) ?_
      refine rm_st1N dX6_sells_63 (by omega) ?_
      refine sv_heap (h' := (sm_om G h m F X (sm_as A (gm_sst (va_up S (13 + 8 * p + (1 + g)) (S (13 + 8 * p + (1 + g)) - n)) p g (k + 1))) L)) (om_S (gm_sst_s hg (by omega) (by omega))) ?_
      refine sv_iinc1 (lv' := [(4, _), (0, _), (1, _), (2, _), (3, _)]) dX6_sells_64 rfl (by decide) rfl ?_
      refine sv_goto 13 dX6_sells_67 (by decide) ?_
      exact sv_sub [0, 1, 2, 3, 4] rfl (ih trivial)
theorem c6_works {q c : Nat} (hq : q < 6) (hc : c < 24) (hg : q = 3 → c / 10 < 3 ∧ 1 ≤ c % 10 ∧ c % 10 ≤ 3) (hw : gm_wk S q c (S (13 + 8 * S 4)) = true) (h4 : S 4 < 4) (h5 : S 5 ≤ 6) (h7 : ∀ g, g < 3 → 1 ≤ S (7 + g) ∧ S (7 + g) ≤ 9) : sm_F G mX6_works 2 [.ref m, .int (nI q), .int (nI c)] (sm_om G h m F X (sm_as A S) L) (.inl none) (sm_om G h m F X (sm_as A (gm_do S q c)) L) := by
  unfold sm_F sm_C
  show sm_V G _ _ _ 0 0 0 [(0, .ref m), (1, .int (nI q)), (2, .int (nI c))] [] _
  have hw2 := of_decide_eq_true hw
  refine sv_aload_n dX6_works_0 rfl ?_
  refine rm_get1 rfl dX6_works_1 ?_
  refine sv_iconst (nI 4) dX6_works_4 (by decide) ?_
  refine rm_ld1N dX6_works_5 (by omega) ?_
  refine sv_istore_n (lv' := [(3, _), (0, _), (1, _), (2, _)]) dX6_works_6 (by decide) rfl ?_
  refine sv_iload_n dX6_works_7 rfl ?_
  rcases (show q = 0 ∨ q = 1 ∨ q = 2 ∨ q = 3 ∨ q = 4 ∨ q = 5 from by omega) with rfl | rfl | rfl | rfl | rfl | rfl
  · refine sv_tableIn (off := 36) 44 dX6_works_8 (by decide) (by decide) (by decide) (by decide) ?_
    refine sv_aload_n dX6_works_44 rfl ?_
    refine sv_iload_n dX6_works_45 rfl ?_
    refine sv_iconst (nI 1) dX6_works_46 (by decide) ?_
    refine sv_aload_n dX6_works_47 rfl ?_
    refine rm_get1 rfl dX6_works_48 ?_
    refine sv_iconst (nI 5) dX6_works_51 (by decide) ?_
    refine rm_ld1N dX6_works_52 (by omega) ?_
    refine sv_callV (As := [_, _, _]) sc_X6_85 (c6_adds (p := S 4) (w := 1) (n := S (13 + 8 * S 4 + 1) + S 5) (by omega) (nI_add _ _)) rfl rfl (Nat.le_of_ble_eq_true rfl) dX6_works_53 ⟨by decide, by decide⟩ ⟨Nat.le_refl _, Nat.le_refl _⟩ (Nat.le_of_ble_eq_true rfl) om_0 (List.cons_ne_nil _ _) rfl ?_
    refine sv_goto 162 dX6_works_56 (by decide) ?_
    refine sv_vret dX6_works_162 rfl (Nat.le_refl _) (Nat.le_refl _) ?_
    exact ⟨rfl, om_S rfl⟩
  · refine sv_tableIn (off := 51) 59 dX6_works_8 (by decide) (by decide) (by decide) (by decide) ?_
    refine sv_aload_n dX6_works_59 rfl ?_
    refine sv_iload_n dX6_works_60 rfl ?_
    refine sv_iconst (nI 2) dX6_works_61 (by decide) ?_
    refine sv_bipush (nI 7) dX6_works_62 (by decide) ?_
    refine sv_aload_n dX6_works_64 rfl ?_
    refine rm_get1 rfl dX6_works_65 ?_
    refine sv_iconst (nI 5) dX6_works_68 (by decide) ?_
    refine rm_ld1N dX6_works_69 (by omega) ?_
    refine sv_isubN dX6_works_70 (by omega) ?_
    refine sv_callV (As := [_, _, _]) sc_X6_85 (c6_adds (p := S 4) (w := 2) (n := S (13 + 8 * S 4 + 2) + (7 - S 5)) (by omega) (nI_add _ _)) rfl rfl (Nat.le_of_ble_eq_true rfl) dX6_works_71 ⟨by decide, by decide⟩ ⟨Nat.le_refl _, Nat.le_refl _⟩ (Nat.le_of_ble_eq_true rfl) om_0 (List.cons_ne_nil _ _) rfl ?_
    refine sv_goto 162 dX6_works_74 (by decide) ?_
    refine sv_vret dX6_works_162 rfl (Nat.le_refl _) (Nat.le_refl _) ?_
    exact ⟨rfl, om_S rfl⟩
  · refine sv_tableIn (off := 69) 77 dX6_works_8 (by decide) (by decide) (by decide) (by decide) ?_
    refine sv_aload_n dX6_works_77 rfl ?_
    refine sv_iload_n dX6_works_78 rfl ?_
    refine sv_iconst (nI 2) dX6_works_79 (by decide) ?_
    refine sv_iload_n dX6_works_80 rfl ?_
    refine sv_ineg dX6_works_81 ?_
    refine sv_callV (As := [_, _, _]) sc_X6_85 (c6_adds (p := S 4) (w := 2) (n := S (13 + 8 * S 4 + 2) - c) (by omega) (nI_neg (by omega))) rfl rfl (Nat.le_of_ble_eq_true rfl) dX6_works_82 ⟨by decide, by decide⟩ ⟨Nat.le_refl _, Nat.le_refl _⟩ (Nat.le_of_ble_eq_true rfl) om_0 (List.cons_ne_nil _ _) rfl ?_
    refine sv_aload_n dX6_works_85 rfl ?_
    refine sv_iload_n dX6_works_86 rfl ?_
    refine sv_iconst (nI 0) dX6_works_87 (by decide) ?_
    refine sv_iload_n dX6_works_88 rfl ?_
    refine sv_ineg dX6_works_89 ?_
    refine sv_callV (As := [_, _, _]) sc_X6_85 (c6_adds0 (p := S 4) (n := S (13 + 8 * S 4) - c) (by omega) (by rw [up_ne (by omega)]; exact nI_neg (by omega))) rfl rfl (Nat.le_of_ble_eq_true rfl) dX6_works_90 ⟨by decide, by decide⟩ ⟨Nat.le_refl _, Nat.le_refl _⟩ (Nat.le_of_ble_eq_true rfl) om_0 (List.cons_ne_nil _ _) rfl ?_
    refine sv_aload_n dX6_works_93 rfl ?_
    refine sv_iload_n dX6_works_94 rfl ?_
    refine sv_iconst (nI 3) dX6_works_95 (by decide) ?_
    refine sv_iconst (nI 2) dX6_works_96 (by decide) ?_
    refine sv_iload_n dX6_works_97 rfl ?_
    refine sv_imulN dX6_works_98 ?_
    refine sv_callV (As := [_, _, _]) sc_X6_85 (c6_adds (p := S 4) (w := 3) (n := S (13 + 8 * S 4 + 3) + 2 * c) (by omega) (by rw [up_ne (by omega), up_ne (by omega)]; exact nI_add _ _)) rfl rfl (Nat.le_of_ble_eq_true rfl) dX6_works_99 ⟨by decide, by decide⟩ ⟨Nat.le_refl _, Nat.le_refl _⟩ (Nat.le_of_ble_eq_true rfl) om_0 (List.cons_ne_nil _ _) rfl ?_
    refine sv_goto 162 dX6_works_102 (by decide) ?_
    refine sv_vret dX6_works_162 rfl (Nat.le_refl _) (Nat.le_refl _) ?_
    exact ⟨rfl, om_S rfl⟩
  · refine sv_tableIn (off := 97) 105 dX6_works_8 (by decide) (by decide) (by decide) (by decide) ?_
    refine sv_aload_n dX6_works_105 rfl ?_
    refine sv_iload_n dX6_works_106 rfl ?_
    refine sv_iload_n dX6_works_107 rfl ?_
    refine sv_bipush (nI 10) dX6_works_108 (by decide) ?_
    refine sv_idivN dX6_works_110 (by omega) (by omega) (by omega) ?_
    refine sv_iload_n dX6_works_111 rfl ?_
    refine sv_bipush (nI 10) dX6_works_112 (by decide) ?_
    refine sv_iremN dX6_works_114 (by omega) (by omega) (by omega) ?_
    refine sv_callV (As := [_, _, _]) sc_X6_120 (c6_sells (p := S 4) (g := c / 10) (n := c % 10) h4 (by omega) (by omega) (by omega) (h7 _ (by omega)).1 (h7 _ (by omega)).2) rfl rfl (Nat.le_of_ble_eq_true rfl) dX6_works_115 ⟨by decide, by decide⟩ ⟨Nat.le_refl _, Nat.le_refl _⟩ (Nat.le_of_ble_eq_true rfl) om_0 (List.cons_ne_nil _ _) rfl ?_
    refine sv_goto 162 dX6_works_118 (by decide) ?_
    refine sv_vret dX6_works_162 rfl (Nat.le_refl _) (Nat.le_refl _) ?_
    exact ⟨rfl, om_S rfl⟩
  · refine sv_tableIn (off := 113) 121 dX6_works_8 (by decide) (by decide) (by decide) (by decide) ?_
    refine sv_aload_n dX6_works_121 rfl ?_
    refine sv_iload_n dX6_works_122 rfl ?_
    refine sv_iconst (nI 0) dX6_works_123 (by decide) ?_
    refine sv_bipush (-5) dX6_works_124 (by decide) ?_
    refine sv_callV (As := [_, _, _]) sc_X6_85 (c6_adds0 (p := S 4) (n := S (13 + 8 * S 4) - 5) (by omega) (nI_n5 (by omega))) rfl rfl (Nat.le_of_ble_eq_true rfl) dX6_works_126 ⟨by decide, by decide⟩ ⟨Nat.le_refl _, Nat.le_refl _⟩ (Nat.le_of_ble_eq_true rfl) om_0 (List.cons_ne_nil _ _) rfl ?_
    refine sv_aload_n dX6_works_129 rfl ?_
    refine sv_iload_n dX6_works_130 rfl ?_
    refine sv_iconst (nI 5) dX6_works_131 (by decide) ?_
    refine sv_iconst (nI 1) dX6_works_132 (by decide) ?_
    refine sv_callV (As := [_, _, _]) sc_X6_85 (c6_adds (p := S 4) (w := 5) (n := S (13 + 8 * S 4 + 5) + 1) (by omega) (by rw [up_ne (by omega)]; exact nI_add _ _)) rfl rfl (Nat.le_of_ble_eq_true rfl) dX6_works_133 ⟨by decide, by decide⟩ ⟨Nat.le_refl _, Nat.le_refl _⟩ (Nat.le_of_ble_eq_true rfl) om_0 (List.cons_ne_nil _ _) rfl ?_
    refine sv_aload_n dX6_works_136 rfl ?_
    refine sv_iload_n dX6_works_137 rfl ?_
    refine sv_bipush (nI 6) dX6_works_138 (by decide) ?_
    refine sv_iconst (nI 1) dX6_works_140 (by decide) ?_
    refine sv_callV (As := [_, _, _]) sc_X6_85 (c6_adds (p := S 4) (w := 6) (n := S (13 + 8 * S 4 + 6) + 1) (by omega) (by rw [up_ne (by omega), up_ne (by omega)]; exact nI_add _ _)) rfl rfl (Nat.le_of_ble_eq_true rfl) dX6_works_141 ⟨by decide, by decide⟩ ⟨Nat.le_refl _, Nat.le_refl _⟩ (Nat.le_of_ble_eq_true rfl) om_0 (List.cons_ne_nil _ _) rfl ?_
    refine sv_goto 162 dX6_works_144 (by decide) ?_
    refine sv_vret dX6_works_162 rfl (Nat.le_refl _) (Nat.le_refl _) ?_
    exact ⟨rfl, om_S rfl⟩
  · refine sv_tableOut 147 dX6_works_8 (by decide) (by decide) ?_
    refine sv_aload_n dX6_works_147 rfl ?_
    refine sv_iload_n dX6_works_148 rfl ?_
    refine sv_iconst (nI 0) dX6_works_149 (by decide) ?_
    refine sv_bipush (-2) dX6_works_150 (by decide) ?_
    refine sv_callV (As := [_, _, _]) sc_X6_85 (c6_adds0 (p := S 4) (n := S (13 + 8 * S 4) - 2) (by omega) (nI_n2 (by omega))) rfl rfl (Nat.le_of_ble_eq_true rfl) dX6_works_152 ⟨by decide, by decide⟩ ⟨Nat.le_refl _, Nat.le_refl _⟩ (Nat.le_of_ble_eq_true rfl) om_0 (List.cons_ne_nil _ _) rfl ?_
    refine sv_aload_n dX6_works_155 rfl ?_
    refine sv_iload_n dX6_works_156 rfl ?_
    refine sv_iconst (nI 4) dX6_works_157 (by decide) ?_
    refine sv_iconst (nI 3) dX6_works_158 (by decide) ?_
    refine sv_callV (As := [_, _, _]) sc_X6_85 (c6_adds (p := S 4) (w := 4) (n := S (13 + 8 * S 4 + 4) + 3) (by omega) (by rw [up_ne (by omega)]; exact nI_add _ _)) rfl rfl (Nat.le_of_ble_eq_true rfl) dX6_works_159 ⟨by decide, by decide⟩ ⟨Nat.le_refl _, Nat.le_refl _⟩ (Nat.le_of_ble_eq_true rfl) om_0 (List.cons_ne_nil _ _) rfl ?_
    refine sv_vret dX6_works_162 rfl (Nat.le_refl _) (Nat.le_refl _) ?_
    exact ⟨rfl, om_S rfl⟩
end SR4
