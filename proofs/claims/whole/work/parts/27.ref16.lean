section SR16
variable {G : sm_G} {h : sm_H} {m : Nat} {F : Nat → Int32} {X : Nat → Int64} {A : Nat → Nat → Int32} {L : Nat → Nat → Int64} {S : Nat → Nat} {K : Nat}
theorem c6_save0 {w : Int32} (hw : gm_in (nI 0) w (nI 1) = false) : sm_F G mX6_save 1 [.ref m, .int w] (sm_om G h m F X (sm_as A S) L) (.inl (some (.int (nI 0)))) (sm_om G h m (va_up F 0 (nI 1)) X (sm_as A S) L) := by
  unfold sm_F sm_C
  show sm_V G _ _ _ 0 0 0 [(0, .ref m), (1, .int w)] [] _
  refine sv_aload_n dX6_save_0 rfl ?_
  refine sv_iconst (nI 0) dX6_save_1 (by decide) ?_
  refine rm_put0 rfl dX6_save_2 ?_
  refine sv_iload_n dX6_save_5 rfl ?_
  refine sv_iconst (nI 0) dX6_save_6 (by decide) ?_
  refine sv_iconst (nI 1) dX6_save_7 (by decide) ?_
  refine sv_callS (As := [_, _, _]) sc_X6_53 (c6_inG) rfl rfl (Nat.le_of_ble_eq_true rfl) dX6_save_8 ⟨by decide, by decide⟩ ⟨Nat.le_refl _, Nat.le_refl _⟩ (Nat.le_of_ble_eq_true rfl) ?_
  refine sv_ifN_ne 20 dX6_save_11 (by decide) (by first | omega | (have z := b2n_lt (gm_in (nI 0) w (nI 1)); omega)) (fun c_11 => absurd c_11 (fun z => z ((b2n_0 _).mpr hw))) (fun c_11 => ?_)
  refine sv_aload_n dX6_save_14 rfl ?_
  refine sv_iconst (nI 1) dX6_save_15 (by decide) ?_
  refine sv_callV (As := [_]) sc_X6_167 (c6_fails) rfl rfl (Nat.le_of_ble_eq_true rfl) dX6_save_16 ⟨by decide, by decide⟩ ⟨Nat.le_refl _, Nat.le_refl _⟩ (Nat.le_of_ble_eq_true rfl) om_0 (List.cons_ne_nil _ _) rfl ?_
  refine sv_iret dX6_save_19 rfl rfl (Nat.le_refl _) (Nat.le_refl _) ?_
  exact ⟨rfl, om_FXAL (up_up _ _ _ _) rfl rfl rfl⟩
theorem c6_restore0 {w : Int32} (hw : gm_in (nI 0) w (nI 1) = false) : sm_F G mX6_restore 1 [.ref m, .int w] (sm_om G h m F X (sm_as A S) L) (.inl (some (.int (nI 0)))) (sm_om G h m (va_up F 0 (nI 1)) X (sm_as A S) L) := by
  unfold sm_F sm_C
  show sm_V G _ _ _ 0 0 0 [(0, .ref m), (1, .int w)] [] _
  refine sv_aload_n dX6_restore_0 rfl ?_
  refine sv_iconst (nI 0) dX6_restore_1 (by decide) ?_
  refine rm_put0 rfl dX6_restore_2 ?_
  refine sv_iload_n dX6_restore_5 rfl ?_
  refine sv_iconst (nI 0) dX6_restore_6 (by decide) ?_
  refine sv_iconst (nI 1) dX6_restore_7 (by decide) ?_
  refine sv_callS (As := [_, _, _]) sc_X6_53 (c6_inG) rfl rfl (Nat.le_of_ble_eq_true rfl) dX6_restore_8 ⟨by decide, by decide⟩ ⟨Nat.le_refl _, Nat.le_refl _⟩ (Nat.le_of_ble_eq_true rfl) ?_
  refine sv_ifN_ne 20 dX6_restore_11 (by decide) (by first | omega | (have z := b2n_lt (gm_in (nI 0) w (nI 1)); omega)) (fun c_11 => absurd c_11 (fun z => z ((b2n_0 _).mpr hw))) (fun c_11 => ?_)
  refine sv_aload_n dX6_restore_14 rfl ?_
  refine sv_iconst (nI 1) dX6_restore_15 (by decide) ?_
  refine sv_callV (As := [_]) sc_X6_167 (c6_fails) rfl rfl (Nat.le_of_ble_eq_true rfl) dX6_restore_16 ⟨by decide, by decide⟩ ⟨Nat.le_refl _, Nat.le_refl _⟩ (Nat.le_of_ble_eq_true rfl) om_0 (List.cons_ne_nil _ _) rfl ?_
  refine sv_iret dX6_restore_19 rfl rfl (Nat.le_refl _) (Nat.le_refl _) ?_
  exact ⟨rfl, om_FXAL (up_up _ _ _ _) rfl rfl rfl⟩
theorem vn_1 : vp_nar .boolean (nI 1) = nI 1 := by decide
theorem vn_0 : vp_nar .boolean (nI 0) = nI 0 := by decide
/-- the reference's slots behind a saving -/
def gm_svA (k : Nat) (A : Nat → Nat → Int32) (S : gm_S) : Nat → Nat → Int32 := va_up (va_up A 6 (gm_w3 (A 6) k S 69)) 8 (va_up (A 8) k (nI 1))
theorem gm_sv_e (k : Nat) : va_up (sm_as (va_up A 6 (gm_w3 (A 6) k S 69)) S) 8 (va_up (sm_as (va_up A 6 (gm_w3 (A 6) k S 69)) S 8) k (vp_nar .boolean (nI 1))) = sm_as (gm_svA k A S) S := by
  rw [as_upk 8 (by omega), as_k 8 (by omega), up_ne (by omega), vn_1]; rfl
theorem c6_saveK {k : Nat} (hk : k < 2) : sm_F G mX6_save 1 [.ref m, .int (nI k)] (sm_om G h m F X (sm_as A S) L) (.inl (some (.int (nI (S 3))))) (sm_om G h m (va_up F 0 (nI 0)) X (sm_as (gm_svA k A S) S) (va_up L 7 (va_up (L 7) k (X 2)))) := by
  unfold sm_F sm_C
  show sm_V G _ _ _ 0 0 0 [(0, .ref m), (1, .int (nI k))] [] _
  refine sv_aload_n dX6_save_0 rfl ?_
  refine sv_iconst (nI 0) dX6_save_1 (by decide) ?_
  refine rm_put0 rfl dX6_save_2 ?_
  refine sv_iload_n dX6_save_5 rfl ?_
  refine sv_iconst (nI 0) dX6_save_6 (by decide) ?_
  refine sv_iconst (nI 1) dX6_save_7 (by decide) ?_
  refine sv_callS (As := [_, _, _]) sc_X6_53 (c6_in (by omega) (by omega) (by omega)) rfl rfl (Nat.le_of_ble_eq_true rfl) dX6_save_8 ⟨by decide, by decide⟩ ⟨Nat.le_refl _, Nat.le_refl _⟩ (Nat.le_of_ble_eq_true rfl) ?_
  refine sv_ifN_ne 20 dX6_save_11 (by decide) (by first | omega | exact Nat.lt_trans (b2n_lt _) (by decide)) (fun c_11 => ?_) (fun c_11 => absurd c_11 (by rw [b2n_0, decide_eq_false_iff_not]; omega))
  refine sv_iconst (nI 0) dX6_save_20 (by decide) ?_
  refine sv_istore_n (lv' := [(2, _), (0, _), (1, _)]) dX6_save_21 (by decide) rfl ?_
  refine sv_heap (h' := (sm_om G h m (va_up F 0 (nI 0)) X (sm_as (va_up A 6 (gm_w3 (A 6) k S 0)) S) L)) (om_FXAL rfl rfl (by rw [gm_w3_0, up_id]) rfl) ?_
  refine sv_sub [0, 1, 2] rfl (sv_loop (pc := 22) (lv := fun n => [(2, .int (nI n)), (0, .ref m), (1, .int (nI k))]) (hp := fun n => (sm_om G h m (va_up F 0 (nI 0)) X (sm_as (va_up A 6 (gm_w3 (A 6) k S n)) S) L)) (I := fun n => True) (N := 69) (trivial) ?_ ?_)
  · intro hI
    show sm_V G _ _ _ _ _ _ [(2, .int (nI 69)), (0, .ref m), (1, .int (nI k))] [] (sm_om G h m (va_up F 0 (nI 0)) X (sm_as (va_up A 6 (gm_w3 (A 6) k S 69)) S) L)
    refine sv_iload_n dX6_save_22 rfl ?_
    refine sv_bipush (nI 69) dX6_save_23 (by decide) ?_
    refine sv_icmpN_ge 51 dX6_save_25 (by decide) (by first | omega | exact Nat.lt_trans (b2n_lt _) (by decide)) (by first | omega | exact Nat.lt_trans (b2n_lt _) (by decide)) (fun c_25 => ?_) (fun c_25 => absurd c_25 (by omega))
    refine sv_aload_n dX6_save_51 rfl ?_
    refine rm_get7 rfl dX6_save_52 ?_
    refine sv_iload_n dX6_save_55 rfl ?_
    refine sv_aload_n dX6_save_56 rfl ?_
    refine rm_get2 rfl dX6_save_57 ?_
    refine rm_st7 dX6_save_60 (by first | omega | exact Nat.lt_trans (b2n_lt _) (by decide)) ?_
    refine sv_aload_n dX6_save_61 rfl ?_
    refine rm_get8 rfl dX6_save_62 ?_
    refine sv_iload_n dX6_save_65 rfl ?_
    refine sv_iconst (nI 1) dX6_save_66 (by decide) ?_
    refine rm_st8 dX6_save_67 (by first | omega | exact Nat.lt_trans (b2n_lt _) (by decide)) ?_
    refine sv_heap (h' := (sm_om G h m (va_up F 0 (nI 0)) X (sm_as (gm_svA k A S) S) (va_up L 7 (va_up (L 7) k (X 2))))) (om_FXAL rfl rfl (gm_sv_e k) rfl) ?_
    refine sv_aload_n dX6_save_68 rfl ?_
    refine rm_get1 rfl dX6_save_69 ?_
    refine sv_iconst (nI 3) dX6_save_72 (by decide) ?_
    refine rm_ld1N dX6_save_73 (by first | omega | exact Nat.lt_trans (b2n_lt _) (by decide)) ?_
    refine sv_iret dX6_save_74 rfl rfl (Nat.le_refl _) (Nat.le_refl _) ?_
    exact ⟨rfl, rfl⟩
  · intro n hn hI ih
    show sm_V G _ _ _ _ _ _ [(2, .int (nI n)), (0, .ref m), (1, .int (nI k))] [] (sm_om G h m (va_up F 0 (nI 0)) X (sm_as (va_up A 6 (gm_w3 (A 6) k S n)) S) L)
    refine sv_iload_n dX6_save_22 rfl ?_
    refine sv_bipush (nI 69) dX6_save_23 (by decide) ?_
    refine sv_icmpN_ge 51 dX6_save_25 (by decide) (by first | omega | exact Nat.lt_trans (b2n_lt _) (by decide)) (by first | omega | exact Nat.lt_trans (b2n_lt _) (by decide)) (fun c_25 => absurd c_25 (by omega)) (fun c_25 => ?_)
    refine sv_aload_n dX6_save_28 rfl ?_
    refine rm_get6 rfl dX6_save_29 ?_
    refine sv_bipush (nI 69) dX6_save_32 (by decide) ?_
    refine sv_iload_n dX6_save_34 rfl ?_
    refine sv_imulN dX6_save_35 ?_
    refine sv_iload_n dX6_save_36 rfl ?_
    refine sv_iaddN dX6_save_37 ?_
    refine sv_aload_n dX6_save_38 rfl ?_
    refine rm_get1 rfl dX6_save_39 ?_
    refine sv_iload_n dX6_save_42 rfl ?_
    refine rm_ld1N dX6_save_43 (by first | omega | exact Nat.lt_trans (b2n_lt _) (by decide)) ?_
    refine rm_st6 dX6_save_44 (by first | omega | exact Nat.lt_trans (b2n_lt _) (by decide)) ?_
    refine sv_heap (h' := (sm_om G h m (va_up F 0 (nI 0)) X (sm_as (va_up A 6 (gm_w3 (A 6) k S (n + 1))) S) L)) (om_FXAL rfl rfl (by rw [as_upkk 6 (by omega)]; exact congrArg (fun z => sm_as (va_up A 6 z) S) (gm_w3_s _ _ n)) rfl) ?_
    refine sv_iinc1 (lv' := [(2, _), (0, _), (1, _)]) dX6_save_45 rfl (by decide) rfl ?_
    refine sv_goto 22 dX6_save_48 (by decide) ?_
    exact sv_sub [0, 1, 2] rfl (ih trivial)
theorem c6_restoreE {k : Nat} (hk : k < 2) (h8 : A 8 k = nI 0) : sm_F G mX6_restore 1 [.ref m, .int (nI k)] (sm_om G h m F X (sm_as A S) L) (.inl (some (.int (nI 0)))) (sm_om G h m (va_up F 0 (nI 2)) X (sm_as A S) L) := by
  unfold sm_F sm_C
  show sm_V G _ _ _ 0 0 0 [(0, .ref m), (1, .int (nI k))] [] _
  refine sv_aload_n dX6_restore_0 rfl ?_
  refine sv_iconst (nI 0) dX6_restore_1 (by decide) ?_
  refine rm_put0 rfl dX6_restore_2 ?_
  refine sv_iload_n dX6_restore_5 rfl ?_
  refine sv_iconst (nI 0) dX6_restore_6 (by decide) ?_
  refine sv_iconst (nI 1) dX6_restore_7 (by decide) ?_
  refine sv_callS (As := [_, _, _]) sc_X6_53 (c6_in (by omega) (by omega) (by omega)) rfl rfl (Nat.le_of_ble_eq_true rfl) dX6_restore_8 ⟨by decide, by decide⟩ ⟨Nat.le_refl _, Nat.le_refl _⟩ (Nat.le_of_ble_eq_true rfl) ?_
  refine sv_ifN_ne 20 dX6_restore_11 (by decide) (by first | omega | exact Nat.lt_trans (b2n_lt _) (by decide)) (fun c_11 => ?_) (fun c_11 => absurd c_11 (by rw [b2n_0, decide_eq_false_iff_not]; omega))
  refine sv_aload_n dX6_restore_20 rfl ?_
  refine rm_get8 rfl dX6_restore_21 ?_
  refine sv_iload_n dX6_restore_24 rfl ?_
  refine rm_ld8 dX6_restore_25 (by first | omega | exact Nat.lt_trans (b2n_lt _) (by decide)) ?_
  refine sv_top (nI 0) ((congrFun (as_k 8 (by omega)) k).trans h8) ?_
  refine sv_ifN_ne 35 dX6_restore_26 (by decide) (by first | omega | exact Nat.lt_trans (b2n_lt _) (by decide)) (fun c_26 => absurd c_26 (by omega)) (fun c_26 => ?_)
  refine sv_aload_n dX6_restore_29 rfl ?_
  refine sv_iconst (nI 2) dX6_restore_30 (by decide) ?_
  refine sv_callV (As := [_]) sc_X6_167 (c6_fails) rfl rfl (Nat.le_of_ble_eq_true rfl) dX6_restore_31 ⟨by decide, by decide⟩ ⟨Nat.le_refl _, Nat.le_refl _⟩ (Nat.le_of_ble_eq_true rfl) om_0 (List.cons_ne_nil _ _) rfl ?_
  refine sv_iret dX6_restore_34 rfl rfl (Nat.le_refl _) (Nat.le_refl _) ?_
  exact ⟨rfl, om_FXAL (up_up _ _ _ _) rfl rfl rfl⟩
theorem c6_restoreK {k : Nat} {T : gm_S} (hk : k < 2) (h8 : A 8 k = nI 1) (hT : ∀ i, i < 69 → A 6 (69 * k + i) = nI (T i)) (hT2 : ∀ i, 69 ≤ i → S i = T i) : sm_F G mX6_restore 1 [.ref m, .int (nI k)] (sm_om G h m F X (sm_as A S) L) (.inl (some (.int (nI (T 3))))) (sm_om G h m (va_up (va_up F 0 (nI 0)) 5 (nI 0)) (va_up X 2 (L 7 k)) (sm_as A T) L) := by
  unfold sm_F sm_C
  show sm_V G _ _ _ 0 0 0 [(0, .ref m), (1, .int (nI k))] [] _
  refine sv_aload_n dX6_restore_0 rfl ?_
  refine sv_iconst (nI 0) dX6_restore_1 (by decide) ?_
  refine rm_put0 rfl dX6_restore_2 ?_
  refine sv_iload_n dX6_restore_5 rfl ?_
  refine sv_iconst (nI 0) dX6_restore_6 (by decide) ?_
  refine sv_iconst (nI 1) dX6_restore_7 (by decide) ?_
  refine sv_callS (As := [_, _, _]) sc_X6_53 (c6_in (by omega) (by omega) (by omega)) rfl rfl (Nat.le_of_ble_eq_true rfl) dX6_restore_8 ⟨by decide, by decide⟩ ⟨Nat.le_refl _, Nat.le_refl _⟩ (Nat.le_of_ble_eq_true rfl) ?_
  refine sv_ifN_ne 20 dX6_restore_11 (by decide) (by first | omega | exact Nat.lt_trans (b2n_lt _) (by decide)) (fun c_11 => ?_) (fun c_11 => absurd c_11 (by rw [b2n_0, decide_eq_false_iff_not]; omega))
  refine sv_aload_n dX6_restore_20 rfl ?_
  refine rm_get8 rfl dX6_restore_21 ?_
  refine sv_iload_n dX6_restore_24 rfl ?_
  refine rm_ld8 dX6_restore_25 (by first | omega | exact Nat.lt_trans (b2n_lt _) (by decide)) ?_
  refine sv_top (nI 1) ((congrFun (as_k 8 (by omega)) k).trans h8) ?_
  refine sv_ifN_ne 35 dX6_restore_26 (by decide) (by first | omega | exact Nat.lt_trans (b2n_lt _) (by decide)) (fun c_26 => ?_) (fun c_26 => absurd c_26 (by omega))
  refine sv_iconst (nI 0) dX6_restore_35 (by decide) ?_
  refine sv_istore_n (lv' := [(2, _), (0, _), (1, _)]) dX6_restore_36 (by decide) rfl ?_
  refine sv_heap (h' := (sm_om G h m (va_up F 0 (nI 0)) X (sm_as A (gm_bkN T S 0)) L)) (om_S (gm_bkN_0 T).symm) ?_
  refine sv_sub [0, 1, 2] rfl (sv_loop (pc := 37) (lv := fun n => [(2, .int (nI n)), (0, .ref m), (1, .int (nI k))]) (hp := fun n => (sm_om G h m (va_up F 0 (nI 0)) X (sm_as A (gm_bkN T S n)) L)) (I := fun n => True) (N := 69) (trivial) ?_ ?_)
  · intro hI
    show sm_V G _ _ _ _ _ _ [(2, .int (nI 69)), (0, .ref m), (1, .int (nI k))] [] (sm_om G h m (va_up F 0 (nI 0)) X (sm_as A (gm_bkN T S 69)) L)
    refine sv_iload_n dX6_restore_37 rfl ?_
    refine sv_bipush (nI 69) dX6_restore_38 (by decide) ?_
    refine sv_icmpN_ge 66 dX6_restore_40 (by decide) (by first | omega | exact Nat.lt_trans (b2n_lt _) (by decide)) (by first | omega | exact Nat.lt_trans (b2n_lt _) (by decide)) (fun c_40 => ?_) (fun c_40 => absurd c_40 (by omega))
    refine sv_heap (h' := (sm_om G h m (va_up F 0 (nI 0)) X (sm_as A T) L)) (om_S (gm_bkN_69 hT2)) ?_
    refine sv_aload_n dX6_restore_66 rfl ?_
    refine sv_aload_n dX6_restore_67 rfl ?_
    refine rm_get7 rfl dX6_restore_68 ?_
    refine sv_iload_n dX6_restore_71 rfl ?_
    refine rm_ld7 dX6_restore_72 (by first | omega | exact Nat.lt_trans (b2n_lt _) (by decide)) ?_
    refine rm_put2 rfl dX6_restore_73 ?_
    refine sv_aload_n dX6_restore_76 rfl ?_
    refine sv_iconst (nI 0) dX6_restore_77 (by decide) ?_
    refine rm_put5 rfl dX6_restore_78 ?_
    refine sv_aload_n dX6_restore_81 rfl ?_
    refine rm_get1 rfl dX6_restore_82 ?_
    refine sv_iconst (nI 3) dX6_restore_85 (by decide) ?_
    refine rm_ld1N dX6_restore_86 (by first | omega | exact Nat.lt_trans (b2n_lt _) (by decide)) ?_
    refine sv_iret dX6_restore_87 rfl rfl (Nat.le_refl _) (Nat.le_refl _) ?_
    exact ⟨rfl, rfl⟩
  · intro n hn hI ih
    show sm_V G _ _ _ _ _ _ [(2, .int (nI n)), (0, .ref m), (1, .int (nI k))] [] (sm_om G h m (va_up F 0 (nI 0)) X (sm_as A (gm_bkN T S n)) L)
    refine sv_iload_n dX6_restore_37 rfl ?_
    refine sv_bipush (nI 69) dX6_restore_38 (by decide) ?_
    refine sv_icmpN_ge 66 dX6_restore_40 (by decide) (by first | omega | exact Nat.lt_trans (b2n_lt _) (by decide)) (by first | omega | exact Nat.lt_trans (b2n_lt _) (by decide)) (fun c_40 => absurd c_40 (by omega)) (fun c_40 => ?_)
    refine sv_aload_n dX6_restore_43 rfl ?_
    refine rm_get1 rfl dX6_restore_44 ?_
    refine sv_iload_n dX6_restore_47 rfl ?_
    refine sv_aload_n dX6_restore_48 rfl ?_
    refine rm_get6 rfl dX6_restore_49 ?_
    refine sv_bipush (nI 69) dX6_restore_52 (by decide) ?_
    refine sv_iload_n dX6_restore_54 rfl ?_
    refine sv_imulN dX6_restore_55 ?_
    refine sv_iload_n dX6_restore_56 rfl ?_
    refine sv_iaddN dX6_restore_57 ?_
    refine rm_ld6 dX6_restore_58 (by first | omega | exact Nat.lt_trans (b2n_lt _) (by decide)) ?_
    refine rm_st1 dX6_restore_59 (by first | omega | exact Nat.lt_trans (b2n_lt _) (by decide)) ?_
    refine sv_heap (h' := (sm_om G h m (va_up F 0 (nI 0)) X (sm_as A (gm_bkN T S (n + 1))) L)) (om_FXAL rfl rfl (om_tk (by omega) hT hn) rfl) ?_
    refine sv_iinc1 (lv' := [(2, _), (0, _), (1, _)]) dX6_restore_60 rfl (by decide) rfl ?_
    refine sv_goto 37 dX6_restore_63 (by decide) ?_
    exact sv_sub [0, 1, 2] rfl (ih trivial)
theorem c6_clearText  : sm_F G mX6_clearText 0 [.ref m] (sm_om G h m F X (sm_as A S) L) (.inl (some (.int (F 10)))) (sm_om G h m (va_up (va_up F 0 (nI 0)) 10 (nI 0)) X (sm_as A S) L) := by
  unfold sm_F sm_C
  show sm_V G _ _ _ 0 0 0 [(0, .ref m)] [] _
  refine sv_aload_n dX6_clearText_0 rfl ?_
  refine sv_iconst (nI 0) dX6_clearText_1 (by decide) ?_
  refine rm_put0 rfl dX6_clearText_2 ?_
  refine sv_aload_n dX6_clearText_5 rfl ?_
  refine rm_get10 rfl dX6_clearText_6 ?_
  refine sv_istore_n (lv' := [(1, _), (0, _)]) dX6_clearText_9 (by decide) rfl ?_
  refine sv_aload_n dX6_clearText_10 rfl ?_
  refine sv_iconst (nI 0) dX6_clearText_11 (by decide) ?_
  refine rm_put10 rfl dX6_clearText_12 ?_
  refine sv_iload_n dX6_clearText_15 rfl ?_
  refine sv_iret dX6_clearText_16 rfl rfl (Nat.le_refl _) (Nat.le_refl _) ?_
  exact ⟨rI (up_ne (by omega)), rfl⟩
theorem c6_append1 {c : Int32} (hc : gm_in (nI 0) c (nI 255) = false) : sm_F G mX6_append 1 [.ref m, .int c] (sm_om G h m F X (sm_as A S) L) (.inl (some (.int (nI 0)))) (sm_om G h m (va_up F 0 (nI 1)) X (sm_as A S) L) := by
  unfold sm_F sm_C
  show sm_V G _ _ _ 0 0 0 [(0, .ref m), (1, .int c)] [] _
  refine sv_aload_n dX6_append_0 rfl ?_
  refine sv_iconst (nI 0) dX6_append_1 (by decide) ?_
  refine rm_put0 rfl dX6_append_2 ?_
  refine sv_iload_n dX6_append_5 rfl ?_
  refine sv_iconst (nI 0) dX6_append_6 (by decide) ?_
  refine sv_sipush (nI 255) dX6_append_7 (by decide) ?_
  refine sv_callS (As := [_, _, _]) sc_X6_53 (c6_inG) rfl rfl (Nat.le_of_ble_eq_true rfl) dX6_append_10 ⟨by decide, by decide⟩ ⟨Nat.le_refl _, Nat.le_refl _⟩ (Nat.le_of_ble_eq_true rfl) ?_
  refine sv_ifN_ne 22 dX6_append_13 (by decide) (by first | omega | (have z := b2n_lt (gm_in (nI 0) c (nI 255)); omega)) (fun c_13 => absurd c_13 (fun z => z ((b2n_0 _).mpr hc))) (fun c_13 => ?_)
  refine sv_aload_n dX6_append_16 rfl ?_
  refine sv_iconst (nI 1) dX6_append_17 (by decide) ?_
  refine sv_callV (As := [_]) sc_X6_167 (c6_fails) rfl rfl (Nat.le_of_ble_eq_true rfl) dX6_append_18 ⟨by decide, by decide⟩ ⟨Nat.le_refl _, Nat.le_refl _⟩ (Nat.le_of_ble_eq_true rfl) om_0 (List.cons_ne_nil _ _) rfl ?_
  refine sv_iret dX6_append_21 rfl rfl (Nat.le_refl _) (Nat.le_refl _) ?_
  exact ⟨rfl, om_FXAL (up_up _ _ _ _) rfl rfl rfl⟩
theorem c6_append2 {c : Int32} (hc : gm_in (nI 0) c (nI 255) = true) (hf : F 10 = nI 120) : sm_F G mX6_append 1 [.ref m, .int c] (sm_om G h m F X (sm_as A S) L) (.inl (some (.int (nI 0)))) (sm_om G h m (va_up F 0 (nI 2)) X (sm_as A S) L) := by
  unfold sm_F sm_C
  show sm_V G _ _ _ 0 0 0 [(0, .ref m), (1, .int c)] [] _
  refine sv_aload_n dX6_append_0 rfl ?_
  refine sv_iconst (nI 0) dX6_append_1 (by decide) ?_
  refine rm_put0 rfl dX6_append_2 ?_
  refine sv_iload_n dX6_append_5 rfl ?_
  refine sv_iconst (nI 0) dX6_append_6 (by decide) ?_
  refine sv_sipush (nI 255) dX6_append_7 (by decide) ?_
  refine sv_callS (As := [_, _, _]) sc_X6_53 (c6_inG) rfl rfl (Nat.le_of_ble_eq_true rfl) dX6_append_10 ⟨by decide, by decide⟩ ⟨Nat.le_refl _, Nat.le_refl _⟩ (Nat.le_of_ble_eq_true rfl) ?_
  refine sv_ifN_ne 22 dX6_append_13 (by decide) (by first | omega | (have z := b2n_lt (gm_in (nI 0) c (nI 255)); omega)) (fun c_13 => ?_) (fun c_13 => absurd c_13 (fun z => by rw [(b2n_0 _).mp z] at hc; cases hc))
  refine sv_aload_n dX6_append_22 rfl ?_
  refine rm_get10 rfl dX6_append_23 ?_
  refine sv_top (nI 120) ((up_ne (by omega)).trans hf) ?_
  refine sv_bipush (nI 120) dX6_append_26 (by decide) ?_
  refine sv_icmpN_ne 37 dX6_append_28 (by decide) (by first | omega | (have z := b2n_lt (gm_in (nI 0) c (nI 255)); omega)) (by first | omega | (have z := b2n_lt (gm_in (nI 0) c (nI 255)); omega)) (fun c_28 => absurd c_28 (by omega)) (fun c_28 => ?_)
  refine sv_aload_n dX6_append_31 rfl ?_
  refine sv_iconst (nI 2) dX6_append_32 (by decide) ?_
  refine sv_callV (As := [_]) sc_X6_167 (c6_fails) rfl rfl (Nat.le_of_ble_eq_true rfl) dX6_append_33 ⟨by decide, by decide⟩ ⟨Nat.le_refl _, Nat.le_refl _⟩ (Nat.le_of_ble_eq_true rfl) om_0 (List.cons_ne_nil _ _) rfl ?_
  refine sv_iret dX6_append_36 rfl rfl (Nat.le_refl _) (Nat.le_refl _) ?_
  exact ⟨rfl, om_FXAL (up_up _ _ _ _) rfl rfl rfl⟩
theorem c6_appendK {c : Int32} {k : Nat} (hc : gm_in (nI 0) c (nI 255) = true) (hf : F 10 = nI k) (hk : k < 120) : sm_F G mX6_append 1 [.ref m, .int c] (sm_om G h m F X (sm_as A S) L) (.inl (some (.int (nI (k + 1))))) (sm_om G h m (va_up (va_up F 0 (nI 0)) 10 (nI (k + 1))) X (sm_as (va_up A 9 (va_up (A 9) k c)) S) L) := by
  unfold sm_F sm_C
  show sm_V G _ _ _ 0 0 0 [(0, .ref m), (1, .int c)] [] _
  refine sv_aload_n dX6_append_0 rfl ?_
  refine sv_iconst (nI 0) dX6_append_1 (by decide) ?_
  refine rm_put0 rfl dX6_append_2 ?_
  refine sv_iload_n dX6_append_5 rfl ?_
  refine sv_iconst (nI 0) dX6_append_6 (by decide) ?_
  refine sv_sipush (nI 255) dX6_append_7 (by decide) ?_
  refine sv_callS (As := [_, _, _]) sc_X6_53 (c6_inG) rfl rfl (Nat.le_of_ble_eq_true rfl) dX6_append_10 ⟨by decide, by decide⟩ ⟨Nat.le_refl _, Nat.le_refl _⟩ (Nat.le_of_ble_eq_true rfl) ?_
  refine sv_ifN_ne 22 dX6_append_13 (by decide) (by first | omega | (have z := b2n_lt (gm_in (nI 0) c (nI 255)); omega)) (fun c_13 => ?_) (fun c_13 => absurd c_13 (fun z => by rw [(b2n_0 _).mp z] at hc; cases hc))
  refine sv_aload_n dX6_append_22 rfl ?_
  refine rm_get10 rfl dX6_append_23 ?_
  refine sv_top (nI k) ((up_ne (by omega)).trans hf) ?_
  refine sv_bipush (nI 120) dX6_append_26 (by decide) ?_
  refine sv_icmpN_ne 37 dX6_append_28 (by decide) (by first | omega | (have z := b2n_lt (gm_in (nI 0) c (nI 255)); omega)) (by first | omega | (have z := b2n_lt (gm_in (nI 0) c (nI 255)); omega)) (fun c_28 => ?_) (fun c_28 => absurd c_28 (by omega))
  refine sv_aload_n dX6_append_37 rfl ?_
  refine rm_get9 rfl dX6_append_38 ?_
  refine sv_aload_n dX6_append_41 rfl ?_
  refine rm_get10 rfl dX6_append_42 ?_
  refine sv_top (nI k) ((up_ne (by omega)).trans hf) ?_
  refine sv_iload_n dX6_append_45 rfl ?_
  refine rm_st9 dX6_append_46 (by first | omega | (have z := b2n_lt (gm_in (nI 0) c (nI 255)); omega)) ?_
  refine sv_aload_n dX6_append_47 rfl ?_
  refine sv_dup dX6_append_48 rfl ?_
  refine rm_get10 rfl dX6_append_49 ?_
  refine sv_top (nI k) ((up_ne (by omega)).trans hf) ?_
  refine sv_iconst (nI 1) dX6_append_52 (by decide) ?_
  refine sv_iaddN dX6_append_53 ?_
  refine rm_put10 rfl dX6_append_54 ?_
  refine sv_aload_n dX6_append_57 rfl ?_
  refine rm_get10 rfl dX6_append_58 ?_
  refine sv_top (nI (k + 1)) (up_eq) ?_
  refine sv_iret dX6_append_61 rfl rfl (Nat.le_refl _) (Nat.le_refl _) ?_
  exact ⟨rfl, om_FXAL rfl rfl (by rw [as_upk 9 (by omega), as_k 9 (by omega)]) rfl⟩
end SR16
