section CP1
variable {G : sm_G} {h : sm_H} {a b n g : Nat} {P P2 : Nat → Nat} {c : Nat} {O : Nat → Nat}
def cp_tot (P : Nat → Nat) : Nat := P 0 + P 1 + P 2 + 2 * P 3 + 3 * P 5
def cp_ov (P : Nat → Nat) : Nat := P 1 + P 2 + P 3 - P 4
def cp_lf (P : Nat → Nat) : Nat := min (cp_ov P) (P 2)
def cp_lr (P : Nat → Nat) : Nat := min (cp_ov P - cp_lf P) (P 1)
def cp_lc (P : Nat → Nat) : Nat := cp_ov P - cp_lf P - cp_lr P
def cp_ls (P : Nat → Nat) (wx : Nat) : Nat := cp_lr P + (if wx = 1 then (P 1 - cp_lr P + 1) / 2 else 0)
/-- what stays at the end of a round -/
def cp_en (P : Nat → Nat) (wx : Nat) : Nat → Nat := fun w => if w = 1 then P 1 - cp_ls P wx else if w = 2 then P 2 - cp_lf P else if w = 3 then P 3 - cp_lc P else P w
def cp_gn (P : Nat → Nat) (g : Nat) : Nat := min (cp_ov P) (P (1 + g))
def cp_st (s : (Nat → Nat) × Nat) (g : Nat) : (Nat → Nat) × Nat := (va_up s.1 (1 + g) (s.1 (1 + g) - cp_gn s.1 g), s.2 + cp_gn s.1 g)
def cp_or (n : Nat) : Nat := if n = 0 then 1 else if n = 1 then 0 else 2
def cp_lo (P : Nat → Nat) : Nat → (Nat → Nat) × Nat
  | 0 => (P, 0)
  | n + 1 => cp_st (cp_lo P n) (cp_or n)
theorem cp_lo_0 {n g : Nat} (hg : cp_or n = g) (e : cp_gn (cp_lo P n).1 g = 0) : cp_lo P (n + 1) = cp_lo P n := by
  show cp_st (cp_lo P n) (cp_or n) = _
  rw [hg]; unfold cp_st; rw [e, Nat.sub_zero, up_id]; rfl
theorem cp_lo_o {n w : Nat} (hw : w = 0 ∨ 4 ≤ w) : (cp_lo P n).1 w = P w := by
  induction n with
  | zero => rfl
  | succ n ih =>
    show va_up (cp_lo P n).1 (1 + cp_or n) _ w = P w
    rw [up_ne (by unfold cp_or; (repeat' split) <;> omega), ih]
theorem cp_lo_le {n w : Nat} : (cp_lo P n).1 w ≤ P w := by
  induction n with
  | zero => exact Nat.le_refl _
  | succ n ih =>
    show va_up (cp_lo P n).1 (1 + cp_or n) _ w ≤ P w
    unfold va_up; split
    · rename_i e; subst e; omega
    · exact ih
theorem cp_lo_3 : (cp_lo P 3).2 = cp_lf P + cp_lr P + cp_lc P ∧ (cp_lo P 3).1 1 = P 1 - cp_lr P ∧ (cp_lo P 3).1 2 = P 2 - cp_lf P ∧ (cp_lo P 3).1 3 = P 3 - cp_lc P := by
  have a1 : cp_lo P 1 = (va_up P 2 (P 2 - cp_lf P), cp_lf P) := by
    show ((va_up P 2 (P 2 - min (cp_ov P) (P 2)), 0 + min (cp_ov P) (P 2)) : (Nat → Nat) × Nat) = _
    rw [Nat.zero_add]; rfl
  have e1 : cp_ov (va_up P 2 (P 2 - cp_lf P)) = cp_ov P - cp_lf P := by
    unfold cp_ov; rw [up_ne (by omega), up_eq, up_ne (by omega), up_ne (by omega)]
    unfold cp_lf cp_ov; omega
  have a2 : cp_lo P 2 = (va_up (va_up P 2 (P 2 - cp_lf P)) 1 (P 1 - cp_lr P), cp_lf P + cp_lr P) := by
    show cp_st (cp_lo P 1) 0 = _
    rw [a1]; unfold cp_st cp_gn
    simp only
    rw [e1, show va_up P 2 (P 2 - cp_lf P) (1 + 0) = P 1 from up_ne (by omega)]; rfl
  have e2 : cp_gn (cp_lo P 2).1 2 = cp_lc P := by
    rw [a2]; unfold cp_gn
    simp only
    rw [show va_up (va_up P 2 (P 2 - cp_lf P)) 1 (P 1 - cp_lr P) (1 + 2) = P 3 by rw [up_ne (by omega), up_ne (by omega)]]
    have : cp_ov (va_up (va_up P 2 (P 2 - cp_lf P)) 1 (P 1 - cp_lr P)) = cp_ov P - cp_lf P - cp_lr P := by
      unfold cp_ov; rw [up_eq, up_ne (by omega), up_eq, up_ne (by omega), up_ne (by omega), up_ne (by omega), up_ne (by omega)]
      unfold cp_lr cp_lf cp_ov; omega
    rw [this]; unfold cp_lc cp_lr cp_lf cp_ov; omega
  refine ⟨?_, ?_, ?_, ?_⟩
  · show (cp_lo P 2).2 + cp_gn (cp_lo P 2).1 2 = _
    rw [e2, a2]
  · show va_up (cp_lo P 2).1 (1 + 2) ((cp_lo P 2).1 (1 + 2) - cp_gn (cp_lo P 2).1 2) 1 = _
    rw [up_ne (by omega), a2]; show va_up (va_up P 2 (P 2 - cp_lf P)) 1 (P 1 - cp_lr P) 1 = _; exact up_eq
  · show va_up (cp_lo P 2).1 (1 + 2) ((cp_lo P 2).1 (1 + 2) - cp_gn (cp_lo P 2).1 2) 2 = _
    rw [up_ne (by omega), a2]; show va_up (va_up P 2 (P 2 - cp_lf P)) 1 (P 1 - cp_lr P) 2 = _; rw [up_ne (by omega)]; exact up_eq
  · show va_up (cp_lo P 2).1 (1 + 2) ((cp_lo P 2).1 (1 + 2) - cp_gn (cp_lo P 2).1 2) 3 = _
    rw [e2, a2]; refine up_eq.trans ?_
    show va_up (va_up P 2 (P 2 - cp_lf P)) 1 (P 1 - cp_lr P) 3 - cp_lc P = _
    rw [up_ne (by omega), up_ne (by omega)]
def cp_nr (P : Nat → Nat) (n : Nat) : Nat := if n = 8 then cp_tot P else if n = 7 then b2n (decide (P 7 ≠ 0)) else P n
theorem cp_nr_1 (h : b2n (decide (P 7 ≠ 0)) ≠ 0) : 1 = cp_nr P 7 := by show 1 = b2n _; have := b2n_lt (decide (P 7 ≠ 0)); omega
theorem cp_nr_0 (h : b2n (decide (P 7 ≠ 0)) = 0) : 0 = cp_nr P 7 := h.symm
theorem k3_total (hp : cl_hp G h a P) : sm_F G mX3_total 0 [.ref a] h (.inl (some (.int (nI (cp_tot P))))) h := by
  unfold sm_F sm_C
  show sm_V G _ _ _ 0 0 0 [(0, .ref a)] [] _
  refine sv_aload_n dX3_total_0 rfl ?_
  refine kp_g1 hp dX3_total_1 sf_X3_15 ?_
  refine sv_aload_n dX3_total_4 rfl ?_
  refine kp_g0 hp dX3_total_5 sf_X3_9 ?_
  refine sv_iconst (nI 0) dX3_total_8 (by decide) ?_
  refine kp_ld0 hp dX3_total_9 ?_
  refine sv_iaddN dX3_total_10 ?_
  refine sv_aload_n dX3_total_11 rfl ?_
  refine kp_g0 hp dX3_total_12 sf_X3_9 ?_
  refine sv_iconst (nI 1) dX3_total_15 (by decide) ?_
  refine kp_ld1 hp dX3_total_16 ?_
  refine sv_iaddN dX3_total_17 ?_
  refine sv_iconst (nI 2) dX3_total_18 (by decide) ?_
  refine sv_aload_n dX3_total_19 rfl ?_
  refine kp_g0 hp dX3_total_20 sf_X3_9 ?_
  refine sv_iconst (nI 2) dX3_total_23 (by decide) ?_
  refine kp_ld2 hp dX3_total_24 ?_
  refine sv_imulN dX3_total_25 ?_
  refine sv_iaddN dX3_total_26 ?_
  refine sv_iconst (nI 3) dX3_total_27 (by decide) ?_
  refine sv_aload_n dX3_total_28 rfl ?_
  refine kp_g3 hp dX3_total_29 sf_X3_22 ?_
  refine sv_imulN dX3_total_32 ?_
  refine sv_iaddN dX3_total_33 ?_
  refine sv_iret dX3_total_34 rfl rfl (Nat.le_refl _) (Nat.le_refl _) ?_
  exact ⟨rfl, rfl⟩
theorem k3_isReady (hp : cl_hp G h a P) (h6 : P 6 < 2 ^ 31) : sm_F G mX3_isReady 0 [.ref a] h (.inl (some (.int (nI (b2n (decide (0 < P 6 ∧ P 7 = 0))))))) h := by
  unfold sm_F sm_C
  show sm_V G _ _ _ 0 0 0 [(0, .ref a)] [] _
  refine sv_aload_n dX3_isReady_0 rfl ?_
  refine kp_g4 hp dX3_isReady_1 sf_X3_25 ?_
  refine sv_ifN_le 18 dX3_isReady_4 (by decide) (by first | omega | exact Nat.lt_trans (b2n_lt _) (by decide)) (fun c_4 => ?_) (fun c_4 => ?_)
  · refine sv_iconst (nI 0) dX3_isReady_18 (by decide) ?_
    refine sv_iret dX3_isReady_19 rfl rfl (Nat.le_refl _) (Nat.le_refl _) ?_
    exact ⟨by first | exact rt1 ⟨by omega, Classical.byContradiction fun q => by simp [b2n, q] at c_11⟩ | exact rf0 (fun q => by first | omega | (simp [b2n, q.2] at c_11)), rfl⟩
  · refine sv_aload_n dX3_isReady_7 rfl ?_
    refine kp_g5 hp dX3_isReady_8 sf_X3_28 ?_
    refine sv_ifN_ne 18 dX3_isReady_11 (by decide) (by first | omega | exact Nat.lt_trans (b2n_lt _) (by decide)) (fun c_11 => ?_) (fun c_11 => ?_)
    · refine sv_iconst (nI 0) dX3_isReady_18 (by decide) ?_
      refine sv_iret dX3_isReady_19 rfl rfl (Nat.le_refl _) (Nat.le_refl _) ?_
      exact ⟨by first | exact rt1 ⟨by omega, Classical.byContradiction fun q => by simp [b2n, q] at c_11⟩ | exact rf0 (fun q => by first | omega | (simp [b2n, q.2] at c_11)), rfl⟩
    · refine sv_iconst (nI 1) dX3_isReady_14 (by decide) ?_
      refine sv_goto 19 dX3_isReady_15 (by decide) ?_
      refine sv_iret dX3_isReady_19 rfl rfl (Nat.le_refl _) (Nat.le_refl _) ?_
      exact ⟨by first | exact rt1 ⟨by omega, Classical.byContradiction fun q => by simp [b2n, q] at c_11⟩ | exact rf0 (fun q => by first | omega | (simp [b2n, q.2] at c_11)), rfl⟩
theorem k3_number (hp : cl_hp G h a P) (hn : n ≤ 8) : sm_F G mX3_number 1 [.ref a, .int (nI n)] h (.inl (some (.int (nI (cp_nr P n))))) h := by
  unfold sm_F sm_C
  show sm_V G _ _ _ 0 0 0 [(0, .ref a), (1, .int (nI n))] [] _
  refine sv_iload_n dX3_number_0 rfl ?_
  rcases (show n = 0 ∨ n = 1 ∨ n = 2 ∨ n = 3 ∨ n = 4 ∨ n = 5 ∨ n = 6 ∨ n = 7 ∨ n = 8 from by omega) with rfl | rfl | rfl | rfl | rfl | rfl | rfl | rfl | rfl
  · refine sv_tableIn (off := 47) 48 dX3_number_1 (by decide) (by decide) (by decide) (by decide) ?_
    refine sv_aload_n dX3_number_48 rfl ?_
    refine kp_g1 hp dX3_number_49 sf_X3_15 ?_
    refine sv_iret dX3_number_52 rfl rfl (Nat.le_refl _) (Nat.le_refl _) ?_
    exact ⟨by first | rfl | exact ri (cp_nr_1 c_93) | exact ri (cp_nr_0 c_93), rfl⟩
  · refine sv_tableIn (off := 52) 53 dX3_number_1 (by decide) (by decide) (by decide) (by decide) ?_
    refine sv_aload_n dX3_number_53 rfl ?_
    refine kp_g0 hp dX3_number_54 sf_X3_9 ?_
    refine sv_iconst (nI 0) dX3_number_57 (by decide) ?_
    refine kp_ld0 hp dX3_number_58 ?_
    refine sv_iret dX3_number_59 rfl rfl (Nat.le_refl _) (Nat.le_refl _) ?_
    exact ⟨by first | rfl | exact ri (cp_nr_1 c_93) | exact ri (cp_nr_0 c_93), rfl⟩
  · refine sv_tableIn (off := 59) 60 dX3_number_1 (by decide) (by decide) (by decide) (by decide) ?_
    refine sv_aload_n dX3_number_60 rfl ?_
    refine kp_g0 hp dX3_number_61 sf_X3_9 ?_
    refine sv_iconst (nI 1) dX3_number_64 (by decide) ?_
    refine kp_ld1 hp dX3_number_65 ?_
    refine sv_iret dX3_number_66 rfl rfl (Nat.le_refl _) (Nat.le_refl _) ?_
    exact ⟨by first | rfl | exact ri (cp_nr_1 c_93) | exact ri (cp_nr_0 c_93), rfl⟩
  · refine sv_tableIn (off := 66) 67 dX3_number_1 (by decide) (by decide) (by decide) (by decide) ?_
    refine sv_aload_n dX3_number_67 rfl ?_
    refine kp_g0 hp dX3_number_68 sf_X3_9 ?_
    refine sv_iconst (nI 2) dX3_number_71 (by decide) ?_
    refine kp_ld2 hp dX3_number_72 ?_
    refine sv_iret dX3_number_73 rfl rfl (Nat.le_refl _) (Nat.le_refl _) ?_
    exact ⟨by first | rfl | exact ri (cp_nr_1 c_93) | exact ri (cp_nr_0 c_93), rfl⟩
  · refine sv_tableIn (off := 73) 74 dX3_number_1 (by decide) (by decide) (by decide) (by decide) ?_
    refine sv_aload_n dX3_number_74 rfl ?_
    refine kp_g2 hp dX3_number_75 sf_X3_19 ?_
    refine sv_iret dX3_number_78 rfl rfl (Nat.le_refl _) (Nat.le_refl _) ?_
    exact ⟨by first | rfl | exact ri (cp_nr_1 c_93) | exact ri (cp_nr_0 c_93), rfl⟩
  · refine sv_tableIn (off := 78) 79 dX3_number_1 (by decide) (by decide) (by decide) (by decide) ?_
    refine sv_aload_n dX3_number_79 rfl ?_
    refine kp_g3 hp dX3_number_80 sf_X3_22 ?_
    refine sv_iret dX3_number_83 rfl rfl (Nat.le_refl _) (Nat.le_refl _) ?_
    exact ⟨by first | rfl | exact ri (cp_nr_1 c_93) | exact ri (cp_nr_0 c_93), rfl⟩
  · refine sv_tableIn (off := 83) 84 dX3_number_1 (by decide) (by decide) (by decide) (by decide) ?_
    refine sv_aload_n dX3_number_84 rfl ?_
    refine kp_g4 hp dX3_number_85 sf_X3_25 ?_
    refine sv_iret dX3_number_88 rfl rfl (Nat.le_refl _) (Nat.le_refl _) ?_
    exact ⟨by first | rfl | exact ri (cp_nr_1 c_93) | exact ri (cp_nr_0 c_93), rfl⟩
  · refine sv_tableIn (off := 88) 89 dX3_number_1 (by decide) (by decide) (by decide) (by decide) ?_
    refine sv_aload_n dX3_number_89 rfl ?_
    refine kp_g5 hp dX3_number_90 sf_X3_28 ?_
    refine sv_ifN_eq 100 dX3_number_93 (by decide) (Nat.lt_trans (b2n_lt _) (by decide)) (fun c_93 => ?_) (fun c_93 => ?_)
    · refine sv_iconst (nI 0) dX3_number_100 (by decide) ?_
      refine sv_iret dX3_number_101 rfl rfl (Nat.le_refl _) (Nat.le_refl _) ?_
      exact ⟨by first | rfl | exact ri (cp_nr_1 c_93) | exact ri (cp_nr_0 c_93), rfl⟩
    · refine sv_iconst (nI 1) dX3_number_96 (by decide) ?_
      refine sv_goto 101 dX3_number_97 (by decide) ?_
      refine sv_iret dX3_number_101 rfl rfl (Nat.le_refl _) (Nat.le_refl _) ?_
      exact ⟨by first | rfl | exact ri (cp_nr_1 c_93) | exact ri (cp_nr_0 c_93), rfl⟩
  · refine sv_tableOut 102 dX3_number_1 (by decide) (by decide) ?_
    refine sv_aload_n dX3_number_102 rfl ?_
    refine sv_callV (As := []) sc_X3_35 (k3_total hp) rfl rfl (Nat.le_of_ble_eq_true rfl) dX3_number_103 ⟨by decide, by decide⟩ ⟨Nat.le_refl _, Nat.le_refl _⟩ (Nat.le_of_ble_eq_true rfl) hp.1 (List.cons_ne_nil _ _) rfl ?_
    refine sv_iret dX3_number_106 rfl rfl (Nat.le_refl _) (Nat.le_refl _) ?_
    exact ⟨by first | rfl | exact ri (cp_nr_1 c_93) | exact ri (cp_nr_0 c_93), rfl⟩
theorem k3_startRound (hp : cl_hp G h a P) : sm_F G mX3_startRound 0 [.ref a] h (.inl none) (cl_p G h a (va_up (va_up P 6 (P 5)) 7 0)) := by
  unfold sm_F sm_C
  show sm_V G _ _ _ 0 0 0 [(0, .ref a)] [] _
  refine sv_heap (pl_self hp) ?_
  refine sv_aload_n dX3_startRound_0 rfl ?_
  refine sv_aload_n dX3_startRound_1 rfl ?_
  refine kp_g3 pl_h dX3_startRound_2 sf_X3_22 ?_
  refine kp_p4 dX3_startRound_5 sf_X3_25 ?_
  refine sv_aload_n dX3_startRound_8 rfl ?_
  refine sv_iconst (nI 0) dX3_startRound_9 (by decide) ?_
  refine kp_p5 (v := 0) (by decide) dX3_startRound_10 sf_X3_28 ?_
  refine sv_vret dX3_startRound_13 rfl (Nat.le_refl _) (Nat.le_refl _) ?_
  exact ⟨rfl, rfl⟩
/-- the first n goods are none -/
def cp_z (P : Nat → Nat) (n : Nat) : Nat → Nat := fun w => if 1 ≤ w ∧ w < 1 + n then 0 else P w
theorem cp_z_s {P : Nat → Nat} (n : Nat) : va_up (cp_z P n) (1 + n) 0 = cp_z P (n + 1) := by
  funext i; unfold va_up cp_z; (repeat' split) <;> first | rfl | omega
theorem cp_z_0 (P : Nat → Nat) : cp_z P 0 = P := by funext i; unfold cp_z; rw [if_neg (by omega)]
theorem cp_cl (P : Nat → Nat) : ∀ w, w < 8 → va_up (va_up (va_up (va_up (va_up (cp_z P 3) 0 5) 4 6) 5 3) 6 3) 7 0 w = gm_b8 w := by
  intro w hw; unfold va_up cp_z gm_b8
  (repeat' split) <;> first | rfl | omega
theorem k3_clear (hp : cl_hp G h a P) : sm_F G mX3_clear 1 [.ref a] h (.inl none) (cl_p G h a gm_b8) := by
  unfold sm_F sm_C
  show sm_V G _ _ _ 0 0 0 [(0, .ref a)] [] _
  refine sv_heap (pl_self hp) ?_
  refine sv_heap (congrArg (cl_p G h a) (cp_z_0 P).symm) ?_
  refine sv_iconst (nI 0) dX3_clear_0 (by decide) ?_
  refine sv_istore_n (lv' := [(1, _), (0, _)]) dX3_clear_1 (by decide) rfl ?_
  refine sv_sub [0, 1] rfl (sv_loop (pc := 2) (lv := fun n => [(1, .int (nI n)), (0, .ref a)]) (hp := fun n => (cl_p G h a (cp_z P n))) (I := fun n => True) (N := 3) (trivial) ?_ ?_)
  · intro hI
    show sm_V G _ _ _ _ _ _ [(1, .int (nI 3)), (0, .ref a)] [] (cl_p G h a (cp_z P 3))
    refine sv_iload_n dX3_clear_2 rfl ?_
    refine sv_iconst (nI 3) dX3_clear_3 (by decide) ?_
    refine sv_icmpN_ge 20 dX3_clear_4 (by decide) (by omega) (by omega) (fun c_4 => ?_) (fun c_4 => absurd c_4 (by omega))
    refine sv_aload_n dX3_clear_20 rfl ?_
    refine sv_iconst (nI 5) dX3_clear_21 (by decide) ?_
    refine kp_p1 dX3_clear_22 sf_X3_15 ?_
    refine sv_aload_n dX3_clear_25 rfl ?_
    refine sv_bipush (nI 6) dX3_clear_26 (by decide) ?_
    refine kp_p2 dX3_clear_28 sf_X3_19 ?_
    refine sv_aload_n dX3_clear_31 rfl ?_
    refine sv_iconst (nI 3) dX3_clear_32 (by decide) ?_
    refine kp_p3 dX3_clear_33 sf_X3_22 ?_
    refine sv_aload_n dX3_clear_36 rfl ?_
    refine sv_callV (As := []) sc_X3_32 (k3_startRound pl_h) rfl rfl (Nat.le_of_ble_eq_true rfl) dX3_clear_37 ⟨by decide, by decide⟩ ⟨Nat.le_refl _, Nat.le_refl _⟩ (Nat.le_of_ble_eq_true rfl) pl_h.1 (List.cons_ne_nil _ _) rfl ?_
    refine sv_heap pl_pl ?_
    refine sv_vret dX3_clear_40 rfl (Nat.le_refl _) (Nat.le_refl _) ?_
    exact ⟨rfl, pl_eq (cp_cl P)⟩
  · intro n hn hI ih
    show sm_V G _ _ _ _ _ _ [(1, .int (nI n)), (0, .ref a)] [] (cl_p G h a (cp_z P n))
    refine sv_iload_n dX3_clear_2 rfl ?_
    refine sv_iconst (nI 3) dX3_clear_3 (by decide) ?_
    refine sv_icmpN_ge 20 dX3_clear_4 (by decide) (by omega) (by omega) (fun c_4 => absurd c_4 (by omega)) (fun c_4 => ?_)
    refine sv_aload_n dX3_clear_7 rfl ?_
    refine kp_g0 pl_h dX3_clear_8 sf_X3_9 ?_
    refine sv_iload_n dX3_clear_11 rfl ?_
    refine sv_iconst (nI 0) dX3_clear_12 (by decide) ?_
    refine kp_st dX3_clear_13 (by omega) ?_
    refine sv_heap (h' := (cl_p G h a (cp_z P (n + 1)))) (congrArg (cl_p G h a) (cp_z_s n)) ?_
    refine sv_iinc1 (lv' := [(1, _), (0, _)]) dX3_clear_14 rfl (by decide) rfl ?_
    refine sv_goto 2 dX3_clear_17 (by decide) ?_
    exact sv_sub [0, 1] rfl (ih trivial)
theorem pl_h2 {T : Nat → Nat} (hp2 : cl_hp G h b P2) (hd : b + 1 < a ∨ a + 1 < b) : cl_hp G (cl_p G h a T) b P2 := by
  refine ⟨?_, ?_⟩
  · unfold cl_p; rw [if_neg (by omega), if_neg (by omega)]; exact hp2.1
  · unfold cl_p; rw [if_neg (by omega), if_neg (by omega)]; exact hp2.2
def cp_c (P P2 : Nat → Nat) (n : Nat) : Nat → Nat := fun w => if 1 ≤ w ∧ w < 1 + n then P2 w else P w
theorem cp_c_s {P P2 : Nat → Nat} (n : Nat) : va_up (cp_c P P2 n) (1 + n) (P2 (1 + n)) = cp_c P P2 (n + 1) := by
  funext i; unfold va_up cp_c; (repeat' split) <;> first | rfl | omega | (subst_vars; rfl)
theorem cp_c_0 (P P2 : Nat → Nat) : cp_c P P2 0 = P := by funext i; unfold cp_c; rw [if_neg (by omega)]
theorem cp_c_e (P P2 : Nat → Nat) : cl_p G h a (va_up (va_up (va_up (va_up (va_up (cp_c P P2 3) 0 (P2 0)) 4 (P2 4)) 5 (P2 5)) 6 (P2 6)) 7 (b2n (decide (P2 7 ≠ 0)))) = cl_p G h a P2 := by
  refine pl_eq7 ?_ ?_
  · intro w hw
    rcases (show w = 0 ∨ w = 1 ∨ w = 2 ∨ w = 3 ∨ w = 4 ∨ w = 5 ∨ w = 6 by omega) with rfl | rfl | rfl | rfl | rfl | rfl | rfl <;> simp [va_up, cp_c]
  · rw [up_eq]; unfold b2n; by_cases e : P2 7 = 0 <;> simp [e]
theorem k3_copyFrom (hp : cl_hp G h a P) (hp2 : cl_hp G h b P2) (hd : b + 1 < a ∨ a + 1 < b) : sm_F G mX3_copyFrom 0 [.ref a, .ref b] h (.inl none) (cl_p G h a P2) := by
  unfold sm_F sm_C
  show sm_V G _ _ _ 0 0 0 [(0, .ref a), (1, .ref b)] [] _
  refine sv_heap (pl_self hp) ?_
  refine sv_heap (congrArg (cl_p G h a) (cp_c_0 P P2).symm) ?_
  refine sv_iconst (nI 0) dX3_copyFrom_0 (by decide) ?_
  refine sv_istore_n (lv' := [(2, _), (0, _), (1, _)]) dX3_copyFrom_1 (by decide) rfl ?_
  refine sv_sub [0, 1, 2] rfl (sv_loop (pc := 2) (lv := fun n => [(2, .int (nI n)), (0, .ref a), (1, .ref b)]) (hp := fun n => (cl_p G h a (cp_c P P2 n))) (I := fun n => True) (N := 3) (trivial) ?_ ?_)
  · intro hI
    show sm_V G _ _ _ _ _ _ [(2, .int (nI 3)), (0, .ref a), (1, .ref b)] [] (cl_p G h a (cp_c P P2 3))
    refine sv_iload_n dX3_copyFrom_2 rfl ?_
    refine sv_iconst (nI 3) dX3_copyFrom_3 (by decide) ?_
    refine sv_icmpN_ge 25 dX3_copyFrom_4 (by decide) (by omega) (by omega) (fun c_4 => ?_) (fun c_4 => absurd c_4 (by omega))
    refine sv_aload_n dX3_copyFrom_25 rfl ?_
    refine sv_aload_n dX3_copyFrom_26 rfl ?_
    refine kp_g1 (pl_h2 hp2 hd) dX3_copyFrom_27 sf_X3_15 ?_
    refine kp_p1 dX3_copyFrom_30 sf_X3_15 ?_
    refine sv_aload_n dX3_copyFrom_33 rfl ?_
    refine sv_aload_n dX3_copyFrom_34 rfl ?_
    refine kp_g2 (pl_h2 hp2 hd) dX3_copyFrom_35 sf_X3_19 ?_
    refine kp_p2 dX3_copyFrom_38 sf_X3_19 ?_
    refine sv_aload_n dX3_copyFrom_41 rfl ?_
    refine sv_aload_n dX3_copyFrom_42 rfl ?_
    refine kp_g3 (pl_h2 hp2 hd) dX3_copyFrom_43 sf_X3_22 ?_
    refine kp_p3 dX3_copyFrom_46 sf_X3_22 ?_
    refine sv_aload_n dX3_copyFrom_49 rfl ?_
    refine sv_aload_n dX3_copyFrom_50 rfl ?_
    refine kp_g4 (pl_h2 hp2 hd) dX3_copyFrom_51 sf_X3_25 ?_
    refine kp_p4 dX3_copyFrom_54 sf_X3_25 ?_
    refine sv_aload_n dX3_copyFrom_57 rfl ?_
    refine sv_aload_n dX3_copyFrom_58 rfl ?_
    refine kp_g5 (pl_h2 hp2 hd) dX3_copyFrom_59 sf_X3_28 ?_
    refine kp_p5 (by first | omega | exact b2n_lt _) dX3_copyFrom_62 sf_X3_28 ?_
    refine sv_vret dX3_copyFrom_65 rfl (Nat.le_refl _) (Nat.le_refl _) ?_
    exact ⟨rfl, cp_c_e P P2⟩
  · intro n hn hI ih
    show sm_V G _ _ _ _ _ _ [(2, .int (nI n)), (0, .ref a), (1, .ref b)] [] (cl_p G h a (cp_c P P2 n))
    refine sv_iload_n dX3_copyFrom_2 rfl ?_
    refine sv_iconst (nI 3) dX3_copyFrom_3 (by decide) ?_
    refine sv_icmpN_ge 25 dX3_copyFrom_4 (by decide) (by omega) (by omega) (fun c_4 => absurd c_4 (by omega)) (fun c_4 => ?_)
    refine sv_aload_n dX3_copyFrom_7 rfl ?_
    refine kp_g0 pl_h dX3_copyFrom_8 sf_X3_9 ?_
    refine sv_iload_n dX3_copyFrom_11 rfl ?_
    refine sv_aload_n dX3_copyFrom_12 rfl ?_
    refine kp_g0 (pl_h2 hp2 hd) dX3_copyFrom_13 sf_X3_9 ?_
    refine sv_iload_n dX3_copyFrom_16 rfl ?_
    refine kp_ld (pl_h2 hp2 hd) dX3_copyFrom_17 (by omega) ?_
    refine kp_st dX3_copyFrom_18 (by omega) ?_
    refine sv_heap (h' := (cl_p G h a (cp_c P P2 (n + 1)))) (congrArg (cl_p G h a) (cp_c_s n)) ?_
    refine sv_iinc1 (lv' := [(2, _), (0, _), (1, _)]) dX3_copyFrom_19 rfl (by decide) rfl ?_
    refine sv_goto 2 dX3_copyFrom_22 (by decide) ?_
    exact sv_sub [0, 1, 2] rfl (ih trivial)
theorem k3_pay0 (hp : cl_hp G h a P) (h0 : P 0 < 2 ^ 31) (hn : n < 2 ^ 31) (hlt : P 0 < n) : sm_F G mX3_pay 0 [.ref a, .int (nI n)] h (.inl (some (.int (nI 0)))) h := by
  unfold sm_F sm_C
  show sm_V G _ _ _ 0 0 0 [(0, .ref a), (1, .int (nI n))] [] _
  refine sv_aload_n dX3_pay_0 rfl ?_
  refine kp_g1 hp dX3_pay_1 sf_X3_15 ?_
  refine sv_iload_n dX3_pay_4 rfl ?_
  refine sv_icmpN_ge 10 dX3_pay_5 (by decide) (by omega) (by omega) (fun c_5 => absurd c_5 (by omega)) (fun c_5 => ?_)
  refine sv_iconst (nI 0) dX3_pay_8 (by decide) ?_
  refine sv_iret dX3_pay_9 rfl rfl (Nat.le_refl _) (Nat.le_refl _) ?_
  exact ⟨rfl, rfl⟩
theorem k3_payK (hp : cl_hp G h a P) (h0 : P 0 < 2 ^ 31) (hn : n < 2 ^ 31) (hle : n ≤ P 0) : sm_F G mX3_pay 0 [.ref a, .int (nI n)] h (.inl (some (.int (nI 1)))) (cl_p G h a (va_up P 0 (P 0 - n))) := by
  unfold sm_F sm_C
  show sm_V G _ _ _ 0 0 0 [(0, .ref a), (1, .int (nI n))] [] _
  refine sv_heap (pl_self hp) ?_
  refine sv_aload_n dX3_pay_0 rfl ?_
  refine kp_g1 pl_h dX3_pay_1 sf_X3_15 ?_
  refine sv_iload_n dX3_pay_4 rfl ?_
  refine sv_icmpN_ge 10 dX3_pay_5 (by decide) (by omega) (by omega) (fun c_5 => ?_) (fun c_5 => absurd c_5 (by omega))
  refine sv_aload_n dX3_pay_10 rfl ?_
  refine sv_dup dX3_pay_11 rfl ?_
  refine kp_g1 pl_h dX3_pay_12 sf_X3_15 ?_
  refine sv_iload_n dX3_pay_15 rfl ?_
  refine sv_isubN dX3_pay_16 (by omega) ?_
  refine kp_p1 dX3_pay_17 sf_X3_15 ?_
  refine sv_iconst (nI 1) dX3_pay_20 (by decide) ?_
  refine sv_iret dX3_pay_21 rfl rfl (Nat.le_refl _) (Nat.le_refl _) ?_
  exact ⟨rfl, rfl⟩
theorem k3_give0 (hp : cl_hp G h a P) (hg : g < 3) (h0 : P (1 + g) < 2 ^ 31) (hn : n < 2 ^ 31) (hlt : P (1 + g) < n) : sm_F G mX3_give 0 [.ref a, .int (nI g), .int (nI n)] h (.inl (some (.int (nI 0)))) h := by
  unfold sm_F sm_C
  show sm_V G _ _ _ 0 0 0 [(0, .ref a), (1, .int (nI g)), (2, .int (nI n))] [] _
  refine sv_aload_n dX3_give_0 rfl ?_
  refine kp_g0 hp dX3_give_1 sf_X3_9 ?_
  refine sv_iload_n dX3_give_4 rfl ?_
  refine kp_ld hp dX3_give_5 (by omega) ?_
  refine sv_iload_n dX3_give_6 rfl ?_
  refine sv_icmpN_ge 12 dX3_give_7 (by decide) (by omega) (by omega) (fun c_7 => absurd c_7 (by omega)) (fun c_7 => ?_)
  refine sv_iconst (nI 0) dX3_give_10 (by decide) ?_
  refine sv_iret dX3_give_11 rfl rfl (Nat.le_refl _) (Nat.le_refl _) ?_
  exact ⟨rfl, rfl⟩
theorem k3_giveK (hp : cl_hp G h a P) (hg : g < 3) (h0 : P (1 + g) < 2 ^ 31) (hn : n < 2 ^ 31) (hle : n ≤ P (1 + g)) : sm_F G mX3_give 0 [.ref a, .int (nI g), .int (nI n)] h (.inl (some (.int (nI 1)))) (cl_p G h a (va_up P (1 + g) (P (1 + g) - n))) := by
  unfold sm_F sm_C
  show sm_V G _ _ _ 0 0 0 [(0, .ref a), (1, .int (nI g)), (2, .int (nI n))] [] _
  refine sv_heap (pl_self hp) ?_
  refine sv_aload_n dX3_give_0 rfl ?_
  refine kp_g0 pl_h dX3_give_1 sf_X3_9 ?_
  refine sv_iload_n dX3_give_4 rfl ?_
  refine kp_ld pl_h dX3_give_5 (by omega) ?_
  refine sv_iload_n dX3_give_6 rfl ?_
  refine sv_icmpN_ge 12 dX3_give_7 (by decide) (by omega) (by omega) (fun c_7 => ?_) (fun c_7 => absurd c_7 (by omega))
  refine sv_aload_n dX3_give_12 rfl ?_
  refine kp_g0 pl_h dX3_give_13 sf_X3_9 ?_
  refine sv_iload_n dX3_give_16 rfl ?_
  refine sv_dup2 dX3_give_17 rfl rfl ?_
  refine kp_ld pl_h dX3_give_18 (by omega) ?_
  refine sv_iload_n dX3_give_19 rfl ?_
  refine sv_isubN dX3_give_20 (by omega) ?_
  refine kp_st dX3_give_21 (by omega) ?_
  refine sv_iconst (nI 1) dX3_give_22 (by decide) ?_
  refine sv_iret dX3_give_23 rfl rfl (Nat.le_refl _) (Nat.le_refl _) ?_
  exact ⟨rfl, rfl⟩
theorem k3_gain (hp : cl_hp G h a P) (hg : g < 3) : sm_F G mX3_gain 0 [.ref a, .int (nI g), .int (nI n)] h (.inl none) (cl_p G h a (va_up P (1 + g) (P (1 + g) + n))) := by
  unfold sm_F sm_C
  show sm_V G _ _ _ 0 0 0 [(0, .ref a), (1, .int (nI g)), (2, .int (nI n))] [] _
  refine sv_heap (pl_self hp) ?_
  refine sv_aload_n dX3_gain_0 rfl ?_
  refine kp_g0 pl_h dX3_gain_1 sf_X3_9 ?_
  refine sv_iload_n dX3_gain_4 rfl ?_
  refine sv_dup2 dX3_gain_5 rfl rfl ?_
  refine kp_ld pl_h dX3_gain_6 (by omega) ?_
  refine sv_iload_n dX3_gain_7 rfl ?_
  refine sv_iaddN dX3_gain_8 ?_
  refine kp_st dX3_gain_9 (by omega) ?_
  refine sv_vret dX3_gain_10 rfl (Nat.le_refl _) (Nat.le_refl _) ?_
  exact ⟨rfl, rfl⟩
theorem k3_weave0 (hp : cl_hp G h a P) (h0 : P 0 < 2 ^ 30) (h2 : P 2 < 2 ^ 30) (hn : n < 2 ^ 30) (hlt : P 2 < n) : sm_F G mX3_weave 1 [.ref a, .int (nI n)] h (.inl (some (.int (nI 0)))) h := by
  unfold sm_F sm_C
  show sm_V G _ _ _ 0 0 0 [(0, .ref a), (1, .int (nI n))] [] _
  have e11 : P (1 + 1) = P 2 := rfl
  refine sv_aload_n dX3_weave_0 rfl ?_
  refine sv_iconst (nI 1) dX3_weave_1 (by decide) ?_
  refine sv_iload_n dX3_weave_2 rfl ?_
  refine sv_callV (As := [_, _]) sc_X3_39 (k3_give0 (g := 1) hp (by omega) (by omega) (by omega) (by omega)) rfl rfl (Nat.le_of_ble_eq_true rfl) dX3_weave_3 ⟨by decide, by decide⟩ ⟨Nat.le_refl _, Nat.le_refl _⟩ (Nat.le_of_ble_eq_true rfl) hp.1 (List.cons_ne_nil _ _) rfl ?_
  refine sv_ifN_eq 17 dX3_weave_6 (by decide) (by omega) (fun c_6 => ?_) (fun c_6 => absurd c_6 (by omega))
  refine sv_iconst (nI 0) dX3_weave_17 (by decide) ?_
  refine sv_iret dX3_weave_18 rfl rfl (Nat.le_refl _) (Nat.le_refl _) ?_
  exact ⟨rfl, rfl⟩
theorem k3_weave1 (hp : cl_hp G h a P) (h0 : P 0 < 2 ^ 30) (h2 : P 2 < 2 ^ 30) (hn : n < 2 ^ 30) (hle : n ≤ P 2) (hlt : P 0 < n) : sm_F G mX3_weave 1 [.ref a, .int (nI n)] h (.inl (some (.int (nI 0)))) (cl_p G h a (va_up P 2 (P 2 - n))) := by
  unfold sm_F sm_C
  show sm_V G _ _ _ 0 0 0 [(0, .ref a), (1, .int (nI n))] [] _
  have e11 : P (1 + 1) = P 2 := rfl
  refine sv_heap (pl_self hp) ?_
  refine sv_aload_n dX3_weave_0 rfl ?_
  refine sv_iconst (nI 1) dX3_weave_1 (by decide) ?_
  refine sv_iload_n dX3_weave_2 rfl ?_
  refine sv_callV (As := [_, _]) sc_X3_39 (k3_giveK (g := 1) pl_h (by omega) (by omega) (by omega) (by omega)) rfl rfl (Nat.le_of_ble_eq_true rfl) dX3_weave_3 ⟨by decide, by decide⟩ ⟨Nat.le_refl _, Nat.le_refl _⟩ (Nat.le_of_ble_eq_true rfl) pl_h.1 (List.cons_ne_nil _ _) rfl ?_
  refine sv_heap pl_pl ?_
  refine sv_ifN_eq 17 dX3_weave_6 (by decide) (by omega) (fun c_6 => absurd c_6 (by omega)) (fun c_6 => ?_)
  refine sv_aload_n dX3_weave_9 rfl ?_
  refine sv_iload_n dX3_weave_10 rfl ?_
  refine sv_callV (As := [_]) sc_X3_43 (k3_pay0 pl_h (by rw [up_ne (by omega)]; omega) (by omega) (by rw [up_ne (by omega)]; omega)) rfl rfl (Nat.le_of_ble_eq_true rfl) dX3_weave_11 ⟨by decide, by decide⟩ ⟨Nat.le_refl _, Nat.le_refl _⟩ (Nat.le_of_ble_eq_true rfl) pl_h.1 (List.cons_ne_nil _ _) rfl ?_
  refine sv_ifN_ne 19 dX3_weave_14 (by decide) (by omega) (fun c_14 => absurd c_14 (by omega)) (fun c_14 => ?_)
  refine sv_iconst (nI 0) dX3_weave_17 (by decide) ?_
  refine sv_iret dX3_weave_18 rfl rfl (Nat.le_refl _) (Nat.le_refl _) ?_
  exact ⟨rfl, rfl⟩
theorem k3_weaveK (hp : cl_hp G h a P) (h0 : P 0 < 2 ^ 30) (h2 : P 2 < 2 ^ 30) (hn : n < 2 ^ 30) (hle : n ≤ P 2) (hle0 : n ≤ P 0) : sm_F G mX3_weave 1 [.ref a, .int (nI n)] h (.inl (some (.int (nI 1)))) (cl_p G h a (va_up (va_up (va_up P 2 (P 2 - n)) 0 (P 0 - n)) 3 (P 3 + 2 * n))) := by
  unfold sm_F sm_C
  show sm_V G _ _ _ 0 0 0 [(0, .ref a), (1, .int (nI n))] [] _
  have e11 : P (1 + 1) = P 2 := rfl
  refine sv_heap (pl_self hp) ?_
  refine sv_aload_n dX3_weave_0 rfl ?_
  refine sv_iconst (nI 1) dX3_weave_1 (by decide) ?_
  refine sv_iload_n dX3_weave_2 rfl ?_
  refine sv_callV (As := [_, _]) sc_X3_39 (k3_giveK (g := 1) pl_h (by omega) (by omega) (by omega) (by omega)) rfl rfl (Nat.le_of_ble_eq_true rfl) dX3_weave_3 ⟨by decide, by decide⟩ ⟨Nat.le_refl _, Nat.le_refl _⟩ (Nat.le_of_ble_eq_true rfl) pl_h.1 (List.cons_ne_nil _ _) rfl ?_
  refine sv_heap pl_pl ?_
  refine sv_ifN_eq 17 dX3_weave_6 (by decide) (by omega) (fun c_6 => absurd c_6 (by omega)) (fun c_6 => ?_)
  refine sv_aload_n dX3_weave_9 rfl ?_
  refine sv_iload_n dX3_weave_10 rfl ?_
  refine sv_callV (As := [_]) sc_X3_43 (k3_payK pl_h (by rw [up_ne (by omega)]; omega) (by omega) (by rw [up_ne (by omega)]; omega)) rfl rfl (Nat.le_of_ble_eq_true rfl) dX3_weave_11 ⟨by decide, by decide⟩ ⟨Nat.le_refl _, Nat.le_refl _⟩ (Nat.le_of_ble_eq_true rfl) pl_h.1 (List.cons_ne_nil _ _) rfl ?_
  refine sv_heap pl_pl ?_
  refine sv_ifN_ne 19 dX3_weave_14 (by decide) (by omega) (fun c_14 => ?_) (fun c_14 => absurd c_14 (by omega))
  refine sv_aload_n dX3_weave_19 rfl ?_
  refine sv_iconst (nI 2) dX3_weave_20 (by decide) ?_
  refine sv_iconst (nI 2) dX3_weave_21 (by decide) ?_
  refine sv_iload_n dX3_weave_22 rfl ?_
  refine sv_imulN dX3_weave_23 ?_
  refine sv_callV (As := [_, _]) sc_X3_47 (k3_gain (g := 2) pl_h (by omega)) rfl rfl (Nat.le_of_ble_eq_true rfl) dX3_weave_24 ⟨by decide, by decide⟩ ⟨Nat.le_refl _, Nat.le_refl _⟩ (Nat.le_of_ble_eq_true rfl) pl_h.1 (List.cons_ne_nil _ _) rfl ?_
  refine sv_heap pl_pl ?_
  refine sv_iconst (nI 1) dX3_weave_27 (by decide) ?_
  refine sv_iret dX3_weave_28 rfl rfl (Nat.le_refl _) (Nat.le_refl _) ?_
  exact ⟨rfl, pl_eq (fun w hw => by rcases (show w = 0 ∨ w = 1 ∨ w = 2 ∨ w = 3 ∨ w = 4 ∨ w = 5 ∨ w = 6 ∨ w = 7 by omega) with rfl | rfl | rfl | rfl | rfl | rfl | rfl | rfl <;> simp [va_up])⟩
theorem k3_sell0 (hp : cl_hp G h a P) (hg : g < 3) (h0 : P (1 + g) < 2 ^ 30) (hn : n ≤ 3) (hlt : P (1 + g) < n) : sm_F G mX3_sell 1 [.ref a, .int (nI g), .int (nI n), .int (nI c)] h (.inl (some (.int (nI 0)))) h := by
  unfold sm_F sm_C
  show sm_V G _ _ _ 0 0 0 [(0, .ref a), (1, .int (nI g)), (2, .int (nI n)), (3, .int (nI c))] [] _
  refine sv_aload_n dX3_sell_0 rfl ?_
  refine sv_iload_n dX3_sell_1 rfl ?_
  refine sv_iload_n dX3_sell_2 rfl ?_
  refine sv_callV (As := [_, _]) sc_X3_39 (k3_give0 hp hg (by omega) (by omega) (by omega)) rfl rfl (Nat.le_of_ble_eq_true rfl) dX3_sell_3 ⟨by decide, by decide⟩ ⟨Nat.le_refl _, Nat.le_refl _⟩ (Nat.le_of_ble_eq_true rfl) hp.1 (List.cons_ne_nil _ _) rfl ?_
  refine sv_ifN_ne 11 dX3_sell_6 (by decide) (by omega) (fun c_6 => absurd c_6 (by omega)) (fun c_6 => ?_)
  refine sv_iconst (nI 0) dX3_sell_9 (by decide) ?_
  refine sv_iret dX3_sell_10 rfl rfl (Nat.le_refl _) (Nat.le_refl _) ?_
  exact ⟨rfl, rfl⟩
theorem cp_sl {P : Nat → Nat} {x y : Nat} : va_up (va_up P 0 x) 0 y = va_up P 0 y := up_up _ _ _ _
theorem gm_sell_0 (p : Nat) : gm_sell p 0 = 0 := by simp [gm_sell]
theorem k3_sellK (hp : cl_hp G h a P) (hg : g < 3) (h0 : P (1 + g) < 2 ^ 30) (hn : n ≤ 3) (hle : n ≤ P (1 + g)) (hc : c < 10) : sm_F G mX3_sell 1 [.ref a, .int (nI g), .int (nI n), .int (nI c)] h (.inl (some (.int (nI 1)))) (cl_p G h a (va_up (va_up P (1 + g) (P (1 + g) - n)) 0 (P 0 + gm_sell c n))) := by
  unfold sm_F sm_C
  show sm_V G _ _ _ 0 0 0 [(0, .ref a), (1, .int (nI g)), (2, .int (nI n)), (3, .int (nI c))] [] _
  refine sv_heap (pl_self hp) ?_
  refine sv_aload_n dX3_sell_0 rfl ?_
  refine sv_iload_n dX3_sell_1 rfl ?_
  refine sv_iload_n dX3_sell_2 rfl ?_
  refine sv_callV (As := [_, _]) sc_X3_39 (k3_giveK pl_h hg (by omega) (by omega) (by omega)) rfl rfl (Nat.le_of_ble_eq_true rfl) dX3_sell_3 ⟨by decide, by decide⟩ ⟨Nat.le_refl _, Nat.le_refl _⟩ (Nat.le_of_ble_eq_true rfl) pl_h.1 (List.cons_ne_nil _ _) rfl ?_
  refine sv_heap pl_pl ?_
  refine sv_ifN_ne 11 dX3_sell_6 (by decide) (by omega) (fun c_6 => ?_) (fun c_6 => absurd c_6 (by omega))
  refine sv_iconst (nI 0) dX3_sell_11 (by decide) ?_
  refine sv_istore (lv' := [(4, _), (0, _), (1, _), (2, _), (3, _)]) dX3_sell_12 (by decide) rfl ?_
  refine sv_heap (h' := (cl_p G h a (va_up (va_up P (1 + g) (P (1 + g) - n)) 0 (P 0 + gm_sell c 0)))) (congrArg (cl_p G h a) (by rw [gm_sell_0, show P 0 + 0 = va_up P (1 + g) (P (1 + g) - n) 0 from (up_ne (by omega)).symm, up_id])) ?_
  refine sv_sub [0, 1, 3, 4] rfl (sv_loop (pc := 14) (lv := fun k => [(4, .int (nI k)), (0, .ref a), (2, .int (nI n)), (3, .int (nI c))]) (hp := fun k => (cl_p G h a (va_up (va_up P (1 + g) (P (1 + g) - n)) 0 (P 0 + gm_sell c k)))) (I := fun k => True) (N := n) (trivial) ?_ ?_)
  · intro hI_k
    show sm_V G _ _ _ _ _ _ [(4, .int (nI n)), (0, .ref a), (2, .int (nI n)), (3, .int (nI c))] [] (cl_p G h a (va_up (va_up P (1 + g) (P (1 + g) - n)) 0 (P 0 + gm_sell c n)))
    refine sv_iload dX3_sell_14 rfl ?_
    refine sv_iload_n dX3_sell_16 rfl ?_
    refine sv_icmpN_ge 43 dX3_sell_17 (by decide) (by omega) (by omega) (fun c_17 => ?_) (fun c_17 => absurd c_17 (by omega))
    refine sv_iconst (nI 1) dX3_sell_43 (by decide) ?_
    refine sv_iret dX3_sell_44 rfl rfl (Nat.le_refl _) (Nat.le_refl _) ?_
    exact ⟨rfl, rfl⟩
  · intro k hn_k hI_k ih_k
    show sm_V G _ _ _ _ _ _ [(4, .int (nI k)), (0, .ref a), (2, .int (nI n)), (3, .int (nI c))] [] (cl_p G h a (va_up (va_up P (1 + g) (P (1 + g) - n)) 0 (P 0 + gm_sell c k)))
    refine sv_iload dX3_sell_14 rfl ?_
    refine sv_iload_n dX3_sell_16 rfl ?_
    refine sv_icmpN_ge 43 dX3_sell_17 (by decide) (by omega) (by omega) (fun c_17 => absurd c_17 (by omega)) (fun c_17 => ?_)
    refine sv_aload_n dX3_sell_20 rfl ?_
    refine sv_dup dX3_sell_21 rfl ?_
    refine kp_g1 pl_h dX3_sell_22 sf_X3_15 ?_
    refine sv_iconst (nI 1) dX3_sell_25 (by decide) ?_
    refine sv_iload_n dX3_sell_26 rfl ?_
    refine sv_iload dX3_sell_27 rfl ?_
    refine sv_isub dX3_sell_29 ?_
    refine sv_mmax sj_X3_51 dX3_sell_30 (Nat.le_of_ble_eq_true rfl) (Nat.le_of_ble_eq_true rfl) (Nat.le_refl _) (Nat.le_refl _) ?_
    refine sv_top (nI (max 1 (c - k))) (pk_max1 (by omega) (by omega)) ?_
    refine sv_iaddN dX3_sell_33 ?_
    refine kp_p1 dX3_sell_34 sf_X3_15 ?_
    refine sv_heap (h' := (cl_p G h a (va_up (va_up P (1 + g) (P (1 + g) - n)) 0 (P 0 + gm_sell c (k + 1))))) (congrArg (cl_p G h a) ((up_up _ _ _ _).trans (up_upk (by rw [up_eq, gm_sell_s c k (by omega)]; omega)))) ?_
    refine sv_iinc1 (lv' := [(4, _), (0, _), (2, _), (3, _)]) dX3_sell_37 rfl (by decide) rfl ?_
    refine sv_goto 14 dX3_sell_40 (by decide) ?_
    exact sv_sub [0, 1, 2, 3] rfl (ih_k trivial)
theorem k3_hire0 (hp : cl_hp G h a P) (h0 : P 0 < 2 ^ 31) (h5 : P 5 < 2 ^ 31) (hx : 5 ≤ P 5 ∨ P 0 < 5) : sm_F G mX3_hire 1 [.ref a] h (.inl (some (.int (nI 0)))) h := by
  unfold sm_F sm_C
  show sm_V G _ _ _ 0 0 0 [(0, .ref a)] [] _
  refine sv_aload_n dX3_hire_0 rfl ?_
  refine kp_g3 hp dX3_hire_1 sf_X3_22 ?_
  refine sv_iconst (nI 5) dX3_hire_4 (by decide) ?_
  refine sv_icmpN_ge 16 dX3_hire_5 (by decide) (by omega) (by omega) (fun c_5 => ?_) (fun c_5 => ?_)
  · refine sv_iconst (nI 0) dX3_hire_16 (by decide) ?_
    refine sv_iret dX3_hire_17 rfl rfl (Nat.le_refl _) (Nat.le_refl _) ?_
    exact ⟨rfl, rfl⟩
  · refine sv_aload_n dX3_hire_8 rfl ?_
    refine sv_iconst (nI 5) dX3_hire_9 (by decide) ?_
    refine sv_callV (As := [_]) sc_X3_43 (k3_pay0 hp (by omega) (by omega) (by omega)) rfl rfl (Nat.le_of_ble_eq_true rfl) dX3_hire_10 ⟨by decide, by decide⟩ ⟨Nat.le_refl _, Nat.le_refl _⟩ (Nat.le_of_ble_eq_true rfl) hp.1 (List.cons_ne_nil _ _) rfl ?_
    refine sv_ifN_ne 18 dX3_hire_13 (by decide) (by omega) (fun c_13 => absurd c_13 (by omega)) (fun c_13 => ?_)
    refine sv_iconst (nI 0) dX3_hire_16 (by decide) ?_
    refine sv_iret dX3_hire_17 rfl rfl (Nat.le_refl _) (Nat.le_refl _) ?_
    exact ⟨rfl, rfl⟩
theorem k3_hireK (hp : cl_hp G h a P) (h0 : P 0 < 2 ^ 31) (h5 : P 5 < 2 ^ 31) (hx : P 5 < 5) (hy : 5 ≤ P 0) : sm_F G mX3_hire 1 [.ref a] h (.inl (some (.int (nI 1)))) (cl_p G h a (va_up (va_up (va_up P 0 (P 0 - 5)) 5 (P 5 + 1)) 6 (P 6 + 1))) := by
  unfold sm_F sm_C
  show sm_V G _ _ _ 0 0 0 [(0, .ref a)] [] _
  refine sv_heap (pl_self hp) ?_
  refine sv_aload_n dX3_hire_0 rfl ?_
  refine kp_g3 pl_h dX3_hire_1 sf_X3_22 ?_
  refine sv_iconst (nI 5) dX3_hire_4 (by decide) ?_
  refine sv_icmpN_ge 16 dX3_hire_5 (by decide) (by omega) (by omega) (fun c_5 => absurd c_5 (by omega)) (fun c_5 => ?_)
  refine sv_aload_n dX3_hire_8 rfl ?_
  refine sv_iconst (nI 5) dX3_hire_9 (by decide) ?_
  refine sv_callV (As := [_]) sc_X3_43 (k3_payK pl_h (by omega) (by omega) (by omega)) rfl rfl (Nat.le_of_ble_eq_true rfl) dX3_hire_10 ⟨by decide, by decide⟩ ⟨Nat.le_refl _, Nat.le_refl _⟩ (Nat.le_of_ble_eq_true rfl) pl_h.1 (List.cons_ne_nil _ _) rfl ?_
  refine sv_heap pl_pl ?_
  refine sv_ifN_ne 18 dX3_hire_13 (by decide) (by omega) (fun c_13 => ?_) (fun c_13 => absurd c_13 (by omega))
  refine sv_aload_n dX3_hire_18 rfl ?_
  refine sv_dup dX3_hire_19 rfl ?_
  refine kp_g3 pl_h dX3_hire_20 sf_X3_22 ?_
  refine sv_iconst (nI 1) dX3_hire_23 (by decide) ?_
  refine sv_iaddN dX3_hire_24 ?_
  refine kp_p3 dX3_hire_25 sf_X3_22 ?_
  refine sv_aload_n dX3_hire_28 rfl ?_
  refine sv_dup dX3_hire_29 rfl ?_
  refine kp_g4 pl_h dX3_hire_30 sf_X3_25 ?_
  refine sv_iconst (nI 1) dX3_hire_33 (by decide) ?_
  refine sv_iaddN dX3_hire_34 ?_
  refine kp_p4 dX3_hire_35 sf_X3_25 ?_
  refine sv_iconst (nI 1) dX3_hire_38 (by decide) ?_
  refine sv_iret dX3_hire_39 rfl rfl (Nat.le_refl _) (Nat.le_refl _) ?_
  exact ⟨rfl, pl_eq (fun w hw => by rcases (show w = 0 ∨ w = 1 ∨ w = 2 ∨ w = 3 ∨ w = 4 ∨ w = 5 ∨ w = 6 ∨ w = 7 by omega) with rfl | rfl | rfl | rfl | rfl | rfl | rfl | rfl <;> simp [va_up])⟩
theorem k3_buildRoom0 (hp : cl_hp G h a P) (h0 : P 0 < 2 ^ 31) (h4 : P 4 < 2 ^ 31) (hx : 30 ≤ P 4 ∨ P 0 < 2) : sm_F G mX3_buildRoom 1 [.ref a] h (.inl (some (.int (nI 0)))) h := by
  unfold sm_F sm_C
  show sm_V G _ _ _ 0 0 0 [(0, .ref a)] [] _
  refine sv_aload_n dX3_buildRoom_0 rfl ?_
  refine kp_g2 hp dX3_buildRoom_1 sf_X3_19 ?_
  refine sv_bipush (nI 30) dX3_buildRoom_4 (by decide) ?_
  refine sv_icmpN_ge 17 dX3_buildRoom_6 (by decide) (by omega) (by omega) (fun c_6 => ?_) (fun c_6 => ?_)
  · refine sv_iconst (nI 0) dX3_buildRoom_17 (by decide) ?_
    refine sv_iret dX3_buildRoom_18 rfl rfl (Nat.le_refl _) (Nat.le_refl _) ?_
    exact ⟨rfl, rfl⟩
  · refine sv_aload_n dX3_buildRoom_9 rfl ?_
    refine sv_iconst (nI 2) dX3_buildRoom_10 (by decide) ?_
    refine sv_callV (As := [_]) sc_X3_43 (k3_pay0 hp (by omega) (by omega) (by omega)) rfl rfl (Nat.le_of_ble_eq_true rfl) dX3_buildRoom_11 ⟨by decide, by decide⟩ ⟨Nat.le_refl _, Nat.le_refl _⟩ (Nat.le_of_ble_eq_true rfl) hp.1 (List.cons_ne_nil _ _) rfl ?_
    refine sv_ifN_ne 19 dX3_buildRoom_14 (by decide) (by omega) (fun c_14 => absurd c_14 (by omega)) (fun c_14 => ?_)
    refine sv_iconst (nI 0) dX3_buildRoom_17 (by decide) ?_
    refine sv_iret dX3_buildRoom_18 rfl rfl (Nat.le_refl _) (Nat.le_refl _) ?_
    exact ⟨rfl, rfl⟩
theorem k3_buildRoomK (hp : cl_hp G h a P) (h0 : P 0 < 2 ^ 31) (h4 : P 4 < 2 ^ 31) (hx : P 4 < 30) (hy : 2 ≤ P 0) : sm_F G mX3_buildRoom 1 [.ref a] h (.inl (some (.int (nI 1)))) (cl_p G h a (va_up (va_up P 0 (P 0 - 2)) 4 (P 4 + 3))) := by
  unfold sm_F sm_C
  show sm_V G _ _ _ 0 0 0 [(0, .ref a)] [] _
  refine sv_heap (pl_self hp) ?_
  refine sv_aload_n dX3_buildRoom_0 rfl ?_
  refine kp_g2 pl_h dX3_buildRoom_1 sf_X3_19 ?_
  refine sv_bipush (nI 30) dX3_buildRoom_4 (by decide) ?_
  refine sv_icmpN_ge 17 dX3_buildRoom_6 (by decide) (by omega) (by omega) (fun c_6 => absurd c_6 (by omega)) (fun c_6 => ?_)
  refine sv_aload_n dX3_buildRoom_9 rfl ?_
  refine sv_iconst (nI 2) dX3_buildRoom_10 (by decide) ?_
  refine sv_callV (As := [_]) sc_X3_43 (k3_payK pl_h (by omega) (by omega) (by omega)) rfl rfl (Nat.le_of_ble_eq_true rfl) dX3_buildRoom_11 ⟨by decide, by decide⟩ ⟨Nat.le_refl _, Nat.le_refl _⟩ (Nat.le_of_ble_eq_true rfl) pl_h.1 (List.cons_ne_nil _ _) rfl ?_
  refine sv_heap pl_pl ?_
  refine sv_ifN_ne 19 dX3_buildRoom_14 (by decide) (by omega) (fun c_14 => ?_) (fun c_14 => absurd c_14 (by omega))
  refine sv_aload_n dX3_buildRoom_19 rfl ?_
  refine sv_dup dX3_buildRoom_20 rfl ?_
  refine kp_g2 pl_h dX3_buildRoom_21 sf_X3_19 ?_
  refine sv_iconst (nI 3) dX3_buildRoom_24 (by decide) ?_
  refine sv_iaddN dX3_buildRoom_25 ?_
  refine kp_p2 dX3_buildRoom_26 sf_X3_19 ?_
  refine sv_iconst (nI 1) dX3_buildRoom_29 (by decide) ?_
  refine sv_iret dX3_buildRoom_30 rfl rfl (Nat.le_refl _) (Nat.le_refl _) ?_
  exact ⟨rfl, pl_eq (fun w hw => by rcases (show w = 0 ∨ w = 1 ∨ w = 2 ∨ w = 3 ∨ w = 4 ∨ w = 5 ∨ w = 6 ∨ w = 7 by omega) with rfl | rfl | rfl | rfl | rfl | rfl | rfl | rfl <;> simp [va_up])⟩
end CP1
