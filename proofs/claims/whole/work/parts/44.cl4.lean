section CP4
variable {G : sm_G} {h : sm_H} {g n p q k c K : Nat} {P P2 : Nat → Nat} {B : Nat → Int32} {S T : gm_S} {x : Int64}
theorem k5_nextX  : sm_F G mX5_nextX 0 [.long x] h (.inl (some (.long (gm_nx x)))) h := by
  unfold sm_F sm_C
  show sm_V G _ _ _ 0 0 0 [(0, .long x)] [] _
  refine sv_lload_n dX5_nextX_0 rfl ?_
  refine sv_ldc2 dX5_nextX_1 (sm_tc ck_2_4_in 5 rfl rfl) ?_
  refine sv_lmul dX5_nextX_4 ?_
  refine sv_ldc2 dX5_nextX_5 (sm_tc ck_2_4_in 6 rfl rfl) ?_
  refine sv_ladd dX5_nextX_8 ?_
  refine sv_lret dX5_nextX_9 rfl (Nat.le_refl _) (Nat.le_refl _) ?_
  exact ⟨rfl, rfl⟩
theorem k5_weatherOf  : sm_F G mX5_weatherOf 0 [.long x] h (.inl (some (.int (nI (gm_die x))))) h := by
  unfold sm_F sm_C
  show sm_V G _ _ _ 0 0 0 [(0, .long x)] [] _
  refine sv_iconst (nI 1) dX5_weatherOf_0 (by decide) ?_
  refine sv_lload_n dX5_weatherOf_1 rfl ?_
  refine sv_bipush (nI 33) dX5_weatherOf_2 (by decide) ?_
  refine sv_lushr dX5_weatherOf_4 ?_
  refine sv_l2i dX5_weatherOf_5 ?_
  refine sv_top (nI (gm_r x)) (gm_r_eq x) ?_
  refine sv_bipush (nI 6) dX5_weatherOf_6 (by decide) ?_
  refine sv_iremN dX5_weatherOf_8 (by have := gm_r_lt x; omega) (by have := gm_r_lt x; omega) (by have := gm_r_lt x; omega) ?_
  refine sv_iaddN dX5_weatherOf_9 ?_
  refine sv_iret dX5_weatherOf_10 rfl rfl (Nat.le_refl _) (Nat.le_refl _) ?_
  exact ⟨rfl, rfl⟩
theorem cg_isP {p : Int32} (h3 : S 3 < 2 ^ 31) (c1 : ¬ p < 0) (c9 : ¬ nI (S 3) ≤ p) : gm_isP S p = true := by
  rw [Int32.lt_iff_toInt_lt, show (0 : Int32).toInt = 0 from rfl] at c1
  rw [Int32.le_iff_toInt_le, nI_toInt h3] at c9
  unfold gm_isP gm_in
  rw [decide_eq_true_eq, decide_eq_true_eq, Int32.le_iff_toInt_le, Int32.le_iff_toInt_le, nI_toInt (by omega), nI_toInt (by omega)]
  omega
theorem cg_isP0 {p : Int32} (c1 : p < 0) : gm_isP S p = false := by
  rw [Int32.lt_iff_toInt_lt, show (0 : Int32).toInt = 0 from rfl] at c1
  unfold gm_isP gm_in
  rw [decide_eq_false_iff_not, decide_eq_true_eq, Int32.le_iff_toInt_le, nI_toInt (by omega)]
  omega
theorem cg_isP9 {p : Int32} (h3 : S 3 < 2 ^ 31) (c9 : nI (S 3) ≤ p) : gm_isP S p = false := by
  rw [Int32.le_iff_toInt_le, nI_toInt h3] at c9
  unfold gm_isP gm_in
  rw [decide_eq_false_iff_not, decide_eq_true_eq, Int32.le_iff_toInt_le, Int32.le_iff_toInt_le, nI_toInt (by omega), nI_toInt (by omega)]
  omega
theorem k0_hasPlayer {p : Int32} (h3 : S 3 < 2 ^ 31) : sm_F G mX0_hasPlayer 0 [.ref g, .int p] (cl_g G h g S x P B) (.inl (some (.int (nI (b2n (gm_isP S p)))))) (cl_g G h g S x P B) := by
  unfold sm_F sm_C
  show sm_V G _ _ _ 0 0 0 [(0, .ref g), (1, .int p)] [] _
  refine sv_iload_n dX0_hasPlayer_0 rfl ?_
  refine sv_if_lt 16 dX0_hasPlayer_1 (by decide) (fun c_1 => ?_) (fun c_1 => ?_)
  · refine sv_iconst (nI 0) dX0_hasPlayer_16 (by decide) ?_
    refine sv_iret dX0_hasPlayer_17 rfl rfl (Nat.le_refl _) (Nat.le_refl _) ?_
    first | exact ⟨rbt (cg_isP h3 c_1 c_9), rfl⟩ | exact ⟨rbf (cg_isP0 c_1), rfl⟩ | exact ⟨rbf (cg_isP9 h3 c_9), rfl⟩
  · refine sv_iload_n dX0_hasPlayer_4 rfl ?_
    refine sv_aload_n dX0_hasPlayer_5 rfl ?_
    refine kg_g4 gl_0 dX0_hasPlayer_6 sf_X0_30 ?_
    refine sv_icmp_ge 16 dX0_hasPlayer_9 (by decide) (fun c_9 => ?_) (fun c_9 => ?_)
    · refine sv_iconst (nI 0) dX0_hasPlayer_16 (by decide) ?_
      refine sv_iret dX0_hasPlayer_17 rfl rfl (Nat.le_refl _) (Nat.le_refl _) ?_
      first | exact ⟨rbt (cg_isP h3 c_1 c_9), rfl⟩ | exact ⟨rbf (cg_isP0 c_1), rfl⟩ | exact ⟨rbf (cg_isP9 h3 c_9), rfl⟩
    · refine sv_iconst (nI 1) dX0_hasPlayer_12 (by decide) ?_
      refine sv_goto 17 dX0_hasPlayer_13 (by decide) ?_
      refine sv_iret dX0_hasPlayer_17 rfl rfl (Nat.le_refl _) (Nat.le_refl _) ?_
      first | exact ⟨rbt (cg_isP h3 c_1 c_9), rfl⟩ | exact ⟨rbf (cg_isP0 c_1), rfl⟩ | exact ⟨rbf (cg_isP9 h3 c_9), rfl⟩
theorem k0_hasTurn (h3 : S 3 < 2 ^ 31) (h6 : S 6 < 2 ^ 31) (h0 : S 0 < 2 ^ 31) : sm_F G mX0_hasTurn 0 [.ref g] (cl_g G h g S x P B) (.inl (some (.int (nI (b2n (gm_on S)))))) (cl_g G h g S x P B) := by
  unfold sm_F sm_C
  show sm_V G _ _ _ 0 0 0 [(0, .ref g)] [] _
  refine sv_aload_n dX0_hasTurn_0 rfl ?_
  refine kg_g4 gl_0 dX0_hasTurn_1 sf_X0_30 ?_
  refine sv_ifN_le 24 dX0_hasTurn_4 (by decide) (by omega) (fun c_4 => ?_) (fun c_4 => ?_)
  · refine sv_iconst (nI 0) dX0_hasTurn_24 (by decide) ?_
    refine sv_iret dX0_hasTurn_25 rfl rfl (Nat.le_refl _) (Nat.le_refl _) ?_
    first | exact ⟨rbt (decide_eq_true ⟨by omega, by omega⟩), rfl⟩ | exact ⟨rbf (decide_eq_false (by omega)), rfl⟩
  · refine sv_aload_n dX0_hasTurn_7 rfl ?_
    refine kg_g8 gl_0 dX0_hasTurn_8 sf_X0_43 ?_
    refine sv_aload_n dX0_hasTurn_11 rfl ?_
    refine kg_g3 gl_0 dX0_hasTurn_12 sf_X0_27 ?_
    refine sv_iconst (nI 0) dX0_hasTurn_15 (by decide) ?_
    refine kg_lds gl_4 dX0_hasTurn_16 (by omega) ?_
    refine sv_icmpN_ge 24 dX0_hasTurn_17 (by decide) (by omega) (by omega) (fun c_17 => ?_) (fun c_17 => ?_)
    · refine sv_iconst (nI 0) dX0_hasTurn_24 (by decide) ?_
      refine sv_iret dX0_hasTurn_25 rfl rfl (Nat.le_refl _) (Nat.le_refl _) ?_
      first | exact ⟨rbt (decide_eq_true ⟨by omega, by omega⟩), rfl⟩ | exact ⟨rbf (decide_eq_false (by omega)), rfl⟩
    · refine sv_iconst (nI 1) dX0_hasTurn_20 (by decide) ?_
      refine sv_goto 25 dX0_hasTurn_21 (by decide) ?_
      refine sv_iret dX0_hasTurn_25 rfl rfl (Nat.le_refl _) (Nat.le_refl _) ?_
      first | exact ⟨rbt (decide_eq_true ⟨by omega, by omega⟩), rfl⟩ | exact ⟨rbf (decide_eq_false (by omega)), rfl⟩
theorem k0_whoseTurn (h3 : S 3 < 2 ^ 31) (h6 : S 6 < 2 ^ 31) (h0 : S 0 < 2 ^ 31) : sm_F G mX0_whoseTurn 1 [.ref g] (cl_g G h g S x P B) (.inl (some (.int (gm_cur S)))) (cl_g G h g S x P B) := by
  unfold sm_F sm_C
  show sm_V G _ _ _ 0 0 0 [(0, .ref g)] [] _
  refine sv_aload_n dX0_whoseTurn_0 rfl ?_
  refine sv_callV (As := []) sc_X0_96 (k0_hasTurn (by omega) (by omega) (by omega)) rfl rfl (Nat.le_of_ble_eq_true rfl) dX0_whoseTurn_1 ⟨by decide, by decide⟩ ⟨Nat.le_refl _, Nat.le_refl _⟩ (Nat.le_of_ble_eq_true rfl) gl_0 (List.cons_ne_nil _ _) rfl ?_
  refine sv_ifN_eq 14 dX0_whoseTurn_4 (by decide) (by first | omega | exact Nat.lt_trans (b2n_lt _) (by decide)) (fun c_4 => ?_) (fun c_4 => ?_)
  · refine sv_iconst (-1) dX0_whoseTurn_14 (by decide) ?_
    refine sv_iret dX0_whoseTurn_15 rfl rfl (Nat.le_refl _) (Nat.le_refl _) ?_
    first | exact ⟨rI (if_pos (b2n_1 c_4)).symm, rfl⟩ | exact ⟨rI (if_neg (ne_t (b2n_f c_4))).symm, rfl⟩
  · refine sv_aload_n dX0_whoseTurn_7 rfl ?_
    refine kg_g5 gl_0 dX0_whoseTurn_8 sf_X0_34 ?_
    refine sv_goto 15 dX0_whoseTurn_11 (by decide) ?_
    refine sv_iret dX0_whoseTurn_15 rfl rfl (Nat.le_refl _) (Nat.le_refl _) ?_
    first | exact ⟨rI (if_pos (b2n_1 c_4)).symm, rfl⟩ | exact ⟨rI (if_neg (ne_t (b2n_f c_4))).symm, rfl⟩
theorem k0_playerBehind (hp : p < S 3) (h3 : S 3 ≤ 4) : sm_F G mX0_playerBehind 0 [.ref g, .int (nI p)] (cl_g G h g S x P B) (.inl (some (.int (nI ((p + 1) % S 3))))) (cl_g G h g S x P B) := by
  unfold sm_F sm_C
  show sm_V G _ _ _ 0 0 0 [(0, .ref g), (1, .int (nI p))] [] _
  refine sv_iload_n dX0_playerBehind_0 rfl ?_
  refine sv_iconst (nI 1) dX0_playerBehind_1 (by decide) ?_
  refine sv_iaddN dX0_playerBehind_2 ?_
  refine sv_aload_n dX0_playerBehind_3 rfl ?_
  refine kg_g4 gl_0 dX0_playerBehind_4 sf_X0_30 ?_
  refine sv_icmpN_ge 16 dX0_playerBehind_7 (by decide) (by omega) (by omega) (fun c_7 => ?_) (fun c_7 => ?_)
  · refine sv_iconst (nI 0) dX0_playerBehind_16 (by decide) ?_
    refine sv_iret dX0_playerBehind_17 rfl rfl (Nat.le_refl _) (Nat.le_refl _) ?_
    first | exact ⟨ri (Nat.mod_eq_of_lt (by omega)).symm, rfl⟩ | exact ⟨ri (by rw [show p + 1 = S 3 by omega, Nat.mod_self]), rfl⟩
  · refine sv_iload_n dX0_playerBehind_10 rfl ?_
    refine sv_iconst (nI 1) dX0_playerBehind_11 (by decide) ?_
    refine sv_iaddN dX0_playerBehind_12 ?_
    refine sv_goto 17 dX0_playerBehind_13 (by decide) ?_
    refine sv_iret dX0_playerBehind_17 rfl rfl (Nat.le_refl _) (Nat.le_refl _) ?_
    first | exact ⟨ri (Nat.mod_eq_of_lt (by omega)).symm, rfl⟩ | exact ⟨ri (by rw [show p + 1 = S 3 by omega, Nat.mod_self]), rfl⟩
theorem k0_countPlaced  : sm_F G mX0_countPlaced 0 [.ref g] (cl_g G h g S x P B) (.inl (some (.int (nI (gm_atp S))))) (cl_g G h g S x P B) := by
  unfold sm_F sm_C
  show sm_V G _ _ _ 0 0 0 [(0, .ref g)] [] _
  refine sv_iconst (nI 0) dX0_countPlaced_0 (by decide) ?_
  refine sv_istore_n (lv' := [(1, _), (0, _)]) dX0_countPlaced_1 (by decide) rfl ?_
  refine sv_iconst (nI 0) dX0_countPlaced_2 (by decide) ?_
  refine sv_istore_n (lv' := [(2, _), (1, _), (0, _)]) dX0_countPlaced_3 (by decide) rfl ?_
  refine sv_sub [0, 1, 2] rfl (sv_loop (pc := 4) (lv := fun n => [(2, .int (nI n)), (1, .int (nI (gm_atn S n))), (0, .ref g)]) (hp := fun n => (cl_g G h g S x P B)) (I := fun n => True) (N := 6) (trivial) ?_ ?_)
  · intro hI
    show sm_V G _ _ _ _ _ _ [(2, .int (nI 6)), (1, .int (nI (gm_atn S 6))), (0, .ref g)] [] (cl_g G h g S x P B)
    refine sv_iload_n dX0_countPlaced_4 rfl ?_
    refine sv_bipush (nI 6) dX0_countPlaced_5 (by decide) ?_
    refine sv_icmpN_ge 28 dX0_countPlaced_7 (by decide) (by omega) (by omega) (fun c_7 => ?_) (fun c_7 => absurd c_7 (by omega))
    refine sv_iload_n dX0_countPlaced_28 rfl ?_
    refine sv_iret dX0_countPlaced_29 rfl rfl (Nat.le_refl _) (Nat.le_refl _) ?_
    exact ⟨ri (gm_atn_6 S), rfl⟩
  · intro n hn hI ih
    show sm_V G _ _ _ _ _ _ [(2, .int (nI n)), (1, .int (nI (gm_atn S n))), (0, .ref g)] [] (cl_g G h g S x P B)
    refine sv_iload_n dX0_countPlaced_4 rfl ?_
    refine sv_bipush (nI 6) dX0_countPlaced_5 (by decide) ?_
    refine sv_icmpN_ge 28 dX0_countPlaced_7 (by decide) (by omega) (by omega) (fun c_7 => absurd c_7 (by omega)) (fun c_7 => ?_)
    refine sv_iload_n dX0_countPlaced_10 rfl ?_
    refine sv_aload_n dX0_countPlaced_11 rfl ?_
    refine kg_g1 gl_0 dX0_countPlaced_12 sf_X0_19 ?_
    refine sv_iload_n dX0_countPlaced_15 rfl ?_
    refine kg_ldq gl_2 dX0_countPlaced_16 (by omega) ?_
    refine kq_g1 (gl_pq (by omega)) dX0_countPlaced_17 sf_X0_77 ?_
    refine sv_iaddN dX0_countPlaced_20 ?_
    refine sv_istore_n (lv' := [(1, _), (2, _), (0, _)]) dX0_countPlaced_21 (by decide) rfl ?_
    refine sv_iinc1 (lv' := [(2, _), (1, _), (0, _)]) dX0_countPlaced_22 rfl (by decide) rfl ?_
    refine sv_goto 4 dX0_countPlaced_25 (by decide) ?_
    exact sv_sub [0, 1, 2] rfl (ih trivial)
theorem cg_d (hI : gm_I K S) : S 3 < 5 ∧ S 6 < 2 ^ 26 ∧ S 0 < 13 ∧ S 1 < 6 ∧ S 2 < 4 ∧ S 4 < 2 ^ 26 ∧ K < 2 ^ 26 := by
  have d3 := hI.1; have d6 := hI.2.1 6 (by omega) (by omega); have d4 := hI.2.1 4 (by omega) (by omega); have dK := hI.2.2.1
  have d34 : S 3 ≤ 4 := by have q := hI.2.2.2.2; omega
  omega
def cg_sm (S : gm_S) : Nat → Nat
  | 0 => 0
  | n + 1 => cg_sm S n + gm_tot S n
theorem k0_sumOfTotals (hI : gm_I K S) : sm_F G mX0_sumOfTotals 1 [.ref g] (cl_g G h g S x P B) (.inl (some (.int (nI (cg_sm S (S 3)))))) (cl_g G h g S x P B) := by
  unfold sm_F sm_C
  show sm_V G _ _ _ 0 0 0 [(0, .ref g)] [] _
  obtain ⟨d3, d6, d0, d1, d2, d4, dK⟩ := cg_d hI
  refine sv_iconst (nI 0) dX0_sumOfTotals_0 (by decide) ?_
  refine sv_istore_n (lv' := [(1, _), (0, _)]) dX0_sumOfTotals_1 (by decide) rfl ?_
  refine sv_iconst (nI 0) dX0_sumOfTotals_2 (by decide) ?_
  refine sv_istore_n (lv' := [(2, _), (1, _), (0, _)]) dX0_sumOfTotals_3 (by decide) rfl ?_
  refine sv_sub [0, 1, 2] rfl (sv_loop (pc := 4) (lv := fun n => [(2, .int (nI n)), (1, .int (nI (cg_sm S n))), (0, .ref g)]) (hp := fun n => (cl_g G h g S x P B)) (I := fun n => True) (N := S 3) (trivial) ?_ ?_)
  · intro hI
    show sm_V G _ _ _ _ _ _ [(2, .int (nI (S 3))), (1, .int (nI (cg_sm S (S 3)))), (0, .ref g)] [] (cl_g G h g S x P B)
    refine sv_iload_n dX0_sumOfTotals_4 rfl ?_
    refine sv_aload_n dX0_sumOfTotals_5 rfl ?_
    refine kg_g4 gl_0 dX0_sumOfTotals_6 sf_X0_30 ?_
    refine sv_icmpN_ge 35 dX0_sumOfTotals_9 (by decide) (by omega) (by omega) (fun c_9 => ?_) (fun c_9 => absurd c_9 (by omega))
    refine sv_iload_n dX0_sumOfTotals_35 rfl ?_
    refine sv_iret dX0_sumOfTotals_36 rfl rfl (Nat.le_refl _) (Nat.le_refl _) ?_
    exact ⟨rfl, rfl⟩
  · intro n hn hI ih
    show sm_V G _ _ _ _ _ _ [(2, .int (nI n)), (1, .int (nI (cg_sm S n))), (0, .ref g)] [] (cl_g G h g S x P B)
    refine sv_iload_n dX0_sumOfTotals_4 rfl ?_
    refine sv_aload_n dX0_sumOfTotals_5 rfl ?_
    refine kg_g4 gl_0 dX0_sumOfTotals_6 sf_X0_30 ?_
    refine sv_icmpN_ge 35 dX0_sumOfTotals_9 (by decide) (by omega) (by omega) (fun c_9 => absurd c_9 (by omega)) (fun c_9 => ?_)
    refine sv_iload_n dX0_sumOfTotals_12 rfl ?_
    refine sv_iconst (nI 4) dX0_sumOfTotals_13 (by decide) ?_
    refine sv_icmpN_ge 35 dX0_sumOfTotals_14 (by decide) (by omega) (by omega) (fun c_14 => absurd c_14 (by omega)) (fun c_14 => ?_)
    refine sv_iload_n dX0_sumOfTotals_17 rfl ?_
    refine sv_aload_n dX0_sumOfTotals_18 rfl ?_
    refine kg_g0 gl_0 dX0_sumOfTotals_19 sf_X0_11 ?_
    refine sv_iload_n dX0_sumOfTotals_22 rfl ?_
    refine kg_ldp gl_1 dX0_sumOfTotals_23 (by omega) ?_
    refine sv_callV (As := []) sc_X0_107 (k3_total (gl_pl (by omega))) rfl rfl (Nat.le_of_ble_eq_true rfl) dX0_sumOfTotals_24 ⟨by decide, by decide⟩ ⟨Nat.le_refl _, Nat.le_refl _⟩ (Nat.le_of_ble_eq_true rfl) (gl_pl (by omega)).1 (List.cons_ne_nil _ _) rfl ?_
    refine sv_top (nI (gm_tot S n)) rfl ?_
    refine sv_iaddN dX0_sumOfTotals_27 ?_
    refine sv_istore_n (lv' := [(1, _), (2, _), (0, _)]) dX0_sumOfTotals_28 (by decide) rfl ?_
    refine sv_iinc1 (lv' := [(2, _), (1, _), (0, _)]) dX0_sumOfTotals_29 rfl (by decide) rfl ?_
    refine sv_goto 4 dX0_sumOfTotals_32 (by decide) ?_
    exact sv_sub [0, 1, 2] rfl (ih trivial)
def cg_gt (S : gm_S) (n : Nat) : Nat := if n = 0 then 0 else gm_tot S (gm_rj S (n - 1))
theorem cg_gt_1 (h : n = 0) : gm_tot S n = cg_gt S (n + 1) := by subst h; rfl
theorem cg_gt_2 (h : 0 < n) (h2 : gm_tot S (gm_rj S (n - 1)) < gm_tot S n) : gm_tot S n = cg_gt S (n + 1) := by
  obtain ⟨j, rfl⟩ : ∃ j, n = j + 1 := ⟨n - 1, by omega⟩
  show gm_tot S (j + 1) = gm_tot S (if gm_tot S (gm_rj S j) < gm_tot S (j + 1) then j + 1 else gm_rj S j)
  rw [if_pos (by exact h2)]
theorem cg_gt_3 (h : 0 < n) (h2 : gm_tot S n ≤ gm_tot S (gm_rj S (n - 1))) : cg_gt S n = cg_gt S (n + 1) := by
  obtain ⟨j, rfl⟩ : ∃ j, n = j + 1 := ⟨n - 1, by omega⟩
  show gm_tot S (gm_rj S j) = gm_tot S (if gm_tot S (gm_rj S j) < gm_tot S (j + 1) then j + 1 else gm_rj S j)
  rw [if_neg (by have h3 : gm_tot S (j + 1) ≤ gm_tot S (gm_rj S j) := h2; omega)]
theorem cg_gt_p (h : 0 < n) : cg_gt S n = gm_tot S (gm_rj S (n - 1)) := if_neg (by omega)
theorem k0_findLeader (hI : gm_I K S) : sm_F G mX0_findLeader 1 [.ref g] (cl_g G h g S x P B) (.inl (some (.int (gm_ri S (S 3))))) (cl_g G h g S x P B) := by
  unfold sm_F sm_C
  show sm_V G _ _ _ 0 0 0 [(0, .ref g)] [] _
  obtain ⟨d3, d6, d0, d1, d2, d4, dK⟩ := cg_d hI
  have bt : ∀ p, p < 4 → gm_tot S p < 2 ^ 31 := fun p hp => gm_tot_lt hI hp
  have bg : ∀ n, n ≤ 4 → cg_gt S n < 2 ^ 31 := fun n hn => by unfold cg_gt; split; omega; exact bt _ (by have := gm_rj_le S (n - 1); omega)
  refine sv_iconst (-1) dX0_findLeader_0 (by decide) ?_
  refine sv_istore_n (lv' := [(1, _), (0, _)]) dX0_findLeader_1 (by decide) rfl ?_
  refine sv_iconst (nI 0) dX0_findLeader_2 (by decide) ?_
  refine sv_istore_n (lv' := [(2, _), (1, _), (0, _)]) dX0_findLeader_3 (by decide) rfl ?_
  refine sv_iconst (nI 0) dX0_findLeader_4 (by decide) ?_
  refine sv_istore_n (lv' := [(3, _), (2, _), (1, _), (0, _)]) dX0_findLeader_5 (by decide) rfl ?_
  refine sv_sub [0, 2, 1, 3] rfl (sv_loop (pc := 6) (lv := fun n => [(3, .int (nI n)), (1, .int (gm_ri S n)), (2, .int (nI (cg_gt S n))), (0, .ref g)]) (hp := fun n => (cl_g G h g S x P B)) (I := fun n => True) (N := S 3) (trivial) ?_ ?_)
  · intro hI
    show sm_V G _ _ _ _ _ _ [(3, .int (nI (S 3))), (1, .int (gm_ri S (S 3))), (2, .int (nI (cg_gt S (S 3)))), (0, .ref g)] [] (cl_g G h g S x P B)
    refine sv_iload_n dX0_findLeader_6 rfl ?_
    refine sv_aload_n dX0_findLeader_7 rfl ?_
    refine kg_g4 gl_0 dX0_findLeader_8 sf_X0_30 ?_
    refine sv_icmpN_ge 52 dX0_findLeader_11 (by decide) (by omega) (by omega) (fun c_11 => ?_) (fun c_11 => absurd c_11 (by omega))
    refine sv_iload_n dX0_findLeader_52 rfl ?_
    refine sv_iret dX0_findLeader_53 rfl rfl (Nat.le_refl _) (Nat.le_refl _) ?_
    exact ⟨rfl, rfl⟩
  · intro n hn hI ih
    show sm_V G _ _ _ _ _ _ [(3, .int (nI n)), (1, .int (gm_ri S n)), (2, .int (nI (cg_gt S n))), (0, .ref g)] [] (cl_g G h g S x P B)
    have b1 := bt n (by omega); have b2 := bg n (by omega)
    refine sv_iload_n dX0_findLeader_6 rfl ?_
    refine sv_aload_n dX0_findLeader_7 rfl ?_
    refine kg_g4 gl_0 dX0_findLeader_8 sf_X0_30 ?_
    refine sv_icmpN_ge 52 dX0_findLeader_11 (by decide) (by omega) (by omega) (fun c_11 => absurd c_11 (by omega)) (fun c_11 => ?_)
    refine sv_iload_n dX0_findLeader_14 rfl ?_
    refine sv_iconst (nI 4) dX0_findLeader_15 (by decide) ?_
    refine sv_icmpN_ge 52 dX0_findLeader_16 (by decide) (by omega) (by omega) (fun c_16 => absurd c_16 (by omega)) (fun c_16 => ?_)
    refine sv_aload_n dX0_findLeader_19 rfl ?_
    refine kg_g0 gl_0 dX0_findLeader_20 sf_X0_11 ?_
    refine sv_iload_n dX0_findLeader_23 rfl ?_
    refine kg_ldp gl_1 dX0_findLeader_24 (by omega) ?_
    refine sv_callV (As := []) sc_X0_107 (k3_total (gl_pl (by omega))) rfl rfl (Nat.le_of_ble_eq_true rfl) dX0_findLeader_25 ⟨by decide, by decide⟩ ⟨Nat.le_refl _, Nat.le_refl _⟩ (Nat.le_of_ble_eq_true rfl) (gl_pl (by omega)).1 (List.cons_ne_nil _ _) rfl ?_
    refine sv_top (nI (gm_tot S n)) rfl ?_
    refine sv_istore (lv' := [(4, _), (3, _), (1, _), (2, _), (0, _)]) dX0_findLeader_28 (by decide) rfl ?_
    refine sv_iload_n dX0_findLeader_30 rfl ?_
    refine sv_iconst (-1) dX0_findLeader_31 (by decide) ?_
    refine sv_icmp_eq 41 dX0_findLeader_32 (by decide) (fun c_32 => ?_) (fun c_32 => ?_)
    · refine sv_iload_n dX0_findLeader_41 rfl ?_
      refine sv_istore_n (lv' := [(1, _), (4, _), (3, _), (2, _), (0, _)]) dX0_findLeader_42 (by decide) rfl ?_
      refine sv_iload dX0_findLeader_43 rfl ?_
      refine sv_istore_n (lv' := [(2, _), (1, _), (4, _), (3, _), (0, _)]) dX0_findLeader_45 (by decide) rfl ?_
      refine sv_iinc1 (lv' := [(3, _), (2, _), (1, _), (4, _), (0, _)]) dX0_findLeader_46 rfl (by decide) rfl ?_
      refine sv_goto 6 dX0_findLeader_49 (by decide) ?_
      have e1 : nI n = gm_ri S (n + 1) := by first | exact gm_ri_1 (gm_ri_z (by omega) c_32) | exact gm_ri_2 (gm_ri_p c_32).1 (by rw [cg_gt_p (gm_ri_p c_32).1] at c_38; exact c_38)
      have e2 : gm_tot S n = cg_gt S (n + 1) := by first | exact cg_gt_1 (gm_ri_z (by omega) c_32) | exact cg_gt_2 (gm_ri_p c_32).1 (by rw [cg_gt_p (gm_ri_p c_32).1] at c_38; exact c_38)
      have k := ih trivial
      rw [← e1, ← e2] at k
      exact sv_sub [0, 2, 1, 4] rfl k
    · refine sv_iload dX0_findLeader_35 rfl ?_
      refine sv_iload_n dX0_findLeader_37 rfl ?_
      refine sv_icmpN_le 46 dX0_findLeader_38 (by decide) (by omega) (by omega) (fun c_38 => ?_) (fun c_38 => ?_)
      · refine sv_iinc1 (lv' := [(3, _), (4, _), (1, _), (2, _), (0, _)]) dX0_findLeader_46 rfl (by decide) rfl ?_
        refine sv_goto 6 dX0_findLeader_49 (by decide) ?_
        have e0 := (gm_ri_p c_32).1
        have e1 : gm_ri S n = gm_ri S (n + 1) := gm_ri_3 e0 (by rw [← cg_gt_p e0]; exact c_38)
        have e2 : cg_gt S n = cg_gt S (n + 1) := cg_gt_3 e0 (by rw [← cg_gt_p e0]; exact c_38)
        have k := ih trivial
        rw [← e1, ← e2] at k
        exact sv_sub [0, 2, 3, 4] rfl k
      · refine sv_iload_n dX0_findLeader_41 rfl ?_
        refine sv_istore_n (lv' := [(1, _), (4, _), (3, _), (2, _), (0, _)]) dX0_findLeader_42 (by decide) rfl ?_
        refine sv_iload dX0_findLeader_43 rfl ?_
        refine sv_istore_n (lv' := [(2, _), (1, _), (4, _), (3, _), (0, _)]) dX0_findLeader_45 (by decide) rfl ?_
        refine sv_iinc1 (lv' := [(3, _), (2, _), (1, _), (4, _), (0, _)]) dX0_findLeader_46 rfl (by decide) rfl ?_
        refine sv_goto 6 dX0_findLeader_49 (by decide) ?_
        have e1 : nI n = gm_ri S (n + 1) := by first | exact gm_ri_1 (gm_ri_z (by omega) c_32) | exact gm_ri_2 (gm_ri_p c_32).1 (by rw [cg_gt_p (gm_ri_p c_32).1] at c_38; exact c_38)
        have e2 : gm_tot S n = cg_gt S (n + 1) := by first | exact cg_gt_1 (gm_ri_z (by omega) c_32) | exact cg_gt_2 (gm_ri_p c_32).1 (by rw [cg_gt_p (gm_ri_p c_32).1] at c_38; exact c_38)
        have k := ih trivial
        rw [← e1, ← e2] at k
        exact sv_sub [0, 2, 1, 4] rfl k
theorem cg_bk : gm_bk S q = cq_fo (S (45 + 4 * q)) (cl_o S q) (S 4) := rfl
def cg_bw (S : gm_S) (q : Nat) : Int32 := if gm_full S q = true ∧ gm_bk S q ≠ 3 then nI (S (45 + 4 * q + 1 + gm_bk S q)) else -1
theorem cg_fo_lt {c p : Nat} {O : Nat → Nat} (h : cq_fo c O p ≠ 3) : cq_fo c O p < c ∧ cq_fo c O p < 3 := by
  unfold cq_fo at h ⊢; (repeat' split at h) <;> (repeat' split) <;> omega
theorem k0_findBumped (hq : q < 6) (h2 : S 2 < 2 ^ 31) (hw : S (45 + 4 * q) ≤ 3) (h4 : S 4 < 2 ^ 31) (ho : ∀ k, k < S (45 + 4 * q) → S (45 + 4 * q + 1 + k) < 2 ^ 31) : sm_F G mX0_findBumped 1 [.ref g, .int (nI q)] (cl_g G h g S x P B) (.inl (some (.int (cg_bw S q)))) (cl_g G h g S x P B) := by
  unfold sm_F sm_C
  show sm_V G _ _ _ 0 0 0 [(0, .ref g), (1, .int (nI q))] [] _
  refine sv_aload_n dX0_findBumped_0 rfl ?_
  refine kg_g1 gl_0 dX0_findBumped_1 sf_X0_19 ?_
  refine sv_iload_n dX0_findBumped_4 rfl ?_
  refine kg_ldq gl_2 dX0_findBumped_5 (by omega) ?_
  refine sv_astore_n (lv' := [(2, _), (0, _), (1, _)]) dX0_findBumped_6 (by decide) rfl ?_
  refine sv_aload_n dX0_findBumped_7 rfl ?_
  refine kq_g1 (gl_pq (by omega)) dX0_findBumped_8 sf_X0_77 ?_
  refine sv_aload_n dX0_findBumped_11 rfl ?_
  refine kg_g3 gl_0 dX0_findBumped_12 sf_X0_27 ?_
  refine sv_iconst (nI 2) dX0_findBumped_15 (by decide) ?_
  refine kg_lds gl_4 dX0_findBumped_16 (by omega) ?_
  refine sv_icmpN_ge 24 dX0_findBumped_17 (by decide) (by omega) (by omega) (fun c_17 => ?_) (fun c_17 => ?_)
  · refine sv_aload_n dX0_findBumped_24 rfl ?_
    refine sv_aload_n dX0_findBumped_25 rfl ?_
    refine sv_aload_n dX0_findBumped_26 rfl ?_
    refine kg_g5 gl_0 dX0_findBumped_27 sf_X0_34 ?_
    refine sv_callV (As := [_]) sc_X0_110 (k2_findOther (gl_pq (by omega)) hw h4 ho) rfl rfl (Nat.le_of_ble_eq_true rfl) dX0_findBumped_30 ⟨by decide, by decide⟩ ⟨Nat.le_refl _, Nat.le_refl _⟩ (Nat.le_of_ble_eq_true rfl) (gl_pq (by omega)).1 (List.cons_ne_nil _ _) rfl ?_
    by_cases h3 : cq_fo (S (45 + 4 * q)) (cl_o S q) (S 4) = 3
    · refine sv_top (-1) (if_pos h3) ?_
      refine sv_callV (As := [_]) sc_X0_114 (k2_ownerAt1 (gl_pq (by omega))) rfl rfl (Nat.le_of_ble_eq_true rfl) dX0_findBumped_33 ⟨by decide, by decide⟩ ⟨Nat.le_refl _, Nat.le_refl _⟩ (Nat.le_of_ble_eq_true rfl) (gl_pq (by omega)).1 (List.cons_ne_nil _ _) rfl ?_
      refine sv_iret dX0_findBumped_36 rfl rfl (Nat.le_refl _) (Nat.le_refl _) ?_
      exact ⟨rI (by unfold cg_bw; rw [if_neg (fun z => z.2 h3)]), rfl⟩
    · have hl := cg_fo_lt h3
      refine sv_top (nI (cq_fo (S (45 + 4 * q)) (cl_o S q) (S 4))) (if_neg h3) ?_
      refine sv_callV (As := [_]) sc_X0_114 (k2_ownerAt (gl_pq (by omega)) hw (by omega)) rfl rfl (Nat.le_of_ble_eq_true rfl) dX0_findBumped_33 ⟨by decide, by decide⟩ ⟨Nat.le_refl _, Nat.le_refl _⟩ (Nat.le_of_ble_eq_true rfl) (gl_pq (by omega)).1 (List.cons_ne_nil _ _) rfl ?_
      refine sv_iret dX0_findBumped_36 rfl rfl (Nat.le_refl _) (Nat.le_refl _) ?_
      exact ⟨rI (by unfold cg_bw cq_at; rw [if_pos hl.1, if_pos ⟨decide_eq_true c_17, h3⟩]; rfl), rfl⟩
  · refine sv_iconst (-1) dX0_findBumped_20 (by decide) ?_
    refine sv_goto 36 dX0_findBumped_21 (by decide) ?_
    refine sv_iret dX0_findBumped_36 rfl rfl (Nat.le_refl _) (Nat.le_refl _) ?_
    exact ⟨rI (by unfold cg_bw; rw [if_neg (fun z => by have := of_decide_eq_true z.1; omega)]), rfl⟩
theorem k0_number (hI : gm_I K S) (hk : k ≤ 11) : sm_F G mX0_number 2 [.ref g, .int (nI k)] (cl_g G h g S x P B) (.inl (some (.int (gm_abo S k)))) (cl_g G h g S x P B) := by
  unfold sm_F sm_C
  show sm_V G _ _ _ 0 0 0 [(0, .ref g), (1, .int (nI k))] [] _
  obtain ⟨d3, d6, d0, d1, d2, d4, dK⟩ := cg_d hI
  refine sv_aload_n dX0_number_0 rfl ?_
  refine kg_g4 gl_0 dX0_number_1 sf_X0_30 ?_
  refine sv_ifN_ne 9 dX0_number_4 (by decide) (by first | omega | exact Nat.lt_trans (b2n_lt _) (by decide)) (fun c_4 => ?_) (fun c_4 => ?_)
  · refine sv_iload_n dX0_number_9 rfl ?_
    rcases (show k = 0 ∨ k = 1 ∨ k = 2 ∨ k = 3 ∨ k = 4 ∨ k = 5 ∨ k = 6 ∨ k = 7 ∨ k = 8 ∨ k = 9 ∨ k = 10 ∨ k = 11 from by omega) with rfl | rfl | rfl | rfl | rfl | rfl | rfl | rfl | rfl | rfl | rfl | rfl
    · refine sv_tableIn (off := 58) 68 dX0_number_10 (by decide) (by decide) (by decide) (by decide) ?_
      refine sv_aload_n dX0_number_68 rfl ?_
      refine kg_g4 gl_0 dX0_number_69 sf_X0_30 ?_
      refine sv_iret dX0_number_72 rfl rfl (Nat.le_refl _) (Nat.le_refl _) ?_
      first | exact ⟨rI (by unfold gm_abo; rw [if_pos (.inr c_4)]; rw [c_4]), rfl⟩ | exact ⟨rI (by unfold gm_abo; rw [if_pos (.inl rfl)]), rfl⟩ | exact ⟨rI (by unfold gm_abo; rw [if_neg (by omega)]; first | rfl | (show _ = nI (if gm_on S = true then 0 else 1); first | rw [if_pos (b2n_1 c_92)] | rw [if_neg (ne_t (b2n_f c_92))])), rfl⟩
    · refine sv_tableIn (off := 63) 73 dX0_number_10 (by decide) (by decide) (by decide) (by decide) ?_
      refine sv_aload_n dX0_number_73 rfl ?_
      refine sv_callV (As := []) sc_X0_100 (k0_whoseTurn (by omega) (by omega) (by omega)) rfl rfl (Nat.le_of_ble_eq_true rfl) dX0_number_74 ⟨by decide, by decide⟩ ⟨Nat.le_refl _, Nat.le_refl _⟩ (Nat.le_of_ble_eq_true rfl) gl_0 (List.cons_ne_nil _ _) rfl ?_
      refine sv_iret dX0_number_77 rfl rfl (Nat.le_refl _) (Nat.le_refl _) ?_
      first | exact ⟨rI (by unfold gm_abo; rw [if_pos (.inr c_4)]; rw [c_4]), rfl⟩ | exact ⟨rI (by unfold gm_abo; rw [if_pos (.inl rfl)]), rfl⟩ | exact ⟨rI (by unfold gm_abo; rw [if_neg (by omega)]; first | rfl | (show _ = nI (if gm_on S = true then 0 else 1); first | rw [if_pos (b2n_1 c_92)] | rw [if_neg (ne_t (b2n_f c_92))])), rfl⟩
    · refine sv_tableIn (off := 68) 78 dX0_number_10 (by decide) (by decide) (by decide) (by decide) ?_
      refine sv_aload_n dX0_number_78 rfl ?_
      refine kg_g7 gl_0 dX0_number_79 sf_X0_40 ?_
      refine sv_iret dX0_number_82 rfl rfl (Nat.le_refl _) (Nat.le_refl _) ?_
      first | exact ⟨rI (by unfold gm_abo; rw [if_pos (.inr c_4)]; rw [c_4]), rfl⟩ | exact ⟨rI (by unfold gm_abo; rw [if_pos (.inl rfl)]), rfl⟩ | exact ⟨rI (by unfold gm_abo; rw [if_neg (by omega)]; first | rfl | (show _ = nI (if gm_on S = true then 0 else 1); first | rw [if_pos (b2n_1 c_92)] | rw [if_neg (ne_t (b2n_f c_92))])), rfl⟩
    · refine sv_tableIn (off := 73) 83 dX0_number_10 (by decide) (by decide) (by decide) (by decide) ?_
      refine sv_aload_n dX0_number_83 rfl ?_
      refine kg_g8 gl_0 dX0_number_84 sf_X0_43 ?_
      refine sv_iret dX0_number_87 rfl rfl (Nat.le_refl _) (Nat.le_refl _) ?_
      first | exact ⟨rI (by unfold gm_abo; rw [if_pos (.inr c_4)]; rw [c_4]), rfl⟩ | exact ⟨rI (by unfold gm_abo; rw [if_pos (.inl rfl)]), rfl⟩ | exact ⟨rI (by unfold gm_abo; rw [if_neg (by omega)]; first | rfl | (show _ = nI (if gm_on S = true then 0 else 1); first | rw [if_pos (b2n_1 c_92)] | rw [if_neg (ne_t (b2n_f c_92))])), rfl⟩
    · refine sv_tableIn (off := 78) 88 dX0_number_10 (by decide) (by decide) (by decide) (by decide) ?_
      refine sv_aload_n dX0_number_88 rfl ?_
      refine sv_callV (As := []) sc_X0_96 (k0_hasTurn (by omega) (by omega) (by omega)) rfl rfl (Nat.le_of_ble_eq_true rfl) dX0_number_89 ⟨by decide, by decide⟩ ⟨Nat.le_refl _, Nat.le_refl _⟩ (Nat.le_of_ble_eq_true rfl) gl_0 (List.cons_ne_nil _ _) rfl ?_
      refine sv_ifN_eq 99 dX0_number_92 (by decide) (by first | omega | exact Nat.lt_trans (b2n_lt _) (by decide)) (fun c_92 => ?_) (fun c_92 => ?_)
      · refine sv_iconst (nI 1) dX0_number_99 (by decide) ?_
        refine sv_iret dX0_number_100 rfl rfl (Nat.le_refl _) (Nat.le_refl _) ?_
        first | exact ⟨rI (by unfold gm_abo; rw [if_pos (.inr c_4)]; rw [c_4]), rfl⟩ | exact ⟨rI (by unfold gm_abo; rw [if_pos (.inl rfl)]), rfl⟩ | exact ⟨rI (by unfold gm_abo; rw [if_neg (by omega)]; first | rfl | (show _ = nI (if gm_on S = true then 0 else 1); first | rw [if_pos (b2n_1 c_92)] | rw [if_neg (ne_t (b2n_f c_92))])), rfl⟩
      · refine sv_iconst (nI 0) dX0_number_95 (by decide) ?_
        refine sv_goto 100 dX0_number_96 (by decide) ?_
        refine sv_iret dX0_number_100 rfl rfl (Nat.le_refl _) (Nat.le_refl _) ?_
        first | exact ⟨rI (by unfold gm_abo; rw [if_pos (.inr c_4)]; rw [c_4]), rfl⟩ | exact ⟨rI (by unfold gm_abo; rw [if_pos (.inl rfl)]), rfl⟩ | exact ⟨rI (by unfold gm_abo; rw [if_neg (by omega)]; first | rfl | (show _ = nI (if gm_on S = true then 0 else 1); first | rw [if_pos (b2n_1 c_92)] | rw [if_neg (ne_t (b2n_f c_92))])), rfl⟩
    · refine sv_tableIn (off := 91) 101 dX0_number_10 (by decide) (by decide) (by decide) (by decide) ?_
      refine sv_aload_n dX0_number_101 rfl ?_
      refine kg_g2 gl_0 dX0_number_102 sf_X0_23 ?_
      refine sv_iconst (nI 0) dX0_number_105 (by decide) ?_
      refine kg_ldr gl_3 dX0_number_106 (by first | omega | exact Nat.lt_trans (b2n_lt _) (by decide)) ?_
      refine sv_iret dX0_number_107 rfl rfl (Nat.le_refl _) (Nat.le_refl _) ?_
      first | exact ⟨rI (by unfold gm_abo; rw [if_pos (.inr c_4)]; rw [c_4]), rfl⟩ | exact ⟨rI (by unfold gm_abo; rw [if_pos (.inl rfl)]), rfl⟩ | exact ⟨rI (by unfold gm_abo; rw [if_neg (by omega)]; first | rfl | (show _ = nI (if gm_on S = true then 0 else 1); first | rw [if_pos (b2n_1 c_92)] | rw [if_neg (ne_t (b2n_f c_92))])), rfl⟩
    · refine sv_tableIn (off := 98) 108 dX0_number_10 (by decide) (by decide) (by decide) (by decide) ?_
      refine sv_aload_n dX0_number_108 rfl ?_
      refine kg_g2 gl_0 dX0_number_109 sf_X0_23 ?_
      refine sv_iconst (nI 1) dX0_number_112 (by decide) ?_
      refine kg_ldr gl_3 dX0_number_113 (by first | omega | exact Nat.lt_trans (b2n_lt _) (by decide)) ?_
      refine sv_iret dX0_number_114 rfl rfl (Nat.le_refl _) (Nat.le_refl _) ?_
      first | exact ⟨rI (by unfold gm_abo; rw [if_pos (.inr c_4)]; rw [c_4]), rfl⟩ | exact ⟨rI (by unfold gm_abo; rw [if_pos (.inl rfl)]), rfl⟩ | exact ⟨rI (by unfold gm_abo; rw [if_neg (by omega)]; first | rfl | (show _ = nI (if gm_on S = true then 0 else 1); first | rw [if_pos (b2n_1 c_92)] | rw [if_neg (ne_t (b2n_f c_92))])), rfl⟩
    · refine sv_tableIn (off := 105) 115 dX0_number_10 (by decide) (by decide) (by decide) (by decide) ?_
      refine sv_aload_n dX0_number_115 rfl ?_
      refine kg_g2 gl_0 dX0_number_116 sf_X0_23 ?_
      refine sv_iconst (nI 2) dX0_number_119 (by decide) ?_
      refine kg_ldr gl_3 dX0_number_120 (by first | omega | exact Nat.lt_trans (b2n_lt _) (by decide)) ?_
      refine sv_iret dX0_number_121 rfl rfl (Nat.le_refl _) (Nat.le_refl _) ?_
      first | exact ⟨rI (by unfold gm_abo; rw [if_pos (.inr c_4)]; rw [c_4]), rfl⟩ | exact ⟨rI (by unfold gm_abo; rw [if_pos (.inl rfl)]), rfl⟩ | exact ⟨rI (by unfold gm_abo; rw [if_neg (by omega)]; first | rfl | (show _ = nI (if gm_on S = true then 0 else 1); first | rw [if_pos (b2n_1 c_92)] | rw [if_neg (ne_t (b2n_f c_92))])), rfl⟩
    · refine sv_tableIn (off := 112) 122 dX0_number_10 (by decide) (by decide) (by decide) (by decide) ?_
      refine sv_aload_n dX0_number_122 rfl ?_
      refine kg_g6 gl_0 dX0_number_123 sf_X0_37 ?_
      refine sv_iret dX0_number_126 rfl rfl (Nat.le_refl _) (Nat.le_refl _) ?_
      first | exact ⟨rI (by unfold gm_abo; rw [if_pos (.inr c_4)]; rw [c_4]), rfl⟩ | exact ⟨rI (by unfold gm_abo; rw [if_pos (.inl rfl)]), rfl⟩ | exact ⟨rI (by unfold gm_abo; rw [if_neg (by omega)]; first | rfl | (show _ = nI (if gm_on S = true then 0 else 1); first | rw [if_pos (b2n_1 c_92)] | rw [if_neg (ne_t (b2n_f c_92))])), rfl⟩
    · refine sv_tableIn (off := 117) 127 dX0_number_10 (by decide) (by decide) (by decide) (by decide) ?_
      refine sv_aload_n dX0_number_127 rfl ?_
      refine sv_callV (As := []) sc_X0_104 (k0_countPlaced) rfl rfl (Nat.le_of_ble_eq_true rfl) dX0_number_128 ⟨by decide, by decide⟩ ⟨Nat.le_refl _, Nat.le_refl _⟩ (Nat.le_of_ble_eq_true rfl) gl_0 (List.cons_ne_nil _ _) rfl ?_
      refine sv_iret dX0_number_131 rfl rfl (Nat.le_refl _) (Nat.le_refl _) ?_
      first | exact ⟨rI (by unfold gm_abo; rw [if_pos (.inr c_4)]; rw [c_4]), rfl⟩ | exact ⟨rI (by unfold gm_abo; rw [if_pos (.inl rfl)]), rfl⟩ | exact ⟨rI (by unfold gm_abo; rw [if_neg (by omega)]; first | rfl | (show _ = nI (if gm_on S = true then 0 else 1); first | rw [if_pos (b2n_1 c_92)] | rw [if_neg (ne_t (b2n_f c_92))])), rfl⟩
    · refine sv_tableIn (off := 122) 132 dX0_number_10 (by decide) (by decide) (by decide) (by decide) ?_
      refine sv_aload_n dX0_number_132 rfl ?_
      refine kg_g9 gl_0 dX0_number_133 sf_X0_46 ?_
      refine sv_iret dX0_number_136 rfl rfl (Nat.le_refl _) (Nat.le_refl _) ?_
      first | exact ⟨rI (by unfold gm_abo; rw [if_pos (.inr c_4)]; rw [c_4]), rfl⟩ | exact ⟨rI (by unfold gm_abo; rw [if_pos (.inl rfl)]), rfl⟩ | exact ⟨rI (by unfold gm_abo; rw [if_neg (by omega)]; first | rfl | (show _ = nI (if gm_on S = true then 0 else 1); first | rw [if_pos (b2n_1 c_92)] | rw [if_neg (ne_t (b2n_f c_92))])), rfl⟩
    · refine sv_tableOut 137 dX0_number_10 (by decide) (by decide) ?_
      refine sv_aload_n dX0_number_137 rfl ?_
      refine kg_g10 gl_0 dX0_number_138 sf_X0_49 ?_
      refine sv_iret dX0_number_141 rfl rfl (Nat.le_refl _) (Nat.le_refl _) ?_
      first | exact ⟨rI (by unfold gm_abo; rw [if_pos (.inr c_4)]; rw [c_4]), rfl⟩ | exact ⟨rI (by unfold gm_abo; rw [if_pos (.inl rfl)]), rfl⟩ | exact ⟨rI (by unfold gm_abo; rw [if_neg (by omega)]; first | rfl | (show _ = nI (if gm_on S = true then 0 else 1); first | rw [if_pos (b2n_1 c_92)] | rw [if_neg (ne_t (b2n_f c_92))])), rfl⟩
  · refine sv_iconst (nI 0) dX0_number_7 (by decide) ?_
    refine sv_iret dX0_number_8 rfl rfl (Nat.le_refl _) (Nat.le_refl _) ?_
    first | exact ⟨rI (by unfold gm_abo; rw [if_pos (.inr c_4)]; rw [c_4]), rfl⟩ | exact ⟨rI (by unfold gm_abo; rw [if_pos (.inl rfl)]), rfl⟩ | exact ⟨rI (by unfold gm_abo; rw [if_neg (by omega)]; first | rfl | (show _ = nI (if gm_on S = true then 0 else 1); first | rw [if_pos (b2n_1 c_92)] | rw [if_neg (ne_t (b2n_f c_92))])), rfl⟩
theorem k0_worthOfTried (h4 : S 4 < 4) : sm_F G mX0_worthOfTried 1 [.ref g] (cl_g G h g S x P B) (.inl (some (.int (nI (100 + cp_tot P) - nI (gm_tot S (S 4)))))) (cl_g G h g S x P B) := by
  unfold sm_F sm_C
  show sm_V G _ _ _ 0 0 0 [(0, .ref g)] [] _
  refine sv_bipush (nI 100) dX0_worthOfTried_0 (by decide) ?_
  refine sv_aload_n dX0_worthOfTried_2 rfl ?_
  refine kg_g12 gl_0 dX0_worthOfTried_3 sf_X0_57 ?_
  refine sv_callV (As := []) sc_X0_107 (k3_total gl_af) rfl rfl (Nat.le_of_ble_eq_true rfl) dX0_worthOfTried_6 ⟨by decide, by decide⟩ ⟨Nat.le_refl _, Nat.le_refl _⟩ (Nat.le_of_ble_eq_true rfl) gl_af.1 (List.cons_ne_nil _ _) rfl ?_
  refine sv_iaddN dX0_worthOfTried_9 ?_
  refine sv_aload_n dX0_worthOfTried_10 rfl ?_
  refine kg_g0 gl_0 dX0_worthOfTried_11 sf_X0_11 ?_
  refine sv_aload_n dX0_worthOfTried_14 rfl ?_
  refine kg_g5 gl_0 dX0_worthOfTried_15 sf_X0_34 ?_
  refine kg_ldp gl_1 dX0_worthOfTried_18 (by omega) ?_
  refine sv_callV (As := []) sc_X0_107 (k3_total (gl_pl (by omega))) rfl rfl (Nat.le_of_ble_eq_true rfl) dX0_worthOfTried_19 ⟨by decide, by decide⟩ ⟨Nat.le_refl _, Nat.le_refl _⟩ (Nat.le_of_ble_eq_true rfl) (gl_pl (by omega)).1 (List.cons_ne_nil _ _) rfl ?_
  refine sv_top (nI (gm_tot S (S 4))) rfl ?_
  refine sv_isub dX0_worthOfTried_22 ?_
  refine sv_iret dX0_worthOfTried_23 rfl rfl (Nat.le_refl _) (Nat.le_refl _) ?_
  exact ⟨rfl, rfl⟩
end CP4
