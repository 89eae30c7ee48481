section CP7
variable {G : sm_G} {h : sm_H} {g n p q k c K : Nat} {P P2 : Nat → Nat} {B : Nat → Int32} {S T : gm_S} {x : Int64} {P9 : Nat → Nat}
/-- the row behind the bumping, ahead of what the bumper pays -/
def cg_B (S : gm_S) (q : Nat) : gm_S := fun i => if i = 13 + 8 * S 4 then S i else gm_bd S q i
theorem cg_B_n (hf : gm_full S q = false) : S = cg_B S q := by
  funext i; unfold cg_B; rw [gm_bd_n hf]; split <;> rfl
theorem cg_B_f {b o : Nat} (hf : gm_full S q = true) (hb : gm_bk S q = b) (ho : S (45 + 4 * q + 1 + b) = o) (h3 : b < S (45 + 4 * q)) (hw : S (45 + 4 * q) ≤ 3) (ho4 : o < 4) (h4 : S 4 < 4) (hne : o ≠ S 4) (hq : q < 6) : ∀ i, i < 69 → va_up (cl_v (va_up S (13 + 8 * o) (cl_r S o 0 + S 1)) q (va_up S (13 + 8 * o) (cl_r S o 0 + S 1) (45 + 4 * q) - 1) (cq_sh (cl_o (va_up S (13 + 8 * o) (cl_r S o 0 + S 1)) q) b (va_up S (13 + 8 * o) (cl_r S o 0 + S 1) (45 + 4 * q) - 1 - b))) 11 (cl_v (va_up S (13 + 8 * o) (cl_r S o 0 + S 1)) q (va_up S (13 + 8 * o) (cl_r S o 0 + S 1) (45 + 4 * q) - 1) (cq_sh (cl_o (va_up S (13 + 8 * o) (cl_r S o 0 + S 1)) q) b (va_up S (13 + 8 * o) (cl_r S o 0 + S 1) (45 + 4 * q) - 1 - b)) 11 + 1) i = cg_B S q i := by
  intro i hi
  have e45 : ∀ j, 45 ≤ j → va_up S (13 + 8 * o) (cl_r S o 0 + S 1) j = S j := fun j hj => up_ne (by omega)
  have eo : ∀ k, cl_o (va_up S (13 + 8 * o) (cl_r S o 0 + S 1)) q k = S (45 + 4 * q + 1 + k) := fun k => e45 _ (by omega)
  unfold cg_B
  rw [gm_bd_f hf, hb]
  unfold gm_bump
  rw [ho, e45 _ (by omega)]
  by_cases c1 : i = 13 + 8 * S 4
  · rw [if_pos c1, up_ne (by omega), cl_v_out (by omega), up_ne (by omega)]
  rw [if_neg c1]
  by_cases c2 : i = 13 + 8 * o
  · subst c2
    rw [up_eq, up_ne (by omega), cl_v_out (by omega), up_eq]; rfl
  rw [up_ne (k := 13 + 8 * o) c2, up_ne (k := 13 + 8 * S 4) c1]
  by_cases c3 : i = 11
  · subst c3; rw [up_eq, up_eq, cl_v_out (by omega), up_ne (by omega)]
  rw [up_ne (k := 11) c3, up_ne (k := 11) c3]
  by_cases c4 : i = 45 + 4 * q
  · subst c4; rw [cl_v_0, up_eq]
  rw [up_ne (k := 45 + 4 * q) c4]
  by_cases c5 : 45 + 4 * q + 1 ≤ i ∧ i < 45 + 4 * q + 4
  · obtain ⟨w, rfl⟩ : ∃ w, i = 45 + 4 * q + 1 + w := ⟨i - (45 + 4 * q + 1), by omega⟩
    rw [cl_v_k (by omega)]
    unfold cq_sh gm_sh
    by_cases c6 : b ≤ w ∧ w < b + (S (45 + 4 * q) - 1 - b)
    · rw [if_pos c6, if_pos (by omega), eo]; rfl
    · rw [if_neg c6, if_neg (by omega), eo]
  · rw [cl_v_out (by omega), up_ne c2, gm_sh_at (by omega)]
theorem cg_fo1 {S1 : gm_S} (h4 : S1 4 = S 4) (h45 : ∀ i, 45 ≤ i → S1 i = S i) (hb : gm_bk S q ≠ 3) : cq_foi (S1 (45 + 4 * q)) (cl_o S1 q) (S1 4) = nI (gm_bk S q) := by
  have e : cq_fo (S1 (45 + 4 * q)) (cl_o S1 q) (S1 4) = gm_bk S q := by
    show gm_bk S1 q = gm_bk S q
    unfold gm_bk; rw [h4, h45 _ (by omega), h45 _ (by omega), h45 _ (by omega), h45 _ (by omega)]
  unfold cq_foi; rw [e, if_neg hb]
/-- a worker more -/
def cg_U (S : gm_S) (q : Nat) : gm_S := cl_v (cg_B S q) q (cg_B S q (45 + 4 * q) + 1) (va_up (cl_o (cg_B S q) q) (cg_B S q (45 + 4 * q)) (S 4))
theorem cg_U_o {c : Nat} (hJ : gm_J K S) (hq : q < 6) (hcan : gm_can S q c = true) {i : Nat} (hi : i < 13 + 8 * S 4 ∨ 13 + 8 * S 4 + 8 ≤ i) : cg_U S q i = gm_add (gm_bd S q) q i := by
  obtain ⟨f1, f2, f3, f4, f5⟩ := gm_bd_x hJ hq hcan
  obtain ⟨⟨j0, j01, j1, j2, j21⟩, jK, jK2, jw, j3, j31, j4, j5, j51, j6, jp, j10, ⟨jh, jps⟩, jpl, jow⟩ := hJ
  have eB : ∀ j, j ≠ 13 + 8 * S 4 → cg_B S q j = gm_bd S q j := fun j hj => if_neg hj
  unfold cg_U gm_add
  rw [f2, eB (45 + 4 * q) (by omega), up_ne (k := 13 + 8 * S 4 + 6) (by omega)]
  by_cases c4 : i = 45 + 4 * q
  · subst c4; rw [cl_v_0, up_eq]
  rw [up_ne (k := 45 + 4 * q) c4]
  by_cases c5 : 45 + 4 * q + 1 ≤ i ∧ i < 45 + 4 * q + 4
  · obtain ⟨w, rfl⟩ : ∃ w, i = 45 + 4 * q + 1 + w := ⟨i - (45 + 4 * q + 1), by omega⟩
    rw [cl_v_k (by omega)]
    unfold va_up
    by_cases c6 : w = gm_bd S q (45 + 4 * q)
    · rw [if_pos c6, if_pos (by omega)]
    · rw [if_neg c6, if_neg (by omega)]; exact eB _ (by omega)
  · rw [cl_v_out (by omega), up_ne (by omega), eB _ (by omega)]
theorem cg_V {c : Nat} (hI : gm_I K S) (hq : q < 6) (hc : c < 24) (hch : gm_ch q c = true) (hcan : gm_can S q c = true) (hP : ∀ w, w < 8 → P9 w = gm_pl S q c (13 + 8 * S 4 + w)) {i : Nat} (h3 : q = 3 → i ≠ 7 + c / 10) : cl_w (cg_U S q) (S 4) P9 i = gm_pl S q c i := by
  have hJ := gm_IJ hI (gm_on_i (gm_can_on hcan)).1
  obtain ⟨g1, g2, g3⟩ := gm_S2_x hJ hq hcan
  have e4 := g1 4 (by omega)
  by_cases hr : 13 + 8 * S 4 ≤ i ∧ i < 13 + 8 * S 4 + 8
  · obtain ⟨w, rfl⟩ : ∃ w, i = 13 + 8 * S 4 + w := ⟨i - (13 + 8 * S 4), by omega⟩
    rw [cl_w_in (by omega), hP w (by omega)]
  · rw [cl_w_out (by omega), cg_U_o hJ hq hcan (by omega)]
    exact (cg_do_o (T := gm_add (gm_bd S q) q) (by rw [e4]; omega) (fun e => (gm_chg hc hch e).1) h3).symm
theorem cg_V3 {c : Nat} (hI : gm_I K S) (hc : c < 24) (hch : gm_ch 3 c = true) (hcan : gm_can S 3 c = true) (hP : ∀ w, w < 8 → P9 w = gm_pl S 3 c (13 + 8 * S 4 + w)) : ∀ i, i < 69 → va_up (cl_w (cg_U S 3) (S 4) P9) (7 + c / 10) (max 1 (cl_w (cg_U S 3) (S 4) P9 (7 + c / 10) - c % 10)) i = gm_pl S 3 c i := by
  intro i hi
  have hJ := gm_IJ hI (gm_on_i (gm_can_on hcan)).1
  have hg := gm_chg hc hch rfl
  by_cases e : i = 7 + c / 10
  · subst e
    rw [up_eq, cl_w_out (by omega), cg_U_o hJ (by omega) hcan (by omega)]
    exact (cg_do_p hg.1).symm
  · rw [up_ne e]; exact cg_V hI (by omega) hc hch hcan hP (fun _ => e)
theorem cg_V3p {c : Nat} (hI : gm_I K S) (hc : c < 24) (hch : gm_ch 3 c = true) (hcan : gm_can S 3 c = true) : cl_w (cg_U S 3) (S 4) P9 (7 + c / 10) ≤ 9 := by
  have hJ := gm_IJ hI (gm_on_i (gm_can_on hcan)).1
  have hg := gm_chg hc hch rfl
  rw [cl_w_out (by omega), cg_U_o hJ (by omega) hcan (by omega), (gm_S2_x hJ (by omega) hcan).1 _ (by omega)]
  obtain ⟨⟨j0, j01, j1, j2, j21⟩, jK, jK2, jw, j3, j31, j4, j5, j51, j6, jp, j10, ⟨jh, jps⟩, jpl, jow⟩ := hJ
  exact (jp _ hg.1).2
theorem k0_put74 (hI : gm_I K S) (hq : q < 6) (hc : c < 24) (hch : gm_ch q c = true) (hcan : gm_can S q c = true) (hK : K + 40 < 2 ^ 26) (hK9 : 12 ≤ K) (hP : ∀ w, w < 8 → P9 w = gm_pl S q c (13 + 8 * S 4 + w)) : sm_V G mX0_putWorker (sm_rm 3 0 0) (sm_Zm G (cl_Q (some (.int (nI 1))) (fun P _ => cl_g G h g (gm_put true S x q c).1 (gm_put true S x q c).2 P B) cl_tt) 0 0) 0 0 74 [(0, .ref g), (1, .int (nI q)), (2, .int (nI c))] [] (cl_g G h g (cg_B S q) x P9 B) := by
  have hJ := gm_IJ hI (gm_on_i (gm_can_on hcan)).1
  have hM := gm_pl_M hI hq hc hch hcan hK hK9
  have hg := gm_chg hc hch
  obtain ⟨f1, f2, f3, f4, f5⟩ := gm_bd_x hJ hq hcan
  have eB : ∀ j, j ≠ 13 + 8 * S 4 → cg_B S q j = gm_bd S q j := fun j hj => if_neg hj
  have eU : ∀ j, j < 11 → cg_U S q j = S j := fun j hj => (cg_U_o hJ hq hcan (by omega)).trans ((gm_S2_x hJ hq hcan).1 j hj)
  obtain ⟨⟨j0, j01, j1, j2, j21⟩, jK, jK2, jw, j3, j31, j4, j5, j51, j6, jp, j10, ⟨jh, jps⟩, jpl, jow⟩ := id hJ
  refine sv_aload_n dX0_putWorker_74 rfl ?_
  refine kg_g1 gl_0 dX0_putWorker_75 sf_X0_19 ?_
  refine sv_iload_n dX0_putWorker_78 rfl ?_
  refine kg_ldq gl_2 dX0_putWorker_79 (by omega) ?_
  refine sv_aload_n dX0_putWorker_80 rfl ?_
  refine kg_g5 gl_0 dX0_putWorker_81 sf_X0_34 ?_
  refine sv_top (nI (S 4)) (congrArg nI ((eB 4 (by omega)).trans f2)) ?_
  refine sv_callV (As := [_]) sc_X0_155 (k2_add (gl_pq (by omega)) (by rw [eB _ (by omega)]; omega)) rfl rfl (Nat.le_of_ble_eq_true rfl) dX0_putWorker_84 ⟨by decide, by decide⟩ ⟨Nat.le_refl _, Nat.le_refl _⟩ (Nat.le_of_ble_eq_true rfl) (gl_pq (by omega)).1 (List.cons_ne_nil _ _) rfl ?_
  refine sv_heap (gl_wq (by omega)) ?_
  refine sv_heap (congrArg (fun T => cl_g G h g T x P9 B) (show _ = cg_U S q from rfl)) ?_
  refine sv_aload_n dX0_putWorker_87 rfl ?_
  refine kg_g0 gl_0 dX0_putWorker_88 sf_X0_11 ?_
  refine sv_aload_n dX0_putWorker_91 rfl ?_
  refine kg_g5 gl_0 dX0_putWorker_92 sf_X0_34 ?_
  refine sv_top (nI (S 4)) (congrArg nI (eU 4 (by omega))) ?_
  refine kg_ldp gl_1 dX0_putWorker_95 (by omega) ?_
  refine sv_aload_n dX0_putWorker_96 rfl ?_
  refine kg_g12 gl_0 dX0_putWorker_97 sf_X0_57 ?_
  refine sv_callV (As := [_]) sc_X0_89 (k3_copyFrom (gl_pl (by omega)) gl_af (by omega)) rfl rfl (Nat.le_of_ble_eq_true rfl) dX0_putWorker_100 ⟨by decide, by decide⟩ ⟨Nat.le_refl _, Nat.le_refl _⟩ (Nat.le_of_ble_eq_true rfl) (gl_pl (by omega)).1 (List.cons_ne_nil _ _) rfl ?_
  refine sv_heap (gl_wp (by omega)) ?_
  refine sv_iload_n dX0_putWorker_103 rfl ?_
  refine sv_iconst (nI 3) dX0_putWorker_104 (by decide) ?_
  refine sv_icmpN_ne 137 dX0_putWorker_105 (by decide) (by omega) (by omega) (fun c_105 => ?_) (fun c_105 => ?_)
  · refine sv_heap (gl_eqS (fun i _ => cg_V hI hq hc hch hcan hP (fun e => absurd e c_105))) ?_
    refine sv_aload_n dX0_putWorker_137 rfl ?_
    refine sv_callV (As := []) sc_X0_164 (k0_endTurn hM) rfl rfl (Nat.le_of_ble_eq_true rfl) dX0_putWorker_138 ⟨by decide, by decide⟩ ⟨Nat.le_refl _, Nat.le_refl _⟩ (Nat.le_of_ble_eq_true rfl) gl_0 (List.cons_ne_nil _ _) rfl ?_
    refine sv_iconst (nI 1) dX0_putWorker_141 (by decide) ?_
    refine sv_iret dX0_putWorker_142 rfl rfl (Nat.le_refl _) (Nat.le_refl _) ?_
    exact cl_Qi P9 B rfl rfl trivial
  · have q3 : q = 3 := c_105
    subst q3
    have hg3 := hg rfl; have v9 := cg_V3p (P9 := P9) hI hc hch hcan
    refine sv_iload_n dX0_putWorker_108 rfl ?_
    refine sv_bipush (nI 10) dX0_putWorker_109 (by decide) ?_
    refine sv_idivN dX0_putWorker_111 (by omega) (by omega) (by omega) ?_
    refine sv_istore (lv' := [(4, _), (0, _), (1, _), (2, _)]) dX0_putWorker_112 (by decide) rfl ?_
    refine sv_aload_n dX0_putWorker_114 rfl ?_
    refine kg_g2 gl_0 dX0_putWorker_115 sf_X0_23 ?_
    refine sv_iload dX0_putWorker_118 rfl ?_
    refine sv_iconst (nI 1) dX0_putWorker_120 (by decide) ?_
    refine sv_aload_n dX0_putWorker_121 rfl ?_
    refine kg_g2 gl_0 dX0_putWorker_122 sf_X0_23 ?_
    refine sv_iload dX0_putWorker_125 rfl ?_
    refine kg_ldr gl_3 dX0_putWorker_127 (by omega) ?_
    refine sv_iload_n dX0_putWorker_128 rfl ?_
    refine sv_bipush (nI 10) dX0_putWorker_129 (by decide) ?_
    refine sv_iremN dX0_putWorker_131 (by omega) (by omega) (by omega) ?_
    refine sv_isub dX0_putWorker_132 ?_
    refine sv_mmax sj_X0_158 dX0_putWorker_133 (Nat.le_of_ble_eq_true rfl) (Nat.le_of_ble_eq_true rfl) (Nat.le_refl _) (Nat.le_refl _) ?_
    refine sv_top (nI (max 1 (cl_w (cg_U S 3) (S 4) P9 (7 + c / 10) - c % 10))) (pk_max1 (by omega) (by omega)) ?_
    refine kg_str dX0_putWorker_136 (by omega) ?_
    refine sv_heap (gl_eqS (cg_V3 hI hc hch hcan hP)) ?_
    refine sv_aload_n dX0_putWorker_137 rfl ?_
    refine sv_callV (As := []) sc_X0_164 (k0_endTurn hM) rfl rfl (Nat.le_of_ble_eq_true rfl) dX0_putWorker_138 ⟨by decide, by decide⟩ ⟨Nat.le_refl _, Nat.le_refl _⟩ (Nat.le_of_ble_eq_true rfl) gl_0 (List.cons_ne_nil _ _) rfl ?_
    refine sv_iconst (nI 1) dX0_putWorker_141 (by decide) ?_
    refine sv_iret dX0_putWorker_142 rfl rfl (Nat.le_refl _) (Nat.le_refl _) ?_
    exact cl_Qi P9 B rfl rfl trivial
theorem k0_putWorker0 (hI : gm_I K S) (hq : q < 6) (hc : c < 24) (hch : gm_ch q c = true) (hcan : gm_can S q c = false) : sm_C G mX0_putWorker 3 0 0 [.ref g, .int (nI q), .int (nI c)] (cl_g G h g S x P B) (cl_Q (some (.int (nI 0))) (fun P _ => cl_g G h g S x P B) cl_tt) := by
  unfold sm_C
  show sm_V G _ _ _ 0 0 0 [(0, .ref g), (1, .int (nI q)), (2, .int (nI c))] [] _
  refine sv_aload_n dX0_putWorker_0 rfl ?_
  refine sv_iload_n dX0_putWorker_1 rfl ?_
  refine sv_iload_n dX0_putWorker_2 rfl ?_
  refine sv_callQ (As := [_, _]) sc_X0_144 (k0_tryPlacing hI hq hc hch) rfl rfl (Nat.le_of_ble_eq_true rfl) dX0_putWorker_3 ⟨by decide, by decide⟩ ⟨Nat.le_refl _, Nat.le_refl _⟩ (Nat.le_of_ble_eq_true rfl) gl_0 (List.cons_ne_nil _ _) rfl (fun P9 B9 hq9 => ?_)
  refine sv_top (nI 0) (by rw [hcan]; rfl) ?_
  refine sv_ifN_ne 11 dX0_putWorker_6 (by decide) (by omega) (fun c_6 => absurd c_6 (by omega)) (fun c_6 => ?_)
  refine sv_iconst (nI 0) dX0_putWorker_9 (by decide) ?_
  refine sv_iret dX0_putWorker_10 rfl rfl (Nat.le_refl _) (Nat.le_refl _) ?_
  exact cl_Qi P9 B rfl rfl trivial
theorem k0_putWorkerK (hI : gm_I K S) (hq : q < 6) (hc : c < 24) (hch : gm_ch q c = true) (hcan : gm_can S q c = true) (hK : K + 40 < 2 ^ 26) (hK9 : 12 ≤ K) : sm_C G mX0_putWorker 3 0 0 [.ref g, .int (nI q), .int (nI c)] (cl_g G h g S x P B) (cl_Q (some (.int (nI 1))) (fun P _ => cl_g G h g (gm_put true S x q c).1 (gm_put true S x q c).2 P B) cl_tt) := by
  unfold sm_C
  show sm_V G _ _ _ 0 0 0 [(0, .ref g), (1, .int (nI q)), (2, .int (nI c))] [] _
  obtain ⟨⟨j0, j01, j1, j2, j21⟩, jK, jK2, jw, j3, j31, j4, j5, j51, j6, jp, j10, ⟨jh, jps⟩, jpl, jow⟩ := gm_IJ hI (gm_on_i (gm_can_on hcan)).1
  refine sv_aload_n dX0_putWorker_0 rfl ?_
  refine sv_iload_n dX0_putWorker_1 rfl ?_
  refine sv_iload_n dX0_putWorker_2 rfl ?_
  refine sv_callQ (As := [_, _]) sc_X0_144 (k0_tryPlacing hI hq hc hch) rfl rfl (Nat.le_of_ble_eq_true rfl) dX0_putWorker_3 ⟨by decide, by decide⟩ ⟨Nat.le_refl _, Nat.le_refl _⟩ (Nat.le_of_ble_eq_true rfl) gl_0 (List.cons_ne_nil _ _) rfl (fun P9 B9 hq9 => ?_)
  refine sv_top (nI 1) (by rw [hcan]; rfl) ?_
  refine sv_ifN_ne 11 dX0_putWorker_6 (by decide) (by omega) (fun c_6 => ?_) (fun c_6 => absurd c_6 (by omega))
  cases hf : gm_full S q
  · refine sv_aload_n dX0_putWorker_11 rfl ?_
    refine sv_iload_n dX0_putWorker_12 rfl ?_
    refine sv_callV (As := [_]) sc_X0_120 (k0_findBumped hq (by omega) (jw q hq) (by omega) (fun k hk => by have := jow q k hq hk; omega)) rfl rfl (Nat.le_of_ble_eq_true rfl) dX0_putWorker_13 ⟨by decide, by decide⟩ ⟨Nat.le_refl _, Nat.le_refl _⟩ (Nat.le_of_ble_eq_true rfl) gl_0 (List.cons_ne_nil _ _) rfl ?_
    refine sv_top (-1) (cg_bw_n hf) ?_
    refine sv_istore_n (lv' := [(3, _), (0, _), (1, _), (2, _)]) dX0_putWorker_16 (by decide) rfl ?_
    refine sv_iload_n dX0_putWorker_17 rfl ?_
    refine sv_iconst (-1) dX0_putWorker_18 (by decide) ?_
    refine sv_icmp_eq 74 dX0_putWorker_19 (by decide) (fun c_19 => ?_) (fun c_19 => absurd c_19 (fun z => z rfl))
    exact sv_sub [1, 2, 3] rfl (sv_heap (congrArg (fun T => cl_g G h g T x P9 B) (cg_B_n hf)) (k0_put74 hI hq hc hch hcan hK hK9 (hq9 hcan)))
  · obtain ⟨hb3, hpay⟩ := gm_can_fE hcan hf
    have hbl := gm_bk_lt hb3
    have hO := jow q _ hq hbl.1
    have e45 : ∀ i, 45 ≤ i → (va_up S (13 + 8 * S (45 + 4 * q + 1 + gm_bk S q)) (cl_r S (S (45 + 4 * q + 1 + gm_bk S q)) 0 + S 1)) i = S i := fun i hi => up_ne (by omega)
    have e4 : (va_up S (13 + 8 * S (45 + 4 * q + 1 + gm_bk S q)) (cl_r S (S (45 + 4 * q + 1 + gm_bk S q)) 0 + S 1)) 4 = S 4 := up_ne (by omega)
    refine sv_aload_n dX0_putWorker_11 rfl ?_
    refine sv_iload_n dX0_putWorker_12 rfl ?_
    refine sv_callV (As := [_]) sc_X0_120 (k0_findBumped hq (by omega) (jw q hq) (by omega) (fun k hk => by have := jow q k hq hk; omega)) rfl rfl (Nat.le_of_ble_eq_true rfl) dX0_putWorker_13 ⟨by decide, by decide⟩ ⟨Nat.le_refl _, Nat.le_refl _⟩ (Nat.le_of_ble_eq_true rfl) gl_0 (List.cons_ne_nil _ _) rfl ?_
    refine sv_top _ (cg_bw_f hf hb3) ?_
    refine sv_istore_n (lv' := [(3, _), (0, _), (1, _), (2, _)]) dX0_putWorker_16 (by decide) rfl ?_
    refine sv_iload_n dX0_putWorker_17 rfl ?_
    refine sv_iconst (-1) dX0_putWorker_18 (by decide) ?_
    refine sv_icmp_eq 74 dX0_putWorker_19 (by decide) (fun c_19 => absurd c_19 (ne_1 (by omega))) (fun c_19 => ?_)
    refine sv_aload_n dX0_putWorker_22 rfl ?_
    refine kg_g0 gl_0 dX0_putWorker_23 sf_X0_11 ?_
    refine sv_iload_n dX0_putWorker_26 rfl ?_
    refine kg_ldp gl_1 dX0_putWorker_27 (by omega) ?_
    refine sv_dup dX0_putWorker_28 rfl ?_
    refine kp_g1 (gl_pl (by omega)) dX0_putWorker_29 sf_X0_148 ?_
    refine sv_aload_n dX0_putWorker_32 rfl ?_
    refine kg_g3 gl_0 dX0_putWorker_33 sf_X0_27 ?_
    refine sv_iconst (nI 1) dX0_putWorker_36 (by decide) ?_
    refine kg_lds gl_4 dX0_putWorker_37 (by omega) ?_
    refine sv_iaddN dX0_putWorker_38 ?_
    refine kgp_p1 (by omega) dX0_putWorker_39 sf_X0_148 ?_
    refine sv_aload_n dX0_putWorker_42 rfl ?_
    refine kg_g1 gl_0 dX0_putWorker_43 sf_X0_19 ?_
    refine sv_iload_n dX0_putWorker_46 rfl ?_
    refine kg_ldq gl_2 dX0_putWorker_47 (by omega) ?_
    refine sv_aload_n dX0_putWorker_48 rfl ?_
    refine kg_g1 gl_0 dX0_putWorker_49 sf_X0_19 ?_
    refine sv_iload_n dX0_putWorker_52 rfl ?_
    refine kg_ldq gl_2 dX0_putWorker_53 (by omega) ?_
    refine sv_aload_n dX0_putWorker_54 rfl ?_
    refine kg_g5 gl_0 dX0_putWorker_55 sf_X0_34 ?_
    refine sv_callV (As := [_]) sc_X0_110 (k2_findOther (gl_pq (by omega)) (by rw [e45 _ (by omega)]; exact jw q hq) (by rw [e4]; omega) (fun k hk => by rw [e45 _ (by omega)] at hk; show (va_up S (13 + 8 * S (45 + 4 * q + 1 + gm_bk S q)) (cl_r S (S (45 + 4 * q + 1 + gm_bk S q)) 0 + S 1)) _ < _; rw [e45 _ (by omega)]; have := jow q k hq hk; omega)) rfl rfl (Nat.le_of_ble_eq_true rfl) dX0_putWorker_58 ⟨by decide, by decide⟩ ⟨Nat.le_refl _, Nat.le_refl _⟩ (Nat.le_of_ble_eq_true rfl) (gl_pq (by omega)).1 (List.cons_ne_nil _ _) rfl ?_
    refine sv_top _ (cg_fo1 e4 e45 hb3) ?_
    refine sv_callV (As := [_]) sc_X0_151 (k2_remove (gl_pq (by omega)) (by rw [e45 _ (by omega)]; exact jw q hq) (by rw [e45 _ (by omega)]; exact hbl.1)) rfl rfl (Nat.le_of_ble_eq_true rfl) dX0_putWorker_61 ⟨by decide, by decide⟩ ⟨Nat.le_refl _, Nat.le_refl _⟩ (Nat.le_of_ble_eq_true rfl) (gl_pq (by omega)).1 (List.cons_ne_nil _ _) rfl ?_
    refine sv_heap (gl_wq (by omega)) ?_
    refine sv_aload_n dX0_putWorker_64 rfl ?_
    refine sv_dup dX0_putWorker_65 rfl ?_
    refine kg_g9 gl_0 dX0_putWorker_66 sf_X0_46 ?_
    refine sv_iconst (nI 1) dX0_putWorker_69 (by decide) ?_
    refine sv_iaddN dX0_putWorker_70 ?_
    refine kg_p9 dX0_putWorker_71 sf_X0_46 ?_
    exact sv_sub [1, 2, 3] rfl (sv_heap (gl_eqS (cg_B_f hf rfl rfl hbl.1 (jw q hq) (by omega) (by omega) hbl.2 hq)) (k0_put74 hI hq hc hch hcan hK hK9 (hq9 hcan)))
theorem cg_brg {c : Nat} (hI : gm_I K S) (hq : q < 6) (hc : c < 24) (hch : gm_ch q c = true) (hcan : gm_can S q c = true) (hP : ∀ w, w < 8 → P9 w = gm_pl S q c (13 + 8 * S 4 + w)) : nI (100 + cp_tot P9) - nI (gm_tot S (S 4)) = nI (gm_brg S q c) := by
  have e : cp_tot P9 = gm_tot (gm_pl S q c) (S 4) := by
    unfold cp_tot gm_tot; rw [hP 0 (by omega), hP 1 (by omega), hP 2 (by omega), hP 3 (by omega), hP 5 (by omega)]; rfl
  have := (gm_pl_tot hI hq hc (gm_chg hc hch) hcan).1
  rw [e, pk_sub (by omega)]; unfold gm_brg; congr 1; omega
theorem k0_worth (hI : gm_I K S) (hq : q < 6) (hc : c < 24) (hch : gm_ch q c = true) : sm_C G mX0_worth 3 0 0 [.ref g, .int (nI q), .int (nI c)] (cl_g G h g S x P B) (cl_Q (some (.int (gm_bv S q c))) (fun P _ => cl_g G h g S x P B) cl_tt) := by
  unfold sm_C
  show sm_V G _ _ _ 0 0 0 [(0, .ref g), (1, .int (nI q)), (2, .int (nI c))] [] _
  cases hcan : gm_can S q c
  · refine sv_aload_n dX0_worth_0 rfl ?_
    refine sv_iload_n dX0_worth_1 rfl ?_
    refine sv_iload_n dX0_worth_2 rfl ?_
    refine sv_callQ (As := [_, _]) sc_X0_144 (k0_tryPlacing hI hq hc hch) rfl rfl (Nat.le_of_ble_eq_true rfl) dX0_worth_3 ⟨by decide, by decide⟩ ⟨Nat.le_refl _, Nat.le_refl _⟩ (Nat.le_of_ble_eq_true rfl) gl_0 (List.cons_ne_nil _ _) rfl (fun P9 B9 hq9 => ?_)
    refine sv_top (nI 0) (by rw [hcan]; rfl) ?_
    refine sv_ifN_eq 16 dX0_worth_6 (by decide) (by omega) (fun c_6 => ?_) (fun c_6 => absurd c_6 (by omega))
    refine sv_iconst (-1) dX0_worth_16 (by decide) ?_
    refine sv_iret dX0_worth_17 rfl rfl (Nat.le_refl _) (Nat.le_refl _) ?_
    exact cl_Qi P9 B (rI (by unfold gm_bv; rw [hcan]; rfl)) rfl trivial
  · have n4 := (gm_IM hI (gm_can_on hcan)).n
    refine sv_aload_n dX0_worth_0 rfl ?_
    refine sv_iload_n dX0_worth_1 rfl ?_
    refine sv_iload_n dX0_worth_2 rfl ?_
    refine sv_callQ (As := [_, _]) sc_X0_144 (k0_tryPlacing hI hq hc hch) rfl rfl (Nat.le_of_ble_eq_true rfl) dX0_worth_3 ⟨by decide, by decide⟩ ⟨Nat.le_refl _, Nat.le_refl _⟩ (Nat.le_of_ble_eq_true rfl) gl_0 (List.cons_ne_nil _ _) rfl (fun P9 B9 hq9 => ?_)
    refine sv_top (nI 1) (by rw [hcan]; rfl) ?_
    refine sv_ifN_eq 16 dX0_worth_6 (by decide) (by omega) (fun c_6 => absurd c_6 (by omega)) (fun c_6 => ?_)
    refine sv_aload_n dX0_worth_9 rfl ?_
    refine sv_callV (As := []) sc_X0_167 (k0_worthOfTried (by omega)) rfl rfl (Nat.le_of_ble_eq_true rfl) dX0_worth_10 ⟨by decide, by decide⟩ ⟨Nat.le_refl _, Nat.le_refl _⟩ (Nat.le_of_ble_eq_true rfl) gl_0 (List.cons_ne_nil _ _) rfl ?_
    refine sv_top _ (cg_brg hI hq hc hch hcan (hq9 hcan)) ?_
    refine sv_goto 17 dX0_worth_13 (by decide) ?_
    refine sv_iret dX0_worth_17 rfl rfl (Nat.le_refl _) (Nat.le_refl _) ?_
    exact cl_Qi P9 B (rI (by unfold gm_bv; rw [hcan]; rfl)) rfl trivial
def cg_pq (n : Nat) : Nat := (gm_all.getD n (0, 0)).1
def cg_pc (n : Nat) : Nat := (gm_all.getD n (0, 0)).2
theorem cg_pq_at : ∀ n, n < 16 → ([0, 1, 2, 2, 2, 3, 3, 3, 3, 3, 3, 3, 3, 3, 4, 5] : List Int32).getD n 0 = nI (cg_pq n) := by decide
theorem cg_pc_at : ∀ n, n < 16 → ([0, 0, 1, 2, 3, 1, 2, 3, 11, 12, 13, 21, 22, 23, 0, 0] : List Int32).getD n 0 = nI (cg_pc n) := by decide
theorem cg_pp_ok : ∀ n, n < 16 → cg_pq n < 6 ∧ cg_pc n < 24 ∧ gm_ch (cg_pq n) (cg_pc n) = true := by decide
def cg_ac (S : gm_S) : Nat → Nat × Nat × Nat
  | 0 => (0, 0, 0)
  | n + 1 => gm_bs S (cg_ac S n) (cg_pq n, cg_pc n)
theorem cg_ac_16 : cg_ac S 16 = gm_bst S := rfl
theorem cg_ac_lt (hI : gm_I K S) : ∀ n, n ≤ 16 → (cg_ac S n).1 < 2 ^ 31
  | 0, _ => by show 0 < 2 ^ 31; omega
  | n + 1, hn => by
    obtain ⟨a, b, d⟩ := cg_pp_ok n (by omega)
    show (gm_bs S (cg_ac S n) (cg_pq n, cg_pc n)).1 < _
    unfold gm_bs
    split
    · rename_i e; exact (gm_can_on2 hI a b d e.1).2
    · exact cg_ac_lt hI n (by omega)
def cg_FB (B : Nat → Int32) (a : Nat × Nat × Nat) : Nat → Int32 := fun j => if j = 0 then gm_e a a.1 else if a.1 = 0 then B j else if j = 1 then nI a.2.1 else nI a.2.2
theorem cg_FB_0 {a : Nat × Nat × Nat} : cg_FB B a 0 = gm_e a a.1 := rfl
theorem cg_FB_n {a : Nat × Nat × Nat} (h : a.1 ≠ 0) : cg_FB B a 0 = nI a.1 := by unfold cg_FB gm_e; rw [if_pos rfl, if_neg h]
theorem cg_FB_1 {a : Nat × Nat × Nat} (h : a.1 ≠ 0) : cg_FB B a 1 = nI a.2.1 := by unfold cg_FB; rw [if_neg (by omega), if_neg h, if_pos rfl]
theorem cg_FB_2 {a : Nat × Nat × Nat} (h : a.1 ≠ 0) : cg_FB B a 2 = nI a.2.2 := by unfold cg_FB; rw [if_neg (by omega), if_neg h, if_neg (by omega)]
theorem cg_FB_i : cl_g G h g S x P (va_up B 0 (-1)) = cl_g G h g S x P (cg_FB B (cg_ac S 0)) := gl_eq (fun _ _ => rfl) (fun _ _ => rfl) ⟨rfl, rfl, rfl⟩
theorem cg_ac_f {n : Nat} (hcan : gm_can S (cg_pq n) (cg_pc n) = false) : cg_ac S (n + 1) = cg_ac S n := if_neg (fun z => ne_t hcan z.1)
theorem cg_ac_l {n : Nat} (h : ¬ (cg_ac S n).1 < gm_brg S (cg_pq n) (cg_pc n)) : cg_ac S (n + 1) = cg_ac S n := if_neg (fun z => h z.2)
theorem cg_ac_g {n : Nat} (hcan : gm_can S (cg_pq n) (cg_pc n) = true) (h : (cg_ac S n).1 < gm_brg S (cg_pq n) (cg_pc n)) : cg_ac S (n + 1) = (gm_brg S (cg_pq n) (cg_pc n), cg_pq n, cg_pc n) := if_pos ⟨hcan, h⟩
theorem cg_e_le {a : Nat × Nat × Nat} {b : Nat} (hb : 0 < b) (hb2 : b < 2 ^ 31) (ha : a.1 < 2 ^ 31) : nI b ≤ gm_e a a.1 ↔ ¬ a.1 < b := by
  unfold gm_e; split
  · rename_i e
    have : ¬ nI b ≤ -1 := by
      rw [Int32.le_iff_toInt_le, nI_toInt hb2, show (-1 : Int32).toInt = -1 from rfl]; omega
    exact ⟨fun z => absurd z this, fun z => by omega⟩
  · rw [nI_leI hb2 ha]; omega
theorem cg_FB_g {n : Nat} (hcan : gm_can S (cg_pq n) (cg_pc n) = true) (hb : 0 < gm_brg S (cg_pq n) (cg_pc n)) (hl : (cg_ac S n).1 < gm_brg S (cg_pq n) (cg_pc n)) : cl_g G h g S x P (va_up (va_up (va_up (cg_FB B (cg_ac S n)) 0 (nI (gm_brg S (cg_pq n) (cg_pc n)))) 1 (nI (cg_pq n))) 2 (nI (cg_pc n))) = cl_g G h g S x P (cg_FB B (cg_ac S (n + 1))) := by
  rw [cg_ac_g hcan hl]
  refine gl_eq (fun _ _ => rfl) (fun _ _ => rfl) ⟨?_, ?_, ?_⟩
  · rw [up_ne (by omega), up_ne (by omega), up_eq]; unfold cg_FB gm_e; rw [if_pos rfl, if_neg (by show ¬ gm_brg S (cg_pq n) (cg_pc n) = 0; omega)]
  · rw [up_ne (by omega), up_eq, cg_FB_1 (by show gm_brg S (cg_pq n) (cg_pc n) ≠ 0; omega)]
  · rw [up_eq, cg_FB_2 (by show gm_brg S (cg_pq n) (cg_pc n) ≠ 0; omega)]
theorem k0_findBest (hI : gm_I K S) : sm_C G mX0_findBest 3 0 0 [.ref g] (cl_g G h g S x P B) (cl_Q (some (.int (nI (b2n (decide ((gm_bst S).1 ≠ 0)))))) (fun P _ => cl_g G h g S x P (cg_FB B (gm_bst S))) cl_tt) := by
  unfold sm_C
  show sm_V G _ _ _ 0 0 0 [(0, .ref g)] [] _
  refine sv_aload_n dX0_findBest_0 rfl ?_
  refine sv_iconst (-1) dX0_findBest_1 (by decide) ?_
  refine kg_p13 dX0_findBest_2 sf_X0_61 ?_
  refine sv_iconst (nI 0) dX0_findBest_5 (by decide) ?_
  refine sv_istore_n (lv' := [(1, _), (0, _)]) dX0_findBest_6 (by decide) rfl ?_
  refine sv_heap cg_FB_i (sv_sub [0, 1] rfl (sv_rec (pc := 7) (fun s : Nat × (Nat → Nat) => 16 - s.1) (I := fun s => s.1 ≤ 16) (lv := fun s => [(1, .int (nI s.1)), (0, .ref g)]) (hp := fun s => cl_g G h g S x s.2 (cg_FB B (cg_ac S s.1))) (0, P) (Nat.zero_le _) ?_))
  · intro s hs ih
    show sm_V G _ _ _ _ _ _ [(1, .int (nI s.1)), (0, .ref g)] [] (cl_g G h g S x s.2 (cg_FB B (cg_ac S s.1)))
    have hs2 : s.1 ≤ 16 := hs
    have hac := cg_ac_lt hI s.1 hs2
    refine sv_iload_n dX0_findBest_7 rfl ?_
    refine sv_getsN 4 rfl dX0_findBest_8 sg_X0_170 ?_
    refine sv_slen (v := nI 16) 4 rfl dX0_findBest_11 rfl ?_
    refine sv_icmpN_ge 83 dX0_findBest_12 (by decide) (by omega) (by omega) (fun c_12 => ?_) (fun c_12 => ?_)
    · refine sv_aload_n dX0_findBest_83 rfl ?_
      refine kg_g13 gl_0 dX0_findBest_84 sf_X0_61 ?_
      refine sv_iconst (-1) dX0_findBest_87 (by decide) ?_
      refine sv_icmp_eq 95 dX0_findBest_88 (by decide) (fun c_88 => ?_) (fun c_88 => ?_)
      · refine sv_iconst (nI 0) dX0_findBest_95 (by decide) ?_
        refine sv_iret dX0_findBest_96 rfl rfl (Nat.le_refl _) (Nat.le_refl _) ?_
        have e16 : s.1 = 16 := by omega
        have e16b : cg_ac S s.1 = gm_bst S := by rw [e16]; rfl
        rw [e16b] at c_88 ⊢
        first | exact cl_Qi s.2 B (rbt (decide_eq_true (fun z => c_88 (by show gm_e _ _ = -1; unfold gm_e; rw [if_pos z])))) rfl trivial | exact cl_Qi s.2 B (rbf (decide_eq_false (fun z => z (Classical.byContradiction fun z2 => by rw [show cg_FB B (gm_bst S) 0 = nI (gm_bst S).1 from if_neg z2] at c_88; exact absurd c_88 (ne_1 (by rw [← e16b]; exact hac)))))) rfl trivial
      · refine sv_iconst (nI 1) dX0_findBest_91 (by decide) ?_
        refine sv_goto 96 dX0_findBest_92 (by decide) ?_
        refine sv_iret dX0_findBest_96 rfl rfl (Nat.le_refl _) (Nat.le_refl _) ?_
        have e16 : s.1 = 16 := by omega
        have e16b : cg_ac S s.1 = gm_bst S := by rw [e16]; rfl
        rw [e16b] at c_88 ⊢
        first | exact cl_Qi s.2 B (rbt (decide_eq_true (fun z => c_88 (by show gm_e _ _ = -1; unfold gm_e; rw [if_pos z])))) rfl trivial | exact cl_Qi s.2 B (rbf (decide_eq_false (fun z => z (Classical.byContradiction fun z2 => by rw [show cg_FB B (gm_bst S) 0 = nI (gm_bst S).1 from if_neg z2] at c_88; exact absurd c_88 (ne_1 (by rw [← e16b]; exact hac)))))) rfl trivial
    · have hl : s.1 < 16 := c_12
      obtain ⟨hq, hc, hch⟩ := cg_pp_ok s.1 hl
      refine sv_iload_n dX0_findBest_15 rfl ?_
      refine sv_getsN 5 rfl dX0_findBest_16 sg_X0_173 ?_
      refine sv_slen (v := nI 16) 5 rfl dX0_findBest_19 rfl ?_
      refine sv_icmpN_ge 83 dX0_findBest_20 (by decide) (by omega) (by omega) (fun c_20 => absurd c_20 (by omega)) (fun c_20 => ?_)
      refine sv_aload_n dX0_findBest_23 rfl ?_
      refine sv_getsN 4 rfl dX0_findBest_24 sg_X0_170 ?_
      refine sv_iload_n dX0_findBest_27 rfl ?_
      refine sv_sald (v := nI (cg_pq s.1)) 4 rfl dX0_findBest_28 (vp_in_nI (by show s.1 < 16; omega) (by decide)) (by rw [nI_clamp (by omega)]; exact cg_pq_at s.1 hl) ?_
      refine sv_getsN 5 rfl dX0_findBest_29 sg_X0_173 ?_
      refine sv_iload_n dX0_findBest_32 rfl ?_
      refine sv_sald (v := nI (cg_pc s.1)) 5 rfl dX0_findBest_33 (vp_in_nI (by show s.1 < 16; omega) (by decide)) (by rw [nI_clamp (by omega)]; exact cg_pc_at s.1 hl) ?_
      refine sv_callQ (As := [_, _]) sc_X0_144 (k0_tryPlacing hI hq hc hch) rfl rfl (Nat.le_of_ble_eq_true rfl) dX0_findBest_34 ⟨by decide, by decide⟩ ⟨Nat.le_refl _, Nat.le_refl _⟩ (Nat.le_of_ble_eq_true rfl) gl_0 (List.cons_ne_nil _ _) rfl (fun P9 B9 hq9 => ?_)
      cases hcan : gm_can S (cg_pq s.1) (cg_pc s.1)
      · refine sv_top (nI 0) (by rfl) ?_
        refine sv_ifN_eq 77 dX0_findBest_37 (by decide) (by omega) (fun c_37 => ?_) (fun c_37 => absurd c_37 (by omega))
        refine sv_iinc1 (lv' := [(1, _), (0, _)]) dX0_findBest_77 rfl (by decide) rfl ?_
        refine sv_goto 7 dX0_findBest_80 (by decide) ?_
        exact sv_sub [0, 1] rfl (sv_heap (by rw [cg_ac_f hcan]) (ih (s.1 + 1, P9) (by show 16 - (s.1 + 1) < 16 - s.1; omega) hl))
      · have n4 := (gm_IM hI (gm_can_on hcan)).n
        obtain ⟨hb1, hb2⟩ := gm_can_on2 hI hq hc hch hcan
        refine sv_top (nI 1) (by rfl) ?_
        refine sv_ifN_eq 77 dX0_findBest_37 (by decide) (by omega) (fun c_37 => absurd c_37 (by omega)) (fun c_37 => ?_)
        refine sv_aload_n dX0_findBest_40 rfl ?_
        refine sv_callV (As := []) sc_X0_167 (k0_worthOfTried (by omega)) rfl rfl (Nat.le_of_ble_eq_true rfl) dX0_findBest_41 ⟨by decide, by decide⟩ ⟨Nat.le_refl _, Nat.le_refl _⟩ (Nat.le_of_ble_eq_true rfl) gl_0 (List.cons_ne_nil _ _) rfl ?_
        refine sv_top _ (cg_brg hI hq hc hch hcan (hq9 hcan)) ?_
        refine sv_aload_n dX0_findBest_44 rfl ?_
        refine kg_g13 gl_0 dX0_findBest_45 sf_X0_61 ?_
        refine sv_icmp_le 77 dX0_findBest_48 (by decide) (fun c_48 => ?_) (fun c_48 => ?_)
        · refine sv_iinc1 (lv' := [(1, _), (0, _)]) dX0_findBest_77 rfl (by decide) rfl ?_
          refine sv_goto 7 dX0_findBest_80 (by decide) ?_
          exact sv_sub [0, 1] rfl (sv_heap (by rw [cg_ac_l (fun z => ((cg_e_le hb1 hb2 hac).mp c_48) z)]) (ih (s.1 + 1, P9) (by show 16 - (s.1 + 1) < 16 - s.1; omega) hl))
        · refine sv_aload_n dX0_findBest_51 rfl ?_
          refine sv_aload_n dX0_findBest_52 rfl ?_
          refine sv_callV (As := []) sc_X0_167 (k0_worthOfTried (by omega)) rfl rfl (Nat.le_of_ble_eq_true rfl) dX0_findBest_53 ⟨by decide, by decide⟩ ⟨Nat.le_refl _, Nat.le_refl _⟩ (Nat.le_of_ble_eq_true rfl) gl_0 (List.cons_ne_nil _ _) rfl ?_
          refine sv_top _ (cg_brg hI hq hc hch hcan (hq9 hcan)) ?_
          refine kg_p13 dX0_findBest_56 sf_X0_61 ?_
          refine sv_aload_n dX0_findBest_59 rfl ?_
          refine sv_getsN 4 rfl dX0_findBest_60 sg_X0_170 ?_
          refine sv_iload_n dX0_findBest_63 rfl ?_
          refine sv_sald (v := nI (cg_pq s.1)) 4 rfl dX0_findBest_64 (vp_in_nI (by show s.1 < 16; omega) (by decide)) (by rw [nI_clamp (by omega)]; exact cg_pq_at s.1 hl) ?_
          refine kg_p14 dX0_findBest_65 sf_X0_64 ?_
          refine sv_aload_n dX0_findBest_68 rfl ?_
          refine sv_getsN 5 rfl dX0_findBest_69 sg_X0_173 ?_
          refine sv_iload_n dX0_findBest_72 rfl ?_
          refine sv_sald (v := nI (cg_pc s.1)) 5 rfl dX0_findBest_73 (vp_in_nI (by show s.1 < 16; omega) (by decide)) (by rw [nI_clamp (by omega)]; exact cg_pc_at s.1 hl) ?_
          refine kg_p15 dX0_findBest_74 sf_X0_67 ?_
          refine sv_iinc1 (lv' := [(1, _), (0, _)]) dX0_findBest_77 rfl (by decide) rfl ?_
          refine sv_goto 7 dX0_findBest_80 (by decide) ?_
          exact sv_sub [0, 1] rfl (sv_heap (cg_FB_g hcan hb1 (Classical.not_not.mp (fun z => c_48 ((cg_e_le hb1 hb2 hac).mpr z)))) (ih (s.1 + 1, P9) (by show 16 - (s.1 + 1) < 16 - s.1; omega) hl))
theorem k0_playTurn (hI : gm_I K S) (hon : gm_on S = true) (hK : K + 40 < 2 ^ 26) (hK9 : 12 ≤ K) : sm_C G mX0_playTurn 4 0 0 [.ref g] (cl_g G h g S x P B) (cl_Q (some (.int (gm_pans S))) (fun P B => cl_g G h g (gm_play true S x).1 (gm_play true S x).2 P B) cl_tt) := by
  unfold sm_C
  show sm_V G _ _ _ 0 0 0 [(0, .ref g)] [] _
  have hac : (gm_bst S).1 < 2 ^ 31 := cg_ac_lt hI 16 (by omega)
  rcases (show (gm_bst S).1 = 0 ∨ ((gm_bst S).1 ≠ 0 ∧ (gm_bst S).1 ≤ 100) ∨ 100 < (gm_bst S).1 by omega) with hx | hx | hx
  · refine sv_aload_n dX0_playTurn_0 rfl ?_
    refine sv_callQ (As := []) sc_X0_180 (k0_findBest hI) rfl rfl (Nat.le_of_ble_eq_true rfl) dX0_playTurn_1 ⟨by decide, by decide⟩ ⟨Nat.le_refl _, Nat.le_refl _⟩ (Nat.le_of_ble_eq_true rfl) gl_0 (List.cons_ne_nil _ _) rfl (fun P9 B9 hq9 => ?_)
    refine sv_top (nI 0) (by first | (rw [decide_eq_true (by omega)]; rfl) | (rw [decide_eq_false (by omega)]; rfl)) ?_
    refine sv_ifN_eq 34 dX0_playTurn_4 (by decide) (by omega) (fun c_4 => ?_) (fun c_4 => absurd c_4 (by omega))
    refine sv_aload_n dX0_playTurn_34 rfl ?_
    refine sv_callV (As := []) sc_X0_186 (k0_passTurnK hI hon hK9) rfl rfl (Nat.le_of_ble_eq_true rfl) dX0_playTurn_35 ⟨by decide, by decide⟩ ⟨Nat.le_refl _, Nat.le_refl _⟩ (Nat.le_of_ble_eq_true rfl) gl_0 (List.cons_ne_nil _ _) rfl ?_
    refine sv_pop dX0_playTurn_38 rfl ?_
    refine sv_iconst (-1) dX0_playTurn_39 (by decide) ?_
    refine sv_iret dX0_playTurn_40 rfl rfl (Nat.le_refl _) (Nat.le_refl _) ?_
    exact cl_Qi P9 (cg_FB B (gm_bst S)) (rI (by unfold gm_pans; rw [if_neg (by omega)])) (by unfold gm_play; rw [if_neg (by omega)]) trivial
  · refine sv_aload_n dX0_playTurn_0 rfl ?_
    refine sv_callQ (As := []) sc_X0_180 (k0_findBest hI) rfl rfl (Nat.le_of_ble_eq_true rfl) dX0_playTurn_1 ⟨by decide, by decide⟩ ⟨Nat.le_refl _, Nat.le_refl _⟩ (Nat.le_of_ble_eq_true rfl) gl_0 (List.cons_ne_nil _ _) rfl (fun P9 B9 hq9 => ?_)
    refine sv_top (nI 1) (by first | (rw [decide_eq_true (by omega)]; rfl) | (rw [decide_eq_false (by omega)]; rfl)) ?_
    refine sv_ifN_eq 34 dX0_playTurn_4 (by decide) (by omega) (fun c_4 => absurd c_4 (by omega)) (fun c_4 => ?_)
    refine sv_aload_n dX0_playTurn_7 rfl ?_
    refine kg_g13 gl_0 dX0_playTurn_8 sf_X0_61 ?_
    refine sv_top (nI (gm_bst S).1) (cg_FB_n (by omega)) ?_
    refine sv_bipush (nI 100) dX0_playTurn_11 (by decide) ?_
    refine sv_icmpN_le 34 dX0_playTurn_13 (by decide) (by omega) (by omega) (fun c_13 => ?_) (fun c_13 => absurd c_13 (by omega))
    refine sv_aload_n dX0_playTurn_34 rfl ?_
    refine sv_callV (As := []) sc_X0_186 (k0_passTurnK hI hon hK9) rfl rfl (Nat.le_of_ble_eq_true rfl) dX0_playTurn_35 ⟨by decide, by decide⟩ ⟨Nat.le_refl _, Nat.le_refl _⟩ (Nat.le_of_ble_eq_true rfl) gl_0 (List.cons_ne_nil _ _) rfl ?_
    refine sv_pop dX0_playTurn_38 rfl ?_
    refine sv_iconst (-1) dX0_playTurn_39 (by decide) ?_
    refine sv_iret dX0_playTurn_40 rfl rfl (Nat.le_refl _) (Nat.le_refl _) ?_
    exact cl_Qi P9 (cg_FB B (gm_bst S)) (rI (by unfold gm_pans; rw [if_neg (by omega)])) (by unfold gm_play; rw [if_neg (by omega)]) trivial
  · obtain ⟨b1, b2, b3, b4, b5⟩ := (gm_bst_ok S).resolve_left (by omega)
    refine sv_aload_n dX0_playTurn_0 rfl ?_
    refine sv_callQ (As := []) sc_X0_180 (k0_findBest hI) rfl rfl (Nat.le_of_ble_eq_true rfl) dX0_playTurn_1 ⟨by decide, by decide⟩ ⟨Nat.le_refl _, Nat.le_refl _⟩ (Nat.le_of_ble_eq_true rfl) gl_0 (List.cons_ne_nil _ _) rfl (fun P9 B9 hq9 => ?_)
    refine sv_top (nI 1) (by first | (rw [decide_eq_true (by omega)]; rfl) | (rw [decide_eq_false (by omega)]; rfl)) ?_
    refine sv_ifN_eq 34 dX0_playTurn_4 (by decide) (by omega) (fun c_4 => absurd c_4 (by omega)) (fun c_4 => ?_)
    refine sv_aload_n dX0_playTurn_7 rfl ?_
    refine kg_g13 gl_0 dX0_playTurn_8 sf_X0_61 ?_
    refine sv_top (nI (gm_bst S).1) (cg_FB_n (by omega)) ?_
    refine sv_bipush (nI 100) dX0_playTurn_11 (by decide) ?_
    refine sv_icmpN_le 34 dX0_playTurn_13 (by decide) (by omega) (by omega) (fun c_13 => absurd c_13 (by omega)) (fun c_13 => ?_)
    refine sv_aload_n dX0_playTurn_16 rfl ?_
    refine sv_aload_n dX0_playTurn_17 rfl ?_
    refine kg_g14 gl_0 dX0_playTurn_18 sf_X0_64 ?_
    refine sv_top (nI (gm_bst S).2.1) (cg_FB_1 (by omega)) ?_
    refine sv_aload_n dX0_playTurn_21 rfl ?_
    refine kg_g15 gl_0 dX0_playTurn_22 sf_X0_67 ?_
    refine sv_top (nI (gm_bst S).2.2) (cg_FB_2 (by omega)) ?_
    refine sv_callQ (As := [_, _]) sc_X0_183 (k0_putWorkerK hI b1 b2 b3 b4 hK hK9) rfl rfl (Nat.le_of_ble_eq_true rfl) dX0_playTurn_25 ⟨by decide, by decide⟩ ⟨Nat.le_refl _, Nat.le_refl _⟩ (Nat.le_of_ble_eq_true rfl) gl_0 (List.cons_ne_nil _ _) rfl (fun P8 B8 hq8 => ?_)
    refine sv_pop dX0_playTurn_28 rfl ?_
    refine sv_aload_n dX0_playTurn_29 rfl ?_
    refine kg_g13 gl_0 dX0_playTurn_30 sf_X0_61 ?_
    refine sv_top (nI (gm_bst S).1) (cg_FB_n (by omega)) ?_
    refine sv_iret dX0_playTurn_33 rfl rfl (Nat.le_refl _) (Nat.le_refl _) ?_
    exact cl_Qi P8 (cg_FB B (gm_bst S)) (rI (by unfold gm_pans; rw [if_pos hx])) (by unfold gm_play; rw [if_pos hx]) trivial
abbrev cg_Es : Type := Nat × gm_S × Int64 × (Nat → Nat) × (Nat → Int32)
def cg_ei (K : Nat) (R : gm_S × Int64) (s : cg_Es) : Prop :=
  s.1 + gm_mu s.2.1 ≤ 1300 ∧ (∃ k, gm_I k s.2.1 ∧ 12 ≤ k ∧ k + 40 * gm_mu s.2.1 ≤ K + 40 * 1300) ∧ ∃ f, gm_mu s.2.1 ≤ f ∧ gm_goN true f s.2.1 s.2.2.1 = R
theorem cg_ei_0 (hI : gm_I K S) (hK9 : 12 ≤ K) : cg_ei K (gm_goE true S x) (0, S, x, P, B) := ⟨by have := gm_mu_I hI; show 0 + gm_mu S ≤ _; omega, ⟨K, hI, hK9, by have := gm_mu_I hI; show K + 40 * gm_mu S ≤ _; omega⟩, 1300, gm_mu_I hI, rfl⟩
theorem cg_ei_s {R : gm_S × Int64} {s : cg_Es} {P2 : Nat → Nat} {B2 : Nat → Int32} (h : cg_ei K R s) (hon : gm_on s.2.1 = true) (hK : K + 60000 < 2 ^ 26) : cg_ei K R (s.1 + 1, (gm_play true s.2.1 s.2.2.1).1, (gm_play true s.2.1 s.2.2.1).2, P2, B2) ∧ gm_mu (gm_play true s.2.1 s.2.2.1).1 < gm_mu s.2.1 := by
  obtain ⟨a, ⟨k, i1, i2, i3⟩, f, f1, f2⟩ := h
  have mu := gm_mu_play (z := true) (x := s.2.2.1) i1 hon (by omega) i2
  refine ⟨⟨by show s.1 + 1 + gm_mu (gm_play true s.2.1 s.2.2.1).1 ≤ _; omega, ⟨k + 40, gm_play_I i1 hon (by omega) i2, by omega, by show k + 40 + 40 * gm_mu (gm_play true s.2.1 s.2.2.1).1 ≤ _; omega⟩, f - 1, by show gm_mu (gm_play true s.2.1 s.2.2.1).1 ≤ _; omega, ?_⟩, by omega⟩
  obtain ⟨g, rfl⟩ : ∃ g, f = g + 1 := ⟨f - 1, by omega⟩
  rw [← f2]
  show gm_goN true g _ _ = _
  conv => rhs; unfold gm_goN
  rw [if_pos hon]
theorem cg_ei_e {R : gm_S × Int64} {s : cg_Es} (h : cg_ei K R s) (hon : gm_on s.2.1 = false) : (s.2.1, s.2.2.1) = R := by
  obtain ⟨a, c, f, f1, f2⟩ := h
  rw [← f2]
  cases f with
  | zero => rfl
  | succ f => unfold gm_goN; rw [if_neg (ne_t hon)]
theorem k0_playToEnd (hI : gm_I K S) (hK : K + 60000 < 2 ^ 26) (hK9 : 12 ≤ K) : sm_C G mX0_playToEnd 5 0 0 [.ref g] (cl_g G h g S x P B) (cl_Q none (fun P B => cl_g G h g (gm_goE true S x).1 (gm_goE true S x).2 P B) cl_tt) := by
  unfold sm_C
  show sm_V G _ _ _ 0 0 0 [(0, .ref g)] [] _
  refine sv_iconst (nI 0) dX0_playToEnd_0 (by decide) ?_
  refine sv_istore_n (lv' := [(1, _), (0, _)]) dX0_playToEnd_1 (by decide) rfl ?_
  refine sv_sub [0, 1] rfl (sv_rec (pc := 2) (fun s : cg_Es => gm_mu s.2.1) (I := cg_ei K (gm_goE true S x)) (lv := fun s => [(1, .int (nI s.1)), (0, .ref g)]) (hp := fun s => cl_g G h g s.2.1 s.2.2.1 s.2.2.2.1 s.2.2.2.2) (0, S, x, P, B) (cg_ei_0 hI hK9) ?_)
  · intro s hi ih
    show sm_V G _ _ _ _ _ _ [(1, .int (nI s.1)), (0, .ref g)] [] (cl_g G h g s.2.1 s.2.2.1 s.2.2.2.1 s.2.2.2.2)
    obtain ⟨hle, ⟨k9, i1, i2, i3⟩, hf⟩ := id hi
    obtain ⟨d3, d6, d0, d1, d2, d4, dK⟩ := cg_d i1
    refine sv_iload_n dX0_playToEnd_2 rfl ?_
    refine sv_ldc dX0_playToEnd_3 (sm_tc ck_4_0_in 1 rfl rfl) ?_
    refine sv_top (nI 1000000) (rfl) ?_
    refine sv_icmpN_ge 26 dX0_playToEnd_5 (by decide) (by first | omega | exact Nat.lt_trans (b2n_lt _) (by decide)) (by first | omega | exact Nat.lt_trans (b2n_lt _) (by decide)) (fun c_5 => absurd c_5 (by omega)) (fun c_5 => ?_)
    refine sv_aload_n dX0_playToEnd_8 rfl ?_
    refine sv_callV (As := []) sc_X0_96 (k0_hasTurn (by omega) (by omega) (by omega)) rfl rfl (Nat.le_of_ble_eq_true rfl) dX0_playToEnd_9 ⟨by decide, by decide⟩ ⟨Nat.le_refl _, Nat.le_refl _⟩ (Nat.le_of_ble_eq_true rfl) gl_0 (List.cons_ne_nil _ _) rfl ?_
    refine sv_ifN_eq 26 dX0_playToEnd_12 (by decide) (by first | omega | exact Nat.lt_trans (b2n_lt _) (by decide)) (fun c_12 => ?_) (fun c_12 => ?_)
    · refine sv_vret dX0_playToEnd_26 rfl (Nat.le_refl _) (Nat.le_refl _) ?_
      have ef := cg_ei_e hi (b2n_f c_12)
      exact cl_Qi s.2.2.2.1 s.2.2.2.2 rfl (by rw [← ef]) trivial
    · refine sv_aload_n dX0_playToEnd_15 rfl ?_
      refine sv_callQ (As := []) sc_X0_190 (k0_playTurn i1 (b2n_1 c_12) (by omega) i2) rfl rfl (Nat.le_of_ble_eq_true rfl) dX0_playToEnd_16 ⟨by decide, by decide⟩ ⟨Nat.le_refl _, Nat.le_refl _⟩ (Nat.le_of_ble_eq_true rfl) gl_0 (List.cons_ne_nil _ _) rfl (fun P8 B8 hq8 => ?_)
      refine sv_pop dX0_playToEnd_19 rfl ?_
      refine sv_iinc1 (lv' := [(1, _), (0, _)]) dX0_playToEnd_20 rfl (by decide) rfl ?_
      refine sv_goto 2 dX0_playToEnd_23 (by decide) ?_
      exact sv_sub [0, 1] rfl (ih (s.1 + 1, (gm_play true s.2.1 s.2.2.1).1, (gm_play true s.2.1 s.2.2.1).2, P8, B8) (cg_ei_s (P2 := P8) (B2 := B8) hi (b2n_1 c_12) hK).2 (cg_ei_s hi (b2n_1 c_12) hK).1)
end CP7
